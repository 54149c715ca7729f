/-! the draft becomes the land -/
def ob_ld (d : DrT) : LdT := ((dr_N d, dr_P d, dr_B d), dr_D d, dr_O d, dr_C d, fun a => if a ≤ 120 then (dr_g d a).getD 0 else 0, dr_A d, dr_U d)
theorem ob_ld_ok {d : DrT} (h : ob_dok d) : ob_lok (ob_ld d) := by
  obtain ⟨o0, o1, o2, o3, o4, o5, o6⟩ := h
  have hN : 2 ≤ dr_N d ∧ dr_N d ≤ 60 := by
    unfold dr_N
    split <;> omega
  refine ⟨hN.1, hN.2, o1, o2, o5, fun a => ?_, fun a ha => ?_, fun p hp => (o4 p hp).1⟩
  · show (if a ≤ 120 then (dr_g d a).getD 0 else 0) ≤ 99
    split
    · cases hg : dr_g d a with
      | none => exact Nat.zero_le _
      | some g => exact o6 a g hg
    · exact Nat.zero_le _
  · show (if a ≤ 120 then (dr_g d a).getD 0 else 0) = 0
    rw [if_neg (by omega)]
