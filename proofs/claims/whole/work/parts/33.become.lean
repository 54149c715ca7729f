/-! the draft becomes the land -/
def ob_ld (d : DrT) : LdT := ((dr_N d, dr_P d, dr_B d), dr_D d, dr_O d, dr_C d, fun a => if a ≤ 120 then (dr_g d a).getD 0 else 0, dr_A d, dr_U d)
theorem ob_ld_ok {d : DrT} (h : ob_dok d) : ob_lok (ob_ld d) := by
  obtain ⟨o0, o1, o2, o3, o4, o5, o6⟩ := h
  have hN : 2 ≤ dr_N d ∧ dr_N d ≤ 60 := by
    unfold dr_N
    split <;> omega
  refine ⟨hN.1, hN.2, o1, o2, o5, fun a => ?_, fun a ha => ?_, fun p hp => (o4 p hp).1⟩
  · show (if a ≤ 120 then (dr_g d a).getD 0 else 0) ≤ 99
    split
    · cases hg : dr_g d a with
      | none => exact Nat.zero_le _
      | some g => exact o6 a g hg
    · exact Nat.zero_le _
  · show (if a ≤ 120 then (dr_g d a).getD 0 else 0) = 0
    rw [if_neg (by omega)]
section CJ
variable {E : ob_E} {σ : ob_Mem} {d : DrT}
theorem k_likeLand {Q : ob_Mem → Prop} (hd : pi_CD σ.1 d) (hok : ob_dok d) (h : ∀ σ' : ob_Mem, (∀ i, ¬ (10 ≤ i ∧ i ≤ 16) → σ'.1 i = σ.1 i) → pi_CL σ'.1 10 (ob_ld d) → Q σ') : ob_RM shp E oX2_becomeLike [.ref 10, .ref 3] σ (ob_qV Q) := by
  have hP6 := hok.2.1
  have hB8 := hok.2.2.1
  refine m_X2_becomeLike (b_X2_becomeLike_0 ?_)
  rintro σ1 rfl
  rintro σ2 rfl
  rw [ob_wI_o (i := 10) (a := 3) (by decide), ob_wI_o (i := 10) (a := 3) (by decide), ob_wI_o (i := 10) (a := 3) (by decide), hd.1, hd.2.2.1, hd.2.2.2.1]
  refine h _ (fun i hi => ?_) ⟨?_, ?_, ?_, fun p hp => ?_, fun b hb => ?_, fun a ha => ?_⟩
  · rw [ob_cp_o (by omega), ob_cp_o (by omega), ob_cp_o (by omega), ob_cp_o (by omega), ob_cp_o (by omega), ob_cp_o (by omega), ob_wI_o (by omega), ob_wI_o (by omega), ob_wI_o (by omega), ob_wI_o (by omega)]
  · rw [ob_cp_o (by decide), ob_cp_o (by decide), ob_cp_o (by decide), ob_cp_o (by decide), ob_cp_o (by decide), ob_cp_o (by decide), ob_wI_n (by decide), ob_wI_n (by decide), ob_wI_n (by decide), ob_wI_s]; rfl
  · rw [ob_cp_o (by decide), ob_cp_o (by decide), ob_cp_o (by decide), ob_cp_o (by decide), ob_cp_o (by decide), ob_cp_o (by decide), ob_wI_n (by decide), ob_wI_n (by decide), ob_wI_s]; rfl
  · rw [ob_cp_o (by decide), ob_cp_o (by decide), ob_cp_o (by decide), ob_cp_o (by decide), ob_cp_o (by decide), ob_cp_o (by decide), ob_wI_n (by decide), ob_wI_s]; rfl
  · have hp : p < dr_P d := hp
    have := hd.2.2.2.2.2.1 p hp
    refine ⟨?_, ?_⟩
    · rw [ob_cp_o (by decide), ob_cp_o (by decide), ob_cp_o (by decide), ob_cp_o (by decide), ob_cp_o (by decide), ob_cp_s (by omega), ob_wI_o (by decide), ob_wI_o (by decide), ob_wI_o (by decide), ob_wI_o (by decide)]; exact this.1
    · rw [ob_cp_o (by decide), ob_cp_o (by decide), ob_cp_o (by decide), ob_cp_o (by decide), ob_cp_s (by omega), ob_cp_o (by decide), ob_wI_o (by decide), ob_wI_o (by decide), ob_wI_o (by decide), ob_wI_o (by decide)]; exact this.2
  · have hb : b < dr_B d := hb
    have := hd.2.2.2.2.2.2.1 b hb
    refine ⟨?_, ?_, ?_⟩
    · rw [ob_cp_o (by decide), ob_cp_o (by decide), ob_cp_o (by decide), ob_cp_s (by omega), ob_cp_o (by decide), ob_cp_o (by decide), ob_wI_o (by decide), ob_wI_o (by decide), ob_wI_o (by decide), ob_wI_o (by decide)]; exact this.1
    · rw [ob_cp_o (by decide), ob_cp_o (by decide), ob_cp_s (by omega), ob_cp_o (by decide), ob_cp_o (by decide), ob_cp_o (by decide), ob_wI_o (by decide), ob_wI_o (by decide), ob_wI_o (by decide), ob_wI_o (by decide)]; exact this.2.1
    · rw [ob_cp_o (by decide), ob_cp_s (by omega), ob_cp_o (by decide), ob_cp_o (by decide), ob_cp_o (by decide), ob_cp_o (by decide), ob_wI_o (by decide), ob_wI_o (by decide), ob_wI_o (by decide), ob_wI_o (by decide)]; exact this.2.2
  · have e : (ob_ld d).2.2.2.2.1 a = (dr_g d a).getD 0 := if_pos ha
    have key := hd.2.2.2.2.2.2.2 a ha
    show (_ = -1 ∧ (ob_ld d).2.2.2.2.1 a = 0) ∨ _ = nI ((ob_ld d).2.2.2.2.1 a)
    rw [e, ob_cp_s (by omega), ob_cp_o (by decide), ob_cp_o (by decide), ob_cp_o (by decide), ob_cp_o (by decide), ob_cp_o (by decide), ob_wI_o (by decide), ob_wI_o (by decide), ob_wI_o (by decide), ob_wI_o (by decide), key]
    cases dr_g d a with
    | none => exact Or.inl ⟨rfl, rfl⟩
    | some g => exact Or.inr rfl
end CJ
