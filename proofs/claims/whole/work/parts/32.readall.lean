/-! readAll -/
section CI
variable {E : ob_E} {σ : ob_Mem} {T : Nat → Nat} {n : Nat}
theorem k_clearAll {Q : ob_Mem → Prop} (h7 : σ.1 1 7 = 0) (h : ∀ σ' : ob_Mem, (∀ i, i ≠ 3 → i ≠ 9 → σ'.1 i = σ.1 i) → pi_CD σ'.1 dr_0 → Q σ') : ob_RM shp E oX2_clearAll [.ref 3] σ (ob_qV Q) := by
  refine m_X2_clearAll (b_X2_clearAll_0 ?_)
  rintro σ1 rfl
  refine k_fill_9 (h _ (fun i a b => by rw [ob_wA_o b, ob_wI_o a, ob_wI_o a, ob_wI_o a, ob_wI_o a]) ⟨?_, ?_, ?_, ?_, ?_, fun p hp => absurd hp (Nat.not_lt_zero _), fun b hb => absurd hb (Nat.not_lt_zero _), fun a ha => ?_⟩)
  · rw [ob_wA_o (by decide), ob_wI_n (by decide), ob_wI_n (by decide), ob_wI_n (by decide), ob_wI_s]; rfl
  · rw [ob_wA_o (by decide), ob_wI_o (by decide), ob_wI_o (by decide), ob_wI_o (by decide), ob_wI_o (by decide), h7]; rfl
  · rw [ob_wA_o (by decide), ob_wI_n (by decide), ob_wI_n (by decide), ob_wI_s]; rfl
  · rw [ob_wA_o (by decide), ob_wI_n (by decide), ob_wI_s]; rfl
  · rw [ob_wA_o (by decide), ob_wI_s]; rfl
  · rw [ob_wA_s, if_pos (by omega)]; rfl
theorem k_readAll {Q : Int32 → ob_Mem → Prop} (ht : pi_CT σ.1 T n) (hf : ∀ c p, ob_run 100000000000000 T n 500 dr_0 (ob_skp ob_isB T n 0) = .inl (c, p) → ∀ σ' : ob_Mem, (∀ i, i ≠ 1 → ¬ (3 ≤ i ∧ i ≤ 9) → σ'.1 i = σ.1 i) → σ'.1 1 2 = 0 → 0 < c → c ≤ 4 → σ'.1 1 5 = nI p → Q (nI c) σ') (hv : ∀ d, ob_run 100000000000000 T n 500 dr_0 (ob_skp ob_isB T n 0) = .inr d → ob_dok d → ∀ σ' : ob_Mem, (∀ i, i ≠ 1 → ¬ (3 ≤ i ∧ i ≤ 9) → σ'.1 i = σ.1 i) → (∀ i, 3 ≤ i → i ≤ 9 → True) → pi_CD σ'.1 d → σ'.1 1 2 = 0 → σ'.1 1 5 = -1 → Q 0 σ') : ob_RM shp E oX3_readAll [.ref 1] σ (ob_qI Q) := by
  refine m_X3_readAll (b_X3_readAll_0 ?_)
  rintro σ1 rfl
  refine k_clearAll ob_wI_s (fun σ2 r2 hd2 => ?_)
  have f9 : ob_f9 σ σ2 := ⟨fun i a b => by rw [r2 i (by omega) (by omega), ob_wI_o a, ob_wI_o a, ob_wI_o a, ob_wI_o a], by rw [r2 1 (by decide) (by decide), ob_wI_n (by decide), ob_wI_n (by decide), ob_wI_n (by decide), ob_wI_n (by decide)]⟩
  have e3 : σ2.1 1 3 = nI 0 := by rw [r2 1 (by decide) (by decide), ob_wI_n (by decide), ob_wI_n (by decide), ob_wI_n (by decide), ob_wI_s]; rfl
  have e4 : σ2.1 1 4 = 0 := by rw [r2 1 (by decide) (by decide), ob_wI_n (by decide), ob_wI_n (by decide), ob_wI_s]
  have e5 : σ2.1 1 5 = -1 := by rw [r2 1 (by decide) (by decide), ob_wI_n (by decide), ob_wI_s]
  obtain ⟨g1, g2⟩ := ob_skp_le (P := ob_isB) (T := T) (n := n) 0 (Nat.zero_le _)
  refine k_skipBlanks (ht.f9 f9) (Nat.zero_le _) e3 (fun σ3 f3 q3 s3 => ?_)
  refine k_clauses (R := ob_run 100000000000000 T n 500 dr_0 (ob_skp ob_isB T n 0)) ht (fun c p hr σ' f' c0 c4 a4 a5 => ?_) (fun d hr hok σ' f' hd a5 => ?_) 0 (by omega) σ3 dr_0 _ (f9.tr f3.n) (hd2.f1 f3) ob_dok0 g2 (Nat.zero_le _) s3 (by rw [q3 4 (by decide)]; exact e4) (by rw [q3 5 (by decide)]; exact e5) rfl
  · exact hf c p hr _ (fun i a b => by rw [ob_wI_o a]; exact f'.1 i a b) ob_wI_s c0 c4 (by rw [ob_wI_n (by decide)]; exact a5)
  · refine hv d hr hok _ (fun i a b => by rw [ob_wI_o a]; exact f'.1 i a b) (fun _ _ _ => trivial) ?_ ob_wI_s (by rw [ob_wI_n (by decide)]; exact a5)
    unfold pi_CD
    rw [ob_wI_o (i := 1) (a := 3) (by decide), ob_wI_n (by decide), ob_wI_o (i := 1) (a := 4) (by decide), ob_wI_o (i := 1) (a := 5) (by decide), ob_wI_o (i := 1) (a := 6) (by decide), ob_wI_o (i := 1) (a := 7) (by decide), ob_wI_o (i := 1) (a := 8) (by decide), ob_wI_o (i := 1) (a := 9) (by decide)]
    exact hd
end CI
