/-! the class's clauses -/
def ob_f9 (σ σ' : ob_Mem) : Prop := (∀ i, i ≠ 1 → ¬ (3 ≤ i ∧ i ≤ 9) → σ'.1 i = σ.1 i) ∧ σ'.1 1 2 = σ.1 1 2
theorem ob_f1.n {σ σ' : ob_Mem} (f : ob_f1 σ σ') : ob_f9 σ σ' := ⟨fun i h _ => f.1 i h, f.2.1⟩
theorem ob_f9.tr {a b c : ob_Mem} (h1 : ob_f9 a b) (h2 : ob_f9 b c) : ob_f9 a c := ⟨fun i x y => by rw [h2.1 i x y, h1.1 i x y], by rw [h2.2, h1.2]⟩
theorem ob_nc {c : Nat} (h0 : 0 < c) (h4 : c ≤ 4) : ¬ nI c = 0 := nI_ne0 h0 (by omega)
theorem ob_nm_e {T : Nat → Nat} {n lo hi a v p e : Nat} (h : ob_nm T n lo hi a = .inr (v, p, e)) (ha : a ≤ n) : a < e := by
  obtain ⟨g1, g2⟩ := ob_skp_le (P := ob_isB) (T := T) a ha
  obtain ⟨g3, g4⟩ := ob_skp_le (P := ob_isF) (T := T) (ob_skp ob_isB T n a) g2
  unfold ob_nm at h
  split at h
  · cases h
  · split at h
    · rename_i z _
      cases h
      omega
    · cases h
section CC
variable {E : ob_E} {σ : ob_Mem} {T : Nat → Nat} {n : Nat} {d : DrT}
theorem k_isEmpty {Q : Int32 → ob_Mem → Prop} (hd : pi_CD σ.1 d) (hok : ob_dok d) (h1 : dr_P d + dr_B d + dr_G d = 0 → Q 1 σ) (h0 : dr_P d + dr_B d + dr_G d ≠ 0 → Q 0 σ) : ob_RM shp E oX2_isEmpty [.ref 3] σ (ob_qI Q) := by
  obtain ⟨-, o1, o2, o3, -⟩ := hok
  refine m_X2_isEmpty (b_X2_isEmpty_0 ?_)
  rw [hd.2.2.1, hd.2.2.2.1, hd.2.2.2.2.1]
  by_cases a1 : dr_P d = 0
  · refine ob_bf (by rw [a1]; rfl) ?_
    by_cases a2 : dr_B d = 0
    · refine ob_bf (by rw [a2]; rfl) ?_
      by_cases a3 : dr_G d = 0
      · exact ob_bf (by rw [a3]; rfl) (h1 (by omega))
      · exact ob_bt (nI_ne0 (by omega) (by omega)) (h0 (by omega))
    · exact ob_bt (nI_ne0 (by omega) (by omega)) (h0 (by omega))
  · exact ob_bt (nI_ne0 (by omega) (by omega)) (h0 (by omega))
theorem k_readYear {Q : ob_Mem → Prop} {a e : Nat} (ht : pi_CT σ.1 T n) (hd : pi_CD σ.1 d) (hok : ob_dok d) (hen : e ≤ n) (h3 : σ.1 1 3 = nI e) (h4 : σ.1 1 4 = 0) (hf : ∀ c p, ob_clY T n d a e = .inl (c, p) → ∀ σ' : ob_Mem, ob_f9 σ σ' → 0 < c → c ≤ 4 → σ'.1 1 4 = nI c → σ'.1 1 5 = nI p → (∃ q, q ≤ n ∧ σ'.1 1 3 = nI q) → Q σ') (hv : ∀ d' e', ob_clY T n d a e = .inr (d', e') → ob_dok d' → ∀ σ' : ob_Mem, ob_f9 σ σ' → pi_CD σ'.1 d' → σ'.1 1 3 = nI e' → e' ≤ n → e < e' → σ'.1 1 4 = 0 → σ'.1 1 5 = σ.1 1 5 → Q σ') : ob_RM shp E oX3_readYear [.ref 1, .int (nI a)] σ (ob_qV Q) := by
  unfold ob_clY at hf hv
  refine m_X3_readYear (b_X3_readYear_0 (k_isEmpty hd hok (fun hE => ob_bt (by decide) ?_) (fun hE => ob_bf rfl ?_)))
  · rw [if_neg (by omega)] at hf hv
    rw [hd.2.1]
    by_cases hY : dr_Y d = 0
    · rw [if_neg (by omega)] at hf hv
      rw [show ob_bI (decide (dr_Y d ≠ 0)) = 0 from by rw [decide_eq_false (by omega)]; rfl]
      refine br_t rfl (b_X3_readYear_32 (k_number (lo := 2) (hi := 61) ht hen h3 h4 (by omega) (by omega) (by decide) (fun c p hn v σ1 f1 a4 a5 ax => ?_) (fun v p e1 hn σ1 f1 a3 ae a4 a5 a6 => ?_)))
      · rw [hn] at hf
        have hc := ob_nm_c hn
        have ne : ¬ σ1.1 1 4 = 0 := by rw [a4]; exact ob_nc (by omega) (by omega)
        exact k_endX ne (ob_bt ne (hf c p rfl σ1 f1.n (by omega) (by omega) a4 a5 ax))
      · rw [hn] at hf hv
        have hvv := ob_nm_v hn
        dsimp only [ob_aft, ob_fin] at hf hv
        refine k_end (ht.f1 f1) ae a3 a4 (fun c p he σ2 f2 b4 b5 bx => ?_) (fun e2 he σ2 f2 b3 be bl b4 b5 => ?_)
        · rw [he] at hf
          have hc := ob_en_c he
          have ne : ¬ σ2.1 1 4 = 0 := by rw [b4]; exact ob_nc (by omega) (by omega)
          exact ob_bt ne (hf c p rfl σ2 (f1.tr f2).n (by omega) (by omega) b4 b5 bx)
        · rw [he] at hv
          have hd2 := (hd.f1 f1).f1 f2
          have hne : e < e2 := by
            have := ob_nm_e hn hen
            omega
          refine ob_bf b4 (hv _ _ rfl ?_ _ ?_ ?_ ?_ be hne ?_ ?_)
          · obtain ⟨o0, o1, o2, o3, o4, o5, o6⟩ := hok
            have hB0 : dr_B d = 0 := by omega
            exact ⟨Or.inr ⟨hvv.1, by show v ≤ 60; omega⟩, o1, o2, o3, o4, fun b hb => by have hb : b < dr_B d := hb; omega, o6⟩
          · exact (f1.tr f2).n.tr ⟨fun i x y => by rw [ob_wI_o x, ob_wI_o (by omega)], by rw [ob_wI_n (by decide), ob_wI_o (by decide)]⟩
          · have hv0 : ¬ v = 0 := by omega
            refine ⟨?_, ?_, ?_, ?_, ?_, ?_, ?_, ?_⟩
            · rw [ob_wI_o (by decide), ob_wI_s]
              show nI v = nI (if v = 0 then 12 else v)
              rw [if_neg hv0]
            · rw [ob_wI_s]
              show (1 : Int32) = ob_bI (decide (v ≠ 0))
              rw [decide_eq_true hv0]; rfl
            · rw [ob_wI_o (by decide), ob_wI_n (by decide)]; exact hd2.2.2.1
            · rw [ob_wI_o (by decide), ob_wI_n (by decide)]; exact hd2.2.2.2.1
            · rw [ob_wI_o (by decide), ob_wI_n (by decide)]; exact hd2.2.2.2.2.1
            · rw [ob_wI_o (by decide), ob_wI_o (by decide), ob_wI_o (by decide), ob_wI_o (by decide)]; exact hd2.2.2.2.2.2.1
            · rw [ob_wI_o (by decide), ob_wI_o (by decide), ob_wI_o (by decide), ob_wI_o (by decide), ob_wI_o (by decide), ob_wI_o (by decide)]; exact hd2.2.2.2.2.2.2.1
            · rw [ob_wI_o (by decide), ob_wI_o (by decide)]; exact hd2.2.2.2.2.2.2.2
          · rw [ob_wI_n (by decide), ob_wI_o (by decide)]; exact b3
          · rw [ob_wI_n (by decide), ob_wI_o (by decide)]; exact b4
          · rw [ob_wI_n (by decide), ob_wI_o (by decide), b5]; exact a5
    · rw [if_pos (by omega)] at hf
      rw [show ob_bI (decide (dr_Y d ≠ 0)) = 1 from by rw [decide_eq_true (by omega)]; rfl]
      refine br_f (by decide) (k_setFault0 h4 (fun σ1 f1 a4 a5 ay => ?_))
      have ne : ¬ σ1.1 1 4 = 0 := by rw [a4]; decide
      exact k_yearX ne (hf 3 a rfl σ1 f1.n (by omega) (by omega) a4 a5 ⟨e, hen, ay.trans h3⟩)
  · rw [if_pos hE] at hf
    refine k_setFault0 h4 (fun σ1 f1 a4 a5 ay => ?_)
    have ne : ¬ σ1.1 1 4 = 0 := by rw [a4]; decide
    exact k_yearX ne (hf 1 a rfl σ1 f1.n (by omega) (by omega) a4 a5 ⟨e, hen, ay.trans h3⟩)
end CC
