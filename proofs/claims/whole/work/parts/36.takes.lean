/-! the reference's clauses: persons, birthdays, goods -/
theorem ob_np {c : Nat} (h0 : 0 < c) (h4 : c ≤ 4) : ¬ nI c ≤ 0 := fun z => by
  have := (ob_le (a := c) (b := 0) (by omega) (by omega)).mp z
  omega
section MC
variable {E : ob_E} {σ : ob_Mem} {T : Nat → Nat} {n : Nat} {d : DrT}
theorem n_takePerson {Q : Int32 → ob_Mem → Prop} {e : Nat} (ht : pi_MT σ.1 T n) (hd : pi_ME σ.1 d) (h6 : dr_P d < 6) (hen : e ≤ n) (h3 : σ.1 53 20 = nI e) (hf : ∀ c p, ob_tP T n d e = .inl (c, p) → ∀ σ' : ob_Mem, ob_f6 σ σ' → 0 < c → c ≤ 4 → σ'.1 53 19 = nI p → Q (nI c) σ') (hv : ∀ d' e', ob_tP T n d e = .inr (d', e') → ∀ σ' : ob_Mem, ob_f6 σ σ' → pi_ME σ'.1 d' → σ'.1 53 26 = σ.1 53 26 → σ'.1 53 20 = nI e' → σ'.1 53 19 = σ.1 53 19 → Q 0 σ') : ob_RM shp E oX9_takePerson [.ref 53] σ (ob_qI Q) := by
  refine m_X9_takePerson (b_X9_takePerson_0 ?_)
  rw [hd.2.1, nI_1]
  unfold ob_tP at hf hv
  have f0 : ob_f6 σ (ob_wI σ 53 27 (nI (dr_P d + 1))) := ob_f6.w (by omega)
  refine n_into_67 (lo := 0) (hi := 121) h6 (ht.f6 f0) hen (by rw [ob_wI_n (by decide)]; exact h3) (by omega) (by omega) (by decide) (fun c p hn x σ1 f1 a5 => ?_) (fun v p e1 hn σ1 f1 a3 ae a5 => ?_)
  · rw [hn] at hf
    have hc := ob_nm_c hn
    exact br_f (ob_np (by omega) (by omega)) (hf c p rfl _ (f0.tr (f1.n.tr (ob_f6.r (by omega)))) (by omega) (by omega) (by rw [ob_wI_o (by decide)]; exact a5))
  · rw [hn] at hf hv
    dsimp only [ob_aft] at hf hv
    have f2 := f0.tr (f1.n.tr (ob_f6.r (i := 67) (k := dr_P d) (x := nI v) (by omega)))
    refine br_t (by decide) (n_into_68 (lo := 0) (hi := 1000) h6 (ht.f6 f2) ae (by rw [ob_wI_o (by decide)]; exact a3) (by omega) (by omega) (by decide) (fun c p hn2 x σ2 g2 b5 => ?_) (fun u p2 e2 hn2 σ2 g2 b3 be b5 => ?_))
    · rw [hn2] at hf
      have hc := ob_nm_c hn2
      exact hf c p rfl _ (f2.tr (g2.n.tr (ob_f6.r (by omega)))) (by omega) (by omega) (by rw [ob_wI_o (by decide)]; exact b5)
    · rw [hn2] at hv
      have k5 : ∀ k, k ≠ 19 → k ≠ 20 → k ≠ 22 → k ≠ 23 → k ≠ 24 → k ≠ 27 → σ2.1 53 k = σ.1 53 k := fun k x1 x2 x3 x4 x5 x6 => by rw [g2.2 k x1 x2 x3 x4 x5, ob_wI_o (by decide), f1.2 k x1 x2 x3 x4 x5, ob_wI_n x6]
      have k27 : σ2.1 53 27 = nI (dr_P d + 1) := by rw [g2.2 27 (by decide) (by decide) (by decide) (by decide) (by decide), ob_wI_o (by decide), f1.2 27 (by decide) (by decide) (by decide) (by decide) (by decide), ob_wI_s]
      have ki : ∀ i, i ≠ 53 → i ≠ 67 → σ2.1 i = σ.1 i := fun i x1 x2 => by rw [g2.1 i x1, ob_wI_o x2, f1.1 i x1, ob_wI_o x1]
      refine hv _ _ rfl _ (f2.tr (g2.n.tr (ob_f6.r (by omega)))) ⟨?_, ?_, ?_, ?_, fun q hq => ?_, fun b hb => ?_, fun g hg => ?_⟩ ?_ ?_ ?_
      · rw [ob_wI_o (by decide), k5 25 (by decide) (by decide) (by decide) (by decide) (by decide) (by decide)]; exact hd.1
      · rw [ob_wI_o (by decide)]; exact k27
      · rw [ob_wI_o (by decide), k5 30 (by decide) (by decide) (by decide) (by decide) (by decide) (by decide)]; exact hd.2.2.1
      · rw [ob_wI_o (by decide), k5 34 (by decide) (by decide) (by decide) (by decide) (by decide) (by decide)]; exact hd.2.2.2.1
      · have hq : q < dr_P d + 1 := hq
        rw [ob_wI_o (i := 68) (a := 67) (by decide), g2.1 67 (by decide)]
        show _ = nI (ob_u1 (dr_A d) (dr_P d) v q) ∧ _ = nI (ob_u1 (dr_U d) (dr_P d) u q)
        by_cases eq : q = dr_P d
        · rw [eq, ob_u1s, ob_u1s, ob_wI_s, ob_wI_s]; exact ⟨rfl, rfl⟩
        · rw [ob_u1n eq, ob_u1n eq, ob_wI_n eq, ob_wI_n eq, ki 68 (by decide) (by decide), f1.1 67 (by decide), ob_wI_o (by decide)]; exact hd.2.2.2.2.1 q (by omega)
      · rw [ob_wI_o (i := 68) (a := 69) (by decide), ob_wI_o (i := 68) (a := 70) (by decide), ob_wI_o (i := 68) (a := 71) (by decide), ki 69 (by decide) (by decide), ki 70 (by decide) (by decide), ki 71 (by decide) (by decide)]; exact hd.2.2.2.2.2.1 b hb
      · rw [ob_wI_o (i := 68) (a := 72) (by decide), ki 72 (by decide) (by decide)]; exact hd.2.2.2.2.2.2 g hg
      · rw [ob_wI_o (by decide), k5 26 (by decide) (by decide) (by decide) (by decide) (by decide) (by decide)]
      · rw [ob_wI_o (by decide)]; exact b3
      · rw [ob_wI_o (by decide), b5, ob_wI_o (by decide), a5, ob_wI_n (by decide)]
theorem n_takeBirthday {Q : Int32 → ob_Mem → Prop} {e : Nat} (ht : pi_MT σ.1 T n) (hd : pi_ME σ.1 d) (h8 : dr_B d < 8) (hok : ob_dok d) (hen : e ≤ n) (h3 : σ.1 53 20 = nI e) (hf : ∀ c p, ob_tB T n d e = .inl (c, p) → ∀ σ' : ob_Mem, ob_f6 σ σ' → 0 < c → c ≤ 4 → σ'.1 53 19 = nI p → Q (nI c) σ') (hv : ∀ d' e', ob_tB T n d e = .inr (d', e') → ∀ σ' : ob_Mem, ob_f6 σ σ' → pi_ME σ'.1 d' → σ'.1 53 26 = σ.1 53 26 → σ'.1 53 20 = nI e' → σ'.1 53 19 = σ.1 53 19 → Q 0 σ') : ob_RM shp E oX9_takeBirthday [.ref 53] σ (ob_qI Q) := by
  have hP := hok.2.1
  have hN : dr_N d ≤ 60 := by
    unfold dr_N
    have := hok.1
    split <;> omega
  refine m_X9_takeBirthday (b_X9_takeBirthday_0 ?_)
  rw [ob_wI_n (k := 30) (b := 25) (by decide), hd.1, hd.2.2.1, nI_1]
  unfold ob_tB at hf hv
  have f0 : ob_f6 σ (ob_wI σ 53 30 (nI (dr_B d + 1))) := ob_f6.w (by omega)
  have go : ∀ s0 : Int32, s0 = nI (dr_N d) → ob_RT shp E oX9_takeBirthday 38 [.ref 53, .int (nI (dr_B d)), .null] [.int s0, .int (0 : Int32), .int (nI (dr_B d)), .ref 69, .ref 53] (ob_wI σ 53 30 (nI (dr_B d + 1))) (ob_qI Q) := by
    rintro s0 rfl
    refine b_X9_takeBirthday_38 (n_into_69 (lo := 0) (hi := dr_N d) h8 (ht.f6 f0) hen (by rw [ob_wI_n (by decide)]; exact h3) (by omega) (by omega) rfl (fun c p hn x σ1 f1 a5 => ?_) (fun x p e1 hn σ1 f1 a3 ae a5 => ?_))
    · rw [hn] at hf
      have hc := ob_nm_c hn
      have ne : ¬ nI c ≤ 0 := ob_np (by omega) (by omega)
      exact br_f ne (b_X9_takeBirthday_68 (br_f ne (hf c p rfl _ (f0.tr (f1.n.tr (ob_f6.r (by omega)))) (by omega) (by omega) (by rw [ob_wI_o (by decide)]; exact a5))))
    · rw [hn] at hf hv
      dsimp only [ob_aft] at hf hv
      have f2 := f0.tr (f1.n.tr (ob_f6.r (i := 69) (k := dr_B d) (x := nI x) (by omega)))
      refine br_t (by decide) ?_
      rw [ob_wI_o (i := 69) (a := 53) (by decide), f1.2 27 (by decide) (by decide) (by decide) (by decide) (by decide), ob_wI_n (by decide), hd.2.1]
      refine n_into_70 (lo := 0) (hi := dr_P d) h8 (ht.f6 f2) ae (by rw [ob_wI_o (by decide)]; exact a3) (by omega) (by omega) rfl (fun c p hn2 x σ2 g2 b5 => ?_) (fun y p2 e2 hn2 σ2 g2 b3 be b5 => ?_)
      · rw [hn2] at hf
        have hc := ob_nm_c hn2
        exact b_X9_takeBirthday_68 (br_f (ob_np (by omega) (by omega)) (hf c p rfl _ (f2.tr (g2.n.tr (ob_f6.r (by omega)))) (by omega) (by omega) (by rw [ob_wI_o (by decide)]; exact b5)))
      · rw [hn2] at hf hv
        dsimp only at hf hv
        have f3 := f2.tr (g2.n.tr (ob_f6.r (i := 70) (k := dr_B d) (x := nI y) (by omega)))
        refine b_X9_takeBirthday_68 (br_t (by decide) (n_into_71 (lo := 1) (hi := 100) h8 (ht.f6 f3) be (by rw [ob_wI_o (by decide)]; exact b3) (by omega) (by omega) (by decide) (fun c p hn3 x σ3 g3 c5 => ?_) (fun z p3 e3 hn3 σ3 g3 c3 ce c5 => ?_)))
        · rw [hn3] at hf
          have hc := ob_nm_c hn3
          exact hf c p rfl _ (f3.tr (g3.n.tr (ob_f6.r (by omega)))) (by omega) (by omega) (by rw [ob_wI_o (by decide)]; exact c5)
        · rw [hn3] at hv
          have k5 : ∀ k, k ≠ 19 → k ≠ 20 → k ≠ 22 → k ≠ 23 → k ≠ 24 → k ≠ 30 → σ3.1 53 k = σ.1 53 k := fun k x1 x2 x3 x4 x5 x6 => by rw [g3.2 k x1 x2 x3 x4 x5, ob_wI_o (by decide), g2.2 k x1 x2 x3 x4 x5, ob_wI_o (by decide), f1.2 k x1 x2 x3 x4 x5, ob_wI_n x6]
          have k30 : σ3.1 53 30 = nI (dr_B d + 1) := by rw [g3.2 30 (by decide) (by decide) (by decide) (by decide) (by decide), ob_wI_o (by decide), g2.2 30 (by decide) (by decide) (by decide) (by decide) (by decide), ob_wI_o (by decide), f1.2 30 (by decide) (by decide) (by decide) (by decide) (by decide), ob_wI_s]
          have ki : ∀ i, i ≠ 53 → i ≠ 69 → i ≠ 70 → σ3.1 i = σ.1 i := fun i x1 x2 x3 => by rw [g3.1 i x1, ob_wI_o x3, g2.1 i x1, ob_wI_o x2, f1.1 i x1, ob_wI_o x1]
          refine hv _ _ rfl _ (f3.tr (g3.n.tr (ob_f6.r (by omega)))) ⟨?_, ?_, ?_, ?_, fun q hq => ?_, fun b hb => ?_, fun g hg => ?_⟩ ?_ ?_ ?_
          · rw [ob_wI_o (by decide), k5 25 (by decide) (by decide) (by decide) (by decide) (by decide) (by decide)]; exact hd.1
          · rw [ob_wI_o (by decide), k5 27 (by decide) (by decide) (by decide) (by decide) (by decide) (by decide)]; exact hd.2.1
          · rw [ob_wI_o (by decide)]; exact k30
          · rw [ob_wI_o (by decide), k5 34 (by decide) (by decide) (by decide) (by decide) (by decide) (by decide)]; exact hd.2.2.2.1
          · rw [ob_wI_o (i := 71) (a := 67) (by decide), ob_wI_o (i := 71) (a := 68) (by decide), ki 67 (by decide) (by decide) (by decide), ki 68 (by decide) (by decide) (by decide)]; exact hd.2.2.2.2.1 q hq
          · have hb : b < dr_B d + 1 := hb
            rw [ob_wI_o (i := 71) (a := 69) (by decide), ob_wI_o (i := 71) (a := 70) (by decide), g3.1 69 (by decide), g3.1 70 (by decide), ob_wI_o (i := 70) (a := 69) (by decide), g2.1 69 (by decide)]
            show _ = nI (ob_u1 (dr_D d) (dr_B d) x b) ∧ _ = nI (ob_u1 (dr_O d) (dr_B d) y b) ∧ _ = nI (ob_u1 (dr_C d) (dr_B d) z b)
            by_cases eq : b = dr_B d
            · rw [eq, ob_u1s, ob_u1s, ob_u1s, ob_wI_s, ob_wI_s, ob_wI_s]; exact ⟨rfl, rfl, rfl⟩
            · rw [ob_u1n eq, ob_u1n eq, ob_u1n eq, ob_wI_n eq, ob_wI_n eq, ob_wI_n eq, ki 71 (by decide) (by decide) (by decide), f1.1 69 (by decide), ob_wI_o (i := 53) (a := 69) (by decide), g2.1 70 (by decide), ob_wI_o (i := 69) (a := 70) (by decide), f1.1 70 (by decide), ob_wI_o (i := 53) (a := 70) (by decide)]; exact hd.2.2.2.2.2.1 b (by omega)
          · rw [ob_wI_o (i := 71) (a := 72) (by decide), ki 72 (by decide) (by decide) (by decide)]; exact hd.2.2.2.2.2.2 g hg
          · rw [ob_wI_o (by decide), k5 26 (by decide) (by decide) (by decide) (by decide) (by decide) (by decide)]
          · rw [ob_wI_o (by decide)]; exact c3
          · rw [ob_wI_o (by decide), c5, ob_wI_o (by decide), b5, ob_wI_o (by decide), a5, ob_wI_n (by decide)]
  by_cases hY : dr_Y d = 0
  · exact br_t (by rw [hY]; decide) (go _ (by unfold dr_N; rw [if_pos hY]; rfl))
  · have := hok.1
    exact br_f (fun z => by have := (ob_le (b := 0) (by omega) (by omega)).mp z; omega) (go _ (by unfold dr_N; rw [if_neg hY]))
theorem n_takeGood {Q : Int32 → ob_Mem → Prop} {e : Nat} (ht : pi_MT σ.1 T n) (hd : pi_ME σ.1 d) (hok : ob_dok d) (hen : e ≤ n) (h3 : σ.1 53 20 = nI e) (hf : ∀ c p, ob_tG T n d e = .inl (c, p) → ∀ σ' : ob_Mem, ob_f6 σ σ' → 0 < c → c ≤ 4 → σ'.1 53 19 = nI p → Q (nI c) σ') (hv : ∀ d' e', ob_tG T n d e = .inr (d', e') → ∀ σ' : ob_Mem, ob_f6 σ σ' → pi_ME σ'.1 d' → σ'.1 53 26 = σ.1 53 26 → σ'.1 53 20 = nI e' → σ'.1 53 19 = σ.1 53 19 → Q 0 σ') : ob_RM shp E oX9_takeGood [.ref 53] σ (ob_qI Q) := by
  refine m_X9_takeGood (b_X9_takeGood_0 ?_)
  rw [hd.2.2.2.1, nI_1]
  unfold ob_tG at hf hv
  have f0 : ob_f6 σ (ob_wI σ 53 34 (nI (dr_G d + 1))) := ob_f6.w (by omega)
  refine n_number (lo := 0) (hi := 121) (ht.f6 f0) hen (by rw [ob_wI_n (by decide)]; exact h3) (by omega) (by omega) (by decide) (fun c p hn σ1 f1 a5 => ?_) (fun v p e1 hn σ1 f1 a3 ae a5 a6 a7 => ?_)
  · rw [hn] at hf
    have hc := ob_nm_c hn
    exact br_f (ob_np (by omega) (by omega)) (hf c p rfl _ (f0.tr f1.n) (by omega) (by omega) a5)
  · have v1 := ob_nm_v hn
    rw [hn] at hf hv
    dsimp only [ob_aft] at hf hv
    refine br_t (by decide) ?_
    rw [a6, a7, ob_cl (n := v) (by omega)]
    refine ⟨ob_in (by omega) (by omega), ?_⟩
    have e72 : σ1.1 72 v = ob_oI (dr_g d v) := by rw [f1.1 72 (by decide), ob_wI_o (by decide)]; exact hd.2.2.2.2.2.2 v (by omega)
    rw [e72]
    have f2 := f0.tr f1.n
    by_cases hg : dr_g d v = none
    · rw [if_neg (fun z => z hg)] at hf hv
      rw [hg]
      refine br_t (by decide) (n_into_72 (lo := 0) (hi := 100) (by omega) (ht.f6 f2) ae a3 (by omega) (by omega) (by decide) (fun c p hn2 x σ2 g2 b5 => ?_) (fun u p2 e2 hn2 σ2 g2 b3 be b5 => ?_))
      · rw [hn2] at hf
        have hc := ob_nm_c hn2
        exact hf c p rfl _ (f2.tr (g2.n.tr (ob_f6.r (by omega)))) (by omega) (by omega) (by rw [ob_wI_o (by decide)]; exact b5)
      · rw [hn2] at hv
        have k5 : ∀ k, k ≠ 19 → k ≠ 20 → k ≠ 22 → k ≠ 23 → k ≠ 24 → k ≠ 34 → σ2.1 53 k = σ.1 53 k := fun k x1 x2 x3 x4 x5 x6 => by rw [g2.2 k x1 x2 x3 x4 x5, f1.2 k x1 x2 x3 x4 x5, ob_wI_n x6]
        have k34 : σ2.1 53 34 = nI (dr_G d + 1) := by rw [g2.2 34 (by decide) (by decide) (by decide) (by decide) (by decide), f1.2 34 (by decide) (by decide) (by decide) (by decide) (by decide), ob_wI_s]
        have ki : ∀ i, i ≠ 53 → σ2.1 i = σ.1 i := fun i x1 => by rw [g2.1 i x1, f1.1 i x1, ob_wI_o x1]
        refine hv _ _ rfl _ (f2.tr (g2.n.tr (ob_f6.r (by omega)))) ⟨?_, ?_, ?_, ?_, fun q hq => ?_, fun b hb => ?_, fun g hgg => ?_⟩ ?_ ?_ ?_
        · rw [ob_wI_o (by decide), k5 25 (by decide) (by decide) (by decide) (by decide) (by decide) (by decide)]; exact hd.1
        · rw [ob_wI_o (by decide), k5 27 (by decide) (by decide) (by decide) (by decide) (by decide) (by decide)]; exact hd.2.1
        · rw [ob_wI_o (by decide), k5 30 (by decide) (by decide) (by decide) (by decide) (by decide) (by decide)]; exact hd.2.2.1
        · rw [ob_wI_o (by decide)]; exact k34
        · rw [ob_wI_o (i := 72) (a := 67) (by decide), ob_wI_o (i := 72) (a := 68) (by decide), ki 67 (by decide), ki 68 (by decide)]; exact hd.2.2.2.2.1 q hq
        · rw [ob_wI_o (i := 72) (a := 69) (by decide), ob_wI_o (i := 72) (a := 70) (by decide), ob_wI_o (i := 72) (a := 71) (by decide), ki 69 (by decide), ki 70 (by decide), ki 71 (by decide)]; exact hd.2.2.2.2.2.1 b hb
        · show _ = ob_oI (if g = v then some u else dr_g d g)
          by_cases eq : g = v
          · rw [eq, ob_wI_s, if_pos rfl]; rfl
          · rw [ob_wI_n eq, if_neg eq, ki 72 (by decide)]; exact hd.2.2.2.2.2.2 g hgg
        · rw [ob_wI_o (by decide), k5 26 (by decide) (by decide) (by decide) (by decide) (by decide) (by decide)]
        · rw [ob_wI_o (by decide)]; exact b3
        · rw [ob_wI_o (by decide), b5, a5, ob_wI_n (by decide)]
    · rw [if_pos hg] at hf
      refine br_f (fun z => hg ((ob_oI_lt (fun g hgg => by have := hok.2.2.2.2.2.2 v g hgg; omega)).mp z)) (m_X9_fails (b_X9_fails_0 (hf 4 p rfl _ (f2.tr (ob_f6.w (by omega))) (by omega) (by omega) ob_wI_s)))
end MC
