/-! the reference's clauses, whole -/
theorem pi_MD.f5 {σ σ' : ob_Mem} {d : DrT} (h : pi_MD σ.1 d) (f : ob_f5 σ σ') : pi_MD σ'.1 d := (h.e.f5 f).d (by rw [f.2 26 (by decide) (by decide) (by decide) (by decide) (by decide)]; exact h.2.1)
section MT
variable {E : ob_E} {σ : ob_Mem} {T : Nat → Nat} {n : Nat} {d : DrT}
theorem n_tail {Q : Int32 → ob_Mem → Prop} {x1 x3 : Int64} {x5 x6 : Int32} {d' : DrT} {e' : Nat} (ht : pi_MT σ.1 T n) (hm : pi_MD σ.1 d') (he : e' ≤ n) (h3 : σ.1 53 20 = nI e') (hf : ∀ c p, ob_fin T n e' d' = .inl (c, p) → ∀ σ' : ob_Mem, ob_f6 σ σ' → 0 < c → c ≤ 4 → σ'.1 53 19 = nI p → Q (nI c) σ') (hv : ∀ e2, ob_fin T n e' d' = .inr (d', e2) → ∀ σ' : ob_Mem, ob_f6 σ σ' → pi_MD σ'.1 d' → σ'.1 53 20 = nI e2 → σ'.1 53 19 = σ.1 53 19 → Q 0 σ') : ob_RT shp E oX9_takeClause 372 [.ref 53, .long x1, .null, .long x3, .null, .int x5, .int x6, .int 0] [] σ (ob_qI Q) := by
  have hn := ht.1
  obtain ⟨g1, g2⟩ := ob_skp_le (P := ob_isB) (T := T) e' he
  unfold ob_fin ob_en at hf hv
  refine b_X9_takeClause_372 (ob_bf rfl (n_here ht he h3 (fun σ1 f1 q1 e1 => ?_)))
  generalize ob_skp ob_isB T n e' = s at *
  refine ⟨fun hs hc => ?_, fun hs => ?_⟩
  · by_cases h59 : T s = 59
    · rw [if_pos ⟨hs, h59⟩] at hv
      refine br_t (by rw [h59]; rfl) (hv _ rfl _ (f1.n.tr (ob_f6.w (by omega))) ((hm.f5 f1).f5 (ob_f5.w (by omega))) (by rw [ob_wI_s, e1, nI_1]) (by rw [ob_wI_n (by decide), q1 19 (by decide)]))
    · rw [if_neg (fun z => h59 z.2)] at hf
      refine br_f (fun z => h59 ((ob_eq (b := 59) (by omega) (by omega)).mp z)) (m_X9_fails (b_X9_fails_0 (hf 1 s rfl _ (f1.n.tr (ob_f6.w (by omega))) (by omega) (by omega) (by rw [ob_wI_s, e1]))))
  · rw [if_neg (fun z => hs z.1)] at hf
    refine br_f (by decide) (m_X9_fails (b_X9_fails_0 (hf 1 s rfl _ (f1.n.tr (ob_f6.w (by omega))) (by omega) (by omega) (by rw [ob_wI_s, e1]))))
theorem n_clP {Q : Int32 → ob_Mem → Prop} {x1 x3 : Int64} {x5 : Int32} {a e : Nat} (ht : pi_MT σ.1 T n) (hd : pi_MD σ.1 d) (hok : ob_dok d) (hen : e ≤ n) (h20 : σ.1 53 20 = nI a) (h22 : σ.1 53 22 = nI e) (hf : ∀ c p, ob_clP T n d a e = .inl (c, p) → ∀ σ' : ob_Mem, ob_f6 σ σ' → 0 < c → c ≤ 4 → σ'.1 53 19 = nI p → Q (nI c) σ') (hv : ∀ d' e', ob_clP T n d a e = .inr (d', e') → ob_dok d' → ∀ σ' : ob_Mem, ob_f6 σ σ' → pi_MD σ'.1 d' → σ'.1 53 20 = nI e' → e' ≤ n → e < e' → σ'.1 53 19 = σ.1 53 19 → Q 0 σ') : ob_RT shp E oX9_takeClause 186 [.ref 53, .long x1, .null, .long x3, .null, .int x5, .null, .null] [.int 1] σ (ob_qI Q) := by
  have hP6 := hok.2.1
  have hB8 := hok.2.2.1
  have hG10 := hok.2.2.2.1
  rw [ob_clP_t] at hf hv
  refine b_X9_takeClause_186 (br_f (by decide) (ob_bt (by decide) (b_X9_takeClause_215 (ob_bt (by decide) (ob_bf rfl ?_)))))
  rw [hd.2.2.1]
  by_cases h6 : dr_P d = 6
  · rw [if_pos h6] at hf
    exact ob_bf (by rw [h6]; rfl) (m_X9_fails (b_X9_fails_0 (hf 3 a rfl _ (ob_f6.w (by omega)) (by omega) (by omega) (by rw [ob_wI_s]; exact h20))))
  · rw [if_neg h6] at hf hv
    refine ob_bt (fun z => by have := (ob_eq (b := 6) (by omega) (by omega)).mp z; omega) (b_X9_takeClause_285 (ob_bt (by decide) (b_X9_takeClause_308 (ob_bt (by decide) (ob_bf rfl ?_)))))
    rw [h22, ob_wI_n (k := 20) (b := 26) (by decide), hd.2.1, nI_1]
    have f0 : ob_f6 σ (ob_wI (ob_wI σ 53 20 (nI e)) 53 26 (nI (dr_P d + dr_B d + dr_G d + 1))) := (ob_f6.w (by omega)).tr (ob_f6.w (by omega))
    have hE0 : pi_ME (ob_wI (ob_wI σ 53 20 (nI e)) 53 26 (nI (dr_P d + dr_B d + dr_G d + 1))).1 d := by
      have h1 := hd.e.f5 (ob_f5.w (σ := σ) (k := 20) (x := nI e) (by omega))
      unfold pi_ME
      rw [ob_wI_n (k := 26) (b := 25) (by decide), ob_wI_n (k := 26) (b := 27) (by decide), ob_wI_n (k := 26) (b := 30) (by decide), ob_wI_n (k := 26) (b := 34) (by decide), ob_wI_o (i := 53) (a := 67) (by decide), ob_wI_o (i := 53) (a := 68) (by decide), ob_wI_o (i := 53) (a := 69) (by decide), ob_wI_o (i := 53) (a := 70) (by decide), ob_wI_o (i := 53) (a := 71) (by decide), ob_wI_o (i := 53) (a := 72) (by decide)]
      exact h1
    refine n_takePerson (ht.f6 f0) hE0 (by omega) hen (by rw [ob_wI_n (by decide), ob_wI_s]) (fun c p hc σ1 f1 c0 c4 a5 => ?_) (fun d' e' hc σ1 f1 hd1 a26 a20 a5 => ?_)
    · rw [hc] at hf
      exact b_X9_takeClause_370 (b_X9_takeClause_372 (ob_bt (ob_nc c0 c4) (hf c p rfl _ ((f0.tr f1).tr (ob_f6.w (by omega))) c0 c4 (by rw [ob_wI_n (by decide)]; exact a5))))
    · obtain ⟨t1, t2, t3, t4⟩ := ob_tP_ok hc hen hok h6
      rw [hc] at hf hv
      dsimp only [ob_then] at hf hv
      refine b_X9_takeClause_370 (n_tail (ht.f6 (f0.tr f1)) (hd1.d (by rw [a26, ob_wI_s, t3])) t2 a20 (fun c p hc2 σ2 f2 c0 c4 b5 => hf c p hc2 σ2 ((f0.tr f1).tr f2) c0 c4 b5) (fun e2 hc2 σ2 f2 hd2 b20 b5 => ?_))
      obtain ⟨-, u1, u2⟩ := ob_fin_ok hc2 t2
      exact hv d' e2 hc2 t4 σ2 ((f0.tr f1).tr f2) hd2 b20 u2 (by omega) (by rw [b5, a5, ob_wI_n (by decide), ob_wI_n (by decide)])
theorem n_clB {Q : Int32 → ob_Mem → Prop} {x1 x3 : Int64} {x5 : Int32} {a e : Nat} (ht : pi_MT σ.1 T n) (hd : pi_MD σ.1 d) (hok : ob_dok d) (hen : e ≤ n) (h20 : σ.1 53 20 = nI a) (h22 : σ.1 53 22 = nI e) (hf : ∀ c p, ob_clB T n d a e = .inl (c, p) → ∀ σ' : ob_Mem, ob_f6 σ σ' → 0 < c → c ≤ 4 → σ'.1 53 19 = nI p → Q (nI c) σ') (hv : ∀ d' e', ob_clB T n d a e = .inr (d', e') → ob_dok d' → ∀ σ' : ob_Mem, ob_f6 σ σ' → pi_MD σ'.1 d' → σ'.1 53 20 = nI e' → e' ≤ n → e < e' → σ'.1 53 19 = σ.1 53 19 → Q 0 σ') : ob_RT shp E oX9_takeClause 186 [.ref 53, .long x1, .null, .long x3, .null, .int x5, .null, .null] [.int 2] σ (ob_qI Q) := by
  have hP6 := hok.2.1
  have hB8 := hok.2.2.1
  have hG10 := hok.2.2.2.1
  rw [ob_clB_t] at hf hv
  refine b_X9_takeClause_186 (br_f (by decide) (ob_bt (by decide) (b_X9_takeClause_215 (ob_bt (by decide) (ob_bt (by decide) (ob_bf rfl ?_))))))
  rw [hd.2.2.2.1]
  by_cases h6 : dr_B d = 8
  · rw [if_pos h6] at hf
    exact ob_bf (by rw [h6]; rfl) (m_X9_fails (b_X9_fails_0 (hf 3 a rfl _ (ob_f6.w (by omega)) (by omega) (by omega) (by rw [ob_wI_s]; exact h20))))
  · rw [if_neg h6] at hf hv
    refine ob_bt (fun z => by have := (ob_eq (b := 8) (by omega) (by omega)).mp z; omega) (b_X9_takeClause_285 (ob_bt (by decide) (b_X9_takeClause_308 (ob_bt (by decide) (ob_bt (by decide) (ob_bf rfl ?_))))))
    rw [h22, ob_wI_n (k := 20) (b := 26) (by decide), hd.2.1, nI_1]
    have f0 : ob_f6 σ (ob_wI (ob_wI σ 53 20 (nI e)) 53 26 (nI (dr_P d + dr_B d + dr_G d + 1))) := (ob_f6.w (by omega)).tr (ob_f6.w (by omega))
    have hE0 : pi_ME (ob_wI (ob_wI σ 53 20 (nI e)) 53 26 (nI (dr_P d + dr_B d + dr_G d + 1))).1 d := by
      have h1 := hd.e.f5 (ob_f5.w (σ := σ) (k := 20) (x := nI e) (by omega))
      unfold pi_ME
      rw [ob_wI_n (k := 26) (b := 25) (by decide), ob_wI_n (k := 26) (b := 27) (by decide), ob_wI_n (k := 26) (b := 30) (by decide), ob_wI_n (k := 26) (b := 34) (by decide), ob_wI_o (i := 53) (a := 67) (by decide), ob_wI_o (i := 53) (a := 68) (by decide), ob_wI_o (i := 53) (a := 69) (by decide), ob_wI_o (i := 53) (a := 70) (by decide), ob_wI_o (i := 53) (a := 71) (by decide), ob_wI_o (i := 53) (a := 72) (by decide)]
      exact h1
    refine n_takeBirthday (ht.f6 f0) hE0 (by omega) hok hen (by rw [ob_wI_n (by decide), ob_wI_s]) (fun c p hc σ1 f1 c0 c4 a5 => ?_) (fun d' e' hc σ1 f1 hd1 a26 a20 a5 => ?_)
    · rw [hc] at hf
      exact b_X9_takeClause_370 (b_X9_takeClause_372 (ob_bt (ob_nc c0 c4) (hf c p rfl _ ((f0.tr f1).tr (ob_f6.w (by omega))) c0 c4 (by rw [ob_wI_n (by decide)]; exact a5))))
    · obtain ⟨t1, t2, t3, t4⟩ := ob_tB_ok hc hen hok h6
      rw [hc] at hf hv
      dsimp only [ob_then] at hf hv
      refine b_X9_takeClause_370 (n_tail (ht.f6 (f0.tr f1)) (hd1.d (by rw [a26, ob_wI_s, t3])) t2 a20 (fun c p hc2 σ2 f2 c0 c4 b5 => hf c p hc2 σ2 ((f0.tr f1).tr f2) c0 c4 b5) (fun e2 hc2 σ2 f2 hd2 b20 b5 => ?_))
      obtain ⟨-, u1, u2⟩ := ob_fin_ok hc2 t2
      exact hv d' e2 hc2 t4 σ2 ((f0.tr f1).tr f2) hd2 b20 u2 (by omega) (by rw [b5, a5, ob_wI_n (by decide), ob_wI_n (by decide)])
theorem n_clG {Q : Int32 → ob_Mem → Prop} {x1 x3 : Int64} {x5 : Int32} {a e : Nat} (ht : pi_MT σ.1 T n) (hd : pi_MD σ.1 d) (hok : ob_dok d) (hen : e ≤ n) (h20 : σ.1 53 20 = nI a) (h22 : σ.1 53 22 = nI e) (hf : ∀ c p, ob_clG T n d a e = .inl (c, p) → ∀ σ' : ob_Mem, ob_f6 σ σ' → 0 < c → c ≤ 4 → σ'.1 53 19 = nI p → Q (nI c) σ') (hv : ∀ d' e', ob_clG T n d a e = .inr (d', e') → ob_dok d' → ∀ σ' : ob_Mem, ob_f6 σ σ' → pi_MD σ'.1 d' → σ'.1 53 20 = nI e' → e' ≤ n → e < e' → σ'.1 53 19 = σ.1 53 19 → Q 0 σ') : ob_RT shp E oX9_takeClause 186 [.ref 53, .long x1, .null, .long x3, .null, .int x5, .null, .null] [.int 3] σ (ob_qI Q) := by
  have hP6 := hok.2.1
  have hB8 := hok.2.2.1
  have hG10 := hok.2.2.2.1
  rw [ob_clG_t] at hf hv
  refine b_X9_takeClause_186 (br_f (by decide) (ob_bt (by decide) (b_X9_takeClause_215 (ob_bt (by decide) (ob_bt (by decide) (ob_bt (by decide) ?_))))))
  rw [hd.2.2.2.2.1]
  by_cases h6 : dr_G d = 10
  · rw [if_pos h6] at hf
    exact ob_bf (by rw [h6]; rfl) (m_X9_fails (b_X9_fails_0 (hf 3 a rfl _ (ob_f6.w (by omega)) (by omega) (by omega) (by rw [ob_wI_s]; exact h20))))
  · rw [if_neg h6] at hf hv
    refine ob_bt (fun z => by have := (ob_eq (b := 10) (by omega) (by omega)).mp z; omega) (b_X9_takeClause_285 (ob_bt (by decide) (b_X9_takeClause_308 (ob_bt (by decide) (ob_bt (by decide) (ob_bt (by decide) ?_))))))
    rw [h22, ob_wI_n (k := 20) (b := 26) (by decide), hd.2.1, nI_1]
    have f0 : ob_f6 σ (ob_wI (ob_wI σ 53 20 (nI e)) 53 26 (nI (dr_P d + dr_B d + dr_G d + 1))) := (ob_f6.w (by omega)).tr (ob_f6.w (by omega))
    have hE0 : pi_ME (ob_wI (ob_wI σ 53 20 (nI e)) 53 26 (nI (dr_P d + dr_B d + dr_G d + 1))).1 d := by
      have h1 := hd.e.f5 (ob_f5.w (σ := σ) (k := 20) (x := nI e) (by omega))
      unfold pi_ME
      rw [ob_wI_n (k := 26) (b := 25) (by decide), ob_wI_n (k := 26) (b := 27) (by decide), ob_wI_n (k := 26) (b := 30) (by decide), ob_wI_n (k := 26) (b := 34) (by decide), ob_wI_o (i := 53) (a := 67) (by decide), ob_wI_o (i := 53) (a := 68) (by decide), ob_wI_o (i := 53) (a := 69) (by decide), ob_wI_o (i := 53) (a := 70) (by decide), ob_wI_o (i := 53) (a := 71) (by decide), ob_wI_o (i := 53) (a := 72) (by decide)]
      exact h1
    refine n_takeGood (ht.f6 f0) hE0 hok hen (by rw [ob_wI_n (by decide), ob_wI_s]) (fun c p hc σ1 f1 c0 c4 a5 => ?_) (fun d' e' hc σ1 f1 hd1 a26 a20 a5 => ?_)
    · rw [hc] at hf
      exact b_X9_takeClause_370 (b_X9_takeClause_372 (ob_bt (ob_nc c0 c4) (hf c p rfl _ ((f0.tr f1).tr (ob_f6.w (by omega))) c0 c4 (by rw [ob_wI_n (by decide)]; exact a5))))
    · obtain ⟨t1, t2, t3, t4⟩ := ob_tG_ok hc hen hok h6
      rw [hc] at hf hv
      dsimp only [ob_then] at hf hv
      refine b_X9_takeClause_370 (n_tail (ht.f6 (f0.tr f1)) (hd1.d (by rw [a26, ob_wI_s, t3])) t2 a20 (fun c p hc2 σ2 f2 c0 c4 b5 => hf c p hc2 σ2 ((f0.tr f1).tr f2) c0 c4 b5) (fun e2 hc2 σ2 f2 hd2 b20 b5 => ?_))
      obtain ⟨-, u1, u2⟩ := ob_fin_ok hc2 t2
      exact hv d' e2 hc2 t4 σ2 ((f0.tr f1).tr f2) hd2 b20 u2 (by omega) (by rw [b5, a5, ob_wI_n (by decide), ob_wI_n (by decide)])
theorem n_clY {Q : Int32 → ob_Mem → Prop} {x1 x3 : Int64} {x5 : Int32} {a e : Nat} (ht : pi_MT σ.1 T n) (hd : pi_MD σ.1 d) (hok : ob_dok d) (hen : e ≤ n) (h20 : σ.1 53 20 = nI a) (h22 : σ.1 53 22 = nI e) (hf : ∀ c p, ob_clY T n d a e = .inl (c, p) → ∀ σ' : ob_Mem, ob_f6 σ σ' → 0 < c → c ≤ 4 → σ'.1 53 19 = nI p → Q (nI c) σ') (hv : ∀ d' e', ob_clY T n d a e = .inr (d', e') → ob_dok d' → ∀ σ' : ob_Mem, ob_f6 σ σ' → pi_MD σ'.1 d' → σ'.1 53 20 = nI e' → e' ≤ n → e < e' → σ'.1 53 19 = σ.1 53 19 → Q 0 σ') : ob_RT shp E oX9_takeClause 186 [.ref 53, .long x1, .null, .long x3, .null, .int x5, .null, .null] [.int 0] σ (ob_qI Q) := by
  have hP6 := hok.2.1
  have hB8 := hok.2.2.1
  have hG10 := hok.2.2.2.1
  rw [ob_clY_t] at hf hv
  refine b_X9_takeClause_186 (br_f (by decide) (ob_bf rfl ?_))
  rw [hd.2.1]
  by_cases h0 : dr_P d + dr_B d + dr_G d = 0
  · rw [if_neg (fun z => z h0)] at hf hv
    refine br_t (by rw [h0]; decide) (b_X9_takeClause_215 (ob_bf rfl ?_))
    rw [hd.1]
    by_cases hY : dr_Y d = 0
    · rw [if_neg (fun z => z hY)] at hf hv
      refine br_t (by rw [hY]; decide) (b_X9_takeClause_285 (ob_bf rfl (b_X9_takeClause_308 (ob_bf rfl ?_))))
      rw [h22, ob_wI_n (k := 20) (b := 26) (by decide), hd.2.1, h0]
      have f0 : ob_f6 σ (ob_wI (ob_wI σ 53 20 (nI e)) 53 26 (nI 0 + 0)) := (ob_f6.w (by omega)).tr (ob_f6.w (by omega))
      refine n_number (lo := 2) (hi := 61) (ht.f6 f0) hen (by rw [ob_wI_n (by decide), ob_wI_s]) (by omega) (by omega) (by decide) (fun c p hn σ1 f1 a5 => ?_) (fun v p e1 hn σ1 f1 a3 ae a5 a6 a7 => ?_)
      · have hc := ob_nm_c hn
        have hT : ob_tY T n d e = .inl (c, p) := by unfold ob_tY; rw [hn]; rfl
        rw [hT] at hf
        exact b_X9_takeClause_372 (ob_bt (ob_nc (by omega) (by omega)) (hf c p rfl _ (((f0.tr f1.n).tr (ob_f6.w (by omega))).tr (ob_f6.w (by omega))) (by omega) (by omega) (by rw [ob_wI_n (by decide), ob_wI_n (by decide)]; exact a5)))
      · have hT : ob_tY T n d e = .inr (dr_setY d v, e1) := by unfold ob_tY; rw [hn]; rfl
        obtain ⟨t1, t2, t3, t4⟩ := ob_tY_ok hT hen hok h0
        rw [hT] at hf hv
        dsimp only [ob_then] at hf hv
        rw [a6]
        have f2 : ob_f6 σ (ob_wI σ1 53 25 (nI v)) := (f0.tr f1.n).tr (ob_f6.w (by omega))
        have ki : ∀ i, i ≠ 53 → (ob_wI σ1 53 25 (nI v)).1 i = σ.1 i := fun i x1 => by rw [ob_wI_o x1, f1.1 i x1, ob_wI_o x1, ob_wI_o x1]
        have kk : ∀ k, k ≠ 19 → k ≠ 20 → k ≠ 22 → k ≠ 23 → k ≠ 24 → k ≠ 25 → k ≠ 26 → (ob_wI σ1 53 25 (nI v)).1 53 k = σ.1 53 k := fun k x1 x2 x3 x4 x5 x6 x7 => by rw [ob_wI_n x6, f1.2 k x1 x2 x3 x4 x5, ob_wI_n x7, ob_wI_n x2]
        have hd2 : pi_MD (ob_wI σ1 53 25 (nI v)).1 (dr_setY d v) := by
          refine ⟨ob_wI_s, ?_, ?_, ?_, ?_, fun q hq => ?_, fun b hb => ?_, fun g hg => ?_⟩
          · rw [ob_wI_n (by decide), f1.2 26 (by decide) (by decide) (by decide) (by decide) (by decide), ob_wI_s]
            show nI 0 + 0 = nI (dr_P d + dr_B d + dr_G d)
            rw [h0]; rfl
          · rw [kk 27 (by decide) (by decide) (by decide) (by decide) (by decide) (by decide) (by decide)]; exact hd.2.2.1
          · rw [kk 30 (by decide) (by decide) (by decide) (by decide) (by decide) (by decide) (by decide)]; exact hd.2.2.2.1
          · rw [kk 34 (by decide) (by decide) (by decide) (by decide) (by decide) (by decide) (by decide)]; exact hd.2.2.2.2.1
          · rw [ki 67 (by decide), ki 68 (by decide)]; exact hd.2.2.2.2.2.1 q hq
          · rw [ki 69 (by decide), ki 70 (by decide), ki 71 (by decide)]; exact hd.2.2.2.2.2.2.1 b hb
          · rw [ki 72 (by decide)]; exact hd.2.2.2.2.2.2.2 g hg
        refine n_tail (ht.f6 f2) hd2 t2 (by rw [ob_wI_n (by decide)]; exact a3) (fun c p hc2 σ2 f3 c0 c4 b5 => hf c p hc2 σ2 (f2.tr f3) c0 c4 b5) (fun e2 hc2 σ2 f3 hd3 b20 b5 => ?_)
        obtain ⟨-, u1, u2⟩ := ob_fin_ok hc2 t2
        exact hv _ e2 hc2 t4 σ2 (f2.tr f3) hd3 b20 u2 (by omega) (by rw [b5, ob_wI_n (by decide), a5, ob_wI_n (by decide), ob_wI_n (by decide)])
    · rw [if_pos hY] at hf
      have := hok.1
      exact br_f (fun z => by have := (ob_le (b := 0) (by omega) (by omega)).mp z; omega) (m_X9_fails (b_X9_fails_0 (hf 3 a rfl _ (ob_f6.w (by omega)) (by omega) (by omega) (by rw [ob_wI_s]; exact h20))))
  · rw [if_pos h0] at hf
    exact br_f (fun z => by have := (ob_le (b := 0) (by omega) (by omega)).mp z; omega) (m_X9_fails (b_X9_fails_0 (hf 1 a rfl _ (ob_f6.w (by omega)) (by omega) (by omega) (by rw [ob_wI_s]; exact h20))))
theorem n_code {Q : Int64 → ob_Mem → Prop} {x0 x1 x2 x3 : Int32} (v : Int64) (hv : ((((27 : Int64) * ((((27 : Int64) * ((((27 : Int64) * ((x0).toInt64 - (96 : Int64))) + (x1).toInt64) - (96 : Int64))) + (x2).toInt64) - (96 : Int64))) + (x3).toInt64) - (96 : Int64)) = v) (h : Q v σ) : ob_RM shp E oX9_code [.int x0, .int x1, .int x2, .int x3] σ (ob_qL Q) := m_X9_code (b_X9_code_0 (by rw [hv]; exact h))
theorem n_takeClause {Q : Int32 → ob_Mem → Prop} {a : Nat} (ht : pi_MT σ.1 T n) (hd : pi_MD σ.1 d) (hok : ob_dok d) (ha : a ≤ n) (hsk : ob_skp ob_isB T n a = a) (h20 : σ.1 53 20 = nI a) (hf : ∀ c p, ob_cl1 100000000000000 T n d a (ob_skp ob_isL T n a) = .inl (c, p) → ∀ σ' : ob_Mem, ob_f6 σ σ' → 0 < c → c ≤ 4 → σ'.1 53 19 = nI p → Q (nI c) σ') (hv : ∀ d' e', ob_cl1 100000000000000 T n d a (ob_skp ob_isL T n a) = .inr (d', e') → ob_dok d' → ∀ σ' : ob_Mem, ob_f6 σ σ' → pi_MD σ'.1 d' → σ'.1 53 20 = nI e' → e' ≤ n → a < e' → σ'.1 53 19 = σ.1 53 19 → Q 0 σ') : ob_RM shp E oX9_takeClause [.ref 53] σ (ob_qI Q) := by
  obtain ⟨g1, g2⟩ := ob_skp_le (P := ob_isL) (T := T) a ha
  have gin := ob_skp_in (P := ob_isL) (T := T) a ha
  refine m_X9_takeClause (b_X9_takeClause_0 (n_readWord ht ha hsk h20 (fun σ1 f1 a19 a20 a22 a21 => ?_)))
  unfold ob_cl1 at hf hv
  generalize ob_skp ob_isL T n a = e at *
  have hl : ∀ i, i < e - a → 97 ≤ T (a + i) ∧ T (a + i) ≤ 122 := fun i hi => of_decide_eq_true (gin (a + i) (by omega) (by omega))
  have hw := ob_wv_le (X := 100000000000000) (T := T) (a := a) (e - a) (fun i hi => (hl i hi).2)
  generalize ob_wv 100000000000000 T a (e - a) = w at *
  have hcd : ∀ j : Fin 4, ob_code j.val < 2 ^ 63 := by decide +kernel
  have iff : ∀ j, j < 4 → (lN w = lN (ob_code j) ↔ w = ob_code j) := fun j hj => pk_lEQ (by omega) (hcd ⟨j, hj⟩)
  have ht1 := ht.f5 f1
  have hd1 := hd.f5 f1
  refine n_code (lN (27 * (27 * (27 * 2 + 9) + 18) + 20)) (by decide +kernel) ?_
  rintro w4 rfl
  refine n_code (lN (ob_code 0)) (by decide +kernel) ?_
  rw [a21]
  by_cases c0 : w = ob_code 0
  · rw [if_pos c0] at hf hv
    refine ob_bf ((iff 0 (by decide)).mpr c0) (b_X9_takeClause_137 (br_f (by decide) (n_clY ht1 hd1 hok g2 a20 a22 (fun c p hc σ2 f2 c0 c4 b5 => hf c p hc σ2 (f1.n.tr f2) c0 c4 b5) (fun d' e' hc ok' σ2 f2 hd2 b20 be bl b5 => hv d' e' hc ok' σ2 (f1.n.tr f2) hd2 b20 be (by omega) (by rw [b5, a19])))))
  · rw [if_neg c0] at hf hv
    refine ob_bt (fun z => c0 ((iff 0 (by decide)).mp z)) (n_code (lN (27 * (27 * (27 * 16 + 5) + 18) + 19)) (by decide +kernel) ?_)
    rw [show ((((27 : Int64) * ((((27 : Int64) * lN (27 * (27 * (27 * 16 + 5) + 18) + 19)) + (111 : Int64)) - (96 : Int64))) + (110 : Int64)) - (96 : Int64)) = lN (ob_code 1) from by decide +kernel]
    by_cases c1 : w = ob_code 1
    · rw [if_pos c1] at hf hv
      refine ob_bf ((iff 1 (by decide)).mpr c1) (b_X9_takeClause_137 (br_f (by decide) (n_clP ht1 hd1 hok g2 a20 a22 (fun c p hc σ2 f2 c0 c4 b5 => hf c p hc σ2 (f1.n.tr f2) c0 c4 b5) (fun d' e' hc ok' σ2 f2 hd2 b20 be bl b5 => hv d' e' hc ok' σ2 (f1.n.tr f2) hd2 b20 be (by omega) (by rw [b5, a19])))))
    · rw [if_neg c1] at hf hv
      refine ob_bt (fun z => c1 ((iff 1 (by decide)).mp z)) (b_X9_takeClause_137 (br_t (by decide) ?_))
      rw [a21, show ((((27 : Int64) * ((((27 : Int64) * ((((27 : Int64) * ((((27 : Int64) * lN (27 * (27 * (27 * 2 + 9) + 18) + 20)) + (104 : Int64)) - (96 : Int64))) + (100 : Int64)) - (96 : Int64))) + (97 : Int64)) - (96 : Int64))) + (121 : Int64)) - (96 : Int64)) = lN (ob_code 2) from by decide +kernel]
      by_cases c2 : w = ob_code 2
      · rw [if_pos c2] at hf hv
        refine ob_bf ((iff 2 (by decide)).mpr c2) (n_clB ht1 hd1 hok g2 a20 a22 (fun c p hc σ2 f2 c0 c4 b5 => hf c p hc σ2 (f1.n.tr f2) c0 c4 b5) (fun d' e' hc ok' σ2 f2 hd2 b20 be bl b5 => hv d' e' hc ok' σ2 (f1.n.tr f2) hd2 b20 be (by omega) (by rw [b5, a19])))
      · rw [if_neg c2] at hf hv
        refine ob_bt (fun z => c2 ((iff 2 (by decide)).mp z)) (n_code (lN (ob_code 3)) (by decide +kernel) ?_)
        by_cases c3 : w = ob_code 3
        · rw [if_pos c3] at hf hv
          refine ob_bf ((iff 3 (by decide)).mpr c3) (n_clG ht1 hd1 hok g2 a20 a22 (fun c p hc σ2 f2 c0 c4 b5 => hf c p hc σ2 (f1.n.tr f2) c0 c4 b5) (fun d' e' hc ok' σ2 f2 hd2 b20 be bl b5 => hv d' e' hc ok' σ2 (f1.n.tr f2) hd2 b20 be (by omega) (by rw [b5, a19])))
        · rw [if_neg c3] at hf
          refine ob_bt (fun z => c3 ((iff 3 (by decide)).mp z)) (b_X9_takeClause_186 (br_t (by decide) (m_X9_fails (b_X9_fails_0 (hf 1 a rfl _ (f1.n.tr (ob_f6.w (by omega))) (by omega) (by omega) (by rw [ob_wI_s]; exact a20))))))
end MT
