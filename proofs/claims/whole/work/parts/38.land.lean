/-! land -/
section LA
variable {E : ob_E} {σ : ob_Mem} {T : Nat → Nat} {n : Nat}
theorem n_clauses {Q : Int32 → ob_Mem → Prop} {R : (Nat × Nat) ⊕ DrT} (ht : pi_MT σ.1 T n) (hf : ∀ c p, R = .inl (c, p) → ∀ σ' : ob_Mem, ob_f6 σ σ' → 0 < c → c ≤ 4 → σ'.1 53 19 = nI p → ob_RT shp E oX9_land 77 [.ref 53, .int (nI c), .null] [] σ' (ob_qI Q)) (hv : ∀ d, R = .inr d → ob_dok d → ∀ σ' : ob_Mem, ob_f6 σ σ' → pi_MD σ'.1 d → σ'.1 53 19 = -1 → ob_RT shp E oX9_land 77 [.ref 53, .int 0, .null] [] σ' (ob_qI Q)) : ∀ (f : Nat) (τ : ob_Mem) (d : DrT) (a : Nat), ob_f6 σ τ → pi_MD τ.1 d → ob_dok d → a ≤ n → n ≤ a + f → τ.1 53 20 = nI a → τ.1 53 19 = -1 → ob_run 100000000000000 T n f d (ob_skp ob_isB T n a) = R → ob_RT shp E oX9_land 58 [.ref 53, .int 0, .null] [] τ (ob_qI Q) := by
  have hn := ht.1
  intro f
  induction f with
  | zero =>
    intro τ d a f0 hd hok ha hna h20 h19 hr
    obtain ⟨g1, g2⟩ := ob_skp_le (P := ob_isB) (T := T) a ha
    refine b_X9_land_58 (ob_bf rfl (n_here (ht.f6 f0) ha h20 (fun σ1 f1 q1 e1 => ⟨fun hs hc => absurd hs (by omega), fun hs => ?_⟩)))
    rw [ob_run_e hs] at hr
    exact br_t (by decide) (hv d hr.symm hok σ1 (f0.tr f1.n) (hd.f5 f1) (by rw [q1 19 (by decide)]; exact h19))
  | succ f ih =>
    intro τ d a f0 hd hok ha hna h20 h19 hr
    obtain ⟨g1, g2⟩ := ob_skp_le (P := ob_isB) (T := T) a ha
    have hid := ob_skp_id (P := ob_isB) (T := T) ha
    refine b_X9_land_58 (ob_bf rfl (n_here (ht.f6 f0) ha h20 (fun σ1 f1 q1 e1 => ?_)))
    generalize ob_skp ob_isB T n a = s at *
    refine ⟨fun hs hc => ?_, fun hs => ?_⟩
    · have f2 := f0.tr f1.n
      refine br_f (ob_nneg (by omega)) (n_takeClause (ht.f6 f2) (hd.f5 f1) hok g2 hid e1 (fun c p hcl σ2 f3 c0 c4 b5 => ?_) (fun d' e' hcl ok' σ2 f3 hd2 b20 be bl b5 => ?_))
      · rw [ob_run_f hs hcl] at hr
        exact b_X9_land_58 (ob_bt (ob_nc c0 c4) (hf c p hr.symm σ2 (f2.tr f3) c0 c4 b5))
      · rw [ob_run_s hs hcl] at hr
        exact ih σ2 d' e' (f2.tr f3) hd2 ok' be (by omega) b20 (by rw [b5, q1 19 (by decide)]; exact h19) hr
    · rw [ob_run_e hs] at hr
      exact br_t (by decide) (hv d hr.symm hok σ1 (f0.tr f1.n) (hd.f5 f1) (by rw [q1 19 (by decide)]; exact h19))
/-- the draft becomes the reference's land -/
theorem n_become {Q : Int32 → ob_Mem → Prop} {x1 : Int32} {s : StT} {d : DrT} (hok : ob_dok d) (hd : pi_MD σ.1 d) (hx : σ.1 53 16 = st_x s) (hN : σ.1 53 0 = nI (dr_N d)) (hP : σ.1 53 1 = nI (dr_P d)) (hB : σ.1 53 4 = nI (dr_B d)) (hv : ∀ σ' : ob_Mem, (∀ i, i ≠ 53 → ¬ (54 ≤ i ∧ i ≤ 65) → i ≠ 83 → σ'.1 i = σ.1 i) → (∀ k, k ≠ 9 → k ≠ 42 → σ'.1 53 k = σ.1 53 k) → σ'.1 53 42 = 0 → σ'.1 83 0 = 0 → σ'.1 83 1 = 0 → pi_ML σ'.1 (ob_ld d) → pi_MS σ'.1 (ob_ld d) (ob_bs (ob_ld d) s) → Q (nI (dr_P d)) σ') : ob_RT shp E oX9_land 129 [.ref 53, .int x1, .int (nI 0)] [] σ (ob_qI Q) := by
  have hP6 := hok.2.1
  have hB8 := hok.2.2.1
  have hl := ob_ld_ok hok
  have b0 : vp_nar .boolean 0 = 0 := by decide
  have z0 : ((0 : Int32)).toNatClampNeg = 0 := by decide
  have z1 : ((1 : Int32)).toNatClampNeg = 1 := by decide
  have three : ∀ τ : ob_Mem, (∀ i, ¬ (54 ≤ i ∧ i ≤ 59) → τ.1 i = σ.1 i) → (∀ q, q < 6 → τ.1 54 q = σ.1 67 q ∧ τ.1 55 q = σ.1 68 q) → (∀ q, q < 8 → τ.1 56 q = σ.1 69 q ∧ τ.1 57 q = σ.1 70 q ∧ τ.1 58 q = σ.1 71 q) → ob_RT shp E oX9_land 217 [.ref 53, .int x1, .int (nI 0)] [] τ (ob_qI Q) := by
    intro τ r g w
    refine ob_loop0 (T := fun i => ∀ τ : ob_Mem, (∀ i, ¬ (54 ≤ i ∧ i ≤ 59) → τ.1 i = σ.1 i) → (∀ q, q < 6 → τ.1 54 q = σ.1 67 q ∧ τ.1 55 q = σ.1 68 q) → (∀ q, q < 8 → τ.1 56 q = σ.1 69 q ∧ τ.1 57 q = σ.1 70 q ∧ τ.1 58 q = σ.1 71 q) → (∀ q, q < i → τ.1 59 q = nI ((dr_g d q).getD 0)) → ob_RT shp E oX9_land 217 [.ref 53, .int x1, .int (nI i)] [] τ (ob_qI Q)) (B := 121) ?_ ?_ τ r g w (fun q hq => by omega)
    · intro τ r g w u
      refine b_X9_land_217 (br_t (by decide) ?_)
      rw [z0, z1, b0]
      rintro σ1 rfl σ2 rfl
      have hML : pi_ML (ob_wI (ob_wI (ob_wI τ 53 42 0) 83 0 0) 83 1 0).1 (ob_ld d) := by
        refine ⟨?_, ?_, ?_, fun p hp => ?_, fun b hb => ?_, fun a ha => ?_⟩
        · rw [ob_wI_o (by decide), ob_wI_o (by decide), ob_wI_n (by decide), r 53 (by decide)]; exact hN
        · rw [ob_wI_o (by decide), ob_wI_o (by decide), ob_wI_n (by decide), r 53 (by decide)]; exact hP
        · rw [ob_wI_o (by decide), ob_wI_o (by decide), ob_wI_n (by decide), r 53 (by decide)]; exact hB
        · have hp : p < dr_P d := hp
          rw [ob_wI_o (by decide), ob_wI_o (by decide), ob_wI_o (by decide), ob_wI_o (by decide), ob_wI_o (by decide), ob_wI_o (by decide), (g p (by omega)).1, (g p (by omega)).2]
          exact hd.2.2.2.2.2.1 p hp
        · have hb : b < dr_B d := hb
          rw [ob_wI_o (i := 83) (a := 56) (by decide), ob_wI_o (i := 83) (a := 56) (by decide), ob_wI_o (i := 53) (a := 56) (by decide), ob_wI_o (i := 83) (a := 57) (by decide), ob_wI_o (i := 83) (a := 57) (by decide), ob_wI_o (i := 53) (a := 57) (by decide), ob_wI_o (i := 83) (a := 58) (by decide), ob_wI_o (i := 83) (a := 58) (by decide), ob_wI_o (i := 53) (a := 58) (by decide), (w b (by omega)).1, (w b (by omega)).2.1, (w b (by omega)).2.2]
          exact hd.2.2.2.2.2.2.1 b hb
        · rw [ob_wI_o (by decide), ob_wI_o (by decide), ob_wI_o (by decide), u a (by omega)]
          show _ = nI (if a ≤ 120 then (dr_g d a).getD 0 else 0)
          rw [if_pos ha]
      refine n_begin (s := s) hl hML (by rw [ob_wI_o (by decide), ob_wI_o (by decide), ob_wI_n (by decide), r 53 (by decide)]; exact hx) (fun σ3 r3 f3 hMS3 => ?_)
      have hr : ∀ i, i ≠ 53 → ¬ (54 ≤ i ∧ i ≤ 65) → i ≠ 83 → σ3.1 i = σ.1 i := fun i a b c => by rw [r3 i a (by omega), ob_wI_o c, ob_wI_o c, ob_wI_o a, r i (by omega)]
      have hk : ∀ k, k ≠ 9 → k ≠ 42 → σ3.1 53 k = σ.1 53 k := fun k a b => by rw [f3 k a, ob_wI_o (by decide), ob_wI_o (by decide), ob_wI_n b, r 53 (by decide)]
      rw [hk 1 (by decide) (by decide), hP]
      refine hv σ3 hr hk ?_ ?_ ?_ (hML.to (fun i a b => r3 i (by omega) (by omega)) (fun k hk => f3 k (by omega))) hMS3
      · rw [f3 42 (by decide), ob_wI_o (by decide), ob_wI_o (by decide), ob_wI_s]
      · rw [r3 83 (by decide) (by decide), ob_wI_n (by decide), ob_wI_s]
      · rw [r3 83 (by decide) (by decide), ob_wI_s]
    · intro i hi ih τ r g w u
      have hin : vp_in (nI i) 121 := ob_in (by omega) (by omega)
      have e72 : τ.1 72 i = ob_oI (dr_g d i) := by rw [r 72 (by decide)]; exact hd.2.2.2.2.2.2.2 i (by omega)
      have put : ∀ y : Int32, y = nI ((dr_g d i).getD 0) → ob_RT shp E oX9_land 217 [.ref 53, .int x1, .int (nI (i + 1))] [] (ob_wI τ 59 i y) (ob_qI Q) := by
        intro y hy
        refine ih _ (fun j a => by rw [ob_wI_o (by omega)]; exact r j a) (fun q hq => ?_) (fun q hq => ?_) (fun q hq => ?_)
        · rw [ob_wI_o (by decide), ob_wI_o (by decide)]; exact g q hq
        · rw [ob_wI_o (by decide), ob_wI_o (by decide), ob_wI_o (by decide)]; exact w q hq
        · by_cases e : q = i
          · rw [e, ob_wI_s]; exact hy
          · rw [ob_wI_n e]; exact u q (by omega)
      refine b_X9_land_217 (br_f (fun q => by rw [show (121 : Int32) = nI 121 from rfl, ob_le (by omega) (by omega)] at q; omega) ⟨hin, ?_⟩)
      rw [ob_cl (n := i) (by omega), nI_1, e72]
      cases hg : dr_g d i with
      | none => exact br_f (by decide) ⟨hin, put 0 (by rw [hg]; rfl)⟩
      | some v => exact br_t (ob_pos (by have := hok.2.2.2.2.2.2 i v hg; omega)) ⟨hin, hin, put _ (by rw [hg]; rfl)⟩
  have two : ∀ τ : ob_Mem, (∀ i, ¬ (54 ≤ i ∧ i ≤ 59) → τ.1 i = σ.1 i) → (∀ q, q < 6 → τ.1 54 q = σ.1 67 q ∧ τ.1 55 q = σ.1 68 q) → ob_RT shp E oX9_land 167 [.ref 53, .int x1, .int (nI 0)] [] τ (ob_qI Q) := by
    intro τ r g
    refine ob_loop0 (T := fun i => ∀ τ : ob_Mem, (∀ i, ¬ (54 ≤ i ∧ i ≤ 59) → τ.1 i = σ.1 i) → (∀ q, q < 6 → τ.1 54 q = σ.1 67 q ∧ τ.1 55 q = σ.1 68 q) → (∀ q, q < i → τ.1 56 q = σ.1 69 q ∧ τ.1 57 q = σ.1 70 q ∧ τ.1 58 q = σ.1 71 q) → ob_RT shp E oX9_land 167 [.ref 53, .int x1, .int (nI i)] [] τ (ob_qI Q)) (B := 8) ?_ ?_ τ r g (fun q hq => by omega)
    · intro τ r g w
      exact b_X9_land_167 (br_t (by decide) (three τ r g w))
    · intro i hi ih τ r g w
      have hin : vp_in (nI i) 8 := ob_in (by omega) (by omega)
      refine b_X9_land_167 (br_f (fun q => by rw [show (8 : Int32) = nI 8 from rfl, ob_le (by omega) (by omega)] at q; omega) ⟨hin, hin, hin, hin, ?_⟩)
      rw [ob_cl (n := i) (by omega), nI_1]
      rintro σ1 rfl
      refine ⟨hin, hin, ih _ (fun j a => ?_) (fun q hq => ?_) (fun q hq => ?_)⟩
      · rw [ob_wI_o (by omega), ob_wI_o (by omega), ob_wI_o (by omega)]; exact r j a
      · rw [ob_wI_o (by decide), ob_wI_o (by decide), ob_wI_o (by decide), ob_wI_o (by decide), ob_wI_o (by decide), ob_wI_o (by decide)]; exact g q hq
      · rw [ob_wI_o (i := 58) (a := 56) (by decide), ob_wI_o (i := 57) (a := 56) (by decide), ob_wI_o (i := 58) (a := 57) (by decide)]
        by_cases e : q = i
        · rw [e, ob_wI_s, ob_wI_s, ob_wI_s, ob_wI_o (i := 56) (a := 70) (by decide), ob_wI_o (i := 57) (a := 71) (by decide), ob_wI_o (i := 56) (a := 71) (by decide), r 69 (by decide), r 70 (by decide), r 71 (by decide)]
          exact ⟨rfl, rfl, rfl⟩
        · rw [ob_wI_n e, ob_wI_n e, ob_wI_n e, ob_wI_o (i := 56) (a := 57) (by decide), ob_wI_o (i := 57) (a := 58) (by decide), ob_wI_o (i := 56) (a := 58) (by decide)]
          exact w q (by omega)
  refine ob_loop0 (T := fun i => ∀ τ : ob_Mem, (∀ i, ¬ (54 ≤ i ∧ i ≤ 59) → τ.1 i = σ.1 i) → (∀ q, q < i → τ.1 54 q = σ.1 67 q ∧ τ.1 55 q = σ.1 68 q) → ob_RT shp E oX9_land 129 [.ref 53, .int x1, .int (nI i)] [] τ (ob_qI Q)) (B := 6) ?_ ?_ σ (fun _ _ => rfl) (fun q hq => by omega)
  · intro τ r g
    exact b_X9_land_129 (br_t (by decide) (two τ r g))
  · intro i hi ih τ r g
    have hin : vp_in (nI i) 6 := ob_in (by omega) (by omega)
    refine b_X9_land_129 (br_f (fun q => by rw [show (6 : Int32) = nI 6 from rfl, ob_le (by omega) (by omega)] at q; omega) ⟨hin, hin, hin, hin, ?_⟩)
    rw [ob_cl (n := i) (by omega), nI_1]
    rintro σ1 rfl
    refine ih _ (fun j a => ?_) (fun q hq => ?_)
    · rw [ob_wI_o (by omega), ob_wI_o (by omega)]; exact r j a
    · rw [ob_wI_o (i := 55) (a := 54) (by decide)]
      by_cases e : q = i
      · rw [e, ob_wI_s, ob_wI_s, ob_wI_o (i := 54) (a := 68) (by decide), r 67 (by decide), r 68 (by decide)]
        exact ⟨rfl, rfl⟩
      · rw [ob_wI_n e, ob_wI_n e, ob_wI_o (i := 54) (a := 55) (by decide)]
        exact g q (by omega)
theorem n_land {Q : Int32 → ob_Mem → Prop} {s : StT} (ht : pi_MT σ.1 T n) (hx : σ.1 53 16 = st_x s) (hf : ∀ c p, ob_run 100000000000000 T n 500 dr_0 (ob_skp ob_isB T n 0) = .inl (c, p) → ∀ σ' : ob_Mem, (∀ i, i ≠ 53 → ¬ (67 ≤ i ∧ i ≤ 72) → σ'.1 i = σ.1 i) → (∀ k, (k < 18 ∨ 34 < k) → σ'.1 53 k = σ.1 53 k) → σ'.1 53 18 = 0 → σ'.1 53 19 = nI p → Q ((-10 : Int32) - nI c) σ') (hv : ∀ d, ob_run 100000000000000 T n 500 dr_0 (ob_skp ob_isB T n 0) = .inr d → ob_dok d → ∀ σ' : ob_Mem, (∀ i, i ≠ 53 → ¬ (54 ≤ i ∧ i ≤ 65) → ¬ (67 ≤ i ∧ i ≤ 72) → i ≠ 83 → σ'.1 i = σ.1 i) → σ'.1 53 18 = 0 → σ'.1 53 19 = -1 → σ'.1 53 42 = 0 → σ'.1 83 0 = 0 → σ'.1 83 1 = 0 → pi_ML σ'.1 (ob_ld d) → pi_MS σ'.1 (ob_ld d) (ob_bs (ob_ld d) s) → Q (nI (dr_P d)) σ') : ob_RM shp E oX9_land [.ref 53] σ (ob_qI Q) := by
  have hn := ht.1
  refine m_X9_land (b_X9_land_0 ?_)
  rintro σ1 rfl σ2 rfl
  generalize hμ : ob_wI (ob_wI (ob_wI (ob_wI (ob_wI (ob_wI (ob_wI σ 53 19 (-1 : Int32)) 53 20 (0 : Int32)) 53 25 (0 : Int32)) 53 26 (0 : Int32)) 53 27 (0 : Int32)) 53 30 (0 : Int32)) 53 34 (0 : Int32) = μ
  have m1 : ∀ i, i ≠ 53 → μ.1 i = σ.1 i := fun i hi => by rw [← hμ, ob_wI_o hi, ob_wI_o hi, ob_wI_o hi, ob_wI_o hi, ob_wI_o hi, ob_wI_o hi, ob_wI_o hi]
  have m2 : ∀ k, (k < 19 ∨ 34 < k) → μ.1 53 k = σ.1 53 k := fun k hk => by rw [← hμ, ob_wI_n (by omega), ob_wI_n (by omega), ob_wI_n (by omega), ob_wI_n (by omega), ob_wI_n (by omega), ob_wI_n (by omega), ob_wI_n (by omega)]
  have m19 : μ.1 53 19 = -1 := by rw [← hμ, ob_wI_n (by decide), ob_wI_n (by decide), ob_wI_n (by decide), ob_wI_n (by decide), ob_wI_n (by decide), ob_wI_n (by decide), ob_wI_s]
  have m20 : μ.1 53 20 = nI 0 := by rw [← hμ, ob_wI_n (by decide), ob_wI_n (by decide), ob_wI_n (by decide), ob_wI_n (by decide), ob_wI_n (by decide), ob_wI_s]; rfl
  have m25 : μ.1 53 25 = 0 := by rw [← hμ, ob_wI_n (by decide), ob_wI_n (by decide), ob_wI_n (by decide), ob_wI_n (by decide), ob_wI_s]
  have m26 : μ.1 53 26 = 0 := by rw [← hμ, ob_wI_n (by decide), ob_wI_n (by decide), ob_wI_n (by decide), ob_wI_s]
  have m27 : μ.1 53 27 = 0 := by rw [← hμ, ob_wI_n (by decide), ob_wI_n (by decide), ob_wI_s]
  have m30 : μ.1 53 30 = 0 := by rw [← hμ, ob_wI_n (by decide), ob_wI_s]
  have m34 : μ.1 53 34 = 0 := by rw [← hμ, ob_wI_s]
  clear hμ
  refine ob_loop0 (T := fun i => ∀ τ : ob_Mem, (∀ i, i ≠ 72 → τ.1 i = μ.1 i) → (∀ q, q < i → τ.1 72 q = -1) → ob_RT shp E oX9_land 37 [.ref 53, .int (nI i), .null] [] τ (ob_qI Q)) (B := 121) ?_ ?_ μ (fun _ _ => rfl) (fun q hq => by omega)
  · intro τ r g
    refine b_X9_land_37 (br_t (by decide) ?_)
    have f0 : ob_f6 σ τ := ⟨fun i a b => by rw [r i (by omega), m1 i a], fun k hk => by rw [r 53 (by decide), m2 k hk]⟩
    refine n_clauses (R := ob_run 100000000000000 T n 500 dr_0 (ob_skp ob_isB T n 0)) ht (fun c p hr σ' f' c0 c4 a5 => ?_) (fun d hr hok σ' f' hd a5 => ?_) 500 τ dr_0 0 f0 ⟨?_, ?_, ?_, ?_, ?_, fun p hp => absurd hp (Nat.not_lt_zero _), fun b hb => absurd hb (Nat.not_lt_zero _), fun a ha => ?_⟩ ob_dok0 (Nat.zero_le _) (by omega) (by rw [r 53 (by decide)]; exact m20) (by rw [r 53 (by decide)]; exact m19) rfl
    · refine b_X9_land_77 (br_f (ob_np c0 c4) (hf c p hr _ (fun i a b => by rw [ob_wI_o a]; exact f'.1 i a b) (fun k hk => by rw [ob_wI_n (by omega)]; exact f'.2 k (by omega)) ob_wI_s (by rw [ob_wI_n (by decide)]; exact a5)))
    · have hd18 : pi_MD (ob_wI σ' 53 18 0).1 d := by
        unfold pi_MD
        rw [ob_wI_n (k := 18) (b := 25) (by decide), ob_wI_n (k := 18) (b := 26) (by decide), ob_wI_n (k := 18) (b := 27) (by decide), ob_wI_n (k := 18) (b := 30) (by decide), ob_wI_n (k := 18) (b := 34) (by decide), ob_wI_o (i := 53) (a := 67) (by decide), ob_wI_o (i := 53) (a := 68) (by decide), ob_wI_o (i := 53) (a := 69) (by decide), ob_wI_o (i := 53) (a := 70) (by decide), ob_wI_o (i := 53) (a := 71) (by decide), ob_wI_o (i := 53) (a := 72) (by decide)]
        exact hd
      have x16 : (ob_wI σ' 53 18 0).1 53 16 = st_x s := by rw [ob_wI_n (by decide), f'.2 16 (by omega)]; exact hx
      have x19 : (ob_wI σ' 53 18 0).1 53 19 = -1 := by rw [ob_wI_n (by decide)]; exact a5
      have x18 : (ob_wI σ' 53 18 0).1 53 18 = 0 := ob_wI_s
      have xi : ∀ i, i ≠ 53 → ¬ (67 ≤ i ∧ i ≤ 72) → (ob_wI σ' 53 18 0).1 i = σ.1 i := fun i a b => by rw [ob_wI_o a]; exact f'.1 i a b
      refine b_X9_land_77 (br_t (by decide) ?_)
      rw [hd18.1]
      generalize ob_wI σ' 53 18 0 = ν at *
      have go : ∀ s0 : Int32, s0 = nI (dr_N d) → ob_RT shp E oX9_land 108 [.ref 53, .int 0, .null] [.int s0, .ref 53] ν (ob_qI Q) := by
        rintro s0 rfl
        refine b_X9_land_108 ?_
        rintro σ3 rfl
        rw [ob_wI_n (k := 0) (b := 27) (by decide), ob_wI_n (k := 1) (b := 30) (by decide), ob_wI_n (k := 0) (b := 30) (by decide), hd18.2.2.1, hd18.2.2.2.1]
        have y1 : ∀ i, i ≠ 53 → (ob_wI (ob_wI (ob_wI ν 53 0 (nI (dr_N d))) 53 1 (nI (dr_P d))) 53 4 (nI (dr_B d))).1 i = ν.1 i := fun i a => by rw [ob_wI_o a, ob_wI_o a, ob_wI_o a]
        have y2 : ∀ k, 4 < k → (ob_wI (ob_wI (ob_wI ν 53 0 (nI (dr_N d))) 53 1 (nI (dr_P d))) 53 4 (nI (dr_B d))).1 53 k = ν.1 53 k := fun k a => by rw [ob_wI_n (by omega), ob_wI_n (by omega), ob_wI_n (by omega)]
        refine n_become (s := s) hok ?_ (by rw [y2 16 (by decide)]; exact x16) (by rw [ob_wI_n (by decide), ob_wI_n (by decide), ob_wI_s]) (by rw [ob_wI_n (by decide), ob_wI_s]) ob_wI_s (fun σ4 r4 k4 z1 z2 z3 hML hMS => hv d hr hok σ4 (fun i a b c e => by rw [r4 i a b e, y1 i a, xi i a c]) (by rw [k4 18 (by decide) (by decide), y2 18 (by decide)]; exact x18) (by rw [k4 19 (by decide) (by decide), y2 19 (by decide)]; exact x19) z1 z2 z3 hML hMS)
        unfold pi_MD
        rw [y2 25 (by decide), y2 26 (by decide), y2 27 (by decide), y2 30 (by decide), y2 34 (by decide), y1 67 (by decide), y1 68 (by decide), y1 69 (by decide), y1 70 (by decide), y1 71 (by decide), y1 72 (by decide)]
        exact hd18
      by_cases hY : dr_Y d = 0
      · exact br_t (by rw [hY]; decide) (go _ (by unfold dr_N; rw [if_pos hY]; rfl))
      · have := hok.1
        exact br_f (fun z => by have := (ob_le (b := 0) (by omega) (by omega)).mp z; omega) (go _ (by unfold dr_N; rw [if_neg hY]))
    · rw [r 53 (by decide)]; exact m25
    · rw [r 53 (by decide)]; exact m26
    · rw [r 53 (by decide)]; exact m27
    · rw [r 53 (by decide)]; exact m30
    · rw [r 53 (by decide)]; exact m34
    · exact g a (by omega)
  · intro i hi ih τ r g
    refine b_X9_land_37 (br_f (fun q => by rw [show (121 : Int32) = nI 121 from rfl, ob_le (by omega) (by omega)] at q; omega) ⟨ob_in (by omega) (by omega), ?_⟩)
    rw [ob_cl (n := i) (by omega), nI_1]
    refine ih _ (fun j a => by rw [ob_wI_o a]; exact r j a) (fun q hq => ?_)
    by_cases e : q = i
    · rw [e, ob_wI_s]
    · rw [ob_wI_n e]; exact g q (by omega)
end LA
theorem pr_land : ob_PAIR oX8_land oX9_land [] := by
  intro E c σ hc hR
  obtain ⟨l, s, kp, im, tn, td, hl, hs, hCL, hML, hCS, hMS, hIM, hTD, hTX, hF⟩ := hR
  obtain ⟨n, hn, t1, t2, t3⟩ := hTX
  have tT : ∀ i, i < n → (σ.1 66 i).toNatClampNeg < 256 ∧ σ.1 66 i = nI (σ.1 66 i).toNatClampNeg ∧ σ.1 2 i = ob_c8 (σ.1 66 i).toNatClampNeg := by
    intro i hi
    obtain ⟨ch, c1, c2, c3⟩ := t3 i hi
    have e : (σ.1 66 i).toNatClampNeg = ch := by rw [c2, ob_cl (by omega)]
    rw [e]
    exact ⟨c1, c2, c3⟩
  generalize hTd : (fun i => (σ.1 66 i).toNatClampNeg) = T at *
  have tT : ∀ i, i < n → T i < 256 ∧ σ.1 66 i = nI (T i) ∧ σ.1 2 i = ob_c8 (T i) := by subst hTd; exact tT
  have hCT : pi_CT σ.1 T n := ⟨hn, t1, fun i hi => ⟨(tT i hi).1, (tT i hi).2.2⟩⟩
  refine m_X8_land (b_X8_land_0 (k_readAll hCT (fun cf p hr σ1 r1 a2 c0 c4 a5 => ?_) (fun d hr hok σ1 r1 _ hd a2 a5 => ?_)))
  · rw [a5]
    have r2 : ∀ i, i ≠ 0 → i ≠ 1 → ¬ (3 ≤ i ∧ i ≤ 9) → (ob_wI σ1 0 11 (nI p)).1 i = σ.1 i := fun i a b e => by rw [ob_wI_o a, r1 i b e]
    have hMT : pi_MT (ob_wI σ1 0 11 (nI p)).1 T n := ⟨hn, by rw [r2 53 (by decide) (by decide) (by decide)]; exact t2, fun i hi => by rw [r2 66 (by decide) (by decide) (by decide)]; exact ⟨(tT i hi).1, (tT i hi).2.1⟩⟩
    refine br_f (ob_nc c0 c4) (n_land (s := s) hMT (by rw [r2 53 (by decide) (by decide) (by decide)]; exact hMS.2.1) (fun c' p' hr' σ2 q1 q2 q3 q4 => ?_) (fun d hr' => by rw [hr] at hr'; cases hr'))
    rw [hr] at hr'
    cases hr'
    refine ⟨rfl, ?_⟩
    have r : ∀ i, i ≠ 0 → i ≠ 1 → ¬ (3 ≤ i ∧ i ≤ 9) → i ≠ 53 → ¬ (67 ≤ i ∧ i ≤ 72) → σ2.1 i = σ.1 i := fun i x1 x2 x3 x4 x5 => by rw [q1 i x4 x5, r2 i x1 x2 x3]
    have k53 : ∀ k, (k < 18 ∨ 34 < k) → σ2.1 53 k = σ.1 53 k := fun k hk => by rw [q2 k hk, r2 53 (by decide) (by decide) (by decide)]
    refine ⟨l, s, kp, im, tn, td, hl, hs.mono (Nat.le_succ c), hCL.to (fun i a b => r i (by omega) (by omega) (by omega) (by omega) (by omega)) (fun k hk => by rw [r 10 (by decide) (by decide) (by decide) (by decide) (by decide)]), hML.to (fun i a b => r i (by omega) (by omega) (by omega) (by omega) (by omega)) (fun k hk => k53 k (by omega)), hCS.to (fun i a b => r i (by omega) (by omega) (by omega) (by omega) (by omega)) (fun k hk => by rw [r 17 (by decide) (by decide) (by decide) (by decide) (by decide)]), hMS.to (fun i a b => r i (by omega) (by omega) (by omega) (by omega) (by omega)) (fun k hk => k53 k (by omega)), (hIM.mono (Nat.le_succ c)).to (fun i hi => r i (by omega) (by omega) (by omega) (by omega) (by omega)) (fun i k hk => by rw [r i (by omega) (by omega) (by omega) (by omega) (by omega)]) ?_, hTD.to (fun i hi => r i (by omega) (by omega) (by omega) (by omega) (by omega)) (by rw [r 35 (by decide) (by decide) (by decide) (by decide) (by decide)]) (k53 42 (by omega)), ⟨0, by omega, ?_, q3, fun i hi => absurd hi (Nat.not_lt_zero _)⟩, ?_⟩
    · rw [q1 0 (by decide) (by decide), ob_wI_n (by decide), r1 0 (by decide) (by decide)]
    · rw [q1 1 (by decide) (by decide), ob_wI_o (by decide)]; exact a2
    · rw [q1 0 (by decide) (by decide), ob_wI_s, q4]
  · rw [a5]
    have hd2 : pi_CD (ob_wI σ1 0 11 (-1)).1 d := by
      unfold pi_CD
      rw [ob_wI_o (i := 0) (a := 3) (by decide), ob_wI_o (i := 0) (a := 1) (by decide), ob_wI_o (i := 0) (a := 4) (by decide), ob_wI_o (i := 0) (a := 5) (by decide), ob_wI_o (i := 0) (a := 6) (by decide), ob_wI_o (i := 0) (a := 7) (by decide), ob_wI_o (i := 0) (a := 8) (by decide), ob_wI_o (i := 0) (a := 9) (by decide)]
      exact hd
    have hl' := ob_ld_ok hok
    refine br_t rfl (k_likeLand hd2 hok (fun σ2 r2 hCL2 => k_startAnew (s := s) hl' hCL2 ?_ (fun σ3 r3 hCS3 => ?_)))
    · rw [r2 17 (by decide), ob_wI_o (by decide), r1 17 (by decide) (by decide)]; exact hCS.2.2.1
    · have r4 : ∀ i, i ≠ 0 → i ≠ 1 → ¬ (3 ≤ i ∧ i ≤ 22) → i ≠ 35 → (ob_wI (ob_wI σ3 35 3 0) 0 10 0).1 i = σ.1 i := fun i a b e f => by rw [ob_wI_o a, ob_wI_o f, r3 i (by omega), r2 i (by omega), ob_wI_o a, r1 i b (by omega)]
      have hCL3 : pi_CL (ob_wI (ob_wI σ3 35 3 0) 0 10 0).1 10 (ob_ld d) := hCL2.to (fun i a b => by rw [ob_wI_o (by omega), ob_wI_o (by omega), r3 i (by omega)]) (fun k hk => by rw [ob_wI_o (by decide), ob_wI_o (by decide), r3 10 (by decide)])
      have hCS4 : pi_CS (ob_wI (ob_wI σ3 35 3 0) 0 10 0).1 17 (ob_ld d) (ob_bs (ob_ld d) s) := hCS3.to (fun i a b => by rw [ob_wI_o (by omega), ob_wI_o (by omega)]) (fun k hk => by rw [ob_wI_o (by decide), ob_wI_o (by decide)])
      have h011 : (ob_wI (ob_wI σ3 35 3 0) 0 10 0).1 0 11 = -1 := by rw [ob_wI_n (by decide), ob_wI_o (by decide), r3 0 (by decide), r2 0 (by decide), ob_wI_s]
      have h010 : (ob_wI (ob_wI σ3 35 3 0) 0 10 0).1 0 10 = 0 := ob_wI_s
      have h353 : (ob_wI (ob_wI σ3 35 3 0) 0 10 0).1 35 3 = 0 := by rw [ob_wI_o (by decide), ob_wI_s]
      have h12 : (ob_wI (ob_wI σ3 35 3 0) 0 10 0).1 1 2 = 0 := by rw [ob_wI_o (by decide), ob_wI_o (by decide), r3 1 (by decide), r2 1 (by decide), ob_wI_o (by decide)]; exact a2
      generalize ob_wI (ob_wI σ3 35 3 0) 0 10 0 = ν at *
      have hMT : pi_MT ν.1 T n := ⟨hn, by rw [r4 53 (by decide) (by decide) (by decide) (by decide)]; exact t2, fun i hi => by rw [r4 66 (by decide) (by decide) (by decide) (by decide)]; exact ⟨(tT i hi).1, (tT i hi).2.1⟩⟩
      refine n_land (s := s) hMT (by rw [r4 53 (by decide) (by decide) (by decide) (by decide)]; exact hMS.2.1) (fun c' p' hr' => by rw [hr] at hr'; cases hr') (fun d' hr' hok' σ4 q1 q2 q3 q4 q5 q6 hML4 hMS4 => ?_)
      rw [hr] at hr'
      cases hr'
      refine ⟨hCL3.2.1, ob_ld d, ob_bs (ob_ld d) s, fun _ => false, im, 0, td, hl', ob_bs_ok hl' hs.2.1, hCL3.to (fun i a b => q1 i (by omega) (by omega) (by omega) (by omega)) (fun k hk => by rw [q1 10 (by decide) (by decide) (by decide) (by decide)]), hML4, hCS4.to (fun i a b => q1 i (by omega) (by omega) (by omega) (by omega)) (fun k hk => by rw [q1 17 (by decide) (by decide) (by decide) (by decide)]), hMS4, ⟨?_, fun i hi => ⟨?_, fun z => by cases z⟩⟩, ⟨by omega, ?_, q4, fun i hi => absurd hi (Nat.not_lt_zero _)⟩, ⟨0, by omega, ?_, q2, fun i hi => absurd hi (Nat.not_lt_zero _)⟩, ?_⟩
      · rw [q1 0 (by decide) (by decide) (by decide) (by decide), h010]; rfl
      · match i, hi with
        | 0, _ => exact q5
        | 1, _ => exact q6
      · rw [q1 35 (by decide) (by decide) (by decide) (by decide), h353]; rfl
      · rw [q1 1 (by decide) (by decide) (by decide) (by decide), h12]; rfl
      · rw [q1 0 (by decide) (by decide) (by decide) (by decide), h011, q3]
