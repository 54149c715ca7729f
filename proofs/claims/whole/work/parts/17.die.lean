/-! die -/
/-- the youngest of the first n that live -/
def ob_yg (v : Nat → Bool) (a : Nat → Nat) : Nat → Option Nat
  | 0 => none
  | n + 1 => if v n = true then (match ob_yg v a n with
    | none => some n
    | some y => if a n < a y then some n else some y) else ob_yg v a n
theorem ob_yg_some {v : Nat → Bool} {a : Nat → Nat} : ∀ {n y : Nat}, ob_yg v a n = some y → y < n ∧ v y = true
  | 0, y, h => by cases h
  | n + 1, y, h => by
    simp only [ob_yg] at h
    split at h
    · rename_i hv
      split at h
      · cases h; exact ⟨by omega, hv⟩
      · rename_i z hz
        have := ob_yg_some hz
        split at h
        · cases h; exact ⟨by omega, hv⟩
        · cases h; exact ⟨by omega, this.2⟩
    · have := ob_yg_some h
      exact ⟨by omega, this.2⟩
theorem ob_yg_none {v : Nat → Bool} {a : Nat → Nat} : ∀ {n : Nat}, ob_yg v a n = none → ∀ q, q < n → v q = false
  | 0, _, q, hq => by omega
  | n + 1, h, q, hq => by
    simp only [ob_yg] at h
    split at h
    · split at h
      · cases h
      · split at h <;> cases h
    · rename_i hv
      by_cases hqn : q = n
      · subst hqn; simpa using hv
      · exact ob_yg_none h q (by omega)
def ob_nw (s : StT) (p : Nat) (h : Option Nat) (b : Nat) : Option Nat := if st_w s b = some p then h else st_w s b
def ob_nb (s : StT) (p : Nat) (h : Option Nat) (b : Nat) : Option Nat := if st_b s b = some p then none else if st_w s b = some p ∧ st_b s b = h then none else st_b s b
def ob_nu (s : StT) (p : Nat) (h : Option Nat) (q : Nat) : Int32 := if q = p then 0 else if h = some q then st_u s q + st_u s p else st_u s q
def ob_nv (s : StT) (p q : Nat) : Bool := if q = p then false else st_v s q
/-- p has died; h is heir -/
def ob_ds (s : StT) (p : Nat) (h : Option Nat) : StT := (st_t s, st_x s, st_a s, ob_nu s p h, ob_nv s p, ob_nw s p h, ob_nb s p h, st_e s)
theorem ob_sf_clr6 : ∀ (a b c d e f : Bool) (n p : Fin 7), p.val < n.val → ob_sf (ob_t8 a b c d e f false false) n.val &&& ((1 <<< (nI p.val &&& 31)) ^^^ (-1)) = ob_sf (fun q => if q = p.val then false else ob_t8 a b c d e f false false q) n.val := by decide +kernel
theorem ob_sf_clr {v : Nat → Bool} {n p : Nat} (hn : n ≤ 6) (hp : p < n) : ob_sf v n &&& ((1 <<< (nI p &&& 31)) ^^^ (-1)) = ob_sf (fun q => if q = p then false else v q) n := by
  have e : ∀ i, i < n → v i = ob_t8 (v 0) (v 1) (v 2) (v 3) (v 4) (v 5) false false i := by
    intro i hi
    match i, (show i < 6 by omega) with
    | 0, _ => rfl
    | 1, _ => rfl
    | 2, _ => rfl
    | 3, _ => rfl
    | 4, _ => rfl
    | 5, _ => rfl
    | k + 6, h => omega
  rw [ob_sf_congr e]
  refine (ob_sf_clr6 (v 0) (v 1) (v 2) (v 3) (v 4) (v 5) ⟨n, by omega⟩ ⟨p, by omega⟩ hp).trans ?_
  apply ob_sf_congr
  intro i hi
  dsimp only
  rw [← e i hi]
section DI
variable {E : ob_E} {σ : ob_Mem} {l : LdT} {s : StT}
theorem ob_ds_ok {p c : Nat} (hl : ob_lok l) (hs : ob_sok l s c) (hp : p < la_P l) : ob_sok l (ob_ds s p (ob_yg (ob_nv s p) (st_a s) (la_P l))) c := by
  generalize hh : ob_yg (ob_nv s p) (st_a s) (la_P l) = h
  obtain ⟨g1, g2, g3, g4⟩ := hs
  have nvt : ∀ q, st_v s q = true → q ≠ p → ob_nv s p q = true := fun q a b => by unfold ob_nv; rw [if_neg b]; exact a
  have alive : ∀ q, q < la_P l → ob_nv s p q = true → h ≠ none := fun q a b e => by
    rw [e] at hh
    have := ob_yg_none hh q a
    rw [b] at this
    cases this
  refine ⟨g1, g2, g3, fun d hd => ?_⟩
  obtain ⟨q1, q2, q3⟩ := g4 d hd
  refine ⟨fun e => ?_, fun q e => ?_, fun q e => ?_⟩
  · have e : ob_nw s p h d = none := e
    unfold ob_nw at e
    intro q hq
    show ob_nv s p q = false
    split at e
    · rw [e] at hh
      exact ob_yg_none hh q hq
    · unfold ob_nv
      split
      · rfl
      · exact q1 e q hq
  · have e : ob_nw s p h d = some q := e
    unfold ob_nw at e
    split at e
    · rw [e] at hh
      exact ob_yg_some hh
    · rename_i hwp
      obtain ⟨a1, a2⟩ := q2 q e
      exact ⟨a1, nvt q a2 (fun z => hwp (by rw [e, z]))⟩
  · have e : ob_nb s p h d = some q := e
    unfold ob_nb at e
    split at e
    · cases e
    · rename_i hbp
      split at e
      · cases e
      · rename_i hwb
        obtain ⟨a1, a2, a3, a4, a5, a6⟩ := q3 q e
        have hqp : q ≠ p := fun z => hbp (by rw [e, z])
        refine ⟨a1, nvt q a2 hqp, ?_, ?_, a5, a6⟩
        · show ob_nw s p h d ≠ none
          unfold ob_nw
          split
          · exact alive q a1 (nvt q a2 hqp)
          · exact a3
        · show ob_nw s p h d ≠ some q
          unfold ob_nw
          split
          · rename_i hwp
            exact fun z => hwb ⟨hwp, by rw [e, z]⟩
          · exact a4
theorem k_youngest {Q : Int32 → ob_Mem → Prop} (hl : ob_lok l) (ha : ∀ p, p < la_P l → st_a s p ≤ 999) (hCL : pi_CL σ.1 10 l) (hCS : pi_CS σ.1 17 l s) (h : Q (ob_oI (ob_yg (st_v s) (st_a s) (la_P l))) σ) : ob_RM shp E oX6_youngestAlive [.ref 17] σ (ob_qI Q) := by
  have hP6 := hl.2.2.1
  refine m_X6_youngestAlive (b_X6_youngestAlive_0 ?_)
  refine ob_loop0 (T := fun i => ob_RT shp E oX6_youngestAlive 4 [.ref 17, .int (ob_oI (ob_yg (st_v s) (st_a s) i)), .int (nI i)] [] σ (ob_qI Q)) (B := la_P l) (b_X6_youngestAlive_4 ?_) (fun i hi ih => b_X6_youngestAlive_4 ?_)
  · rw [hCL.2.1]
    exact br_t ((ob_le (by omega) (by omega)).mpr (Nat.le_refl _)) h
  · rw [hCL.2.1, nI_1]
    refine br_f (fun q => by rw [ob_le (by omega) (by omega)] at q; omega) ?_
    simp only [ob_yg] at ih
    cases hv : st_v s i with
    | false =>
      rw [hv, if_neg (by decide)] at ih
      exact k_lives0 hl hCL hCS hi hv (br_t rfl ih)
    | true =>
      rw [hv, if_pos rfl] at ih
      refine k_lives1 hl hCL hCS hi hv (br_f (by decide) ?_)
      cases hy : ob_yg (st_v s) (st_a s) i with
      | none =>
        rw [hy] at ih
        exact br_t rfl ih
      | some y =>
        rw [hy] at ih
        dsimp only at ih
        have hyi := (ob_yg_some hy).1
        have h1 := ha i hi
        have h2 := ha y (by omega)
        refine br_f (ob_m1 (by omega)) ⟨ob_in (by omega) (by omega), ob_in (show y < 6 by omega) (by omega), ?_⟩
        rw [ob_cl (n := i) (by omega), show (ob_oI (some y)).toNatClampNeg = y from ob_cl (by omega), show σ.1 18 y = _ from (hCS.2.2.2.1 y (by omega)).1, show σ.1 18 i = _ from (hCS.2.2.2.1 i hi).1]
        by_cases hc : st_a s i < st_a s y
        · rw [if_pos hc] at ih
          exact br_f (fun q => by rw [ob_le (by omega) (by omega)] at q; omega) ih
        · rw [if_neg hc] at ih
          exact br_t ((ob_le (by omega) (by omega)).mpr (by omega)) ih
theorem n_youngest {Q : Int32 → ob_Mem → Prop} {v : Nat → Bool} (hl : ob_lok l) (ha : ∀ p, p < la_P l → st_a s p ≤ 999) (hML : pi_ML σ.1 l) (hA : ∀ p, p < la_P l → σ.1 60 p = nI (st_a s p) ∧ σ.1 62 p = ob_bI (v p)) (h : Q (ob_oI (ob_yg v (st_a s) (la_P l))) σ) : ob_RM shp E oX9_youngest [.ref 53] σ (ob_qI Q) := by
  have hP6 := hl.2.2.1
  refine m_X9_youngest (b_X9_youngest_0 ?_)
  refine ob_loop0 (T := fun i => ob_RT shp E oX9_youngest 4 [.ref 53, .int (ob_oI (ob_yg v (st_a s) i)), .int (nI i)] [] σ (ob_qI Q)) (B := la_P l) (b_X9_youngest_4 ?_) (fun i hi ih => b_X9_youngest_4 ?_)
  · rw [hML.2.1]
    exact br_t ((ob_le (by omega) (by omega)).mpr (Nat.le_refl _)) h
  · have hin : vp_in (nI i) 6 := ob_in (by omega) (by omega)
    rw [hML.2.1, nI_1, ob_cl (n := i) (by omega), (hA i hi).2]
    refine br_f (fun q => by rw [ob_le (by omega) (by omega)] at q; omega) ⟨hin, ?_⟩
    simp only [ob_yg] at ih
    cases hv : v i with
    | false =>
      rw [hv, if_neg (by decide)] at ih
      exact br_t rfl ih
    | true =>
      rw [hv, if_pos rfl] at ih
      refine br_f (by decide) ?_
      cases hy : ob_yg v (st_a s) i with
      | none =>
        rw [hy] at ih
        exact br_t (by decide) ih
      | some y =>
        rw [hy] at ih
        dsimp only at ih
        have hyi := (ob_yg_some hy).1
        have h1 := ha i hi
        have h2 := ha y (by omega)
        refine br_f (ob_nneg (by omega)) ⟨hin, ob_in (show y < 6 by omega) (by omega), ?_⟩
        rw [show (ob_oI (some y)).toNatClampNeg = y from ob_cl (by omega), (hA y (by omega)).1, (hA i hi).1]
        by_cases hc : st_a s i < st_a s y
        · rw [if_pos hc] at ih
          exact br_f (fun q => by rw [ob_le (by omega) (by omega)] at q; omega) ih
        · rw [if_neg hc] at ih
          exact br_t ((ob_le (by omega) (by omega)).mpr (by omega)) ih
theorem k_dieLoop {Q : Int32 → ob_Mem → Prop} {p c : Nat} {h : Option Nat} (hl : ob_lok l) (hs : ob_sok l s c) (hp : p < la_P l) (hkh : ∀ q, h = some q → q < 2000000000) (hB : σ.1 10 8 = nI (la_B l)) (hw0 : ∀ d, d < la_B l → σ.1 20 d = ob_oI (st_w s d) ∧ σ.1 21 d = ob_oI (st_b s d) ∧ σ.1 22 d = ob_tI (st_b s d) (st_e s d)) (hx : ∀ τ : ob_Mem, (∀ i, i ≠ 20 → i ≠ 21 → i ≠ 22 → τ.1 i = σ.1 i) → (∀ d, d < la_B l → τ.1 20 d = ob_oI (ob_nw s p h d) ∧ τ.1 21 d = ob_oI (ob_nb s p h d) ∧ τ.1 22 d = ob_tI (ob_nb s p h d) (st_e s d)) → ob_RT shp E oX6_endLife 21 [.ref 17, .int (nI p), .int (ob_oI h), .int (nI (la_B l))] [] τ (ob_qI Q)) : ob_RT shp E oX6_endLife 21 [.ref 17, .int (nI p), .int (ob_oI h), .int (nI 0)] [] σ (ob_qI Q) := by
  have hP6 := hl.2.2.1
  have hB8 := hl.2.2.2.1
  refine ob_loop0 (T := fun i => ∀ τ : ob_Mem, (∀ i, i ≠ 20 → i ≠ 21 → i ≠ 22 → τ.1 i = σ.1 i) → (∀ d, d < la_B l → τ.1 20 d = ob_oI (if d < i then ob_nw s p h d else st_w s d) ∧ τ.1 21 d = ob_oI (if d < i then ob_nb s p h d else st_b s d) ∧ τ.1 22 d = ob_tI (if d < i then ob_nb s p h d else st_b s d) (st_e s d)) → ob_RT shp E oX6_endLife 21 [.ref 17, .int (nI p), .int (ob_oI h), .int (nI i)] [] τ (ob_qI Q)) (B := la_B l) ?_ ?_ σ (fun _ _ _ _ => rfl) (fun d hd => ?_)
  · intro τ r w
    refine hx τ r (fun d hd => ?_)
    have := w d hd
    rw [if_pos hd, if_pos hd] at this
    exact this
  · intro i hi ih τ r w
    have hin : vp_in (nI i) 8 := ob_in (by omega) (by omega)
    have hcl : (nI i).toNatClampNeg = i := ob_cl (by omega)
    obtain ⟨kb, kw, -⟩ := ob_kb hs hl hi
    obtain ⟨w1, w2, w3⟩ := w i hi
    rw [if_neg (Nat.lt_irrefl _)] at w1 w2 w3
    -- behind the first test
    have step : ∀ (nb1 : Option Nat) (κ : ob_Mem), nb1 = (if st_b s i = some p then none else st_b s i) → (∀ k, k ≠ 20 → k ≠ 21 → k ≠ 22 → κ.1 k = σ.1 k) → κ.1 20 i = ob_oI (st_w s i) → κ.1 21 i = ob_oI nb1 → κ.1 22 i = ob_tI nb1 (st_e s i) → (∀ d, d < la_B l → d ≠ i → κ.1 20 d = ob_oI (if d < i then ob_nw s p h d else st_w s d) ∧ κ.1 21 d = ob_oI (if d < i then ob_nb s p h d else st_b s d) ∧ κ.1 22 d = ob_tI (if d < i then ob_nb s p h d else st_b s d) (st_e s d)) → ob_RT shp E oX6_endLife 47 [.ref 17, .int (nI p), .int (ob_oI h), .int (nI i)] [] κ (ob_qI Q) := by
      intro nb1 κ hnb1 q0 q1 q2 q3 q4
      have hk1 : ∀ q, nb1 = some q → q < 2000000000 := by
        intro q e
        rw [hnb1] at e
        split at e
        · cases e
        · exact kb q e
      refine b_X6_endLife_47 ⟨hin, ?_⟩
      rw [hcl, q1, nI_1]
      by_cases hw : st_w s i = some p
      · have hpw : ob_oI (st_w s i) = nI p := by rw [hw]; rfl
        refine ob_bf hpw ⟨hin, hin, ?_⟩
        rw [ob_wI_o (i := 20) (a := 21) (by decide), q2]
        by_cases hbh : ob_oI nb1 = ob_oI h
        · refine ob_bf hbh (m_X6_endLoan (b_X6_endLoan_0 ⟨hin, hin, ?_⟩))
          rw [hcl]
          refine ih _ (fun k a1 a2 a3 => ?_) (fun d hd => ?_)
          · rw [ob_wI_o a3, ob_wI_o a2, ob_wI_o a1]; exact q0 k a1 a2 a3
          · have en : ob_nb s p h i = none := by
              have e2 : nb1 = h := (ob_oI_inj hk1 hkh).mp hbh
              unfold ob_nb
              by_cases hbp : st_b s i = some p
              · rw [if_pos hbp]
              · rw [if_neg hbp] at hnb1
                rw [if_neg hbp]
                rw [if_pos ⟨hw, by rw [← hnb1, e2]⟩]
            by_cases hdi : d = i
            · subst hdi
              rw [if_pos (Nat.lt_succ_self _), if_pos (Nat.lt_succ_self _), en, ob_wI_s, ob_wI_o (i := 22) (a := 21) (by decide), ob_wI_s, ob_wI_o (i := 22) (a := 20) (by decide), ob_wI_o (i := 21) (a := 20) (by decide), ob_wI_s]
              exact ⟨by unfold ob_nw; rw [if_pos hw], rfl, rfl⟩
            · rw [ob_wI_n hdi, ob_wI_o (i := 22) (a := 21) (by decide), ob_wI_n hdi, ob_wI_o (i := 22) (a := 20) (by decide), ob_wI_o (i := 21) (a := 20) (by decide), ob_wI_n hdi, ob_wI_o (i := 20) (a := 21) (by decide), ob_wI_o (i := 21) (a := 22) (by decide), ob_wI_o (i := 20) (a := 22) (by decide)]
              have := q4 d hd hdi
              simp only [show (d < i + 1) ↔ (d < i) from by omega]
              exact this
        · refine ob_bt hbh (ih _ (fun k a1 a2 a3 => ?_) (fun d hd => ?_))
          · rw [ob_wI_o a1]; exact q0 k a1 a2 a3
          · have en : ob_nb s p h i = nb1 := by
              unfold ob_nb
              by_cases hbp : st_b s i = some p
              · rw [if_pos hbp]; rw [if_pos hbp] at hnb1; exact hnb1.symm
              · rw [if_neg hbp] at hnb1
                rw [if_neg hbp, if_neg (fun q => hbh (by rw [hnb1, q.2]))]
                exact hnb1.symm
            by_cases hdi : d = i
            · subst hdi
              rw [if_pos (Nat.lt_succ_self _), if_pos (Nat.lt_succ_self _), en, ob_wI_s, ob_wI_o (i := 20) (a := 21) (by decide), ob_wI_o (i := 20) (a := 22) (by decide)]
              exact ⟨by unfold ob_nw; rw [if_pos hw], q2, q3⟩
            · rw [ob_wI_n hdi, ob_wI_o (i := 20) (a := 21) (by decide), ob_wI_o (i := 20) (a := 22) (by decide)]
              have := q4 d hd hdi
              simp only [show (d < i + 1) ↔ (d < i) from by omega]
              exact this
      · refine ob_bt (fun q => hw ((ob_oI_eq kw (by omega)).mp q)) (ih κ q0 (fun d hd => ?_))
        by_cases hdi : d = i
        · subst hdi
          rw [if_pos (Nat.lt_succ_self _), if_pos (Nat.lt_succ_self _)]
          have en : ob_nb s p h d = nb1 := by
            unfold ob_nb
            by_cases hbp : st_b s d = some p
            · rw [if_pos hbp]; rw [if_pos hbp] at hnb1; exact hnb1.symm
            · rw [if_neg hbp] at hnb1
              rw [if_neg hbp, if_neg (fun q => hw q.1)]
              exact hnb1.symm
          rw [en]
          exact ⟨by unfold ob_nw; rw [if_neg hw]; exact q1, q2, q3⟩
        · have := q4 d hd hdi
          simp only [show (d < i + 1) ↔ (d < i) from by omega]
          exact this
    refine b_X6_endLife_21 ?_
    rw [hcl, w2, r 10 (by decide) (by decide) (by decide), hB]
    refine br_f (fun q => by rw [ob_le (by omega) (by omega)] at q; omega) ⟨hin, ?_⟩
    by_cases hbp : st_b s i = some p
    · refine ob_bf (by rw [hbp]; rfl) (m_X6_endLoan (b_X6_endLoan_0 ⟨hin, hin, ?_⟩))
      rw [hcl]
      refine step none _ (by rw [if_pos hbp]) (fun k a1 a2 a3 => ?_) ?_ ?_ ob_wI_s (fun d hd hdi => ?_)
      · rw [ob_wI_o a3, ob_wI_o a2]; exact r k a1 a2 a3
      · rw [ob_wI_o (by decide), ob_wI_o (by decide)]; exact w1
      · rw [ob_wI_o (by decide), ob_wI_s]; rfl
      · rw [ob_wI_o (i := 22) (a := 20) (by decide), ob_wI_o (i := 21) (a := 20) (by decide), ob_wI_o (i := 22) (a := 21) (by decide), ob_wI_n hdi, ob_wI_n hdi, ob_wI_o (i := 21) (a := 22) (by decide)]
        exact w d hd
    · refine ob_bt (fun q => hbp ((ob_oI_eq kb (by omega)).mp q)) (step (st_b s i) τ (by rw [if_neg hbp]) r w1 w2 w3 (fun d hd _ => w d hd))
  · rw [if_neg (Nat.not_lt_zero _), if_neg (Nat.not_lt_zero _)]
    exact hw0 d hd
theorem n_dieLoop {Q : Int32 → ob_Mem → Prop} {p c : Nat} {h : Option Nat} (hl : ob_lok l) (hs : ob_sok l s c) (hp : p < la_P l) (hkh : ∀ q, h = some q → q < 2000000000) (hB : σ.1 53 4 = nI (la_B l)) (hw0 : ∀ d, d < la_B l → σ.1 63 d = ob_oI (st_w s d) ∧ σ.1 64 d = ob_oI (st_b s d) ∧ σ.1 65 d = ob_tI (st_b s d) (st_e s d)) (hx : ∀ τ : ob_Mem, (∀ i, i ≠ 63 → i ≠ 64 → i ≠ 65 → τ.1 i = σ.1 i) → (∀ d, d < la_B l → τ.1 63 d = ob_oI (ob_nw s p h d) ∧ τ.1 64 d = ob_oI (ob_nb s p h d) ∧ τ.1 65 d = ob_tI (ob_nb s p h d) (st_e s d)) → ob_RT shp E oX9_die 38 [.ref 53, .int (nI p), .int (ob_oI h), .int (nI (la_B l))] [] τ (ob_qI Q)) : ob_RT shp E oX9_die 38 [.ref 53, .int (nI p), .int (ob_oI h), .int (nI 0)] [] σ (ob_qI Q) := by
  have hP6 := hl.2.2.1
  have hB8 := hl.2.2.2.1
  refine ob_loop0 (T := fun i => ∀ τ : ob_Mem, (∀ i, i ≠ 63 → i ≠ 64 → i ≠ 65 → τ.1 i = σ.1 i) → (∀ d, d < la_B l → τ.1 63 d = ob_oI (if d < i then ob_nw s p h d else st_w s d) ∧ τ.1 64 d = ob_oI (if d < i then ob_nb s p h d else st_b s d) ∧ τ.1 65 d = ob_tI (if d < i then ob_nb s p h d else st_b s d) (st_e s d)) → ob_RT shp E oX9_die 38 [.ref 53, .int (nI p), .int (ob_oI h), .int (nI i)] [] τ (ob_qI Q)) (B := la_B l) ?_ ?_ σ (fun _ _ _ _ => rfl) (fun d hd => ?_)
  · intro τ r w
    refine hx τ r (fun d hd => ?_)
    have := w d hd
    rw [if_pos hd, if_pos hd] at this
    exact this
  · intro i hi ih τ r w
    have hin : vp_in (nI i) 8 := ob_in (by omega) (by omega)
    have hcl : (nI i).toNatClampNeg = i := ob_cl (by omega)
    obtain ⟨kb, kw, -⟩ := ob_kb hs hl hi
    obtain ⟨w1, w2, w3⟩ := w i hi
    rw [if_neg (Nat.lt_irrefl _)] at w1 w2 w3
    -- behind the first test
    have step : ∀ (nb1 : Option Nat) (κ : ob_Mem), nb1 = (if st_b s i = some p then none else st_b s i) → (∀ k, k ≠ 63 → k ≠ 64 → k ≠ 65 → κ.1 k = σ.1 k) → κ.1 63 i = ob_oI (st_w s i) → κ.1 64 i = ob_oI nb1 → κ.1 65 i = ob_tI nb1 (st_e s i) → (∀ d, d < la_B l → d ≠ i → κ.1 63 d = ob_oI (if d < i then ob_nw s p h d else st_w s d) ∧ κ.1 64 d = ob_oI (if d < i then ob_nb s p h d else st_b s d) ∧ κ.1 65 d = ob_tI (if d < i then ob_nb s p h d else st_b s d) (st_e s d)) → ob_RT shp E oX9_die 61 [.ref 53, .int (nI p), .int (ob_oI h), .int (nI i)] [] κ (ob_qI Q) := by
      intro nb1 κ hnb1 q0 q1 q2 q3 q4
      have hk1 : ∀ q, nb1 = some q → q < 2000000000 := by
        intro q e
        rw [hnb1] at e
        split at e
        · cases e
        · exact kb q e
      refine b_X9_die_61 ⟨hin, ?_⟩
      rw [hcl, q1, nI_1]
      by_cases hw : st_w s i = some p
      · have hpw : ob_oI (st_w s i) = nI p := by rw [hw]; rfl
        refine ob_bf hpw ⟨hin, ?_⟩
        have keepit : ob_nb s p h i = nb1 → ob_RT shp E oX9_die 38 [.ref 53, .int (nI p), .int (ob_oI h), .int (nI (i + 1))] [] (ob_wI κ 63 i (ob_oI h)) (ob_qI Q) := by
          intro en
          refine ih _ (fun k a1 a2 a3 => ?_) (fun d hd => ?_)
          · rw [ob_wI_o a1]; exact q0 k a1 a2 a3
          · by_cases hdi : d = i
            · subst hdi
              rw [if_pos (Nat.lt_succ_self _), if_pos (Nat.lt_succ_self _), en, ob_wI_s, ob_wI_o (i := 63) (a := 64) (by decide), ob_wI_o (i := 63) (a := 65) (by decide)]
              exact ⟨by unfold ob_nw; rw [if_pos hw], q2, q3⟩
            · rw [ob_wI_n hdi, ob_wI_o (i := 63) (a := 64) (by decide), ob_wI_o (i := 63) (a := 65) (by decide)]
              have := q4 d hd hdi
              simp only [show (d < i + 1) ↔ (d < i) from by omega]
              exact this
        cases h with
        | none =>
          refine br_t (by decide) (keepit ?_)
          unfold ob_nb
          by_cases hbp : st_b s i = some p
          · rw [if_pos hbp]; rw [if_pos hbp] at hnb1; exact hnb1.symm
          · rw [if_neg hbp] at hnb1
            rw [if_neg hbp]
            by_cases hc : st_w s i = some p ∧ st_b s i = none
            · rw [if_pos hc, hnb1, hc.2]
            · rw [if_neg hc, hnb1]
        | some y =>
          refine br_f (ob_nneg (hkh y rfl)) ⟨hin, ?_⟩
          rw [ob_wI_o (i := 63) (a := 64) (by decide), q2]
          by_cases hbh : ob_oI nb1 = ob_oI (some y)
          · refine ob_bf hbh (m_X9_endLoan (b_X9_endLoan_0 ⟨hin, hin, ?_⟩))
            rw [hcl]
            have en : ob_nb s p (some y) i = none := by
              have e2 : nb1 = some y := (ob_oI_inj hk1 hkh).mp hbh
              unfold ob_nb
              by_cases hbp : st_b s i = some p
              · rw [if_pos hbp]
              · rw [if_neg hbp] at hnb1
                rw [if_neg hbp, if_pos ⟨hw, by rw [← hnb1, e2]⟩]
            refine ih _ (fun k a1 a2 a3 => ?_) (fun d hd => ?_)
            · rw [ob_wI_o a3, ob_wI_o a2, ob_wI_o a1]; exact q0 k a1 a2 a3
            · by_cases hdi : d = i
              · subst hdi
                rw [if_pos (Nat.lt_succ_self _), if_pos (Nat.lt_succ_self _), en, ob_wI_s, ob_wI_o (i := 65) (a := 64) (by decide), ob_wI_s, ob_wI_o (i := 65) (a := 63) (by decide), ob_wI_o (i := 64) (a := 63) (by decide), ob_wI_s]
                exact ⟨by unfold ob_nw; rw [if_pos hw], rfl, rfl⟩
              · rw [ob_wI_n hdi, ob_wI_o (i := 65) (a := 64) (by decide), ob_wI_n hdi, ob_wI_o (i := 65) (a := 63) (by decide), ob_wI_o (i := 64) (a := 63) (by decide), ob_wI_n hdi, ob_wI_o (i := 63) (a := 64) (by decide), ob_wI_o (i := 64) (a := 65) (by decide), ob_wI_o (i := 63) (a := 65) (by decide)]
                have := q4 d hd hdi
                simp only [show (d < i + 1) ↔ (d < i) from by omega]
                exact this
          · refine ob_bt hbh (keepit ?_)
            unfold ob_nb
            by_cases hbp : st_b s i = some p
            · rw [if_pos hbp]; rw [if_pos hbp] at hnb1; exact hnb1.symm
            · rw [if_neg hbp] at hnb1
              rw [if_neg hbp, if_neg (fun q => hbh (by rw [hnb1, q.2]))]
              exact hnb1.symm
      · refine ob_bt (fun q => hw ((ob_oI_eq kw (by omega)).mp q)) (ih κ q0 (fun d hd => ?_))
        by_cases hdi : d = i
        · subst hdi
          rw [if_pos (Nat.lt_succ_self _), if_pos (Nat.lt_succ_self _)]
          have en : ob_nb s p h d = nb1 := by
            unfold ob_nb
            by_cases hbp : st_b s d = some p
            · rw [if_pos hbp]; rw [if_pos hbp] at hnb1; exact hnb1.symm
            · rw [if_neg hbp] at hnb1
              rw [if_neg hbp, if_neg (fun q => hw q.1)]
              exact hnb1.symm
          rw [en]
          exact ⟨by unfold ob_nw; rw [if_neg hw]; exact q1, q2, q3⟩
        · have := q4 d hd hdi
          simp only [show (d < i + 1) ↔ (d < i) from by omega]
          exact this
    refine b_X9_die_38 ?_
    rw [hcl, w2, r 53 (by decide) (by decide) (by decide), hB]
    refine br_f (fun q => by rw [ob_le (by omega) (by omega)] at q; omega) ⟨hin, ?_⟩
    by_cases hbp : st_b s i = some p
    · refine ob_bf (by rw [hbp]; rfl) (m_X9_endLoan (b_X9_endLoan_0 ⟨hin, hin, ?_⟩))
      rw [hcl]
      refine step none _ (by rw [if_pos hbp]) (fun k a1 a2 a3 => ?_) ?_ ?_ ob_wI_s (fun d hd hdi => ?_)
      · rw [ob_wI_o a3, ob_wI_o a2]; exact r k a1 a2 a3
      · rw [ob_wI_o (by decide), ob_wI_o (by decide)]; exact w1
      · rw [ob_wI_o (by decide), ob_wI_s]; rfl
      · rw [ob_wI_o (i := 65) (a := 63) (by decide), ob_wI_o (i := 64) (a := 63) (by decide), ob_wI_o (i := 65) (a := 64) (by decide), ob_wI_n hdi, ob_wI_n hdi, ob_wI_o (i := 64) (a := 65) (by decide)]
        exact w d hd
    · refine ob_bt (fun q => hbp ((ob_oI_eq kb (by omega)).mp q)) (step (st_b s i) τ (by rw [if_neg hbp]) r w1 w2 w3 (fun d hd _ => w d hd))
  · rw [if_neg (Nat.not_lt_zero _), if_neg (Nat.not_lt_zero _)]
    exact hw0 d hd
theorem ob_nuE {τ : ob_Mem} {r p : Nat} {h : Option Nat} (hr : ∀ q, q < la_P l → τ.1 r q = st_u s q) (hp : p < la_P l) (hhp : h ≠ some p) : (h = none → ∀ q, q < la_P l → (ob_wI τ r p 0).1 r q = ob_nu s p h q) ∧ ∀ y, h = some y → y < la_P l → ∀ q, q < la_P l → (ob_wI (ob_wI τ r y (τ.1 r y + τ.1 r p)) r p 0).1 r q = ob_nu s p h q := by
  refine ⟨fun e q hq => ?_, fun y e hy q hq => ?_⟩
  · subst e
    unfold ob_nu
    by_cases hqp : q = p
    · subst hqp; rw [ob_wI_s, if_pos rfl]
    · rw [ob_wI_n hqp, if_neg hqp, if_neg (fun z => by cases z)]; exact hr q hq
  · subst e
    have hyp : y ≠ p := fun z => hhp (by rw [z])
    unfold ob_nu
    by_cases hqp : q = p
    · subst hqp; rw [ob_wI_s, if_pos rfl]
    · rw [ob_wI_n hqp, if_neg hqp]
      by_cases hqy : q = y
      · subst hqy; rw [ob_wI_s, if_pos rfl, hr q hq, hr p hp]
      · rw [ob_wI_n hqy, if_neg (fun z => hqy (by cases z; rfl))]; exact hr q hq
theorem k_endLife {Q : Int32 → ob_Mem → Prop} {p c : Nat} (hl : ob_lok l) (hs : ob_sok l s c) (hCL : pi_CL σ.1 10 l) (hCS : pi_CS σ.1 17 l s) (hp : p < la_P l) (hx : ∀ σ' : ob_Mem, (∀ i, ¬ (17 ≤ i ∧ i ≤ 22) → σ'.1 i = σ.1 i) → pi_CS σ'.1 17 l (ob_ds s p (ob_yg (ob_nv s p) (st_a s) (la_P l))) → Q (ob_oI (ob_yg (ob_nv s p) (st_a s) (la_P l))) σ') : ob_RM shp E oX6_endLife [.ref 17, .int (nI p)] σ (ob_qI Q) := by
  have hP6 := hl.2.2.1
  have hB8 := hl.2.2.2.1
  have hip : vp_in (nI p) 6 := ob_in (by omega) (by omega)
  refine m_X6_endLife (b_X6_endLife_0 ?_)
  rw [hCS.1, ob_sf_clr hP6 hp]
  rintro σ1 rfl
  have r1 : ∀ i, i ≠ 17 → (ob_wI σ 17 6 (ob_sf (fun q => if q = p then false else st_v s q) (la_P l))).1 i = σ.1 i := fun i a => ob_wI_o a
  generalize hσ1 : ob_wI σ 17 6 (ob_sf (fun q => if q = p then false else st_v s q) (la_P l)) = σ1 at r1 ⊢
  have e6 : σ1.1 17 6 = ob_sf (ob_nv s p) (la_P l) := by rw [← hσ1, ob_wI_s]; rfl
  have e7 : σ1.1 17 7 = σ.1 17 7 := by rw [← hσ1, ob_wI_n (by decide)]
  have e8 : σ1.1 17 8 = σ.1 17 8 := by rw [← hσ1, ob_wI_n (by decide)]
  have hCL1 : pi_CL σ1.1 10 l := hCL.to (fun i a b => r1 i (by omega)) (fun k hk => by rw [r1 10 (by decide)])
  have hCS1 : pi_CS σ1.1 17 l (st_t s, st_x s, st_a s, st_u s, ob_nv s p, st_w s, st_b s, st_e s) := by
    refine ⟨e6, e7.trans hCS.2.1, e8.trans hCS.2.2.1, ?_, ?_⟩
    · rw [r1 18 (by decide), r1 19 (by decide)]; exact hCS.2.2.2.1
    · rw [r1 20 (by decide), r1 21 (by decide), r1 22 (by decide)]; exact hCS.2.2.2.2
  refine k_youngest (s := (st_t s, st_x s, st_a s, st_u s, ob_nv s p, st_w s, st_b s, st_e s)) hl hs.2.2.1 hCL1 hCS1 ?_
  show ob_RT shp E oX6_endLife 21 [.ref 17, .int (nI p), .int (ob_oI (ob_yg (ob_nv s p) (st_a s) (la_P l))), .int 0] [] σ1 (ob_qI Q)
  generalize hh : ob_yg (ob_nv s p) (st_a s) (la_P l) = h at hx ⊢
  have hhy : ∀ y, h = some y → y < la_P l ∧ y ≠ p := by
    intro y e
    rw [e] at hh
    obtain ⟨a1, a2⟩ := ob_yg_some hh
    refine ⟨a1, fun z => ?_⟩
    subst z
    unfold ob_nv at a2
    rw [if_pos rfl] at a2
    cases a2
  refine k_dieLoop hl hs hp (fun q e => by have := (hhy q e).1; omega) hCL1.2.2.1 (fun d hd => hCS1.2.2.2.2 d hd) (fun τ r w => ?_)
  have hu : ∀ q, q < la_P l → τ.1 19 q = st_u s q := fun q hq => by rw [r 19 (by decide) (by decide) (by decide), r1 19 (by decide)]; exact (hCS.2.2.2.1 q hq).2
  have nu := ob_nuE (r := 19) hu hp (h := h) (fun e => (hhy p e).2 rfl)
  have hCLt : τ.1 10 7 = nI (la_P l) := by rw [r 10 (by decide) (by decide) (by decide)]; exact hCL1.2.1
  have fin : ∀ κ : ob_Mem, (∀ i, i ≠ 19 → κ.1 i = τ.1 i) → (∀ q, q < la_P l → κ.1 19 q = ob_nu s p h q) → Q (ob_oI h) κ := by
    intro κ k1 k2
    refine hx κ (fun i hi => ?_) ⟨?_, ?_, ?_, fun q hq => ⟨?_, k2 q hq⟩, fun d hd => ?_⟩
    · rw [k1 i (by omega), r i (by omega) (by omega) (by omega), r1 i (by omega)]
    · rw [k1 17 (by decide), r 17 (by decide) (by decide) (by decide)]; exact e6
    · rw [k1 17 (by decide), r 17 (by decide) (by decide) (by decide)]; exact e7.trans hCS.2.1
    · rw [k1 17 (by decide), r 17 (by decide) (by decide) (by decide)]; exact e8.trans hCS.2.2.1
    · rw [k1 18 (by decide), r 18 (by decide) (by decide) (by decide), r1 18 (by decide)]; exact (hCS.2.2.2.1 q hq).1
    · rw [k1 20 (by decide), k1 21 (by decide), k1 22 (by decide)]; exact w d hd
  refine b_X6_endLife_21 (br_t ?_ ?_)
  · rw [r 10 (by decide) (by decide) (by decide), hCL1.2.2.1]
    exact (ob_le (by omega) (by omega)).mpr (Nat.le_refl _)
  · rw [ob_cl (n := p) (by omega)]
    cases h with
    | none =>
      refine k_hasP0 hCLt hP6 (fun ⟨j, hj, e⟩ => ob_m1 (n := j) (by omega) e.symm) (br_t rfl ⟨hip, fin _ (fun i hi => ob_wI_o hi) (nu.1 rfl)⟩)
    | some y =>
      obtain ⟨hy, hyp⟩ := hhy y rfl
      have hiy : vp_in (nI y) 6 := ob_in (by omega) (by omega)
      refine k_hasP1 hCLt hP6 hy (br_f (by decide) ⟨hiy, hip, hiy, ?_⟩)
      rw [show (ob_oI (some y)).toNatClampNeg = y from ob_cl (by omega)]
      rintro σ3 rfl
      exact ⟨hip, fin _ (fun i hi => by rw [ob_wI_o hi, ob_wI_o hi]) (nu.2 y rfl hy)⟩
end DI
theorem pr_die (x : Int32) : ob_PAIR oX8_die oX9_die [.int x] := by
  intro E c σ hc hR
  have hR1 := hR.mono (Nat.le_succ c)
  obtain ⟨l, s, kp, im, tn, td, hl, hs, hCL, hML, hCS, hMS, hIM, hTD, hTX, hF⟩ := hR
  have hP6 := hl.2.2.1
  have hB8 := hl.2.2.2.1
  have ht : st_t s < 100000000 := by have := hs.1; omega
  by_cases hx : ∃ j, j < la_P l ∧ x = nI j
  · obtain ⟨p, hp, rfl⟩ := hx
    have hip : vp_in (nI p) 6 := ob_in (by omega) (by omega)
    refine m_X8_die (b_X8_die_0 (k_hasP1 hCL.2.1 hP6 hp (ob_bt (by decide) ?_)))
    cases hv : st_v s p with
    | false =>
      refine k_lives0 hl hCL hCS hp hv (ob_bf rfl (m_X9_die (b_X9_die_0 (n_isP1 hML.2.1 hP6 hp (ob_bt (by decide) ⟨hip, ?_⟩)))))
      rw [ob_cl (by omega), (hMS.2.2.1 p hp).2.2, hv]
      exact ob_bf rfl ⟨rfl, hR1⟩
    | true =>
      refine k_lives1 hl hCL hCS hp hv (ob_bt (by decide) (k_endLife hl hs hCL hCS hp (fun σ1 r1 hCS1 => ?_)))
      have hML1 : pi_ML σ1.1 l := hML.to (fun i a b => r1 i (by omega)) (fun k hk => by rw [r1 53 (by omega)])
      have hMS1 : pi_MS σ1.1 l s := hMS.to (fun i a b => r1 i (by omega)) (fun k hk => by rw [r1 53 (by omega)])
      refine m_X9_die (b_X9_die_0 (n_isP1 hML1.2.1 hP6 hp (ob_bt (by decide) ⟨hip, ?_⟩)))
      rw [ob_cl (by omega), (hMS1.2.2.1 p hp).2.2, hv, show vp_nar .boolean 0 = 0 from by decide]
      refine ob_bt (by decide) ⟨hip, ?_⟩
      have r2 : ∀ i, i ≠ 62 → (ob_wI σ1 62 p 0).1 i = σ1.1 i := fun i a => ob_wI_o a
      have e62 : ∀ q, q < la_P l → (ob_wI σ1 62 p 0).1 62 q = ob_bI (ob_nv s p q) := by
        intro q hq
        unfold ob_nv
        by_cases hqp : q = p
        · subst hqp; rw [ob_wI_s, if_pos rfl]; rfl
        · rw [ob_wI_n hqp, if_neg hqp]; exact (hMS1.2.2.1 q hq).2.2
      generalize ob_wI σ1 62 p 0 = σ2 at r2 e62 ⊢
      have hML2 : pi_ML σ2.1 l := hML1.to (fun i a b => r2 i (by omega)) (fun k hk => by rw [r2 53 (by decide)])
      refine n_youngest (v := ob_nv s p) hl hs.2.2.1 hML2 (fun q hq => ⟨by rw [r2 60 (by decide)]; exact (hMS1.2.2.1 q hq).1, e62 q hq⟩) ?_
      have hok := ob_ds_ok hl (hs.mono (Nat.le_succ c)) hp
      generalize hh : ob_yg (ob_nv s p) (st_a s) (la_P l) = h at hok hCS1 ⊢
      have hhy : ∀ y, h = some y → y < la_P l ∧ y ≠ p := by
        intro y e
        rw [e] at hh
        obtain ⟨a1, a2⟩ := ob_yg_some hh
        refine ⟨a1, fun z => ?_⟩
        subst z
        unfold ob_nv at a2
        rw [if_pos rfl] at a2
        cases a2
      refine n_dieLoop hl hs hp (fun q e => by have := (hhy q e).1; omega) hML2.2.2.1 (fun d hd => by rw [r2 63 (by decide), r2 64 (by decide), r2 65 (by decide)]; exact hMS1.2.2.2 d hd) (fun τ r w => ?_)
      have hu : ∀ q, q < la_P l → τ.1 61 q = st_u s q := fun q hq => by rw [r 61 (by decide) (by decide) (by decide), r2 61 (by decide)]; exact (hMS1.2.2.1 q hq).2.1
      have nu := ob_nuE (r := 61) hu hp (h := h) (fun e => (hhy p e).2 rfl)
      have fin : ∀ κ : ob_Mem, (∀ i, i ≠ 61 → κ.1 i = τ.1 i) → (∀ q, q < la_P l → κ.1 61 q = ob_nu s p h q) → ob_oI h = ob_oI h ∧ ob_REL (c + 1) κ.1 := by
        intro κ k1 k2
        refine ⟨rfl, ?_⟩
        have rr : ∀ i, i ≠ 61 → i ≠ 62 → i ≠ 63 → i ≠ 64 → i ≠ 65 → κ.1 i = σ1.1 i := fun i a b c d e => by rw [k1 i a, r i c d e, r2 i b]
        refine ob_REL.st (Nat.le_succ c) hl hCL hML hIM hTD hTX hF hok (hCS1.to (fun i a b => rr i (by omega) (by omega) (by omega) (by omega) (by omega)) (fun k hk => by rw [rr 17 (by decide) (by decide) (by decide) (by decide) (by decide)])) ⟨?_, ?_, fun q hq => ⟨?_, k2 q hq, ?_⟩, fun d hd => ?_⟩ (fun i hi => by rw [rr i (by omega) (by omega) (by omega) (by omega) (by omega), r1 i (by omega)]) (fun i k hk => by rw [rr i (by omega) (by omega) (by omega) (by omega) (by omega), r1 i (by omega)])
        · rw [rr 53 (by decide) (by decide) (by decide) (by decide) (by decide)]; exact hMS1.1
        · rw [rr 53 (by decide) (by decide) (by decide) (by decide) (by decide)]; exact hMS1.2.1
        · rw [rr 60 (by decide) (by decide) (by decide) (by decide) (by decide)]; exact (hMS1.2.2.1 q hq).1
        · rw [k1 62 (by decide), r 62 (by decide) (by decide) (by decide)]; exact e62 q hq
        · rw [k1 63 (by decide), k1 64 (by decide), k1 65 (by decide)]; exact w d hd
      refine b_X9_die_38 (br_t ?_ ?_)
      · rw [r 53 (by decide) (by decide) (by decide), hML2.2.2.1]
        exact (ob_le (by omega) (by omega)).mpr (Nat.le_refl _)
      · rw [ob_cl (n := p) (by omega)]
        cases h with
        | none => exact br_t (by decide) ⟨hip, fin _ (fun i hi => ob_wI_o hi) (nu.1 rfl)⟩
        | some y =>
          obtain ⟨hy, hyp⟩ := hhy y rfl
          have hiy : vp_in (nI y) 6 := ob_in (by omega) (by omega)
          refine br_f (ob_nneg (by omega)) ⟨hiy, hip, hiy, ?_⟩
          rw [show (ob_oI (some y)).toNatClampNeg = y from ob_cl (by omega)]
          rintro σ3 rfl
          exact ⟨hip, fin _ (fun i hi => by rw [ob_wI_o hi, ob_wI_o hi]) (nu.2 y rfl hy)⟩
  · exact m_X8_die (b_X8_die_0 (k_hasP0 hCL.2.1 hP6 hx (ob_bf rfl (m_X9_die (b_X9_die_0 (n_isP0 hML.2.1 hP6 hx (ob_bf rfl ⟨rfl, hR1⟩)))))))
