/-! the reference's readers -/
section MO
variable {E : ob_E} {σ : ob_Mem} {l : LdT} {s : StT}
theorem n_in {Q : Int32 → ob_Mem → Prop} {x a b : Int32} {y1 y2 : Int64} (e1 : y1 = a.toInt64) (e2 : y2 = b.toInt64) (h1 : a ≤ x → x ≤ b → Q 1 σ) (h0 : ¬ (a ≤ x ∧ x ≤ b) → Q 0 σ) : ob_RM shp E oX9_in [.long x.toInt64, .long y1, .long y2] σ (ob_qI Q) := by
  subst e1
  subst e2
  have w : ∀ u v : Int32, u.toInt64 < v.toInt64 ↔ u < v := fun u v => by rw [Int64.lt_iff_toInt_lt, Int32.lt_iff_toInt_lt, Int32.toInt_toInt64, Int32.toInt_toInt64]
  have g : ∀ u v : Int32, ¬ u < v ↔ v ≤ u := fun u v => by rw [Int32.lt_iff_toInt_lt, Int32.le_iff_toInt_le]; omega
  refine m_X9_in (b_X9_in_0 ?_)
  rw [w, w]
  refine ⟨fun c => h0 (fun q => absurd c ((g x a).mpr q.1)), fun c => ⟨fun c2 => h0 (fun q => absurd c2 ((g b x).mpr q.2)), fun c2 => h1 ((g x a).mp c) ((g b x).mp c2)⟩⟩
theorem ob_upto {x : Int32} {n : Nat} (hn : n < 1000000) : (0 ≤ x ∧ x ≤ nI n - 1) ↔ ∃ j, j < n ∧ x = nI j := by
  have e : (nI n - 1).toInt = (n : Int) - 1 := pk_sub_toInt (a := n) (b := 1) (by omega) (by omega)
  rw [Int32.le_iff_toInt_le, Int32.le_iff_toInt_le, e]
  constructor
  · rintro ⟨h1, h2⟩
    have h1 : 0 ≤ x.toInt := h1
    refine ⟨x.toInt.toNat, by omega, ?_⟩
    apply Int32.toInt_inj.mp
    rw [nI_toInt (by omega)]
    omega
  · rintro ⟨j, hj, rfl⟩
    rw [nI_toInt (by omega)]
    refine ⟨?_, by omega⟩
    show (0 : Int) ≤ j
    omega
theorem n_isPerson {Q : Int32 → ob_Mem → Prop} {x : Int32} {P : Nat} (hP : σ.1 53 1 = nI P) (hp6 : P ≤ 6) (h1 : ∀ j, j < P → x = nI j → Q 1 σ) (h0 : (∀ j, j < P → x ≠ nI j) → Q 0 σ) : ob_RM shp E oX9_isPerson [.ref 53, .int x] σ (ob_qI Q) := by
  refine m_X9_isPerson (b_X9_isPerson_0 (n_in (a := 0) (b := σ.1 53 1 - 1) (by decide) rfl (fun a1 a2 => ⟨rfl, ?_⟩) (fun a => ⟨rfl, h0 (fun j hj e => ?_)⟩)))
  · rw [hP] at a2
    obtain ⟨j, hj, e⟩ := (ob_upto (by omega)).mp ⟨a1, a2⟩
    exact h1 j hj e
  · rw [hP] at a
    exact a ((ob_upto (by omega)).mpr ⟨j, hj, e⟩)
theorem n_isBirthday {Q : Int32 → ob_Mem → Prop} {x : Int32} {P : Nat} (hP : σ.1 53 4 = nI P) (hp6 : P ≤ 8) (h1 : ∀ j, j < P → x = nI j → Q 1 σ) (h0 : (∀ j, j < P → x ≠ nI j) → Q 0 σ) : ob_RM shp E oX9_isBirthday [.ref 53, .int x] σ (ob_qI Q) := by
  refine m_X9_isBirthday (b_X9_isBirthday_0 (n_in (a := 0) (b := σ.1 53 4 - 1) (by decide) rfl (fun a1 a2 => ⟨rfl, ?_⟩) (fun a => ⟨rfl, h0 (fun j hj e => ?_)⟩)))
  · rw [hP] at a2
    obtain ⟨j, hj, e⟩ := (ob_upto (by omega)).mp ⟨a1, a2⟩
    exact h1 j hj e
  · rw [hP] at a
    exact a ((ob_upto (by omega)).mpr ⟨j, hj, e⟩)
theorem ob_bI0 (b : Bool) : ob_bI b = 0 ↔ b = false := by cases b <;> simp [ob_bI]
theorem n_alive {Q : Int32 → ob_Mem → Prop} (hl : ob_lok l) (hL : pi_ML σ.1 l) (hS : pi_MS σ.1 l s) (h : Q (ob_sf (st_v s) (la_P l)) σ) : ob_RM shp E oX9_alive [.ref 53] σ (ob_qI Q) := by
  have hP6 := hl.2.2.1
  refine m_X9_alive (b_X9_alive_0 ?_)
  refine ob_loop0 (T := fun i => ob_RT shp E oX9_alive 4 [.ref 53, .int (ob_sf (st_v s) i), .int (nI i)] [] σ (ob_qI Q)) (B := la_P l) (b_X9_alive_4 ?_) (fun i hi ih => b_X9_alive_4 ?_)
  · rw [hL.2.1]
    exact br_t ((ob_le (by omega) (by omega)).mpr (Nat.le_refl _)) h
  · rw [hL.2.1]
    refine br_f (fun q => by rw [ob_le (by omega) (by omega)] at q; omega) ⟨ob_in (by omega) (by omega), ?_⟩
    rw [nI_1, ob_cl (by omega), (hS.2.2.1 i hi).2.2, ob_or0]
    cases hv : st_v s i with
    | false =>
      refine br_t rfl ?_
      rw [ob_sf_neg hv]
      exact ih
    | true =>
      refine br_f (by decide) ?_
      rw [ob_sf_pos hv]
      exact ih
theorem n_lentSet {Q : Int32 → ob_Mem → Prop} {c : Nat} (hl : ob_lok l) (hs : ob_sok l s c) (hL : pi_ML σ.1 l) (hS : pi_MS σ.1 l s) (h : Q (ob_sf (fun b => (st_b s b).isSome) (la_B l)) σ) : ob_RM shp E oX9_lentSet [.ref 53] σ (ob_qI Q) := by
  have hB8 := hl.2.2.2.1
  refine m_X9_lentSet (b_X9_lentSet_0 ?_)
  refine ob_loop0 (T := fun i => ob_RT shp E oX9_lentSet 4 [.ref 53, .int (ob_sf (fun b => (st_b s b).isSome) i), .int (nI i)] [] σ (ob_qI Q)) (B := la_B l) (b_X9_lentSet_4 ?_) (fun i hi ih => b_X9_lentSet_4 ?_)
  · rw [hL.2.2.1]
    exact br_t ((ob_le (by omega) (by omega)).mpr (Nat.le_refl _)) h
  · rw [hL.2.2.1]
    refine br_f (fun q => by rw [ob_le (by omega) (by omega)] at q; omega) ⟨ob_in (by omega) (by omega), ?_⟩
    rw [nI_1, ob_cl (by omega), (hS.2.2.2 i hi).2.1, ob_or0]
    have hk := (ob_kb hs hl hi).1
    cases hv : st_b s i with
    | none =>
      refine br_f (by decide) ?_
      rw [ob_sf_neg (f := fun b => (st_b s b).isSome) (by simp [hv])]
      exact ih
    | some q =>
      refine br_t (ob_pos (hk q hv)) ?_
      rw [ob_sf_pos (f := fun b => (st_b s b).isSome) (by simp [hv])]
      exact ih
theorem n_userOf {Q : Int32 → ob_Mem → Prop} {b c : Nat} (hl : ob_lok l) (hs : ob_sok l s c) (hS : pi_MS σ.1 l s) (hb : b < la_B l) (h : Q (ob_oI (ob_us s b)) σ) : ob_RM shp E oX9_userOf [.ref 53, .int (nI b)] σ (ob_qI Q) := by
  have hB8 := hl.2.2.2.1
  obtain ⟨e1, e2, -⟩ := hS.2.2.2 b hb
  have hin : vp_in (nI b) 8 := ob_in (by omega) (by omega)
  refine m_X9_userOf (b_X9_userOf_0 ⟨hin, ?_⟩)
  rw [ob_cl (by omega), e1, e2]
  have hk := (ob_kb hs hl hb).1
  unfold ob_us at h
  cases hv : st_b s b with
  | none =>
    rw [hv] at h
    exact br_f (by decide) ⟨hin, h⟩
  | some q =>
    rw [hv] at h
    exact br_t (ob_pos (hk q hv)) ⟨hin, h⟩
theorem n_ownedBy {Q : Int32 → ob_Mem → Prop} {c p : Nat} {ow : Nat → Option Nat} (hp : p < 2000000000) (hl : ob_lok l) (hw : ∀ b, b < la_B l → ∀ q, ow b = some q → q < 2000000000) (hL : pi_ML σ.1 l) (hO : ∀ b, b < la_B l → σ.1 63 b = ob_oI (ow b)) (h : Q (ob_sf (fun b => decide (ow b = some p)) (la_B l)) σ) : ob_RM shp E oX9_ownedBy [.ref 53, .int (nI p)] σ (ob_qI Q) := by
  have hB8 := hl.2.2.2.1
  refine m_X9_ownedBy (b_X9_ownedBy_0 ?_)
  refine ob_loop0 (T := fun i => ob_RT shp E oX9_ownedBy 4 [.ref 53, .int (nI p), .int (ob_sf (fun b => decide (ow b = some p)) i), .int (nI i)] [] σ (ob_qI Q)) (B := la_B l) (b_X9_ownedBy_4 ?_) (fun i hi ih => b_X9_ownedBy_4 ?_)
  · rw [hL.2.2.1]
    exact br_t ((ob_le (by omega) (by omega)).mpr (Nat.le_refl _)) h
  · rw [hL.2.2.1]
    refine br_f (fun q => by rw [ob_le (by omega) (by omega)] at q; omega) ⟨ob_in (by omega) (by omega), ?_⟩
    rw [nI_1, ob_cl (by omega), hO i hi, ob_or0]
    have hk := hw i hi
    by_cases hc : ow i = some p
    · refine ob_bf ((ob_oI_eq hk hp).mpr hc) ?_
      rw [ob_sf_pos (f := fun b => decide (ow b = some p)) (by simpa using hc)]
      exact ih
    · refine ob_bt (fun q => hc ((ob_oI_eq hk hp).mp q)) ?_
      rw [ob_sf_neg (f := fun b => decide (ow b = some p)) (by simpa using hc)]
      exact ih
theorem n_usedBy {Q : Int32 → ob_Mem → Prop} {c p : Nat} (hp : p < 2000000000) (hl : ob_lok l) (hs : ob_sok l s c) (hL : pi_ML σ.1 l) (hS : pi_MS σ.1 l s) (h : Q (ob_sf (fun b => decide (ob_us s b = some p)) (la_B l)) σ) : ob_RM shp E oX9_usedBy [.ref 53, .int (nI p)] σ (ob_qI Q) := by
  have hB8 := hl.2.2.2.1
  have hP6 := hl.2.2.1
  refine m_X9_usedBy (b_X9_usedBy_0 ?_)
  refine ob_loop0 (T := fun i => ob_RT shp E oX9_usedBy 4 [.ref 53, .int (nI p), .int (ob_sf (fun b => decide (ob_us s b = some p)) i), .int (nI i)] [] σ (ob_qI Q)) (B := la_B l) (b_X9_usedBy_4 ?_) (fun i hi ih => b_X9_usedBy_4 ?_)
  · rw [hL.2.2.1]
    exact br_t ((ob_le (by omega) (by omega)).mpr (Nat.le_refl _)) h
  · rw [hL.2.2.1]
    refine br_f (fun q => by rw [ob_le (by omega) (by omega)] at q; omega) (n_userOf hl hs hS hi ?_)
    rw [nI_1, ob_or0]
    have hk : ∀ q, ob_us s i = some q → q < 2000000000 := fun q hq => by have := (ob_kb hs hl hi).2.2 q hq; omega
    by_cases hc : ob_us s i = some p
    · refine ob_bf ((ob_oI_eq hk hp).mpr hc) ?_
      rw [ob_sf_pos (f := fun b => decide (ob_us s b = some p)) (by simpa using hc)]
      exact ih
    · refine ob_bt (fun q => hc ((ob_oI_eq hk hp).mp q)) ?_
      rw [ob_sf_neg (f := fun b => decide (ob_us s b = some p)) (by simpa using hc)]
      exact ih
theorem ob_md {r i N : Nat} (hr : r < N) (hi : i ≤ N) : (r + i) % N = if r + i < N then r + i else r + i - N := by
  split
  · rename_i h
    exact Nat.mod_eq_of_lt h
  · rename_i h
    rw [Nat.mod_eq_sub_mod (by omega)]
    exact Nat.mod_eq_of_lt (by omega)
theorem ob_tl_eq {N t D : Nat} (hD : D < N) : ob_tl N t D = if D ≤ t % N then D + N - t % N else D - t % N := by
  have hr := Nat.mod_lt t (show 0 < N by omega)
  unfold ob_tl
  by_cases h1 : D ≤ t % N
  · rw [if_pos h1]
    by_cases h2 : D = t % N
    · rw [if_pos (by rw [← h2, show D + N - D = N by omega]; exact Nat.mod_self N)]
      omega
    · have : (D + N - t % N) % N = D + N - t % N := Nat.mod_eq_of_lt (by omega)
      rw [this, if_neg (by omega)]
  · rw [if_neg h1]
    have : (D + N - t % N) % N = D - t % N := by
      rw [Nat.mod_eq_sub_mod (by omega), Nat.mod_eq_of_lt (by omega)]
      omega
    rw [this, if_neg (by omega)]
theorem ob_tl_hit {N t D i : Nat} (hD : D < N) (h1 : 1 ≤ i) (h2 : i ≤ ob_tl N t D) : (t + i) % N = D ↔ i = ob_tl N t D := by
  have hr := Nat.mod_lt t (show 0 < N by omega)
  have hin := ob_tl_in (N := N) (t := t) (D := D) (by omega)
  rw [← Nat.mod_add_mod, ob_md hr (by omega)]
  rw [ob_tl_eq hD] at h2 ⊢
  by_cases h : D ≤ t % N
  · simp only [if_pos h] at h2 ⊢
    split <;> omega
  · simp only [if_neg h] at h2 ⊢
    split <;> omega
theorem n_tillOf {Q : Int32 → ob_Mem → Prop} {b : Nat} (hl : ob_lok l) (ht : st_t s < 100000000) (hL : pi_ML σ.1 l) (hS : pi_MS σ.1 l s) (hb : b < la_B l) (h : Q (nI (ob_tl (la_N l) (st_t s) (la_D l b))) σ) : ob_RM shp E oX9_tillOf [.ref 53, .int (nI b)] σ (ob_qI Q) := by
  obtain ⟨hN2, hN60, hP6, hB8, hbb, -⟩ := hl
  have hD := (hbb b hb).1
  have htl := ob_tl_in (N := la_N l) (t := st_t s) (D := la_D l b) (by omega)
  refine m_X9_tillOf (b_X9_tillOf_0 ?_)
  have key : ∀ i, i ≤ ob_tl (la_N l) (st_t s) (la_D l b) → (ob_rem (σ.1 53 9 + nI i) (σ.1 53 0) = σ.1 56 (nI b).toNatClampNeg ↔ (st_t s + i) % la_N l = la_D l b) := by
    intro i hi
    have hm := Nat.mod_lt (st_t s + i) (show 0 < la_N l by omega)
    rw [hS.1, hL.1, nI_add, ob_mod (by omega) (by omega) (by omega), ob_cl (by omega), (hL.2.2.2.2.1 b hb).1, ob_eq (by omega) (by omega)]
  have hne : ¬ σ.1 53 0 = 0 := by rw [hL.1]; exact nI_ne0 (by omega) (by omega)
  have hin : vp_in (nI b) 8 := ob_in (by omega) (by omega)
  refine ob_loop (T := fun i => 1 ≤ i → ob_RT shp E oX9_tillOf 2 [.ref 53, .int (nI b), .int (nI i)] [] σ (ob_qI Q)) (B := ob_tl (la_N l) (st_t s) (la_D l b)) (fun h1 => b_X9_tillOf_2 ⟨hne, hin, ?_⟩) (fun i hi ih h1 => b_X9_tillOf_2 ⟨hne, hin, ?_⟩) 1 htl.1 (Nat.le_refl 1)
  · exact br_t ((key _ (Nat.le_refl _)).mpr ((ob_tl_hit hD htl.1 (Nat.le_refl _)).mpr rfl)) h
  · refine br_f (fun e => ?_) ?_
    · have := (ob_tl_hit hD h1 (by omega)).mp ((key i (by omega)).mp e)
      omega
    · rw [nI_1]
      exact ih (by omega)
theorem n_seasonOf {Q : Int32 → ob_Mem → Prop} {b : Nat} (hl : ob_lok l) (ht : st_t s < 100000000) (hL : pi_ML σ.1 l) (hS : pi_MS σ.1 l s) (hb : b < la_B l) (h : Q (nI (ob_sea l s b)) σ) : ob_RM shp E oX9_seasonOf [.ref 53, .int (nI b)] σ (ob_qI Q) := by
  have hl0 := hl
  obtain ⟨hN2, hN60, hP6, hB8, hbb, -⟩ := hl
  obtain ⟨hD, -, hC1, hC⟩ := hbb b hb
  have htl := ob_tl_in (N := la_N l) (t := st_t s) (D := la_D l b) (by omega)
  have hin : vp_in (nI b) 8 := ob_in (by omega) (by omega)
  refine m_X9_seasonOf (b_X9_seasonOf_0 ⟨hin, hin, n_tillOf hl0 ht hL hS hb ⟨by rw [hL.1]; exact nI_ne0 (by omega) (by omega), ?_⟩⟩)
  rw [ob_cl (by omega), (hL.2.2.2.2.1 b hb).2.2, hL.1, ob_sub htl.2, pk_mul, ob_div ?_ (by omega) (by omega), nI_add]
  · exact h
  · have : la_C l b * (la_N l - ob_tl (la_N l) (st_t s) (la_D l b)) ≤ 99 * 60 := Nat.mul_le_mul hC (by omega)
    omega
theorem n_timesIn {Q : Int32 → ob_Mem → Prop} {b k : Nat} (hl : ob_lok l) (ht : st_t s < 100000000) (hk : k < 100000000) (hL : pi_ML σ.1 l) (hS : pi_MS σ.1 l s) (hb : b < la_B l) (h : Q (nI (ob_cm (la_N l) (st_t s) (la_D l b) k)) σ) : ob_RM shp E oX9_timesIn [.ref 53, .int (nI b), .int (nI k)] σ (ob_qI Q) := by
  have hN2 := hl.1
  have hN60 := hl.2.1
  have htl := ob_tl_in (N := la_N l) (t := st_t s) (D := la_D l b) (by omega)
  unfold ob_cm at h
  refine m_X9_timesIn (b_X9_timesIn_0 (n_tillOf hl ht hL hS hb ?_))
  by_cases hc : k < ob_tl (la_N l) (st_t s) (la_D l b)
  · rw [if_pos hc] at h
    exact br_f (fun e => by rw [ob_le (by omega) (by omega)] at e; omega) h
  · rw [if_neg hc] at h
    refine br_t ((ob_le (by omega) (by omega)).mpr (by omega)) ⟨by rw [hL.1]; exact nI_ne0 (by omega) (by omega), ?_⟩
    rw [hL.1, ob_sub (by omega), ob_div (by omega) (by omega) (by omega), nI_1, Nat.add_comm]
    exact h
theorem n_yearsBy {Q : Int32 → ob_Mem → Prop} {b p k c : Nat} (hl : ob_lok l) (hs : ob_sok l s c) (hc : c ≤ 600) (hp : p < la_P l) (hk : k < 100000000) (hL : pi_ML σ.1 l) (hS : pi_MS σ.1 l s) (hb : b < la_B l) (h : Q (nI (ob_yf l s b p k)) σ) : ob_RM shp E oX9_yearsBy [.ref 53, .int (nI b), .int (nI p), .int (nI k)] σ (ob_qI Q) := by
  have hB8 := hl.2.2.2.1
  have hP6 := hl.2.2.1
  have ht : st_t s < 100000000 := by have := hs.1; omega
  have hin : vp_in (nI b) 8 := ob_in (by omega) (by omega)
  obtain ⟨e1, e2, e3⟩ := hS.2.2.2 b hb
  obtain ⟨kb, kw, -⟩ := ob_kb hs hl hb
  obtain ⟨w1, w2, w3⟩ := hs.2.2.2 b hb
  have hd := ob_dl_le (s := s) (b := b) (k := k)
  have hcl : (nI b).toNatClampNeg = b := ob_cl (by omega)
  refine m_X9_yearsBy (b_X9_yearsBy_0 ⟨ob_in (by omega) (by omega), ?_⟩)
  rw [ob_cl (n := p) (by omega), (hS.2.2.1 p hp).2.2]
  cases hv : st_v s p with
  | false =>
    refine ob_bf rfl ?_
    have : ob_yf l s b p k = 0 := by
      unfold ob_yf
      rw [if_neg (fun q => by rw [(w2 p q).2] at hv; cases hv), if_neg (fun q => by rw [(w3 p q).2.1] at hv; cases hv)]
    rw [this] at h
    exact h
  | true =>
    refine ob_bt (by decide) ⟨hin, ?_⟩
    rw [hcl, e2, e3, hS.1]
    have tail : ∀ x4 : Int32, ob_RT shp E oX9_yearsBy 49 [.ref 53, .int (nI b), .int (nI p), .int (nI k), .int x4, .null, .null] [.int (nI (ob_dl s b k))] σ (ob_qI Q) := by
      intro x4
      refine b_X9_yearsBy_49 ⟨hin, ?_⟩
      rw [hcl, e2]
      have last : ∀ z : Nat, (st_w s b = some p → z = 0) → (st_w s b ≠ some p → ob_yf l s b p k = z) → ob_RT shp E oX9_yearsBy 72 [.ref 53, .int (nI b), .int (nI p), .int (nI k), .int x4, .int (nI (ob_dl s b k)), .null] [.int (nI z)] σ (ob_qI Q) := by
        intro z z1 z2
        refine b_X9_yearsBy_72 ⟨hin, ?_⟩
        rw [hcl, e1]
        by_cases hw : st_w s b = some p
        · refine ob_bf ((ob_oI_eq kw (by omega)).mpr hw) (n_timesIn hl ht hk hL hS hb (n_timesIn hl ht (by omega) hL hS hb ?_))
          rw [ob_sub (ob_cm_mono hd), nI_add, z1 hw, Nat.zero_add]
          unfold ob_yf at h
          rw [if_pos hw] at h
          exact h
        · refine ob_bt (fun q => hw ((ob_oI_eq kw (by omega)).mp q)) ?_
          rw [show (0 : Int32) = nI 0 from rfl, nI_add, Nat.add_zero, ← z2 hw]
          exact h
      by_cases hq : st_b s b = some p
      · refine ob_bf ((ob_oI_eq kb (by omega)).mpr hq) (n_timesIn hl ht (by omega) hL hS hb (last _ (fun q => absurd q (w3 p hq).2.2.2.1) (fun q => ?_)))
        unfold ob_yf
        rw [if_neg q, if_pos hq]
      · refine ob_bt (fun q => hq ((ob_oI_eq kb (by omega)).mp q)) (last 0 (fun _ => rfl) (fun q => ?_))
        unfold ob_yf
        rw [if_neg q, if_neg hq]
    cases hv2 : st_b s b with
    | none =>
      refine br_f (by decide) (b_X9_yearsBy_35 ?_)
      have e0 : ob_dl s b k = 0 := by unfold ob_dl; rw [hv2]
      have tail := tail 0
      rw [e0] at tail
      by_cases hk0 : k = 0
      · subst hk0
        exact br_t (by decide) tail
      · exact br_f (fun q => by rw [show (0 : Int32) = nI 0 from rfl, ob_le (by omega) (by omega)] at q; omega) tail
    | some r =>
      obtain ⟨-, -, -, -, g5, g6⟩ := w3 r hv2
      have ht2 := hs.1
      refine br_t (ob_pos (kb r hv2)) ⟨hin, ?_⟩
      show ob_RT shp E oX9_yearsBy 35 _ [.int (nI (st_e s b) - nI (st_t s))] σ (ob_qI Q)
      rw [ob_sub (by omega)]
      refine b_X9_yearsBy_35 ?_
      have e0 : ob_dl s b k = min k (st_e s b - st_t s) := by unfold ob_dl; rw [hv2]
      rw [e0] at tail
      by_cases hm : k ≤ st_e s b - st_t s
      · rw [Nat.min_eq_left hm] at tail
        exact br_t ((ob_le (by omega) (by omega)).mpr hm) (tail _)
      · rw [Nat.min_eq_right (by omega)] at tail
        exact br_f (fun q => hm ((ob_le (by omega) (by omega)).mp q)) (tail _)
theorem n_olderBy {Q : Int32 → ob_Mem → Prop} {p k c : Nat} {left : Option Nat} (hleft : ∀ q, left = some q → q < 1000) (hl : ob_lok l) (hs : ob_sok l s c) (hc : c ≤ 600) (hp : p < la_P l) (hk : k < 100000000) (hL : pi_ML σ.1 l) (hS : pi_MS σ.1 l s) (h : Q (nI (ob_ys l s p k left (la_B l))) σ) : ob_RM shp E oX9_olderBy [.ref 53, .int (nI p), .int (nI k), .int (ob_oI left)] σ (ob_qI Q) := by
  have hB8 := hl.2.2.2.1
  refine m_X9_olderBy (b_X9_olderBy_0 ?_)
  refine ob_loop0 (T := fun i => ob_RT shp E oX9_olderBy 6 [.ref 53, .int (nI p), .int (nI k), .int (ob_oI left), .int (nI (ob_ys l s p k left i)), .int (nI i)] [] σ (ob_qI Q)) (B := la_B l) (b_X9_olderBy_6 ?_) (fun i hi ih => b_X9_olderBy_6 ?_)
  · rw [hL.2.2.1]
    exact br_t ((ob_le (by omega) (by omega)).mpr (Nat.le_refl _)) h
  · rw [hL.2.2.1]
    refine br_f (fun q => by rw [ob_le (by omega) (by omega)] at q; omega) ?_
    simp only [nI_1]
    have e : ob_ys l s p k left (i + 1) = ob_ys l s p k left i + if left = some i then 0 else ob_yf l s i p k := rfl
    by_cases hq : left = some i
    · rw [e, if_pos hq] at ih
      have hE : nI i = ob_oI left := by rw [hq]; rfl
      refine ob_bf hE ?_
      rw [show (0 : Int32) = nI 0 from rfl, nI_add]
      exact ih
    · rw [e, if_neg hq] at ih
      have hE : ¬ nI i = ob_oI left := fun e => hq ((ob_oI_eq (fun p hp => by have := hleft p hp; omega) (by omega)).mp e.symm)
      refine ob_bt hE (n_yearsBy hl hs hc hp hk hL hS hi ?_)
      rw [nI_add]
      exact ih
theorem n_ageIn {Q : Int32 → ob_Mem → Prop} {p k c : Nat} {left : Option Nat} (hleft : ∀ q, left = some q → q < 1000) (hl : ob_lok l) (hs : ob_sok l s c) (hc : c ≤ 600) (hp : p < la_P l) (hk : k < 100000000) (hL : pi_ML σ.1 l) (hS : pi_MS σ.1 l s) (h : Q (nI (min 999 (st_a s p + ob_ys l s p k left (la_B l)))) σ) : ob_RM shp E oX9_ageIn [.ref 53, .int (nI p), .int (nI k), .int (ob_oI left)] σ (ob_qI Q) := by
  have hP6 := hl.2.2.1
  have ha := hs.2.2.1 p hp
  have hy := ob_ys_le (s := s) hl (p := p) (k := k) (left := left) (la_B l)
  have hy2 : la_B l * k ≤ 8 * 100000000 := Nat.mul_le_mul hl.2.2.2.1 (by omega)
  refine m_X9_ageIn (b_X9_ageIn_0 ⟨ob_in (by omega) (by omega), n_olderBy hleft hl hs hc hp hk hL hS ?_⟩)
  rw [ob_cl (by omega), (hS.2.2.1 p hp).1, nI_add]
  by_cases hm : st_a s p + ob_ys l s p k left (la_B l) ≤ 999
  · rw [Nat.min_eq_right hm] at h
    exact br_t ((ob_le (b := 999) (by omega) (by omega)).mpr hm) h
  · rw [Nat.min_eq_left (by omega)] at h
    exact br_f (fun e => hm ((ob_le (b := 999) (by omega) (by omega)).mp e)) h
theorem n_goodOf {Q : Int32 → ob_Mem → Prop} {a : Nat} (ha : a < 1000000) (hl : ob_lok l) (hL : pi_ML σ.1 l) (h : Q (nI (la_G l a)) σ) : ob_RM shp E oX9_goodOf [.ref 53, .int (nI a)] σ (ob_qI Q) := by
  refine m_X9_goodOf (b_X9_goodOf_0 ?_)
  by_cases h1 : a ≤ 120
  · refine br_t ((ob_le (b := 120) (by omega) (by omega)).mpr h1) ⟨ob_in (by omega) (by omega), ?_⟩
    rw [ob_cl (by omega), hL.2.2.2.2.2 a h1]
    exact h
  · refine br_f (fun e => h1 ((ob_le (b := 120) (by omega) (by omega)).mp e)) ?_
    rw [hl.2.2.2.2.2.2.1 a (by omega)] at h
    exact h
theorem k_goodOf {Q : Int32 → ob_Mem → Prop} {a : Nat} (ha : a < 1000000) (hl : ob_lok l) (hL : pi_CL σ.1 10 l) (h : Q (nI (la_G l a)) σ) : ob_RM shp E oX2_goodOf [.ref 10, .int (nI a)] σ (ob_qI Q) := by
  refine m_X2_goodOf (b_X2_goodOf_0 (m_X2_tellsGoodOf_10 (b_X2_tellsGoodOf_10_0 ?_)))
  refine br_f (ob_nneg (by omega)) ?_
  by_cases h1 : 120 < a
  · refine br_t ((ob_lt (a := 120) (by omega) (by omega)).mpr h1) (br_t rfl ?_)
    rw [hl.2.2.2.2.2.2.1 a (by omega)] at h
    exact h
  · refine br_f (fun e => h1 ((ob_lt (a := 120) (by omega) (by omega)).mp e)) ⟨ob_in (by omega) (by omega), ?_⟩
    rw [ob_cl (by omega)]
    rcases hL.2.2.2.2.2 a (by omega) with ⟨g1, g2⟩ | g1
    · refine br_t g1 (br_t rfl ?_)
      rw [g2] at h
      exact h
    · have g1 : σ.1 16 a = nI (la_G l a) := g1
      have hG := hl.2.2.2.2.2.1 a
      rw [g1]
      refine br_f (ob_m1 (by omega)) (br_f (by decide) ⟨ob_in (by omega) (by omega), ?_⟩)
      exact h
end MO
