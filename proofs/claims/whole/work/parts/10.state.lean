/-! the class's state: what its readers answer -/
section ST
variable {E : ob_E} {σ : ob_Mem} {l : LdT} {s : StT}
/-- who uses a birthday -/
def ob_us (s : StT) (b : Nat) : Option Nat := match st_b s b with
  | none => st_w s b
  | some q => some q
/-- days till a birthday of day D comes next, today being t -/
def ob_tl (N t D : Nat) : Nat := if (D + N - t % N) % N = 0 then N else (D + N - t % N) % N
theorem ob_tl_in {N t D : Nat} (hN : 1 ≤ N) : 1 ≤ ob_tl N t D ∧ ob_tl N t D ≤ N := by
  unfold ob_tl
  have := Nat.mod_lt (D + N - t % N) (show 0 < N by omega)
  split <;> omega
/-- how often it comes in k days -/
def ob_cm (N t D k : Nat) : Nat := if k < ob_tl N t D then 0 else 1 + (k - ob_tl N t D) / N
theorem ob_cm_le {N t D k : Nat} (hN : 1 ≤ N) : ob_cm N t D k ≤ k := by
  unfold ob_cm
  have h := ob_tl_in (t := t) (D := D) hN
  have h2 : (k - ob_tl N t D) / N ≤ k - ob_tl N t D := Nat.div_le_self _ _
  split <;> omega
/-- for how many of k days it is lent still -/
def ob_dl (s : StT) (b k : Nat) : Nat := match st_b s b with
  | none => 0
  | some _ => min k (st_e s b - st_t s)
/-- by how much it ages one in k days -/
def ob_yf (l : LdT) (s : StT) (b p k : Nat) : Nat := if st_w s b = some p then ob_cm (la_N l) (st_t s) (la_D l b) k - ob_cm (la_N l) (st_t s) (la_D l b) (ob_dl s b k) else if st_b s b = some p then ob_cm (la_N l) (st_t s) (la_D l b) (ob_dl s b k) else 0
def ob_ys (l : LdT) (s : StT) (p k : Nat) (left : Option Nat) : Nat → Nat
  | 0 => 0
  | n + 1 => ob_ys l s p k left n + if left = some n then 0 else ob_yf l s n p k
def ob_sea (l : LdT) (s : StT) (b : Nat) : Nat := la_C l b + la_C l b * (la_N l - ob_tl (la_N l) (st_t s) (la_D l b)) / la_N l
theorem ob_yf_le (hl : ob_lok l) {b p k : Nat} : ob_yf l s b p k ≤ k := by
  unfold ob_yf
  have h1 := ob_cm_le (N := la_N l) (t := st_t s) (D := la_D l b) (k := k) (by have := hl.1; omega)
  have h2 := ob_cm_le (N := la_N l) (t := st_t s) (D := la_D l b) (k := ob_dl s b k) (by have := hl.1; omega)
  have h3 : ob_dl s b k ≤ k := by
    unfold ob_dl
    split
    · omega
    · exact Nat.min_le_left _ _
  split
  · omega
  · split <;> omega
theorem ob_ys_le (hl : ob_lok l) {p k : Nat} {left : Option Nat} : ∀ n, ob_ys l s p k left n ≤ n * k
  | 0 => by simp [ob_ys]
  | n + 1 => by
    have h1 := ob_ys_le hl (p := p) (k := k) (left := left) n
    have h2 := ob_yf_le (s := s) hl (b := n) (p := p) (k := k)
    rw [Nat.add_mul, Nat.one_mul]
    simp only [ob_ys]
    split <;> omega
theorem ob_min_nI {a b : Nat} (ha : a < 2000000000) (hb : b < 2000000000) : ob_min (nI a) (nI b) = nI (min a b) := by
  unfold ob_min
  by_cases h : b < a
  · rw [if_pos ((ob_lt hb ha).mpr h), Nat.min_eq_right (by omega)]
  · rw [if_neg (fun e => h ((ob_lt hb ha).mp e)), Nat.min_eq_left (by omega)]
theorem k_hasPerson {Q : Int32 → ob_Mem → Prop} {x : Int32} {P : Nat} (hP : σ.1 10 7 = nI P) (hp6 : P ≤ 6) (h1 : ∀ j, j < P → x = nI j → Q 1 σ) (h0 : (∀ j, j < P → x ≠ nI j) → Q 0 σ) : ob_RM shp E oX2_hasPerson [.ref 10, .int x] σ (ob_qI Q) := by
  refine m_X2_hasPerson (b_X2_hasPerson_0 ⟨fun c => h0 (fun j hj e => ?_), fun c => ⟨fun c2 => h0 (fun j hj e => ?_), fun c2 => ?_⟩⟩)
  · subst e
    exact absurd c (ob_nneg (by omega))
  · subst e
    rw [hP, ob_le (by omega) (by omega)] at c2
    omega
  · rw [hP] at c2
    obtain ⟨j, hj, e⟩ := ob_inv c c2 (by omega)
    exact h1 j hj e
theorem k_hasBirthday {Q : Int32 → ob_Mem → Prop} {x : Int32} {B : Nat} (hB : σ.1 10 8 = nI B) (hb8 : B ≤ 8) (h1 : ∀ j, j < B → x = nI j → Q 1 σ) (h0 : (∀ j, j < B → x ≠ nI j) → Q 0 σ) : ob_RM shp E oX2_hasBirthday [.ref 10, .int x] σ (ob_qI Q) := by
  refine m_X2_hasBirthday (b_X2_hasBirthday_0 ⟨fun c => h0 (fun j hj e => ?_), fun c => ⟨fun c2 => h0 (fun j hj e => ?_), fun c2 => ?_⟩⟩)
  · subst e
    exact absurd c (ob_nneg (by omega))
  · subst e
    rw [hB, ob_le (by omega) (by omega)] at c2
    omega
  · rw [hB] at c2
    obtain ⟨j, hj, e⟩ := ob_inv c c2 (by omega)
    exact h1 j hj e
theorem k_lives {Q : Int32 → ob_Mem → Prop} {x : Int32} (hl : ob_lok l) (hL : pi_CL σ.1 10 l) (hS : pi_CS σ.1 17 l s) (h1 : ∀ j, j < la_P l → x = nI j → st_v s j = true → Q 1 σ) (h0 : (∀ j, j < la_P l → x = nI j → st_v s j = false) → Q 0 σ) : ob_RM shp E oX6_lives [.ref 17, .int x] σ (ob_qI Q) := by
  have hP6 := hl.2.2.1
  refine m_X6_lives (b_X6_lives_0 (k_hasPerson hL.2.1 hP6 (fun j hj e => ?_) (fun h => ?_)))
  · subst e
    refine br_f (by decide) ?_
    rw [hS.1]
    by_cases hv : st_v s j = true
    · exact ob_bf ((ob_sf_bit (by omega) hj).mpr hv) (h1 j hj rfl hv)
    · refine ob_bt (fun e => hv ((ob_sf_bit (by omega) hj).mp e)) (h0 (fun i hi e => ?_))
      rw [ob_eq (by omega) (by omega)] at e
      subst e
      simpa using hv
  · exact br_t rfl (h0 (fun j hj e => absurd e (h j hj)))
theorem k_isLent {Q : Int32 → ob_Mem → Prop} {b : Nat} (hl : ob_lok l) (hk : ∀ q, st_b s b = some q → q < 2000000000) (hS : pi_CS σ.1 17 l s) (hb : b < la_B l) (h1 : st_b s b ≠ none → Q 1 σ) (h0 : st_b s b = none → Q 0 σ) : ob_RM shp E oX6_isLent [.ref 17, .int (nI b)] σ (ob_qI Q) := by
  have hB8 := hl.2.2.2.1
  have e := (hS.2.2.2.2 b hb).2.1
  refine m_X6_isLent (b_X6_isLent_0 ?_)
  rw [ob_cl (by omega)]
  show vp_in (nI b) 8 ∧ _
  refine ⟨ob_in (by omega) (by omega), ?_⟩
  rw [show σ.1 21 b = ob_oI (st_b s b) from e]
  first
    | exact ⟨fun c => h0 ((ob_oI_m1 hk).mp c), fun c => h1 (fun q => c ((ob_oI_m1 hk).mpr q))⟩
    | exact ⟨fun c => h1 (fun q => c ((ob_oI_m1 hk).mpr q)), fun c => h0 ((ob_oI_m1 hk).mp c)⟩
theorem ob_kb {c : Nat} (hs : ob_sok l s c) (hl : ob_lok l) {b : Nat} (hb : b < la_B l) : (∀ q, st_b s b = some q → q < 2000000000) ∧ (∀ q, st_w s b = some q → q < 2000000000) ∧ ∀ q, ob_us s b = some q → q < la_P l := by
  obtain ⟨h1, h2, h3⟩ := hs.2.2.2 b hb
  have hP := hl.2.2.1
  refine ⟨fun q hq => ?_, fun q hq => ?_, fun q hq => ?_⟩
  · have := (h3 q hq).1; omega
  · have := (h2 q hq).1; omega
  · unfold ob_us at hq
    split at hq
    · exact (h2 q hq).1
    · rename_i r hr
      cases hq
      exact (h3 _ hr).1
theorem k_userOf {Q : Int32 → ob_Mem → Prop} {b c : Nat} (hl : ob_lok l) (hs : ob_sok l s c) (hS : pi_CS σ.1 17 l s) (hb : b < la_B l) (h : Q (ob_oI (ob_us s b)) σ) : ob_RM shp E oX6_userOf [.ref 17, .int (nI b)] σ (ob_qI Q) := by
  have hB8 := hl.2.2.2.1
  obtain ⟨e1, e2, -⟩ := hS.2.2.2.2 b hb
  have hin : vp_in (nI b) 8 := ob_in (by omega) (by omega)
  refine m_X6_userOf (b_X6_userOf_0 (k_isLent hl (ob_kb hs hl hb).1 hS hb (fun c => br_f (by decide) ⟨hin, ?_⟩) (fun c => br_t rfl ⟨hin, ?_⟩)))
  · rw [ob_cl (by omega), show σ.1 21 b = _ from e2]
    unfold ob_us at h
    split at h
    · rename_i q; exact absurd q c
    · rename_i q; rw [q]; exact h
  · rw [ob_cl (by omega), show σ.1 20 b = _ from e1]
    unfold ob_us at h
    rw [c] at h
    exact h
theorem k_lentSet {Q : Int32 → ob_Mem → Prop} {c : Nat} (hl : ob_lok l) (hs : ob_sok l s c) (hL : pi_CL σ.1 10 l) (hS : pi_CS σ.1 17 l s) (h : Q (ob_sf (fun b => (st_b s b).isSome) (la_B l)) σ) : ob_RM shp E oX6_lentSet [.ref 17] σ (ob_qI Q) := by
  have hB8 := hl.2.2.2.1
  refine m_X6_lentSet (b_X6_lentSet_0 ?_)
  refine ob_loop0 (T := fun i => ob_RT shp E oX6_lentSet 4 [.ref 17, .int (ob_sf (fun b => (st_b s b).isSome) i), .int (nI i)] [] σ (ob_qI Q)) (B := la_B l) (b_X6_lentSet_4 ?_) (fun i hi ih => b_X6_lentSet_4 ?_)
  · rw [hL.2.2.1]
    exact br_t ((ob_le (by omega) (by omega)).mpr (Nat.le_refl _)) h
  · rw [hL.2.2.1]
    refine br_f (fun q => by rw [ob_le (by omega) (by omega)] at q; omega) ?_
    rw [nI_1]
    refine k_isLent hl (ob_kb hs hl hi).1 hS hi (fun c => br_f (by decide) ?_) (fun c => br_t rfl ?_)
    · have e : ob_sf (fun b => (st_b s b).isSome) (i + 1) = ob_sf (fun b => (st_b s b).isSome) i ||| (1 <<< (nI i &&& 31)) := by
        simp only [ob_sf]
        rw [if_pos (by cases hh : st_b s i with
          | none => exact absurd hh c
          | some q => rfl)]
      rw [← e]
      exact ih
    · have e : ob_sf (fun b => (st_b s b).isSome) (i + 1) = ob_sf (fun b => (st_b s b).isSome) i := by
        simp only [ob_sf]
        rw [if_neg (by rw [c]; decide)]
      rw [← e]
      exact ih
theorem ob_sf_pos {f : Nat → Bool} {i : Nat} (h : f i = true) : ob_sf f i ||| (1 <<< (nI i &&& 31)) = ob_sf f (i + 1) := by simp only [ob_sf]; rw [if_pos h]
theorem ob_sf_neg {f : Nat → Bool} {i : Nat} (h : f i = false) : ob_sf f i = ob_sf f (i + 1) := by simp only [ob_sf]; rw [if_neg (by rw [h]; decide)]
theorem k_ownedSet {Q : Int32 → ob_Mem → Prop} {c p : Nat} (hp : p < 2000000000) (hl : ob_lok l) (hs : ob_sok l s c) (hL : pi_CL σ.1 10 l) (hS : pi_CS σ.1 17 l s) (h : Q (ob_sf (fun b => decide (st_w s b = some p)) (la_B l)) σ) : ob_RM shp E oX6_ownedSet [.ref 17, .int (nI p)] σ (ob_qI Q) := by
  have hB8 := hl.2.2.2.1
  refine m_X6_ownedSet (b_X6_ownedSet_0 ?_)
  refine ob_loop0 (T := fun i => ob_RT shp E oX6_ownedSet 4 [.ref 17, .int (nI p), .int (ob_sf (fun b => decide (st_w s b = some p)) i), .int (nI i)] [] σ (ob_qI Q)) (B := la_B l) (b_X6_ownedSet_4 ?_) (fun i hi ih => b_X6_ownedSet_4 ?_)
  · rw [hL.2.2.1]
    exact br_t ((ob_le (by omega) (by omega)).mpr (Nat.le_refl _)) h
  · rw [hL.2.2.1]
    refine br_f (fun q => by rw [ob_le (by omega) (by omega)] at q; omega) ⟨ob_in (by omega) (by omega), ?_⟩
    rw [nI_1, ob_cl (by omega), show σ.1 20 i = _ from (hS.2.2.2.2 i hi).1]
    have hk := (ob_kb hs hl hi).2.1
    by_cases hc : st_w s i = some p
    · refine ob_bf ((ob_oI_eq hk hp).mpr hc) ?_
      rw [ob_sf_pos (f := fun b => decide (st_w s b = some p)) (by simpa using hc)]
      exact ih
    · refine ob_bt (fun q => hc ((ob_oI_eq hk hp).mp q)) ?_
      rw [ob_sf_neg (f := fun b => decide (st_w s b = some p)) (by simpa using hc)]
      exact ih
theorem k_usedSet {Q : Int32 → ob_Mem → Prop} {c p : Nat} (hp : p < 2000000000) (hl : ob_lok l) (hs : ob_sok l s c) (hL : pi_CL σ.1 10 l) (hS : pi_CS σ.1 17 l s) (h : Q (ob_sf (fun b => decide (ob_us s b = some p)) (la_B l)) σ) : ob_RM shp E oX6_usedSet [.ref 17, .int (nI p)] σ (ob_qI Q) := by
  have hB8 := hl.2.2.2.1
  have hP6 := hl.2.2.1
  refine m_X6_usedSet (b_X6_usedSet_0 ?_)
  refine ob_loop0 (T := fun i => ob_RT shp E oX6_usedSet 4 [.ref 17, .int (nI p), .int (ob_sf (fun b => decide (ob_us s b = some p)) i), .int (nI i)] [] σ (ob_qI Q)) (B := la_B l) (b_X6_usedSet_4 ?_) (fun i hi ih => b_X6_usedSet_4 ?_)
  · rw [hL.2.2.1]
    exact br_t ((ob_le (by omega) (by omega)).mpr (Nat.le_refl _)) h
  · rw [hL.2.2.1]
    refine br_f (fun q => by rw [ob_le (by omega) (by omega)] at q; omega) (k_userOf hl hs hS hi ?_)
    rw [nI_1]
    have hk : ∀ q, ob_us s i = some q → q < 2000000000 := fun q hq => by have := (ob_kb hs hl hi).2.2 q hq; omega
    by_cases hc : ob_us s i = some p
    · refine ob_bf ((ob_oI_eq hk hp).mpr hc) ?_
      rw [ob_sf_pos (f := fun b => decide (ob_us s b = some p)) (by simpa using hc)]
      exact ih
    · refine ob_bt (fun q => hc ((ob_oI_eq hk hp).mp q)) ?_
      rw [ob_sf_neg (f := fun b => decide (ob_us s b = some p)) (by simpa using hc)]
      exact ih
theorem k_daysTill {Q : Int32 → ob_Mem → Prop} {b : Nat} (hl : ob_lok l) (ht : st_t s < 100000000) (hL : pi_CL σ.1 10 l) (hS : pi_CS σ.1 17 l s) (hb : b < la_B l) (h : Q (nI (ob_tl (la_N l) (st_t s) (la_D l b))) σ) : ob_RM shp E oX6_daysTill [.ref 17, .int (nI b)] σ (ob_qI Q) := by
  obtain ⟨hN2, hN60, hP6, hB8, hbb, -⟩ := hl
  have hD := (hbb b hb).1
  have hm := Nat.mod_lt (st_t s) (show 0 < la_N l by omega)
  refine m_X6_daysTill (b_X6_daysTill_0 ?_)
  rw [hL.1, hS.2.1, ob_cl (by omega), show σ.1 13 b = _ from (hL.2.2.2.2.1 b hb).1]
  refine br_t ((ob_le (a := 1) (by omega) (by omega)).mpr (by omega)) ⟨ob_in (by omega) (by omega), nI_ne0 (by omega) (by omega), nI_ne0 (by omega) (by omega), ?_⟩
  rw [ob_mod (by omega) (by omega) (by omega), nI_add, ob_sub (by omega), ob_mod (by omega) (by omega) (by omega)]
  rintro w rfl
  have hm2 := Nat.mod_lt (la_D l b + la_N l - st_t s % la_N l) (show 0 < la_N l by omega)
  unfold ob_tl at h
  by_cases hz : (la_D l b + la_N l - st_t s % la_N l) % la_N l = 0
  · rw [if_pos hz] at h
    exact ob_bf (by rw [hz]; rfl) h
  · rw [if_neg hz] at h
    exact ob_bt (fun e => hz ((ob_eq (b := 0) (by omega) (by omega)).mp e)) h
theorem k_seasonOf {Q : Int32 → ob_Mem → Prop} {b : Nat} (hl : ob_lok l) (ht : st_t s < 100000000) (hL : pi_CL σ.1 10 l) (hS : pi_CS σ.1 17 l s) (hb : b < la_B l) (h : Q (nI (ob_sea l s b)) σ) : ob_RM shp E oX6_seasonOf [.ref 17, .int (nI b)] σ (ob_qI Q) := by
  have hl0 := hl
  obtain ⟨hN2, hN60, hP6, hB8, hbb, -⟩ := hl
  obtain ⟨hD, -, hC1, hC⟩ := hbb b hb
  have htl := ob_tl_in (N := la_N l) (t := st_t s) (D := la_D l b) (by omega)
  refine m_X6_seasonOf (b_X6_seasonOf_0 ?_)
  have hin : vp_in (nI b) 8 := ob_in (by omega) (by omega)
  refine br_t (by rw [hL.1]; exact (ob_le (a := 1) (by omega) (by omega)).mpr (by omega)) ⟨hin, hin, k_daysTill hl0 ht hL hS hb ⟨by rw [hL.1]; exact nI_ne0 (by omega) (by omega), ?_⟩⟩
  rw [ob_cl (by omega), show σ.1 15 b = _ from (hL.2.2.2.2.1 b hb).2.2, hL.1, ob_sub htl.2, pk_mul, ob_div ?_ (by omega) (by omega), nI_add]
  · exact h
  · have : la_C l b * (la_N l - ob_tl (la_N l) (st_t s) (la_D l b)) ≤ 99 * 60 := Nat.mul_le_mul hC (by omega)
    omega
theorem k_comings {Q : Int32 → ob_Mem → Prop} {b k : Nat} (hl : ob_lok l) (ht : st_t s < 100000000) (hk : k < 100000000) (hL : pi_CL σ.1 10 l) (hS : pi_CS σ.1 17 l s) (hb : b < la_B l) (h : Q (nI (ob_cm (la_N l) (st_t s) (la_D l b) k)) σ) : ob_RM shp E oX6_comings [.ref 17, .int (nI b), .int (nI k)] σ (ob_qI Q) := by
  have hN2 := hl.1
  have hN60 := hl.2.1
  have htl := ob_tl_in (N := la_N l) (t := st_t s) (D := la_D l b) (by omega)
  unfold ob_cm at h
  refine m_X6_comings (b_X6_comings_0 ?_)
  by_cases hk0 : k < 1
  · refine br_t ((ob_lt (b := 1) (by omega) (by omega)).mpr hk0) ?_
    rw [if_pos (by omega)] at h
    exact h
  · refine br_f (fun e => hk0 ((ob_lt (b := 1) (by omega) (by omega)).mp e)) (br_t (by rw [hL.1]; exact (ob_le (a := 1) (by omega) (by omega)).mpr (by omega)) (k_daysTill hl ht hL hS hb ?_))
    by_cases hc : k < ob_tl (la_N l) (st_t s) (la_D l b)
    · rw [if_pos hc] at h
      exact br_f (fun e => by rw [ob_le (by omega) (by omega)] at e; omega) h
    · rw [if_neg hc] at h
      refine br_t ((ob_le (by omega) (by omega)).mpr (by omega)) ⟨by rw [hL.1]; exact nI_ne0 (by omega) (by omega), ?_⟩
      rw [hL.1, ob_sub (by omega), ob_div (by omega) (by omega) (by omega), show (1 : Int32) = nI 1 from rfl, nI_add]
      exact h
theorem k_daysLent {Q : Int32 → ob_Mem → Prop} {b k c : Nat} (hl : ob_lok l) (hs : ob_sok l s c) (hc : c ≤ 600) (hk : k < 100000000) (hL : pi_CL σ.1 10 l) (hS : pi_CS σ.1 17 l s) (hb : b < la_B l) (h : Q (nI (ob_dl s b k)) σ) : ob_RM shp E oX6_daysLent [.ref 17, .int (nI b), .int (nI k)] σ (ob_qI Q) := by
  have hB8 := hl.2.2.2.1
  have ht := hs.1
  refine m_X6_daysLent (b_X6_daysLent_0 (k_isLent hl (ob_kb hs hl hb).1 hS hb (fun q => br_f (by decide) ⟨ob_in (by omega) (by omega), ?_⟩) (fun q => br_t rfl ?_)))
  · obtain ⟨r, hr⟩ : ∃ r, st_b s b = some r := by
      cases hh : st_b s b with
      | none => exact absurd hh q
      | some r => exact ⟨r, rfl⟩
    obtain ⟨-, -, -, -, g5, g6⟩ := (hs.2.2.2 b hb).2.2 r hr
    have e := (hS.2.2.2.2 b hb).2.2
    rw [hr] at e
    rw [ob_cl (by omega), show σ.1 22 b = nI (st_e s b) from e, hS.2.1, ob_sub (by omega)]
    unfold ob_dl at h
    rw [hr] at h
    dsimp only at h
    unfold ob_min
    by_cases hm : st_e s b - st_t s < k
    · rw [if_pos ((ob_lt (by omega) (by omega)).mpr hm)]
      rw [Nat.min_eq_right (by omega)] at h
      exact h
    · rw [if_neg (fun e => hm ((ob_lt (by omega) (by omega)).mp e))]
      rw [Nat.min_eq_left (by omega)] at h
      exact h
  · unfold ob_dl at h
    rw [q] at h
    exact h
theorem ob_dl_le {b k : Nat} : ob_dl s b k ≤ k := by
  unfold ob_dl
  split
  · omega
  · exact Nat.min_le_left _ _
theorem ob_cm_mono {N t D j k : Nat} (hjk : j ≤ k) : ob_cm N t D j ≤ ob_cm N t D k := by
  unfold ob_cm
  by_cases h : j < ob_tl N t D
  · rw [if_pos h]; omega
  · rw [if_neg h, if_neg (by omega)]
    have : (j - ob_tl N t D) / N ≤ (k - ob_tl N t D) / N := Nat.div_le_div_right (by omega)
    omega
theorem k_yearsFor {Q : Int32 → ob_Mem → Prop} {b p k c : Nat} (hl : ob_lok l) (hs : ob_sok l s c) (hc : c ≤ 600) (hp : p < 1000) (hk : k < 100000000) (hL : pi_CL σ.1 10 l) (hS : pi_CS σ.1 17 l s) (hb : b < la_B l) (h : Q (nI (ob_yf l s b p k)) σ) : ob_RM shp E oX6_yearsFor [.ref 17, .int (nI b), .int (nI p), .int (nI k)] σ (ob_qI Q) := by
  have hB8 := hl.2.2.2.1
  have ht : st_t s < 100000000 := by have := hs.1; omega
  have hin : vp_in (nI b) 8 := ob_in (by omega) (by omega)
  obtain ⟨e1, e2, -⟩ := hS.2.2.2.2 b hb
  obtain ⟨kb, kw, -⟩ := ob_kb hs hl hb
  have hd := ob_dl_le (s := s) (b := b) (k := k)
  have h1 := ob_cm_le (N := la_N l) (t := st_t s) (D := la_D l b) (k := k) (by have := hl.1; omega)
  unfold ob_yf at h
  refine m_X6_yearsFor (b_X6_yearsFor_0 ⟨hin, ?_⟩)
  rw [ob_cl (by omega), show σ.1 20 b = _ from e1]
  by_cases hw : st_w s b = some p
  · rw [if_pos hw] at h
    refine ob_bf (by rw [hw]; rfl) (k_comings hl ht hk hL hS hb (k_daysLent hl hs hc hk hL hS hb (k_comings hl ht (by omega) hL hS hb ?_)))
    rw [ob_sub (ob_cm_mono hd)]
    exact h
  · rw [if_neg hw] at h
    refine ob_bt (fun e => hw ((ob_oI_eq kw (by omega)).mp e.symm)) ⟨hin, ?_⟩
    rw [show σ.1 21 b = _ from e2]
    by_cases hq : st_b s b = some p
    · rw [if_pos hq] at h
      exact ob_bf (by rw [hq]; rfl) (k_daysLent hl hs hc hk hL hS hb (k_comings hl ht (by omega) hL hS hb h))
    · rw [if_neg hq] at h
      exact ob_bt (fun e => hq ((ob_oI_eq kb (by omega)).mp e.symm)) h
theorem k_yearsBehind {Q : Int32 → ob_Mem → Prop} {p k c : Nat} {left : Option Nat} (hleft : ∀ q, left = some q → q < 1000) (hl : ob_lok l) (hs : ob_sok l s c) (hc : c ≤ 600) (hp : p < 1000) (hk : k < 100000000) (hL : pi_CL σ.1 10 l) (hS : pi_CS σ.1 17 l s) (h : Q (nI (ob_ys l s p k left (la_B l))) σ) : ob_RM shp E oX6_yearsBehind [.ref 17, .int (nI p), .int (nI k), .int (ob_oI left)] σ (ob_qI Q) := by
  have hB8 := hl.2.2.2.1
  refine m_X6_yearsBehind (b_X6_yearsBehind_0 ?_)
  refine ob_loop0 (T := fun i => ob_RT shp E oX6_yearsBehind 6 [.ref 17, .int (nI p), .int (nI k), .int (ob_oI left), .int (nI (ob_ys l s p k left i)), .int (nI i)] [] σ (ob_qI Q)) (B := la_B l) (b_X6_yearsBehind_6 ?_) (fun i hi ih => b_X6_yearsBehind_6 ?_)
  · rw [hL.2.2.1]
    exact br_t ((ob_le (by omega) (by omega)).mpr (Nat.le_refl _)) h
  · rw [hL.2.2.1]
    refine br_f (fun q => by rw [ob_le (by omega) (by omega)] at q; omega) ?_
    simp only [nI_1]
    have e : ob_ys l s p k left (i + 1) = ob_ys l s p k left i + if left = some i then 0 else ob_yf l s i p k := rfl
    by_cases hq : left = some i
    · rw [e, if_pos hq, Nat.add_zero] at ih
      have hE : nI i = ob_oI left := by rw [hq]; rfl
      first
        | exact ob_bf hE ih
        | exact br_t hE ih
    · rw [e, if_neg hq] at ih
      have hE : ¬ nI i = ob_oI left := fun e => hq ((ob_oI_eq (fun p hp => by have := hleft p hp; omega) (by omega)).mp e.symm)
      have k1 := k_yearsFor (E := E) (Q := fun v σ1 => ob_RT shp E oX6_yearsBehind 6 [.ref 17, .int (nI p), .int (nI k), .int (ob_oI left), .int (nI (ob_ys l s p k left i) + v), .int (nI (i + 1))] [] σ1 (ob_qI Q)) hl hs hc hp hk hL hS hi (by rw [nI_add]; exact ih)
      first
        | exact ob_bt hE k1
        | exact br_f hE k1
theorem k_ageBehind {Q : Int32 → ob_Mem → Prop} {p k c : Nat} {left : Option Nat} (hleft : ∀ q, left = some q → q < 1000) (hl : ob_lok l) (hs : ob_sok l s c) (hc : c ≤ 600) (hp : p < la_P l) (hk : k < 100000000) (hL : pi_CL σ.1 10 l) (hS : pi_CS σ.1 17 l s) (h : Q (nI (min 999 (st_a s p + ob_ys l s p k left (la_B l)))) σ) : ob_RM shp E oX6_ageBehind [.ref 17, .int (nI p), .int (nI k), .int (ob_oI left)] σ (ob_qI Q) := by
  have hP6 := hl.2.2.1
  have ha := hs.2.2.1 p hp
  have hy := ob_ys_le (s := s) hl (p := p) (k := k) (left := left) (la_B l)
  have hy2 : la_B l * k ≤ 8 * 100000000 := Nat.mul_le_mul hl.2.2.2.1 (by omega)
  refine m_X6_ageBehind (b_X6_ageBehind_0 ⟨ob_in (by omega) (by omega), k_yearsBehind hleft hl hs hc (by omega) hk hL hS ?_⟩)
  rw [ob_cl (by omega), show σ.1 18 p = _ from (hS.2.2.2.1 p hp).1, nI_add]
  rw [show (999 : Int32) = nI 999 from rfl, ob_min_nI (by omega) (by omega)]
  exact h
end ST
