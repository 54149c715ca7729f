/-! GIVEN in the class: the table of the best -/
theorem ob_minL_lN {a b : Nat} (ha : a < 2 ^ 63) (hb : b < 2 ^ 63) : ob_minL (lN a) (lN b) = lN (min a b) := by
  unfold ob_minL
  by_cases h : b < a
  · rw [if_pos ((pk_lLT hb ha).mpr h), Nat.min_eq_right (by omega)]
  · rw [if_neg (fun z => h ((pk_lLT hb ha).mp z)), Nat.min_eq_left (by omega)]
theorem ob_and0 {a b : Nat} : a &&& b = 0 ↔ ∀ i, a.testBit i = true → b.testBit i = false := by
  constructor
  · intro h i hi
    have e : (a &&& b).testBit i = false := by rw [h, Nat.zero_testBit]
    rw [Nat.testBit_and, hi, Bool.true_and] at e
    exact e
  · intro h
    apply Nat.eq_of_testBit_eq
    intro i
    rw [Nat.zero_testBit, Nat.testBit_and]
    cases hi : a.testBit i with
    | false => rfl
    | true => rw [h i hi]; rfl
def pi_GB (M : Nat → Nat → Int64) (β : Nat → Nat → Nat) : Prop := ∀ c t, c ≤ 6 → t < 256 → M 49 (c * 256 + t) = lN (β c t)
def gb_up (β : Nat → Nat → Nat) (c t x : Nat) : Nat → Nat → Nat := fun c' t' => if c' = c ∧ t' = t then min (β c' t') x else β c' t'
section KT
variable {E : ob_E} {σ : ob_Mem} {U : Nat}
theorem k_tryEnough {Q : ob_Mem → Prop} {c t x cnt : Nat} {e mo : Nat → Nat} {β : Nat → Nat → Nat} (hc : c + 1 ≤ 6) (ht : t < 256) (hx : x ≤ 1000000000000) (h49 : pi_GB σ.2 β) (hβ : ∀ c t, β c t < 2 ^ 63) (hcnt : cnt ≤ 256) (h5 : σ.1 45 5 = nI cnt) (he : ∀ i, i < cnt → σ.1 48 i = nI (e i) ∧ e i < 256) (hmo : ∀ i, i < cnt → σ.2 47 (e i) = lN (mo (e i)) ∧ mo (e i) ≤ 1000000000000) (h : ∀ (σ' : ob_Mem) (β' : Nat → Nat → Nat), σ'.1 = σ.1 → (∀ i, i ≠ 49 → σ'.2 i = σ.2 i) → pi_GB σ'.2 β' → (∀ c' t', β' c' t' ≤ β c' t') → (∀ c' t', β' c' t' = β c' t' ∨ ∃ i, i < cnt ∧ e i &&& t = 0 ∧ c' = c + 1 ∧ t' = e i ||| t ∧ β' c' t' = x + mo (e i)) → (∀ i, i < cnt → e i &&& t = 0 → β' (c + 1) (e i ||| t) ≤ x + mo (e i)) → Q σ') : ob_RM shp E oX1_tryEnough [.ref 45, .int (nI (c + 1)), .int (nI t), .long (lN x)] σ (ob_qV Q) := by
  refine m_X1_tryEnough (b_X1_tryEnough_0 ?_)
  refine ob_loop0 (T := fun i => ∀ (τ : ob_Mem) (β' : Nat → Nat → Nat), τ.1 = σ.1 → (∀ j, j ≠ 49 → τ.2 j = σ.2 j) → pi_GB τ.2 β' → (∀ c' t', β' c' t' ≤ β c' t') → (∀ c' t', β' c' t' = β c' t' ∨ ∃ j, j < i ∧ e j &&& t = 0 ∧ c' = c + 1 ∧ t' = e j ||| t ∧ β' c' t' = x + mo (e j)) → (∀ j, j < i → e j &&& t = 0 → β' (c + 1) (e j ||| t) ≤ x + mo (e j)) → ob_RT shp E oX1_tryEnough 3 [.ref 45, .int (nI (c + 1)), .int (nI t), .long (lN x), .null, .int (nI i), .null, .null] [] τ (ob_qV Q)) (B := cnt) (fun τ β' r1 r2 g w1 w2 w3 => b_X1_tryEnough_3 ?_) (fun i hi ih τ β' r1 r2 g w1 w2 w3 => b_X1_tryEnough_3 ?_) σ β rfl (fun _ _ => rfl) h49 (fun _ _ => Nat.le_refl _) (fun _ _ => Or.inl rfl) (fun j hj => by omega)
  · rw [r1, h5]
    exact br_t ((ob_le (by omega) (by omega)).mpr (Nat.le_refl _)) (h τ β' r1 r2 g w1 w2 w3)
  · rw [r1, h5, ob_cl (n := i) (by omega), (he i hi).1, ob_andI, ob_orI, nI_1 i]
    have hei := (he i hi).2
    have hal : e i &&& t ≤ e i := Nat.and_le_left
    have hor : e i ||| t < 256 := Nat.or_lt_two_pow (n := 8) hei ht
    have hp : (c + 1) * 256 + (e i ||| t) < 1792 := by omega
    refine br_f (fun z => by rw [ob_le (by omega) (by omega)] at z; omega) ⟨ob_in (by omega) (by omega), ?_⟩
    by_cases hd : e i &&& t = 0
    · refine ob_bf (by rw [hd]; rfl) ?_
      rintro w1' rfl
      rw [show (256 : Int32) = nI 256 from rfl, pk_mul, nI_add, ob_cl (n := (c + 1) * 256 + (e i ||| t)) (by omega), ob_cl (n := e i) (by omega), g (c + 1) (e i ||| t) hc hor, r2 47 (by decide), (hmo i hi).1, lN_add]
      have hb1 := hβ (c + 1) (e i ||| t)
      have hb2 := w1 (c + 1) (e i ||| t)
      have hm := (hmo i hi).2
      rw [ob_minL_lN (by omega) (by omega)]
      refine ⟨ob_in hp (by omega), ob_in hei (by omega), ob_in hp (by omega), ?_⟩
      rintro σ2 rfl
      refine ih (ob_wL τ 49 ((c + 1) * 256 + (e i ||| t)) (lN (min (β' (c + 1) (e i ||| t)) (x + mo (e i))))) (gb_up β' (c + 1) (e i ||| t) (x + mo (e i))) r1 (fun j hj => by rw [ob_wL_o hj]; exact r2 j hj) (fun c' t' hc' ht' => ?_) (fun c' t' => ?_) (fun c' t' => ?_) (fun j hj hdj => ?_)
      · unfold gb_up
        by_cases ec : c' = c + 1 ∧ t' = e i ||| t
        · rw [if_pos ec, ec.1, ec.2, ob_wL_s]
        · rw [if_neg ec, ob_wL_n (fun z => ec (by omega))]
          exact g c' t' hc' ht'
      · have := w1 c' t'
        unfold gb_up
        split <;> omega
      · unfold gb_up
        by_cases ec : c' = c + 1 ∧ t' = e i ||| t
        · rw [if_pos ec]
          by_cases el : β' c' t' ≤ x + mo (e i)
          · rw [Nat.min_eq_left el]
            exact (w2 c' t').imp id (fun ⟨j, j1, j2⟩ => ⟨j, by omega, j2⟩)
          · exact Or.inr ⟨i, by omega, hd, ec.1, ec.2, Nat.min_eq_right (by omega)⟩
        · rw [if_neg ec]
          exact (w2 c' t').imp id (fun ⟨j, j1, j2⟩ => ⟨j, by omega, j2⟩)
      · unfold gb_up
        by_cases ej : j = i
        · rw [ej, if_pos ⟨rfl, rfl⟩]
          exact Nat.min_le_right _ _
        · have := w3 j (by omega) hdj
          split <;> omega
    · refine ob_bt (fun z => hd (by have := (ob_eq (b := 0) (by omega) (by omega)).mp z; exact this)) (ih τ β' r1 r2 g w1 (fun c' t' => (w2 c' t').imp id (fun ⟨j, j1, j2⟩ => ⟨j, by omega, j2⟩)) (fun j hj hdj => ?_))
      by_cases ej : j = i
      · rw [ej] at hdj; exact absurd hdj hd
      · exact w3 j (by omega) hdj
theorem k_tryPerson {Q : ob_Mem → Prop} {X v B L q cnt : Nat} {u C tm age : Nat → Nat} {live : Nat → Bool} {e mo : Nat → Nat} {β : Nat → Nat → Nat} (hU : (9223372036854775807 : Int64) = lN U) (hU63 : U < 2 ^ 63) (hB : B ≤ 8) (hL1 : 1 ≤ L) (hL6 : L ≤ 6) (h4 : σ.1 45 4 = nI (2 ^ B)) (h49 : pi_GB σ.2 β) (hβ : ∀ c t, β c t ≤ U) (hcnt : cnt ≤ 256) (h5 : σ.1 45 5 = nI cnt) (he : ∀ i, i < cnt → σ.1 48 i = nI (e i) ∧ e i < 2 ^ B ∧ gv_je tm age v B q (e i)) (hall : ∀ S, S < 2 ^ B → gv_je tm age v B q S → ∃ i, i < cnt ∧ e i = S) (hmo : ∀ S, S < 2 ^ B → σ.2 47 S = lN (mo S) ∧ mo S ≤ 1000000000000 ∧ mo S = ob_tt (fun b => gv_de X u C b q) S B) (hl : live q = true) (ha : age q < v) (hS : ∀ c t, c ≤ 6 → t < 2 ^ B → β c t = U ∨ (gv_W X u C tm age live v B q c t (β c t) ∧ β c t ≤ 1000000000000)) (h : ∀ (σ' : ob_Mem) (β' : Nat → Nat → Nat), σ'.1 = σ.1 → (∀ i, i ≠ 49 → σ'.2 i = σ.2 i) → pi_GB σ'.2 β' → (∀ c t, β' c t ≤ β c t) → (∀ c t, c ≤ 6 → t < 2 ^ B → β' c t = U ∨ gv_W X u C tm age live v B (q + 1) c t (β' c t)) → (∀ c t S, c < L → t < 2 ^ B → S < 2 ^ B → β c t < U → gv_je tm age v B q S → S &&& t = 0 → β' (c + 1) (S ||| t) ≤ β c t + mo S) → Q σ') : ob_RM shp E oX1_tryPerson [.ref 45, .int (nI L)] σ (ob_qV Q) := by
  have h256 := ob_p256 hB
  refine m_X1_tryPerson (b_X1_tryPerson_0 ?_)
  rw [show (6 : Int32) = nI 6 from rfl, ob_min_nI (by omega) (by omega), Nat.min_eq_left hL6]
  have key : ∀ j, j ≤ L → ∀ (τ : ob_Mem) (β' : Nat → Nat → Nat), τ.1 = σ.1 → (∀ i, i ≠ 49 → τ.2 i = σ.2 i) → pi_GB τ.2 β' → (∀ c t, β' c t ≤ β c t) → (∀ c t, c ≤ 6 → t < 2 ^ B → β' c t = U ∨ gv_W X u C tm age live v B (q + 1) c t (β' c t)) → (∀ c t, c ≤ j → β' c t = β c t) → (∀ c t S, j ≤ c → c < L → t < 2 ^ B → S < 2 ^ B → β c t < U → gv_je tm age v B q S → S &&& t = 0 → β' (c + 1) (S ||| t) ≤ β c t + mo S) → ob_RT shp E oX1_tryPerson 9 [.ref 45, .int (nI L), .int (nI j - 1), .null, .null, .null] [] τ (ob_qV Q) := by
    intro j
    induction j with
    | zero =>
      intro hj τ β' r1 r2 g w1 w2 w3 w4
      exact b_X1_tryPerson_9 (br_t (by decide) (h τ β' r1 r2 g w1 w2 (fun c t S => w4 c t S (Nat.zero_le _))))
    | succ j ihj =>
      intro hj τ β' r1 r2 g w1 w2 w3 w4
      rw [nI_m1]
      refine b_X1_tryPerson_9 (br_f (ob_nneg (by omega)) ?_)
      refine ob_loop0 (T := fun t => ∀ (τ : ob_Mem) (β' : Nat → Nat → Nat), τ.1 = σ.1 → (∀ i, i ≠ 49 → τ.2 i = σ.2 i) → pi_GB τ.2 β' → (∀ c t, β' c t ≤ β c t) → (∀ c t, c ≤ 6 → t < 2 ^ B → β' c t = U ∨ gv_W X u C tm age live v B (q + 1) c t (β' c t)) → (∀ c t, c ≤ j → β' c t = β c t) → (∀ c t' S, (j + 1 ≤ c ∨ (c = j ∧ t' < t)) → c < L → t' < 2 ^ B → S < 2 ^ B → β c t' < U → gv_je tm age v B q S → S &&& t' = 0 → β' (c + 1) (S ||| t') ≤ β c t' + mo S) → ob_RT shp E oX1_tryPerson 15 [.ref 45, .int (nI L), .int (nI j), .int (nI t), .null, .null] [] τ (ob_qV Q)) (B := 2 ^ B) (fun τ β' r1 r2 g w1 w2 w3 w4 => b_X1_tryPerson_15 ?_) (fun t ht ih τ β' r1 r2 g w1 w2 w3 w4 => b_X1_tryPerson_15 ?_) τ β' r1 r2 g w1 w2 (fun c t hc => w3 c t (by omega)) (fun c t' S hc => w4 c t' S (by omega))
      · rw [r1, h4]
        refine br_t ((ob_le (by omega) (by omega)).mpr (Nat.le_refl _)) ?_
        rw [← Int32.sub_eq_add_neg]
        exact ihj (by omega) τ β' r1 r2 g w1 w2 w3 (fun c t S h1 h2 h3 => w4 c t S (by omega) h2 h3)
      · rw [r1, h4, show (256 : Int32) = nI 256 from rfl, pk_mul, nI_add, ob_cl (n := j * 256 + t) (by omega), g j t (by omega) (by omega), w3 j t (Nat.le_refl _), nI_1 t, nI_1 j, hU]
        have hb := hβ j t
        refine br_f (fun z => by rw [ob_le (by omega) (by omega)] at z; omega) ⟨ob_in (by omega) (by omega), ?_⟩
        rw [pk_lEQ (by omega) hU63]
        by_cases hbu : β j t = U
        · refine br_t hbu (ih τ β' r1 r2 g w1 w2 w3 (fun c t' S h1 h2 h3 h4 h5 => ?_))
          by_cases e1 : c = j ∧ t' = t
          · rw [e1.1, e1.2] at h5; omega
          · exact w4 c t' S (by omega) h2 h3 h4 h5
        · obtain ⟨hW, hWb⟩ := (hS j t (by omega) ht).resolve_left hbu
          refine br_f hbu (k_tryEnough (c := j) (t := t) (x := β j t) (cnt := cnt) (e := e) (mo := mo) (β := β') (by omega) (by omega) hWb g (fun c t => by have := w1 c t; have := hβ c t; omega) hcnt (by rw [r1]; exact h5) (fun i hi => by rw [r1]; exact ⟨(he i hi).1, by have := (he i hi).2.1; omega⟩) (fun i hi => by rw [r2 47 (by decide)]; exact ⟨(hmo (e i) (he i hi).2.1).1, (hmo (e i) (he i hi).2.1).2.1⟩) (fun σ' β'' q1 q2 g' v1 v2 v3 => ?_))
          refine ih σ' β'' (by rw [q1, r1]) (fun i hi => by rw [q2 i hi, r2 i hi]) g' (fun c t => Nat.le_trans (v1 c t) (w1 c t)) (fun c t' hc ht' => ?_) (fun c t' hc => ?_) (fun c t' S h1 h2 h3 h4 h5 h6 h7 => ?_)
          · rcases v2 c t' with e1 | ⟨i, i1, i2, i3, i4, i5⟩
            · rw [e1]; exact w2 c t' hc ht'
            · right
              rw [i5, i3, i4, (hmo (e i) (he i i1).2.1).2.2]
              exact gv_W_step hW hl ha (he i i1).2.2.1 (fun b _ hb => ob_and0.mp i2 b hb)
          · rcases v2 c t' with e1 | ⟨i, i1, i2, i3, i4, i5⟩
            · rw [e1]; exact w3 c t' hc
            · omega
          · by_cases e1 : c = j ∧ t' = t
            · rw [e1.2] at h7
              rw [e1.1, e1.2]
              obtain ⟨i, i1, i2⟩ := hall S h4 h6
              have := v3 i i1 (by rw [i2]; exact h7)
              rw [i2] at this
              exact this
            · exact Nat.le_trans (v1 _ _) (w4 c t' S (by omega) h2 h3 h4 h5 h6 h7)
  exact key L (Nat.le_refl _) σ β rfl (fun _ _ => rfl) h49 (fun _ _ => Nat.le_refl _) (fun c t hc ht => (hS c t hc ht).imp id (fun z => gv_W_mono z.1)) (fun _ _ _ => rfl) (fun c t S h1 h2 => by omega)
theorem k_leastOf {Q : Int64 → ob_Mem → Prop} {B L : Nat} {β : Nat → Nat → Nat} (hU : (9223372036854775807 : Int64) = lN U) (hU63 : U < 2 ^ 63) (hB : B ≤ 8) (hL6 : L ≤ 6) (h4 : σ.1 45 4 = nI (2 ^ B)) (h49 : pi_GB σ.2 β) (hβ : ∀ c t, β c t ≤ U) (h : ∀ r, r ≤ U → (∀ t, t < 2 ^ B → r ≤ β L t) → (r = U ∨ ∃ t, t < 2 ^ B ∧ β L t = r) → Q (lN r) σ) : ob_RM shp E oX1_leastOf [.ref 45, .int (nI L)] σ (ob_qL Q) := by
  have h256 := ob_p256 hB
  refine m_X1_leastOf (b_X1_leastOf_0 ?_)
  rw [hU]
  refine ob_loop0 (T := fun t => ∀ x, x ≤ U → (∀ t', t' < t → x ≤ β L t') → (x = U ∨ ∃ t', t' < t ∧ β L t' = x) → ob_RT shp E oX1_leastOf 7 [.ref 45, .int (nI L), .long (lN x), .null, .int (nI t)] [] σ (ob_qL Q)) (B := 2 ^ B) (fun x hx w1 w2 => b_X1_leastOf_7 ?_) (fun t ht ih x hx w1 w2 => b_X1_leastOf_7 ?_) U (Nat.le_refl _) (fun t' ht' => by omega) (Or.inl rfl)
  · rw [h4]
    exact br_t ((ob_le (by omega) (by omega)).mpr (Nat.le_refl _)) (h x hx w1 w2)
  · have hb := hβ L t
    rw [h4, show (256 : Int32) = nI 256 from rfl, pk_mul, nI_add, ob_cl (n := L * 256 + t) (by omega), h49 L t hL6 (by omega), ob_minL_lN (by omega) (by omega), nI_1]
    refine br_f (fun z => by rw [ob_le (by omega) (by omega)] at z; omega) ⟨ob_in (by omega) (by omega), ?_⟩
    rintro w1' rfl
    refine ih (min x (β L t)) (by omega) (fun t' ht' => ?_) ?_
    · by_cases e1 : t' = t
      · rw [e1]; exact Nat.min_le_right _ _
      · have := w1 t' (by omega)
        omega
    · by_cases el : x ≤ β L t
      · rw [Nat.min_eq_left el]
        exact w2.imp id (fun ⟨t', h1, h2⟩ => ⟨t', by omega, h2⟩)
      · exact Or.inr ⟨t, by omega, by omega⟩
end KT
