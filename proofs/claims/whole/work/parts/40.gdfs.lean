/-! GIVEN: the search through the ways in their order, in abstract -/
def gv_S (u C g : Nat → Nat) (n : Nat) : Nat := ob_ns (fun b => if g b = u b then 0 else C b) n
def gv_H (g : Nat → Nat) : Nat → Nat
  | 0 => 0
  | m + 1 => 6 * gv_H g m + g m
theorem gv_R_eq {X : Nat} {u C g : Nat → Nat} : ∀ {n : Nat}, n ≤ 8 → gv_R X u C n g = gv_S u C g n * X + gv_H g n * 6 ^ (8 - n)
  | 0, _ => by simp [gv_R, gv_S, gv_H, ob_ns]
  | n + 1, h => by
    have ih := gv_R_eq (X := X) (u := u) (C := C) (g := g) (n := n) (by omega)
    unfold gv_R gv_S at ih ⊢
    simp only [ob_ns, gv_H]
    rw [ih, gv_rk, show 8 - n = (7 - n) + 1 by omega, Nat.pow_succ, show 8 - (n + 1) = 7 - n by omega]
    generalize 6 ^ (7 - n) = w
    generalize (if g n = u n then 0 else C n) = c
    generalize ob_ns (fun b => if g b = u b then 0 else C b) n = a
    generalize gv_H g n = x
    rw [Nat.add_mul, Nat.add_mul, Nat.mul_comm w 6, ← Nat.mul_assoc, Nat.mul_comm x 6]
    omega
theorem gv_H_congr {x y : Nat → Nat} : ∀ {n : Nat}, (∀ i, i < n → x i = y i) → gv_H x n = gv_H y n
  | 0, _ => rfl
  | n + 1, h => by
    simp only [gv_H]
    rw [h n (by omega), gv_H_congr (n := n) (fun i hi => h i (by omega))]
theorem gv_H_lt {g : Nat → Nat} : ∀ {n : Nat}, (∀ i, i < n → g i < 6) → gv_H g n < 6 ^ n
  | 0, _ => by show 0 < 1; decide
  | n + 1, h => by
    have h1 := h n (by omega)
    have h2 := gv_H_lt (n := n) (fun i hi => h i (by omega))
    simp only [gv_H]
    rw [Nat.pow_succ]
    omega
theorem gv_H_lex {x y : Nat → Nat} {j : Nat} (ha : ∀ i, i < j → x i = y i) (hj : x j < y j) : ∀ {n : Nat}, j < n → (∀ i, i < n → x i < 6) → gv_H x n < gv_H y n
  | 0, h, _ => by omega
  | n + 1, h, h6 => by
    have h1 := h6 n (by omega)
    simp only [gv_H]
    by_cases e : j = n
    · subst e
      rw [gv_H_congr ha]
      omega
    · have := gv_H_lex ha hj (n := n) (by omega) (fun i hi => h6 i (by omega))
      omega
theorem gv_dig {g : Nat → Nat} : ∀ {n b : Nat}, b < n → (∀ i, i < n → g i < 6) → gv_H g n / 6 ^ (n - 1 - b) % 6 = g b
  | 0, b, h, _ => by omega
  | n + 1, b, h, h6 => by
    have h1 := h6 n (by omega)
    simp only [gv_H]
    by_cases e : b = n
    · subst e
      rw [show b + 1 - 1 - b = 0 by omega, Nat.pow_zero, Nat.div_one]
      omega
    · have ih := gv_dig (g := g) (n := n) (b := b) (by omega) (fun i hi => h6 i (by omega))
      rw [show n + 1 - 1 - b = (n - 1 - b) + 1 by omega, Nat.pow_succ, Nat.mul_comm (6 ^ (n - 1 - b)) 6, ← Nat.div_div_eq_div_mul, show (6 * gv_H g n + g n) / 6 = gv_H g n by omega]
      exact ih
theorem gv_dig2 {g : Nat → Nat} {B b : Nat} (hB : B ≤ 8) (hb : b < B) (h6 : ∀ i, i < B → g i < 6) : gv_H g B * 6 ^ (8 - B) / 6 ^ (7 - b) % 6 = g b := by
  rw [show 7 - b = (B - 1 - b) + (8 - B) by omega, Nat.pow_add, Nat.mul_div_mul_right _ _ (Nat.pow_pos (by decide))]
  exact gv_dig hb h6
theorem gv_N_lt {g : Nat → Nat} {B X : Nat} (hX : X = 6 ^ 8) (hB : B ≤ 8) (h6 : ∀ i, i < B → g i < 6) : gv_H g B * 6 ^ (8 - B) < X := by
  rw [hX, show (8 : Nat) = B + (8 - B) by omega, Nat.pow_add, show B + (8 - B) - B = 8 - B by omega]
  exact Nat.mul_lt_mul_of_pos_right (gv_H_lt h6) (Nat.pow_pos (by decide))
section GD
variable {X B : Nat} {u C : Nat → Nat}
theorem gv_R_lt {x y : Nat → Nat} (hX : X = 6 ^ 8) (hB : B ≤ 8) (h6 : ∀ i, i < B → x i < 6) (h : gv_S u C x B < gv_S u C y B) : gv_R X u C B x < gv_R X u C B y := by
  rw [gv_R_eq hB, gv_R_eq hB]
  have h1 := gv_N_lt hX hB h6
  have h2 : (gv_S u C x B + 1) * X ≤ gv_S u C y B * X := Nat.mul_le_mul_right X h
  rw [Nat.add_mul, Nat.one_mul] at h2
  omega
theorem gv_R_S {x y : Nat → Nat} (hX : X = 6 ^ 8) (hB : B ≤ 8) (h6 : ∀ i, i < B → y i < 6) (h : gv_R X u C B x ≤ gv_R X u C B y) : gv_S u C x B ≤ gv_S u C y B := by
  apply Classical.byContradiction
  intro z
  have := gv_R_lt (x := y) (y := x) (u := u) (C := C) hX hB h6 (by omega)
  omega
theorem gv_R_congr {x y : Nat → Nat} (h : ∀ i, i < B → x i = y i) : gv_R X u C B x = gv_R X u C B y := ob_ns_congr (fun b hb => by rw [h b hb])
theorem gv_S_congr {x y : Nat → Nat} {n : Nat} (h : ∀ i, i < n → x i = y i) : gv_S u C x n = gv_S u C y n := ob_ns_congr (fun b hb => by rw [h b hb])
theorem ob_ns_up {f : Nat → Nat} : ∀ {m n : Nat}, n ≤ m → ob_ns f n ≤ ob_ns f m
  | 0, n, h => by rw [Nat.le_zero.mp h]; exact Nat.le_refl _
  | m + 1, n, h => by
    by_cases e : n = m + 1
    · rw [e]; exact Nat.le_refl _
    · simp only [ob_ns]
      exact Nat.le_trans (ob_ns_up (m := m) (by omega)) (Nat.le_add_right _ _)
end GD
def gd_rem (g : Nat → Nat) (b c : Nat) (x : Nat → Nat) : Prop := ∃ j, j ≤ b ∧ (∀ i, i < j → x i = g i) ∧ (j < b → g j < x j) ∧ (j = b → c ≤ x b)
def gd_bef (g : Nat → Nat) (b c : Nat) (x : Nat → Nat) : Prop := ∃ j, j ≤ b ∧ (∀ i, i < j → x i = g i) ∧ (j < b → x j < g j) ∧ (j = b → x b < c)
def gd_I (F : (Nat → Nat) → Prop) (Rk Sk : (Nat → Nat) → Nat) (g : Nat → Nat) (b c best : Nat) (bg : Nat → Nat) : Prop := (best = 1000000 ∧ ∀ x, F x → gd_rem g b c x) ∨ (best < 1000000 ∧ F bg ∧ Sk bg = best ∧ gd_bef g b c bg ∧ ∀ x, F x → gd_rem g b c x ∨ Rk bg ≤ Rk x)
section GE
variable {F : (Nat → Nat) → Prop} {Rk Sk : (Nat → Nat) → Nat} {g bg : Nat → Nat} {b c best : Nat}
theorem gd_split {x : Nat → Nat} (h : gd_rem g b c x) : gd_rem g b (c + 1) x ∨ ((∀ i, i < b → x i = g i) ∧ x b = c) := by
  obtain ⟨j, j1, j2, j3, j4⟩ := h
  by_cases e : j = b
  · subst e
    by_cases ec : x j = c
    · exact Or.inr ⟨j2, ec⟩
    · exact Or.inl ⟨j, j1, j2, j3, fun _ => by have := j4 rfl; omega⟩
  · exact Or.inl ⟨j, j1, j2, j3, fun z => absurd z e⟩
theorem gd_next (h : gd_I F Rk Sk g b c best bg) (hc : ∀ x, F x → (∀ i, i < b → x i = g i) → x b = c → best < 1000000 ∧ (F bg → Sk bg = best → gd_bef g b c bg → Rk bg ≤ Rk x)) : gd_I F Rk Sk g b (c + 1) best bg := by
  rcases h with ⟨h1, h2⟩ | ⟨h1, h2, h3, h4, h5⟩
  · refine Or.inl ⟨h1, fun x hx => ?_⟩
    rcases gd_split (h2 x hx) with h | h
    · exact h
    · have := (hc x hx h.1 h.2).1
      omega
  · refine Or.inr ⟨h1, h2, h3, ?_, fun x hx => ?_⟩
    · obtain ⟨j, j1, j2, j3, j4⟩ := h4
      exact ⟨j, j1, j2, j3, fun z => Nat.lt_succ_of_lt (j4 z)⟩
    · rcases h5 x hx with h | h
      · rcases gd_split h with h | h
        · exact Or.inl h
        · exact Or.inr ((hc x hx h.1 h.2).2 h2 h3 h4)
      · exact Or.inr h
theorem gd_leaf {sum : Nat} {y : Nat → Nat} (h : gd_I F Rk Sk g b c best bg) (hag : ∀ i, i < b → y i = g i) (hb : y b = c) (hF : F y) (hS : Sk y = sum) (hlt : sum < best) (hfar : sum < 1000000) (hR1 : ∀ x, F x → (∀ i, i < b → x i = g i) → x b = c → Rk y ≤ Rk x) (hR2 : ∀ x, F x → sum < Sk x → Rk y ≤ Rk x) (hR3 : ∀ x z, F x → F z → Rk x ≤ Rk z → Sk x ≤ Sk z) : gd_I F Rk Sk g b (c + 1) sum y := by
  refine Or.inr ⟨hfar, hF, hS, ⟨b, Nat.le_refl _, hag, fun z => absurd z (Nat.lt_irrefl _), fun _ => by omega⟩, fun x hx => ?_⟩
  have key : gd_rem g b c x → gd_rem g b (c + 1) x ∨ Rk y ≤ Rk x := fun z => by
    rcases gd_split z with h | h
    · exact Or.inl h
    · exact Or.inr (hR1 x hx h.1 h.2)
  rcases h with ⟨h1, h2⟩ | ⟨h1, h2, h3, h4, h5⟩
  · exact key (h2 x hx)
  · rcases h5 x hx with h | h
    · exact key h
    · have := hR3 bg x h2 hx h
      exact Or.inr (hR2 x hx (by omega))
theorem gd_down {y : Nat → Nat} (h : gd_I F Rk Sk g b c best bg) (hag : ∀ i, i < b → y i = g i) (hb : y b = c) : gd_I F Rk Sk y (b + 1) 0 best bg := by
  have key : ∀ x, gd_rem g b c x → gd_rem y (b + 1) 0 x := by
    rintro x ⟨j, j1, j2, j3, j4⟩
    by_cases e : j = b
    · subst e
      by_cases ec : x j = c
      · refine ⟨j + 1, Nat.le_refl _, fun i hi => ?_, fun z => absurd z (Nat.lt_irrefl _), fun _ => Nat.zero_le _⟩
        by_cases e : i = j
        · rw [e, ec, hb]
        · rw [hag i (by omega)]; exact j2 i (by omega)
      · exact ⟨j, Nat.le_succ _, fun i hi => by rw [hag i hi]; exact j2 i hi, fun _ => by have := j4 rfl; omega, fun z => by omega⟩
    · exact ⟨j, by omega, fun i hi => by rw [hag i (by omega)]; exact j2 i hi, fun _ => by rw [hag j (by omega)]; exact j3 (by omega), fun z => by omega⟩
  rcases h with ⟨h1, h2⟩ | ⟨h1, h2, h3, h4, h5⟩
  · exact Or.inl ⟨h1, fun x hx => key x (h2 x hx)⟩
  · refine Or.inr ⟨h1, h2, h3, ?_, fun x hx => (h5 x hx).imp (key x) id⟩
    obtain ⟨j, j1, j2, j3, j4⟩ := h4
    by_cases e : j = b
    · subst e
      exact ⟨j, Nat.le_succ _, fun i hi => by rw [hag i hi]; exact j2 i hi, fun _ => by rw [hb]; exact j4 rfl, fun z => by omega⟩
    · exact ⟨j, by omega, fun i hi => by rw [hag i (by omega)]; exact j2 i hi, fun _ => by rw [hag j (by omega)]; exact j3 (by omega), fun z => by omega⟩
theorem gd_up {P : Nat} (h : gd_I F Rk Sk g (b + 1) P best bg) (hP : ∀ x, F x → x (b + 1) < P) : gd_I F Rk Sk g b (g b + 1) best bg := by
  have key : ∀ x, F x → gd_rem g (b + 1) P x → gd_rem g b (g b + 1) x := by
    rintro x hx ⟨j, j1, j2, j3, j4⟩
    have hj : j ≠ b + 1 := fun e => by have := j4 e; have := hP x hx; omega
    have := j3 (by omega)
    exact ⟨j, by omega, j2, fun _ => this, fun z => by rw [z] at this; omega⟩
  rcases h with ⟨h1, h2⟩ | ⟨h1, h2, h3, h4, h5⟩
  · exact Or.inl ⟨h1, fun x hx => key x hx (h2 x hx)⟩
  · refine Or.inr ⟨h1, h2, h3, ?_, fun x hx => (h5 x hx).imp (key x hx) id⟩
    obtain ⟨j, j1, j2, j3, j4⟩ := h4
    by_cases e : j = b + 1
    · subst e
      exact ⟨b, Nat.le_refl _, fun i hi => j2 i (by omega), fun z => absurd z (Nat.lt_irrefl _), fun _ => by have := j2 b (by omega); omega⟩
    · have := j3 (by omega)
      exact ⟨j, by omega, j2, fun _ => this, fun z => by rw [z] at this; omega⟩
theorem gd_end {P : Nat} (h : gd_I F Rk Sk g 0 P best bg) (hP : ∀ x, F x → x 0 < P) : (best = 1000000 ∧ ∀ x, ¬ F x) ∨ (best < 1000000 ∧ F bg ∧ Sk bg = best ∧ ∀ x, F x → Rk bg ≤ Rk x) := by
  have key : ∀ x, F x → ¬ gd_rem g 0 P x := by
    rintro x hx ⟨j, j1, j2, j3, j4⟩
    have := j4 (by omega)
    have := hP x hx
    omega
  rcases h with ⟨h1, h2⟩ | ⟨h1, h2, h3, h4, h5⟩
  · exact Or.inl ⟨h1, fun x hx => key x hx (h2 x hx)⟩
  · exact Or.inr ⟨h1, h2, h3, fun x hx => (h5 x hx).resolve_left (key x hx)⟩
theorem gd_congr {y : Nat → Nat} (h : gd_I F Rk Sk g b c best bg) (hag : ∀ i, i < b → y i = g i) : gd_I F Rk Sk y b c best bg := by
  have k1 : ∀ x, gd_rem g b c x → gd_rem y b c x := by
    rintro x ⟨j, j1, j2, j3, j4⟩
    exact ⟨j, j1, fun i hi => by rw [hag i (by omega)]; exact j2 i hi, fun z => by rw [hag j z]; exact j3 z, j4⟩
  rcases h with ⟨h1, h2⟩ | ⟨h1, h2, h3, ⟨j, j1, j2, j3, j4⟩, h5⟩
  · exact Or.inl ⟨h1, fun x hx => k1 x (h2 x hx)⟩
  · exact Or.inr ⟨h1, h2, h3, ⟨j, j1, fun i hi => by rw [hag i (by omega)]; exact j2 i hi, fun z => by rw [hag j z]; exact j3 z, j4⟩, fun x hx => (h5 x hx).imp (k1 x) id⟩
end GE
/-- what is passed over is no better -/
theorem gd_prune {X B P b c best : Nat} {u C g bg x : Nat → Nat} {F : (Nat → Nat) → Prop} (hX : X = 6 ^ 8) (hB : B ≤ 8) (h6 : ∀ x, F x → ∀ i, i < B → x i < 6) (hb : b < B) (hx : F x) (hag : ∀ i, i < b → x i = g i) (hc : x b = c) (hle : best ≤ gv_S u C g b + (if c = u b then 0 else C b)) (hF : F bg) (hS : gv_S u C bg B = best) (hbef : gd_bef g b c bg) : gv_R X u C B bg ≤ gv_R X u C B x := by
  have h1 : gv_S u C g b + (if c = u b then 0 else C b) ≤ gv_S u C x B := by
    have e : gv_S u C x (b + 1) = gv_S u C g b + (if c = u b then 0 else C b) := by
      show gv_S u C x b + (if x b = u b then 0 else C b) = _
      rw [gv_S_congr hag, hc]
    rw [← e]
    exact ob_ns_up (by omega)
  by_cases hlt : gv_S u C bg B < gv_S u C x B
  · exact Nat.le_of_lt (gv_R_lt hX hB (h6 bg hF) hlt)
  · have he : gv_S u C bg B = gv_S u C x B := by omega
    rw [gv_R_eq hB, gv_R_eq hB, he]
    obtain ⟨j, j1, j2, j3, j4⟩ := hbef
    have hl : gv_H bg B < gv_H x B := by
      by_cases e : j = b
      · subst e
        exact gv_H_lex (j := j) (fun i hi => by rw [hag i hi]; exact j2 i hi) (by rw [hc]; exact j4 rfl) hb (h6 bg hF)
      · exact gv_H_lex (j := j) (fun i hi => by rw [hag i (by omega)]; exact j2 i hi) (by rw [hag j (by omega)]; exact j3 (by omega)) (by omega) (h6 bg hF)
    exact Nat.add_le_add_left (Nat.mul_le_mul_right _ (Nat.le_of_lt hl)) _
