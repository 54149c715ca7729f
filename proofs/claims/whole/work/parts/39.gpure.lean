/-! GIVEN in abstract: sums, ranks, ways -/
def ob_ns (f : Nat → Nat) : Nat → Nat
  | 0 => 0
  | n + 1 => ob_ns f n + f n
theorem ob_ns_congr {f g : Nat → Nat} : ∀ {n : Nat}, (∀ i, i < n → f i = g i) → ob_ns f n = ob_ns g n
  | 0, _ => rfl
  | n + 1, h => by
    simp only [ob_ns]
    rw [h n (by omega), ob_ns_congr (n := n) (fun i hi => h i (by omega))]
theorem ob_ns_mono {f g : Nat → Nat} : ∀ {n : Nat}, (∀ i, i < n → f i ≤ g i) → ob_ns f n ≤ ob_ns g n
  | 0, _ => Nat.le_refl _
  | n + 1, h => by
    have h1 := h n (by omega)
    have h2 := ob_ns_mono (n := n) (fun i hi => h i (by omega))
    simp only [ob_ns]
    omega
theorem ob_ns_add {f g : Nat → Nat} : ∀ n, ob_ns (fun i => f i + g i) n = ob_ns f n + ob_ns g n
  | 0 => rfl
  | n + 1 => by
    simp only [ob_ns]
    rw [ob_ns_add n]
    omega
theorem ob_ns_le {f : Nat → Nat} {M : Nat} : ∀ {n : Nat}, (∀ i, i < n → f i ≤ M) → ob_ns f n ≤ n * M
  | 0, _ => Nat.zero_le _
  | n + 1, h => by
    have h1 := h n (by omega)
    have h2 := ob_ns_le (n := n) (fun i hi => h i (by omega))
    simp only [ob_ns]
    rw [Nat.add_mul, Nat.one_mul]
    omega
theorem ob_tt_ns {f : Nat → Nat} {S : Nat} : ∀ n, ob_tt f S n = ob_ns (fun b => if S.testBit b = true then f b else 0) n
  | 0 => rfl
  | n + 1 => by
    simp only [ob_tt, ob_ns]
    rw [ob_tt_ns n]
theorem ob_xorF : ∀ (S : Fin 256) (b : Fin 8), S.val.testBit b.val = true → S.val - 2 ^ b.val = S.val ^^^ 2 ^ b.val ∧ S.val - 2 ^ b.val < S.val := by decide +kernel
theorem ob_mbit {S b i : Nat} (hS : S < 256) (hb : b < 8) (h : S.testBit b = true) : (S - 2 ^ b).testBit i = (S.testBit i ^^ decide (b = i)) := by
  have := ob_xorF ⟨S, hS⟩ ⟨b, hb⟩ h
  rw [this.1, Nat.testBit_xor, Nat.testBit_two_pow]
def gv_rk (X : Nat) (u C : Nat → Nat) (b p : Nat) : Nat := (if p = u b then 0 else C b) * X + p * 6 ^ (7 - b)
def gv_de (X : Nat) (u C : Nat → Nat) (b p : Nat) : Nat := gv_rk X u C b p - gv_rk X u C b (u b)
def gv_R (X : Nat) (u C : Nat → Nat) (B : Nat) (g : Nat → Nat) : Nat := ob_ns (fun b => gv_rk X u C b (g b)) B
def gv_yr (tm : Nat → Nat) (B : Nat) (g : Nat → Nat) (p : Nat) : Nat := ob_ns (fun b => if g b = p then tm b else 0) B
def gv_en (live : Nat → Bool) (age tm : Nat → Nat) (v P B : Nat) (g : Nat → Nat) : Nat := ob_ns (fun p => if live p = true ∧ v ≤ age p + gv_yr tm B g p then 1 else 0) P
def gv_old (live : Nat → Bool) (age : Nat → Nat) (v P : Nat) : Nat := ob_ns (fun p => if live p = true ∧ v ≤ age p then 1 else 0) P
def gv_va (live : Nat → Bool) (P B : Nat) (g : Nat → Nat) : Prop := ∀ b, b < B → g b < P ∧ live (g b) = true
def gv_hv (X : Nat) (u C : Nat → Nat) (b : Nat) : Option Nat → Nat
  | none => 0
  | some p => gv_de X u C b p
def gv_W (X : Nat) (u C tm age : Nat → Nat) (live : Nat → Bool) (v B q c t x : Nat) : Prop := ∃ h : Nat → Option Nat, (∀ b, b < B → t.testBit b = (h b).isSome) ∧ (∀ b p, b < B → h b = some p → p < q ∧ live p = true) ∧ c ≤ ob_ns (fun p => if live p = true ∧ age p < v ∧ v ≤ age p + ob_ns (fun b => if h b = some p then tm b else 0) B then 1 else 0) q ∧ x = ob_ns (fun b => gv_hv X u C b (h b)) B
def gv_je (tm age : Nat → Nat) (v B q S : Nat) : Prop := v ≤ age q + ob_tt tm S B ∧ ∀ b, b < B → S.testBit b = true → age q + ob_tt tm (S - 2 ^ b) B < v
def gv_pc (live : Nat → Bool) (age tm : Nat → Nat) (v B : Nat) (g : Nat → Nat) (q : Nat) : Nat := ob_ns (fun p => if live p = true ∧ age p < v ∧ v ≤ age p + gv_yr tm B g p then 1 else 0) q
def gv_C (X : Nat) (u C tm age : Nat → Nat) (live : Nat → Bool) (v P B L q : Nat) (β : Nat → Nat → Nat) : Prop := ∀ g, gv_va live P B g → ∃ t, t < 2 ^ B ∧ (∀ b, b < B → t.testBit b = true → g b < q) ∧ β (min L (gv_pc live age tm v B g q)) t ≤ ob_ns (fun b => if g b < q then gv_de X u C b (g b) else 0) B
def gv_OPT (X : Nat) (u C tm age : Nat → Nat) (live : Nat → Bool) (v P B k r : Nat) : Prop := (∃ g, gv_va live P B g ∧ k ≤ gv_en live age tm v P B g ∧ gv_R X u C B g = r) ∧ ∀ g, gv_va live P B g → k ≤ gv_en live age tm v P B g → r ≤ gv_R X u C B g
section GV
variable {P B v X L k : Nat} {live : Nat → Bool} {age u C tm : Nat → Nat}
theorem gv_pow {b : Nat} : 6 ^ (7 - b) ≤ 279936 := by
  have h : 6 ^ (7 - b) ≤ 6 ^ 7 := Nat.pow_le_pow_right (by decide) (Nat.sub_le 7 b)
  exact h
theorem gv_rk_le {b p : Nat} (hX : 1399680 < X) (hC : 1 ≤ C b) (hu : u b < 6) : gv_rk X u C b (u b) ≤ gv_rk X u C b p := by
  unfold gv_rk
  rw [if_pos rfl]
  by_cases h : p = u b
  · rw [h, if_pos rfl]
    exact Nat.le_refl _
  · rw [if_neg h]
    have h1 : u b * 6 ^ (7 - b) ≤ 5 * 279936 := Nat.mul_le_mul (by omega) gv_pow
    have h2 : 1 * X ≤ C b * X := Nat.mul_le_mul_right X hC
    omega
theorem gv_rk_bd {b p : Nat} (hC : C b ≤ 99) (hp : p < 6) : gv_rk X u C b p ≤ 99 * X + 1399680 := by
  unfold gv_rk
  have h1 : p * 6 ^ (7 - b) ≤ 5 * 279936 := Nat.mul_le_mul (by omega) gv_pow
  have h2 : (if p = u b then 0 else C b) * X ≤ 99 * X := Nat.mul_le_mul_right X (by split <;> omega)
  omega
theorem gv_R_de {g : Nat → Nat} (hX : 1399680 < X) (hC : ∀ b, b < B → 1 ≤ C b) (hu : ∀ b, b < B → u b < 6) : gv_R X u C B g = gv_R X u C B u + ob_ns (fun b => gv_de X u C b (g b)) B := by
  unfold gv_R
  rw [← ob_ns_add]
  refine ob_ns_congr (fun b hb => ?_)
  have := gv_rk_le (p := g b) hX (hC b hb) (hu b hb)
  unfold gv_de
  omega
theorem gv_W_mono {q c t x : Nat} (h : gv_W X u C tm age live v B q c t x) : gv_W X u C tm age live v B (q + 1) c t x := by
  obtain ⟨h, h1, h2, h3, h4⟩ := h
  refine ⟨h, h1, fun b p hb hp => ⟨Nat.lt_succ_of_lt (h2 b p hb hp).1, (h2 b p hb hp).2⟩, ?_, h4⟩
  simp only [ob_ns]
  exact Nat.le_trans h3 (Nat.le_add_right _ _)
theorem gv_W_step {q c t x S : Nat} (hW : gv_W X u C tm age live v B q c t x) (hl : live q = true) (ha : age q < v) (he : v ≤ age q + ob_tt tm S B) (hd : ∀ b, b < B → S.testBit b = true → t.testBit b = false) : gv_W X u C tm age live v B (q + 1) (c + 1) (S ||| t) (x + ob_tt (fun b => gv_de X u C b q) S B) := by
  obtain ⟨h, h1, h2, h3, h4⟩ := hW
  have hn : ∀ b, b < B → S.testBit b = true → h b = none := fun b hb hS => by
    have := h1 b hb
    rw [hd b hb hS] at this
    cases hh : h b with
    | none => rfl
    | some p => rw [hh] at this; cases this
  have inner : ∀ p, p < q → ob_ns (fun b => if (if S.testBit b = true then some q else h b) = some p then tm b else 0) B = ob_ns (fun b => if h b = some p then tm b else 0) B := by
    intro p hp
    refine ob_ns_congr (fun b hb => ?_)
    by_cases hS : S.testBit b = true
    · rw [if_pos hS, hn b hb hS, if_neg (c := some q = some p) (fun z => by cases z; omega), if_neg (c := none = some p) (fun z => by cases z)]
    · rw [if_neg hS]
  have innerq : ob_ns (fun b => if (if S.testBit b = true then some q else h b) = some q then tm b else 0) B = ob_tt tm S B := by
    rw [ob_tt_ns]
    refine ob_ns_congr (fun b hb => ?_)
    by_cases hS : S.testBit b = true
    · rw [if_pos hS, if_pos hS, if_pos rfl]
    · rw [if_neg hS, if_neg hS]
      exact if_neg (fun z => by have := (h2 b q hb z).1; omega)
  refine ⟨fun b => if S.testBit b = true then some q else h b, fun b hb => ?_, fun b p hb hp => ?_, ?_, ?_⟩
  · rw [Nat.testBit_or, h1 b hb]
    show _ = (if S.testBit b = true then some q else h b).isSome
    by_cases hS : S.testBit b = true
    · rw [if_pos hS, hS]; rfl
    · rw [if_neg hS, eq_false_of_ne_true hS]; rfl
  · dsimp only at hp
    split at hp
    · cases hp
      exact ⟨Nat.lt_succ_self q, hl⟩
    · have := h2 b p hb hp
      exact ⟨by omega, this.2⟩
  · simp only [ob_ns]
    rw [innerq, if_pos ⟨hl, ha, he⟩]
    refine Nat.add_le_add_right (Nat.le_trans h3 (Nat.le_of_eq (ob_ns_congr (fun p hp => ?_)))) 1
    rw [inner p hp]
  · rw [h4, ob_tt_ns, ← ob_ns_add]
    refine ob_ns_congr (fun b hb => ?_)
    show _ = gv_hv X u C b (if S.testBit b = true then some q else h b)
    by_cases hS : S.testBit b = true
    · rw [if_pos hS, if_pos hS, hn b hb hS]; show 0 + _ = _; rw [Nat.zero_add]; rfl
    · rw [if_neg hS, if_neg hS, Nat.add_zero]
theorem gv_W_bd {q c t x M : Nat} (hW : gv_W X u C tm age live v B q c t x) (hM : ∀ b p, b < B → p < q → gv_de X u C b p ≤ M) : x ≤ B * M := by
  obtain ⟨h, h1, h2, h3, h4⟩ := hW
  rw [h4]
  refine ob_ns_le (fun b hb => ?_)
  cases hh : h b with
  | none => exact Nat.zero_le _
  | some p => exact hM b p hb (h2 b p hb hh).1
theorem gv_W_fin {c t x : Nat} (hX : 1399680 < X) (hC : ∀ b, b < B → 1 ≤ C b) (hu6 : ∀ b, b < B → u b < 6) (hu : gv_va live P B u) (hW : gv_W X u C tm age live v B P c t x) (hk : k ≤ c + gv_old live age v P) : ∃ g, gv_va live P B g ∧ k ≤ gv_en live age tm v P B g ∧ gv_R X u C B g = gv_R X u C B u + x := by
  obtain ⟨h, h1, h2, h3, h4⟩ := hW
  refine ⟨fun b => (h b).getD (u b), fun b hb => ?_, ?_, ?_⟩
  · cases hh : h b with
    | none => simpa [hh] using hu b hb
    | some p => simpa [hh] using h2 b p hb hh
  · refine Nat.le_trans (Nat.le_trans hk (Nat.add_le_add_right h3 _)) ?_
    unfold gv_old gv_en
    rw [← ob_ns_add]
    refine ob_ns_mono (fun p hp => ?_)
    have hy : ob_ns (fun b => if h b = some p then tm b else 0) B ≤ gv_yr tm B (fun b => (h b).getD (u b)) p := by
      refine ob_ns_mono (fun b hb => ?_)
      by_cases e : h b = some p
      · rw [if_pos e, if_pos (by show (h b).getD (u b) = p; rw [e]; rfl)]
        exact Nat.le_refl _
      · rw [if_neg e]
        exact Nat.zero_le _
    by_cases e1 : live p = true
    · by_cases e2 : v ≤ age p
      · rw [if_neg (fun z => by omega), if_pos ⟨e1, e2⟩, if_pos ⟨e1, by omega⟩]
        exact Nat.le_refl _
      · rw [if_neg (c := live p = true ∧ v ≤ age p) (fun z => e2 z.2)]
        by_cases e3 : v ≤ age p + ob_ns (fun b => if h b = some p then tm b else 0) B
        · rw [if_pos ⟨e1, by omega, e3⟩, if_pos ⟨e1, by omega⟩]
          exact Nat.le_refl _
        · rw [if_neg (fun z => e3 z.2.2)]
          exact Nat.zero_le _
    · rw [if_neg (fun z => e1 z.1), if_neg (fun z => e1 z.1)]
      exact Nat.zero_le _
  · rw [gv_R_de hX hC hu6, h4]
    congr 1
    refine ob_ns_congr (fun b hb => ?_)
    cases hh : h b with
    | none =>
      show gv_de X u C b (u b) = 0
      unfold gv_de
      exact Nat.sub_self _
    | some p => rfl
theorem gv_min {q : Nat} (hB : B ≤ 8) : ∀ S, S < 2 ^ B → v ≤ age q + ob_tt tm S B → ∃ S', (∀ b, S'.testBit b = true → S.testBit b = true) ∧ gv_je tm age v B q S' := by
  intro S
  induction S using Nat.strongRecOn with
  | ind S ih =>
    intro hS hv
    have hS8 : S < 256 := Nat.lt_of_lt_of_le hS (Nat.pow_le_pow_right (by decide) hB)
    by_cases h : ∀ b, b < B → S.testBit b = true → age q + ob_tt tm (S - 2 ^ b) B < v
    · exact ⟨S, fun _ z => z, hv, h⟩
    · have h' : ∃ b, b < B ∧ S.testBit b = true ∧ ¬ age q + ob_tt tm (S - 2 ^ b) B < v := by
        apply Classical.byContradiction
        intro z
        exact h (fun b h1 h2 => Classical.byContradiction (fun h3 => z ⟨b, h1, h2, h3⟩))
      obtain ⟨b, b1, b2, b3⟩ := h'
      have hx := (ob_xorF ⟨S, hS8⟩ ⟨b, by omega⟩ b2).2
      obtain ⟨S', s1, s2⟩ := ih (S - 2 ^ b) hx (by have : S - 2 ^ b < S := hx; omega) (by omega)
      refine ⟨S', fun i hi => ?_, s2⟩
      have := s1 i hi
      rw [ob_mbit hS8 (by omega) b2] at this
      by_cases e : b = i
      · rw [← e]; exact b2
      · rw [decide_eq_false e, Bool.xor_false] at this
        exact this
theorem gv_C_step {q U : Nat} {β β' : Nat → Nat → Nat} (hB : B ≤ 8) (hU : ∀ g, gv_va live P B g → ob_ns (fun b => gv_de X u C b (g b)) B < U) (hC : gv_C X u C tm age live v P B L q β) (hM : ∀ c t, c ≤ L → t < 2 ^ B → β' c t ≤ β c t) (hD : live q = true → age q < v → ∀ c t S, c < L → t < 2 ^ B → S < 2 ^ B → β c t < U → gv_je tm age v B q S → (∀ b, b < B → S.testBit b = true → t.testBit b = false) → β' (c + 1) (S ||| t) ≤ β c t + ob_tt (fun b => gv_de X u C b q) S B) : gv_C X u C tm age live v P B L (q + 1) β' := by
  intro g hg
  obtain ⟨t, t1, t2, t3⟩ := hC g hg
  have mono : ob_ns (fun b => if g b < q then gv_de X u C b (g b) else 0) B ≤ ob_ns (fun b => if g b < q + 1 then gv_de X u C b (g b) else 0) B := by
    refine ob_ns_mono (fun b hb => ?_)
    by_cases e : g b < q
    · rw [if_pos e, if_pos (by omega)]; exact Nat.le_refl _
    · rw [if_neg e]; exact Nat.zero_le _
  have keep : min L (gv_pc live age tm v B g (q + 1)) = min L (gv_pc live age tm v B g q) → ∃ t, t < 2 ^ B ∧ (∀ b, b < B → t.testBit b = true → g b < q + 1) ∧ β' (min L (gv_pc live age tm v B g (q + 1))) t ≤ ob_ns (fun b => if g b < q + 1 then gv_de X u C b (g b) else 0) B := by
    intro e
    rw [e]
    exact ⟨t, t1, fun b hb hz => Nat.lt_succ_of_lt (t2 b hb hz), Nat.le_trans (hM _ t (Nat.min_le_left _ _) t1) (Nat.le_trans t3 mono)⟩
  by_cases hp : live q = true ∧ age q < v ∧ v ≤ age q + gv_yr tm B g q
  · have e1 : gv_pc live age tm v B g (q + 1) = gv_pc live age tm v B g q + 1 := by
      show _ + (if live q = true ∧ age q < v ∧ v ≤ age q + gv_yr tm B g q then 1 else 0) = _
      rw [if_pos hp]
      rfl
    by_cases hL : L ≤ gv_pc live age tm v B g q
    · exact keep (by rw [e1]; omega)
    · rw [e1]
      generalize gv_pc live age tm v B g q = m at *
      rw [show min L m = m by omega] at t3
      rw [show min L (m + 1) = m + 1 by omega]
      have hbit := ob_sn_bit (f := fun b => decide (g b = q)) B
      have hlt := ob_sn_lt (f := fun b => decide (g b = q)) B
      have hyr : ob_tt tm (ob_sn (fun b => decide (g b = q)) B) B = gv_yr tm B g q := by
        rw [ob_tt_ns]
        refine ob_ns_congr (fun b hb => ?_)
        rw [hbit b, decide_eq_true hb, Bool.true_and]
        by_cases e : g b = q
        · rw [decide_eq_true e, if_pos rfl, if_pos e]
        · rw [decide_eq_false e, if_neg (by decide), if_neg e]
      generalize ob_sn (fun b => decide (g b = q)) B = S0 at *
      obtain ⟨S, s1, s2⟩ := gv_min (v := v) (age := age) (tm := tm) (q := q) hB S0 hlt (by rw [hyr]; exact hp.2.2)
      have hSlt : S < 2 ^ B := Nat.lt_of_le_of_lt (ob_sub_le s1) hlt
      have hSg : ∀ b, S.testBit b = true → b < B ∧ g b = q := by
        intro b hb
        have := s1 b hb
        rw [hbit b, Bool.and_eq_true] at this
        exact ⟨of_decide_eq_true this.1, of_decide_eq_true this.2⟩
      have hdj : ∀ b, b < B → S.testBit b = true → t.testBit b = false := by
        intro b hb hz
        cases ht : t.testBit b with
        | false => rfl
        | true =>
          have h1 := t2 b hb ht
          have h2 := (hSg b hz).2
          omega
      have hltU : β m t < U := by
        refine Nat.lt_of_le_of_lt (Nat.le_trans t3 (ob_ns_mono (g := fun b => gv_de X u C b (g b)) (fun b hb => ?_))) (hU g hg)
        split
        · exact Nat.le_refl _
        · exact Nat.zero_le _
      refine ⟨S ||| t, Nat.or_lt_two_pow hSlt t1, fun b hb hz => ?_, ?_⟩
      · rw [Nat.testBit_or, Bool.or_eq_true] at hz
        rcases hz with hz | hz
        · have := (hSg b hz).2; omega
        · have := t2 b hb hz; omega
      · refine Nat.le_trans (hD hp.1 hp.2.1 m t S (by omega) t1 hSlt hltU s2 hdj) (Nat.le_trans (Nat.add_le_add_right t3 _) ?_)
        rw [ob_tt_ns, ← ob_ns_add]
        refine ob_ns_mono (fun b hb => ?_)
        by_cases hz : S.testBit b = true
        · have e := (hSg b hz).2
          rw [if_neg (c := g b < q) (by omega), if_pos hz, if_pos (c := g b < q + 1) (by omega), e, Nat.zero_add]
          exact Nat.le_refl _
        · rw [if_neg hz, Nat.add_zero]
          by_cases e : g b < q
          · rw [if_pos e, if_pos (by omega)]; exact Nat.le_refl _
          · rw [if_neg e]; exact Nat.zero_le _
  · refine keep ?_
    have e1 : gv_pc live age tm v B g (q + 1) = gv_pc live age tm v B g q := by
      show _ + (if live q = true ∧ age q < v ∧ v ≤ age q + gv_yr tm B g q then 1 else 0) = _
      rw [if_neg hp]
      rfl
    rw [e1]
theorem gv_C_0 {β : Nat → Nat → Nat} (h : β 0 0 = 0) : gv_C X u C tm age live v P B L 0 β := by
  intro g hg
  refine ⟨0, Nat.two_pow_pos B, fun b hb hz => absurd hz (by rw [Nat.zero_testBit]; decide), ?_⟩
  have e : gv_pc live age tm v B g 0 = 0 := rfl
  rw [e, Nat.min_zero, h]
  exact Nat.zero_le _
theorem gv_C_end {β : Nat → Nat → Nat} {g : Nat → Nat} (hC : gv_C X u C tm age live v P B L P β) (hk : k = L + gv_old live age v P) (hg : gv_va live P B g) (he : k ≤ gv_en live age tm v P B g) : ∃ t, t < 2 ^ B ∧ β L t ≤ ob_ns (fun b => gv_de X u C b (g b)) B := by
  obtain ⟨t, t1, t2, t3⟩ := hC g hg
  have h1 : gv_en live age tm v P B g ≤ gv_pc live age tm v B g P + gv_old live age v P := by
    unfold gv_en gv_pc gv_old
    rw [← ob_ns_add]
    refine ob_ns_mono (fun p hp => ?_)
    by_cases e1 : live p = true ∧ v ≤ age p + gv_yr tm B g p
    · rw [if_pos e1]
      by_cases e2 : v ≤ age p
      · rw [if_pos (c := live p = true ∧ v ≤ age p) ⟨e1.1, e2⟩]; omega
      · rw [if_pos ⟨e1.1, by omega, e1.2⟩]; omega
    · rw [if_neg e1]; exact Nat.zero_le _
  rw [show min L (gv_pc live age tm v B g P) = L by omega] at t3
  refine ⟨t, t1, Nat.le_trans t3 (ob_ns_mono (fun b hb => ?_))⟩
  rw [if_pos (hg b hb).1]
  exact Nat.le_refl _
theorem gv_opt {β : Nat → Nat → Nat} {r U : Nat} (hX : 1399680 < X) (hC1 : ∀ b, b < B → 1 ≤ C b) (hu6 : ∀ b, b < B → u b < 6) (hu : gv_va live P B u) (hC : gv_C X u C tm age live v P B L P β) (hk : k = L + gv_old live age v P) (hS : ∀ t, t < 2 ^ B → β L t = U ∨ gv_W X u C tm age live v B P L t (β L t)) (hr : ∀ t, t < 2 ^ B → r ≤ β L t) (hr2 : r = U ∨ ∃ t, t < 2 ^ B ∧ β L t = r) (hne : r ≠ U) : gv_OPT X u C tm age live v P B k (gv_R X u C B u + r) := by
  refine ⟨?_, fun g hg he => ?_⟩
  · rcases hr2 with h | ⟨t, t1, t2⟩
    · exact absurd h hne
    · rcases hS t t1 with h | h
      · exact absurd (t2.symm.trans h) hne
      · rw [t2] at h
        exact gv_W_fin hX hC1 hu6 hu h (by omega)
  · obtain ⟨t, t1, t2⟩ := gv_C_end hC hk hg he
    rw [gv_R_de (g := g) hX hC1 hu6]
    have := hr t t1
    omega
theorem gv_none {β : Nat → Nat → Nat} {U : Nat} (hU : ∀ g, gv_va live P B g → ob_ns (fun b => gv_de X u C b (g b)) B < U) (hC : gv_C X u C tm age live v P B L P β) (hk : k = L + gv_old live age v P) (hr : ∀ t, t < 2 ^ B → U ≤ β L t) {g : Nat → Nat} (hg : gv_va live P B g) (he : k ≤ gv_en live age tm v P B g) : False := by
  obtain ⟨t, t1, t2⟩ := gv_C_end hC hk hg he
  have h1 := hr t t1
  have h2 := hU g hg
  omega
theorem gv_opt0 (hX : 1399680 < X) (hC1 : ∀ b, b < B → 1 ≤ C b) (hu6 : ∀ b, b < B → u b < 6) (hu : gv_va live P B u) (hk : k ≤ gv_old live age v P) : gv_OPT X u C tm age live v P B k (gv_R X u C B u) := by
  refine ⟨⟨u, hu, Nat.le_trans hk ?_, rfl⟩, fun g hg he => ?_⟩
  · unfold gv_old gv_en
    refine ob_ns_mono (fun p hp => ?_)
    by_cases e : live p = true ∧ v ≤ age p
    · rw [if_pos e, if_pos ⟨e.1, by omega⟩]; exact Nat.le_refl _
    · rw [if_neg e]; exact Nat.zero_le _
  · rw [gv_R_de (g := g) hX hC1 hu6]
    exact Nat.le_add_right _ _
end GV
