/-! days that pass -/
theorem ob_sd {a N : Nat} (hN : 0 < N) : (a + 1) / N = a / N + if (a + 1) % N = 0 then 1 else 0 := by
  have h1 := Nat.div_add_mod a N
  have h2 := Nat.mod_lt a hN
  have e : a + 1 = (a % N + 1) + N * (a / N) := by omega
  have e1 : (a + 1) / N = (a % N + 1) / N + a / N := by
    have := Nat.add_mul_div_left (a % N + 1) (a / N) hN
    rw [← e] at this
    exact this
  have e2 : (a + 1) % N = (a % N + 1) % N := by
    have := Nat.add_mul_mod_self_left (a % N + 1) N (a / N)
    rw [← e] at this
    exact this
  by_cases h : a % N + 1 < N
  · rw [e1, e2, Nat.mod_eq_of_lt h, Nat.div_eq_of_lt h, if_neg (by omega)]; omega
  · have h3 : a % N + 1 = N := by omega
    rw [e1, e2, h3, Nat.mod_self, Nat.div_self hN, if_pos rfl]; omega
theorem ob_cm0 {N t D : Nat} (hN : 1 ≤ N) : ob_cm N t D 0 = 0 := by unfold ob_cm; rw [if_pos (by have := (ob_tl_in (t := t) (D := D) hN).1; omega)]
theorem ob_cm_s {N t D k : Nat} (hN : 2 ≤ N) (hD : D < N) : ob_cm N t D (k + 1) = ob_cm N t D k + ob_cm N (t + k) D 1 := by
  have hin := ob_tl_in (N := N) (t := t) (D := D) (by omega)
  have hin2 := ob_tl_in (N := N) (t := t + k) (D := D) (by omega)
  have e1 : ob_cm N (t + k) D 1 = if (t + (k + 1)) % N = D then 1 else 0 := by
    have h0 : (t + (k + 1)) % N = D ↔ 1 = ob_tl N (t + k) D := ob_tl_hit (N := N) (t := t + k) (i := 1) hD (Nat.le_refl 1) hin2.1
    unfold ob_cm
    by_cases h : (t + (k + 1)) % N = D
    · have h2 := h0.mp h
      rw [if_pos h, ← h2, if_neg (by omega), Nat.sub_self, Nat.zero_div]
    · have h2 : ¬ 1 = ob_tl N (t + k) D := fun e => h (h0.mpr e)
      rw [if_neg h, if_pos (by omega)]
  rw [e1]
  have hit := fun i h1 h2 => ob_tl_hit (N := N) (t := t) (D := D) (i := i) hD h1 h2
  unfold ob_cm
  generalize ob_tl N t D = T at hin hit
  by_cases hk : k + 1 ≤ T
  · rw [if_pos (show k < T by omega)]
    by_cases h : k + 1 = T
    · rw [if_neg (by omega), if_pos ((hit (k + 1) (by omega) hk).mpr h), h, Nat.sub_self, Nat.zero_div]
    · rw [if_pos (by omega), if_neg (fun e => h ((hit (k + 1) (by omega) hk).mp e))]
  · have hh : (t + T) % N = D := (hit T hin.1 (Nat.le_refl _)).mpr rfl
    rw [if_neg (by omega), if_neg (by omega), show k + 1 - T = (k - T) + 1 by omega, ob_sd (by omega)]
    have hr := Nat.mod_lt (k - T + 1) (show 0 < N by omega)
    have e2 : (t + (k + 1)) % N = (D + (k - T + 1) % N) % N := by
      rw [Nat.add_mod_mod, ← hh, Nat.mod_add_mod]
      congr 1
      omega
    have e3 : (t + (k + 1)) % N = D ↔ (k - T + 1) % N = 0 := by
      rw [e2, ob_md hD (by omega)]
      split <;> omega
    simp only [e3]
    omega
theorem ob_dl_none {s : StT} {b k : Nat} (h : st_b s b = none) : ob_dl s b k = 0 := by unfold ob_dl; rw [h]
theorem ob_dl_some {s : StT} {b k q : Nat} (h : st_b s b = some q) : ob_dl s b k = min k (st_e s b - st_t s) := by unfold ob_dl; rw [h]
/-- k days later -/
def ob_ps (l : LdT) (s : StT) (k : Nat) : StT := (st_t s + k, st_x s, fun p => min 999 (st_a s p + ob_ys l s p k none (la_B l)), st_u s, st_v s, st_w s, fun b => if st_e s b ≤ st_t s + k then none else st_b s b, st_e s)
def ob_ag (s : StT) (f : Nat → Nat) : StT := (st_t s, st_x s, f, st_u s, st_v s, st_w s, st_b s, st_e s)
section DY
variable {E : ob_E} {σ : ob_Mem} {l : LdT} {s : StT}
theorem ob_ag_ok {f : Nat → Nat} {c : Nat} (hs : ob_sok l s c) (hf : ∀ p, p < la_P l → f p ≤ 999) : ob_sok l (ob_ag s f) c := ⟨hs.1, hs.2.1, hf, hs.2.2.2⟩
theorem ob_ps_ok {c d k : Nat} (hs : ob_sok l s c) (hd : st_t s + k ≤ 9999 * d) : ob_sok l (ob_ps l s k) d := by
  refine ⟨hd, hs.2.1, fun p hp => Nat.min_le_left _ _, fun b hb => ?_⟩
  obtain ⟨w1, w2, w3⟩ := hs.2.2.2 b hb
  refine ⟨w1, w2, fun q e => ?_⟩
  have e : (if st_e s b ≤ st_t s + k then none else st_b s b) = some q := e
  split at e
  · cases e
  · obtain ⟨a1, a2, a3, a4, a5, a6⟩ := w3 q e
    refine ⟨a1, a2, a3, a4, ?_, ?_⟩
    · show st_t s + k < st_e s b
      omega
    · show st_e s b ≤ st_t s + k + 9999
      omega
theorem ob_yf_s {b p k c : Nat} (hl : ob_lok l) (hs : ob_sok l s c) (hb : b < la_B l) : ob_yf l s b p (k + 1) = ob_yf l s b p k + ob_yf l (ob_ps l s k) b p 1 := by
  have hN := hl.1
  have hD := (hl.2.2.2.2.1 b hb).1
  have hk := ob_cm_s (N := la_N l) (t := st_t s) (D := la_D l b) (k := k) hN hD
  obtain ⟨w1, w2, w3⟩ := hs.2.2.2 b hb
  have u : ob_yf l (ob_ps l s k) b p 1 = (if st_w s b = some p then ob_cm (la_N l) (st_t s + k) (la_D l b) 1 - ob_cm (la_N l) (st_t s + k) (la_D l b) (ob_dl (ob_ps l s k) b 1) else if (if st_e s b ≤ st_t s + k then none else st_b s b) = some p then ob_cm (la_N l) (st_t s + k) (la_D l b) (ob_dl (ob_ps l s k) b 1) else 0) := rfl
  rw [u]
  unfold ob_yf
  by_cases hv : st_b s b = none
  · have d1 : ob_dl (ob_ps l s k) b 1 = 0 := ob_dl_none (show (if st_e s b ≤ st_t s + k then none else st_b s b) = none by rw [hv]; split <;> rfl)
    rw [ob_dl_none hv, ob_dl_none hv, d1, ob_cm0 (by omega), ob_cm0 (by omega), hv]
    by_cases hw : st_w s b = some p
    · rw [if_pos hw, if_pos hw, if_pos hw]; omega
    · rw [if_neg hw, if_neg hw, if_neg hw, if_neg (by intro e; cases e), if_neg (by intro e; split at e <;> cases e)]
  · obtain ⟨q, hq⟩ : ∃ q, st_b s b = some q := by
      cases h : st_b s b with
      | none => exact absurd h hv
      | some q => exact ⟨q, rfl⟩
    obtain ⟨a1, a2, a3, a4, a5, a6⟩ := w3 q hq
    by_cases he : st_e s b ≤ st_t s + k
    · have d1 : ob_dl (ob_ps l s k) b 1 = 0 := ob_dl_none (show (if st_e s b ≤ st_t s + k then none else st_b s b) = none by rw [if_pos he])
      rw [ob_dl_some hq, ob_dl_some hq, d1, ob_cm0 (by omega), if_pos he, show min (k + 1) (st_e s b - st_t s) = st_e s b - st_t s by omega, show min k (st_e s b - st_t s) = st_e s b - st_t s by omega]
      have hm := ob_cm_mono (N := la_N l) (t := st_t s) (D := la_D l b) (show st_e s b - st_t s ≤ k by omega)
      by_cases hw : st_w s b = some p
      · rw [if_pos hw, if_pos hw, if_pos hw]; omega
      · rw [if_neg hw, if_neg hw, if_neg hw]
        rw [if_neg (c := (none : Option Nat) = some p) (by intro e; cases e), Nat.add_zero]
    · have d1 : ob_dl (ob_ps l s k) b 1 = 1 := by
        have h0 : st_b (ob_ps l s k) b = some q := by
          show (if st_e s b ≤ st_t s + k then none else st_b s b) = some q
          rw [if_neg he, hq]
        rw [ob_dl_some h0]
        show min 1 (st_e s b - (st_t s + k)) = 1
        omega
      rw [ob_dl_some hq, ob_dl_some hq, d1, if_neg he, show min (k + 1) (st_e s b - st_t s) = k + 1 by omega, show min k (st_e s b - st_t s) = k by omega]
      by_cases hw : st_w s b = some p
      · rw [if_pos hw, if_pos hw, if_pos hw]; omega
      · rw [if_neg hw, if_neg hw, if_neg hw]
        by_cases hp : st_b s b = some p
        · rw [if_pos hp, if_pos hp, if_pos hp, hk]
        · rw [if_neg hp, if_neg hp, if_neg hp]
theorem ob_ysn {p k n : Nat} : ob_ys l s p k none (n + 1) = ob_ys l s p k none n + ob_yf l s n p k := by
  show ob_ys l s p k none n + (if none = some n then 0 else ob_yf l s n p k) = _
  rw [if_neg (by intro e; cases e)]
theorem ob_ys_s {p k c : Nat} (hl : ob_lok l) (hs : ob_sok l s c) : ∀ n, n ≤ la_B l → ob_ys l s p (k + 1) none n = ob_ys l s p k none n + ob_ys l (ob_ps l s k) p 1 none n
  | 0, _ => rfl
  | n + 1, h => by
    rw [ob_ysn, ob_ysn, ob_ysn, ob_ys_s hl hs n (by omega), ob_yf_s hl hs (by omega)]
    omega
theorem ob_ps_s {c k : Nat} (hl : ob_lok l) (hs : ob_sok l s c) : ob_ps l (ob_ps l s k) 1 = ob_ps l s (k + 1) := by
  have e1 : (fun p => min 999 (min 999 (st_a s p + ob_ys l s p k none (la_B l)) + ob_ys l (ob_ps l s k) p 1 none (la_B l))) = fun p => min 999 (st_a s p + ob_ys l s p (k + 1) none (la_B l)) := by
    funext p
    rw [ob_ys_s hl hs _ (Nat.le_refl _)]
    omega
  have e2 : (fun b => if st_e s b ≤ st_t s + k + 1 then none else if st_e s b ≤ st_t s + k then none else st_b s b) = fun b => if st_e s b ≤ st_t s + (k + 1) then none else st_b s b := by
    funext b
    by_cases h : st_e s b ≤ st_t s + (k + 1)
    · rw [if_pos h, if_pos (by omega)]
    · rw [if_neg h, if_neg (by omega), if_neg (by omega)]
  show (st_t s + k + 1, st_x s, (fun p => min 999 (min 999 (st_a s p + ob_ys l s p k none (la_B l)) + ob_ys l (ob_ps l s k) p 1 none (la_B l))), st_u s, st_v s, st_w s, (fun b => if st_e s b ≤ st_t s + k + 1 then none else if st_e s b ≤ st_t s + k then none else st_b s b), st_e s) = ob_ps l s (k + 1)
  rw [e1, e2]
  rfl
theorem ob_ys0 (hl : ob_lok l) {p n : Nat} : ob_ys l s p 0 none n = 0 := by
  have := ob_ys_le (s := s) hl (p := p) (k := 0) (left := none) n
  omega
theorem ob_ps0M {c : Nat} (hl : ob_lok l) (hs : ob_sok l s c) (hMS : pi_MS σ.1 l s) : pi_MS σ.1 l (ob_ps l s 0) := by
  refine ⟨hMS.1, hMS.2.1, fun p hp => ⟨?_, (hMS.2.2.1 p hp).2⟩, fun b hb => ?_⟩
  · show σ.1 60 p = nI (min 999 (st_a s p + ob_ys l s p 0 none (la_B l)))
    rw [ob_ys0 hl, (hMS.2.2.1 p hp).1]
    have := hs.2.2.1 p hp
    congr 1
    omega
  · have e : (if st_e s b ≤ st_t s + 0 then none else st_b s b) = st_b s b := by
      cases h : st_b s b with
      | none => split <;> rfl
      | some q =>
        have := (((hs.2.2.2 b hb).2.2) q h).2.2.2.2.1
        rw [if_neg (by omega)]
    show σ.1 63 b = _ ∧ σ.1 64 b = ob_oI (if st_e s b ≤ st_t s + 0 then none else st_b s b) ∧ σ.1 65 b = ob_tI (if st_e s b ≤ st_t s + 0 then none else st_b s b) (st_e s b)
    rw [e]
    exact hMS.2.2.2 b hb
theorem k_growOlder {Q : ob_Mem → Prop} {o : Option Nat} {v : Nat} (hl : ob_lok l) (hCL : pi_CL σ.1 10 l) (hCS : pi_CS σ.1 17 l s) (ho : ∀ q, o = some q → q < la_P l) (ha : ∀ p, p < la_P l → st_a s p ≤ 999) (hv : v < 100000000) (h : ∀ σ' : ob_Mem, (∀ i, i ≠ 18 → σ'.1 i = σ.1 i) → pi_CS σ'.1 17 l (ob_ag s (fun p => if o = some p then min 999 (st_a s p + v) else st_a s p)) → Q σ') : ob_RM shp E oX6_growOlder [.ref 17, .int (ob_oI o), .int (nI v)] σ (ob_qV Q) := by
  have hP6 := hl.2.2.1
  refine m_X6_growOlder (b_X6_growOlder_0 ?_)
  cases o with
  | none =>
    refine k_hasP0 hCL.2.1 hP6 (fun ⟨j, hj, e⟩ => ob_m1 (n := j) (by omega) e.symm) (br_t rfl (h σ (fun _ _ => rfl) ?_))
    refine ⟨hCS.1, hCS.2.1, hCS.2.2.1, fun p hp => ⟨?_, (hCS.2.2.2.1 p hp).2⟩, hCS.2.2.2.2⟩
    show σ.1 18 p = nI (if none = some p then min 999 (st_a s p + v) else st_a s p)
    rw [if_neg (by intro e; cases e)]
    exact (hCS.2.2.2.1 p hp).1
  | some q =>
    have hq := ho q rfl
    have h9 := ha q hq
    have hin : vp_in (ob_oI (some q)) 6 := ob_in (show q < 6 by omega) (by omega)
    refine k_hasP1 hCL.2.1 hP6 hq (br_f (by decide) ⟨hin, hin, ?_⟩)
    rw [show (ob_oI (some q)).toNatClampNeg = q from ob_cl (by omega), show σ.1 18 q = _ from (hCS.2.2.2.1 q hq).1, nI_add, show (999 : Int32) = nI 999 from rfl, ob_min_nI (by omega) (by omega)]
    refine h _ (fun i hi => ob_wI_o hi) ⟨?_, ?_, ?_, fun p hp => ⟨?_, ?_⟩, fun b hb => ?_⟩
    · rw [ob_wI_o (by decide)]; exact hCS.1
    · rw [ob_wI_o (by decide)]; exact hCS.2.1
    · rw [ob_wI_o (by decide)]; exact hCS.2.2.1
    · show (ob_wI σ 18 q (nI (min 999 (st_a s q + v)))).1 18 p = nI (if some q = some p then min 999 (st_a s p + v) else st_a s p)
      by_cases hpq : p = q
      · subst hpq; rw [if_pos rfl, ob_wI_s]
      · rw [if_neg (fun e => hpq (by cases e; rfl)), ob_wI_n hpq]
        exact (hCS.2.2.2.1 p hp).1
    · rw [ob_wI_o (by decide)]; exact (hCS.2.2.2.1 p hp).2
    · rw [ob_wI_o (by decide), ob_wI_o (by decide), ob_wI_o (by decide)]; exact hCS.2.2.2.2 b hb
theorem ob_prt {c k i p : Nat} (hs : ob_sok l s c) (hi : i < la_B l) : (if st_w s i = some p then min 999 ((if st_b s i = some p then min 999 (min 999 (st_a s p + ob_ys l s p k none i) + ob_cm (la_N l) (st_t s) (la_D l i) (ob_dl s i k)) else min 999 (st_a s p + ob_ys l s p k none i)) + (ob_cm (la_N l) (st_t s) (la_D l i) k - ob_cm (la_N l) (st_t s) (la_D l i) (ob_dl s i k))) else (if st_b s i = some p then min 999 (min 999 (st_a s p + ob_ys l s p k none i) + ob_cm (la_N l) (st_t s) (la_D l i) (ob_dl s i k)) else min 999 (st_a s p + ob_ys l s p k none i))) = min 999 (st_a s p + ob_ys l s p k none (i + 1)) := by
  rw [ob_ysn]
  unfold ob_yf
  by_cases hw : st_w s i = some p
  · have hb : ¬ st_b s i = some p := fun e => (((hs.2.2.2 i hi).2.2) p e).2.2.2.1 hw
    rw [if_pos hw, if_pos hw, if_neg hb]
    omega
  · rw [if_neg hw, if_neg hw]
    by_cases hb : st_b s i = some p
    · rw [if_pos hb, if_pos hb]; omega
    · rw [if_neg hb, if_neg hb]; omega
theorem k_passDays {Q : ob_Mem → Prop} {k c : Nat} (hl : ob_lok l) (hs : ob_sok l s c) (hc : c ≤ 600) (hk : k ≤ 9999) (hCL : pi_CL σ.1 10 l) (hCS : pi_CS σ.1 17 l s) (h : ∀ σ' : ob_Mem, (∀ i, ¬ (17 ≤ i ∧ i ≤ 22) → σ'.1 i = σ.1 i) → pi_CS σ'.1 17 l (ob_ps l s k) → Q σ') : ob_RM shp E oX6_passDays [.ref 17, .int (nI k)] σ (ob_qV Q) := by
  have hP6 := hl.2.2.1
  have hB8 := hl.2.2.2.1
  have ht : st_t s < 100000000 := by have := hs.1; omega
  have second : ∀ τ : ob_Mem, (∀ i, i ≠ 17 → i ≠ 18 → τ.1 i = σ.1 i) → τ.1 17 6 = σ.1 17 6 → τ.1 17 7 = nI (st_t s + k) → τ.1 17 8 = st_x s → (∀ p, p < la_P l → τ.1 18 p = nI (min 999 (st_a s p + ob_ys l s p k none (la_B l)))) → ob_RT shp E oX6_passDays 72 [.ref 17, .int (nI k), .int (nI 0), .null] [] τ (ob_qV Q) := by
    intro τ r e6 e7 e8 ea
    refine ob_loop0 (T := fun i => ∀ κ : ob_Mem, (∀ j, j ≠ 21 → j ≠ 22 → κ.1 j = τ.1 j) → (∀ b, b < la_B l → κ.1 21 b = ob_oI (if b < i ∧ st_e s b ≤ st_t s + k then none else st_b s b) ∧ κ.1 22 b = ob_tI (if b < i ∧ st_e s b ≤ st_t s + k then none else st_b s b) (st_e s b)) → ob_RT shp E oX6_passDays 72 [.ref 17, .int (nI k), .int (nI i), .null] [] κ (ob_qV Q)) (B := la_B l) ?_ ?_ τ (fun _ _ _ => rfl) (fun b hb => ?_)
    · intro κ q w
      refine b_X6_passDays_72 (br_t ?_ (h κ (fun i hi => ?_) ⟨?_, ?_, ?_, fun p hp => ⟨?_, ?_⟩, fun b hb => ?_⟩))
      · rw [q 10 (by decide) (by decide), r 10 (by decide) (by decide), hCL.2.2.1]
        exact (ob_le (by omega) (by omega)).mpr (Nat.le_refl _)
      · rw [q i (by omega) (by omega), r i (by omega) (by omega)]
      · rw [q 17 (by decide) (by decide), e6]; exact hCS.1
      · rw [q 17 (by decide) (by decide)]; exact e7
      · rw [q 17 (by decide) (by decide)]; exact e8
      · rw [q 18 (by decide) (by decide)]; exact ea p hp
      · rw [q 19 (by decide) (by decide), r 19 (by decide) (by decide)]; exact (hCS.2.2.2.1 p hp).2
      · have := w b hb
        simp only [hb, true_and] at this
        rw [q 20 (by decide) (by decide), r 20 (by decide) (by decide)]
        exact ⟨(hCS.2.2.2.2 b hb).1, this⟩
    · intro i hi ih κ q w
      have hin : vp_in (nI i) 8 := ob_in (by omega) (by omega)
      have hcl : (nI i).toNatClampNeg = i := ob_cl (by omega)
      obtain ⟨w1, w2⟩ := w i hi
      rw [if_neg (fun z => Nat.lt_irrefl _ z.1)] at w1 w2
      have next : (st_b s i = none ∨ ¬ st_e s i ≤ st_t s + k) → ob_RT shp E oX6_passDays 72 [.ref 17, .int (nI k), .int (nI (i + 1)), .null] [] κ (ob_qV Q) := by
        intro hh
        refine ih κ q (fun b hb => ?_)
        by_cases hbi : b = i
        · subst hbi
          have e : (if b < b + 1 ∧ st_e s b ≤ st_t s + k then none else st_b s b) = st_b s b := by
            rcases hh with hh | hh
            · rw [hh]; split <;> rfl
            · rw [if_neg (fun z => hh z.2)]
          rw [e]
          exact ⟨w1, w2⟩
        · have := w b hb
          simp only [show (b < i + 1) ↔ (b < i) from by omega]
          exact this
      refine b_X6_passDays_72 (br_f ?_ (m_X6_isLent (b_X6_isLent_0 ⟨hin, ?_⟩)))
      · rw [q 10 (by decide) (by decide), r 10 (by decide) (by decide), hCL.2.2.1]
        exact fun z => by rw [ob_le (by omega) (by omega)] at z; omega
      · rw [hcl, w1, nI_1]
        cases hv : st_b s i with
        | none => exact br_t rfl (br_t rfl (next (Or.inl hv)))
        | some y =>
          obtain ⟨a1, a2, a3, a4, a5, a6⟩ := ((hs.2.2.2 i hi).2.2) y hv
          refine br_f (ob_m1 (by omega)) (br_f (by decide) ⟨hin, ?_⟩)
          rw [w2, hv, q 17 (by decide) (by decide), e7]
          show (nI (st_t s + k) < nI (st_e s i) → _) ∧ _
          by_cases he : st_e s i ≤ st_t s + k
          · refine br_f (fun z => by rw [ob_lt (by omega) (by omega)] at z; omega) (m_X6_endLoan (b_X6_endLoan_0 ⟨hin, hin, ?_⟩))
            rw [hcl]
            refine ih _ (fun j a b => by rw [ob_wI_o b, ob_wI_o a]; exact q j a b) (fun b hb => ?_)
            by_cases hbi : b = i
            · subst hbi
              rw [if_pos ⟨Nat.lt_succ_self _, he⟩, ob_wI_s, ob_wI_o (by decide), ob_wI_s]
              exact ⟨rfl, rfl⟩
            · rw [ob_wI_n hbi, ob_wI_o (i := 22) (a := 21) (by decide), ob_wI_n hbi, ob_wI_o (i := 21) (a := 22) (by decide)]
              have := w b hb
              simp only [show (b < i + 1) ↔ (b < i) from by omega]
              exact this
          · exact br_t ((ob_lt (by omega) (by omega)).mpr (by omega)) (next (Or.inr he))
    · rw [if_neg (fun z => Nat.not_lt_zero _ z.1), r 21 (by decide) (by decide), r 22 (by decide) (by decide)]
      exact (hCS.2.2.2.2 b hb).2
  refine m_X6_passDays (b_X6_passDays_0 ?_)
  refine ob_loop0 (T := fun i => ∀ τ : ob_Mem, (∀ j, j ≠ 18 → τ.1 j = σ.1 j) → pi_CS τ.1 17 l (ob_ag s (fun p => min 999 (st_a s p + ob_ys l s p k none i))) → ob_RT shp E oX6_passDays 2 [.ref 17, .int (nI k), .int (nI i), .null] [] τ (ob_qV Q)) (B := la_B l) ?_ ?_ σ (fun _ _ => rfl) ?_
  · intro τ r w
    refine b_X6_passDays_2 (br_t ?_ ?_)
    · rw [r 10 (by decide), hCL.2.2.1]
      exact (ob_le (by omega) (by omega)).mpr (Nat.le_refl _)
    · refine second _ (fun i a b => by rw [ob_wI_o a]; exact r i b) ?_ ?_ ?_ (fun p hp => ?_)
      · rw [ob_wI_n (by decide), r 17 (by decide)]
      · rw [ob_wI_s, show τ.1 17 7 = nI (st_t s) from w.2.1, nI_add]
      · rw [ob_wI_n (by decide)]; exact w.2.2.1
      · rw [ob_wI_o (by decide)]; exact (w.2.2.2.1 p hp).1
  · intro i hi ih τ r w
    have hin : vp_in (nI i) 8 := ob_in (by omega) (by omega)
    have hcl : (nI i).toNatClampNeg = i := ob_cl (by omega)
    obtain ⟨g1, g2, g3⟩ := hs.2.2.2 i hi
    have hCLt : pi_CL τ.1 10 l := hCL.to (fun j a b => r j (by omega)) (fun j _ => by rw [r 10 (by decide)])
    have ok1 := ob_ag_ok (f := fun p => min 999 (st_a s p + ob_ys l s p k none i)) hs (fun p _ => Nat.min_le_left _ _)
    have hdl := ob_dl_le (s := s) (b := i) (k := k)
    have hm := ob_cm_mono (N := la_N l) (t := st_t s) (D := la_D l i) hdl
    have hcm := ob_cm_le (N := la_N l) (t := st_t s) (D := la_D l i) (k := k) (by have := hl.1; omega)
    refine b_X6_passDays_2 (br_f ?_ (k_daysLent hl ok1 hc (by omega) hCLt w hi (k_comings (k := ob_dl s i k) hl (by exact ht) (by omega) hCLt w hi ⟨hin, ?_⟩)))
    · rw [hCLt.2.2.1]
      exact fun z => by rw [ob_le (by omega) (by omega)] at z; omega
    · rw [hcl, show τ.1 21 i = ob_oI (st_b s i) from (w.2.2.2.2 i hi).2.1]
      refine k_growOlder hl hCLt w (fun q e => (g3 q e).1) ok1.2.2.1 (v := ob_cm (la_N l) (st_t s) (la_D l i) (ob_dl s i k)) (by omega) (fun τ2 r2 w2 => ⟨hin, ?_⟩)
      have hCL2 : pi_CL τ2.1 10 l := hCLt.to (fun j a b => r2 j (by omega)) (fun j _ => by rw [r2 10 (by decide)])
      have le2 : ∀ p, p < la_P l → (if st_b s i = some p then min 999 (min 999 (st_a s p + ob_ys l s p k none i) + ob_cm (la_N l) (st_t s) (la_D l i) (ob_dl s i k)) else min 999 (st_a s p + ob_ys l s p k none i)) ≤ 999 := fun p _ => by split <;> exact Nat.min_le_left _ _
      refine k_comings (k := k) hl (by exact ht) (by omega) hCL2 w2 hi ?_
      rw [show τ2.1 20 i = ob_oI (st_w s i) from (w2.2.2.2.2 i hi).1]
      show ob_RM shp E oX6_growOlder [.ref 17, .int (ob_oI (st_w s i)), .int (nI (ob_cm (la_N l) (st_t s) (la_D l i) k) - nI (ob_cm (la_N l) (st_t s) (la_D l i) (ob_dl s i k)))] τ2 _
      rw [ob_sub hm, nI_1]
      refine k_growOlder hl hCL2 w2 (fun q e => (g2 q e).1) le2 (by omega) (fun τ3 r3 w3 => ih τ3 (fun j a => by rw [r3 j a, r2 j a]; exact r j a) ?_)
      rw [show (fun p => min 999 (st_a s p + ob_ys l s p k none (i + 1))) = _ from funext fun p => (ob_prt (l := l) (k := k) (p := p) hs hi).symm]
      exact w3
  · refine ⟨hCS.1, hCS.2.1, hCS.2.2.1, fun p hp => ⟨?_, (hCS.2.2.2.1 p hp).2⟩, hCS.2.2.2.2⟩
    show σ.1 18 p = nI (min 999 (st_a s p + 0))
    rw [show σ.1 18 p = _ from (hCS.2.2.2.1 p hp).1]
    have := hs.2.2.1 p hp
    congr 1
    omega
theorem ob_yf1 {b p c : Nat} (hl : ob_lok l) (hs : ob_sok l s c) (hb : b < la_B l) : ob_yf l s b p 1 = if (st_t s + 1) % la_N l = la_D l b ∧ ob_us s b = some p then 1 else 0 := by
  have hN := hl.1
  have hD := (hl.2.2.2.2.1 b hb).1
  obtain ⟨w1, w2, w3⟩ := hs.2.2.2 b hb
  have hin2 := ob_tl_in (N := la_N l) (t := st_t s) (D := la_D l b) (by omega)
  have e1 : ob_cm (la_N l) (st_t s) (la_D l b) 1 = if (st_t s + 1) % la_N l = la_D l b then 1 else 0 := by
    have h0 := ob_tl_hit (N := la_N l) (t := st_t s) (i := 1) hD (Nat.le_refl 1) hin2.1
    unfold ob_cm
    by_cases h : (st_t s + 1) % la_N l = la_D l b
    · have h2 := h0.mp h
      rw [if_pos h, ← h2, if_neg (by omega), Nat.sub_self, Nat.zero_div]
    · have h2 : ¬ 1 = ob_tl (la_N l) (st_t s) (la_D l b) := fun e => h (h0.mpr e)
      rw [if_neg h, if_pos (by omega)]
  unfold ob_yf ob_us
  cases hv : st_b s b with
  | none =>
    rw [ob_dl_none hv, ob_cm0 (by omega), e1, Nat.sub_zero]
    dsimp only
    by_cases hw : st_w s b = some p
    · rw [if_pos hw]
      by_cases h : (st_t s + 1) % la_N l = la_D l b
      · rw [if_pos h, if_pos ⟨h, hw⟩]
      · rw [if_neg h, if_neg (fun z => h z.1)]
    · rw [if_neg hw, if_neg (by intro e; cases e), if_neg (fun z => hw z.2)]
  | some q =>
    obtain ⟨a1, a2, a3, a4, a5, a6⟩ := w3 q hv
    rw [ob_dl_some hv, show min 1 (st_e s b - st_t s) = 1 by omega, e1]
    dsimp only
    by_cases hw : st_w s b = some p
    · rw [if_pos hw, Nat.sub_self, if_neg (fun z => a4 (by rw [hw]; exact z.2.symm))]
    · rw [if_neg hw]
      by_cases hp : some q = some p
      · rw [if_pos hp]
        by_cases h : (st_t s + 1) % la_N l = la_D l b
        · rw [if_pos h, if_pos ⟨h, hp⟩]
        · rw [if_neg h, if_neg (fun z => h z.1)]
      · rw [if_neg hp, if_neg (fun z => hp z.2)]
theorem n_dayNow {Q : ob_Mem → Prop} {c : Nat} (hl : ob_lok l) (hs : ob_sok l s c) (hc : c ≤ 600) (hML : pi_ML σ.1 l) (hMS : pi_MS σ.1 l s) (h : ∀ σ' : ob_Mem, (∀ i, i ≠ 53 → i ≠ 60 → i ≠ 64 → i ≠ 65 → σ'.1 i = σ.1 i) → (∀ k, k ≠ 9 → σ'.1 53 k = σ.1 53 k) → pi_MS σ'.1 l (ob_ps l s 1) → Q σ') : ob_RM shp E oX9_dayNow [.ref 53] σ (ob_qV Q) := by
  have hN2 := hl.1
  have hN60 := hl.2.1
  have hP6 := hl.2.2.1
  have hB8 := hl.2.2.2.1
  have ht : st_t s < 100000000 := by have := hs.1; omega
  refine m_X9_dayNow (b_X9_dayNow_0 ?_)
  rw [hMS.1, nI_1]
  have r0 : ∀ i, i ≠ 53 → (ob_wI σ 53 9 (nI (st_t s + 1))).1 i = σ.1 i := fun i a => ob_wI_o a
  have f0 : ∀ k, k ≠ 9 → (ob_wI σ 53 9 (nI (st_t s + 1))).1 53 k = σ.1 53 k := fun i a => ob_wI_n a
  have t0 : (ob_wI σ 53 9 (nI (st_t s + 1))).1 53 9 = nI (st_t s + 1) := ob_wI_s
  generalize ob_wI σ 53 9 (nI (st_t s + 1)) = σ1 at r0 f0 t0 ⊢
  have second : ∀ τ : ob_Mem, (∀ i, i ≠ 60 → τ.1 i = σ1.1 i) → (∀ p, p < la_P l → τ.1 60 p = nI (min 999 (st_a s p + ob_ys l s p 1 none (la_B l)))) → ob_RT shp E oX9_dayNow 87 [.ref 53, .int (nI 0), .null] [] τ (ob_qV Q) := by
    intro τ r ea
    refine ob_loop0 (T := fun i => ∀ κ : ob_Mem, (∀ j, j ≠ 64 → j ≠ 65 → κ.1 j = τ.1 j) → (∀ b, b < la_B l → κ.1 64 b = ob_oI (if b < i ∧ st_e s b ≤ st_t s + 1 then none else st_b s b) ∧ κ.1 65 b = ob_tI (if b < i ∧ st_e s b ≤ st_t s + 1 then none else st_b s b) (st_e s b)) → ob_RT shp E oX9_dayNow 87 [.ref 53, .int (nI i), .null] [] κ (ob_qV Q)) (B := la_B l) ?_ ?_ τ (fun _ _ _ => rfl) (fun b hb => ?_)
    · intro κ q w
      refine b_X9_dayNow_87 (br_t ?_ (h κ (fun i a b c d => ?_) (fun k hk => ?_) ⟨?_, ?_, fun p hp => ⟨?_, ?_, ?_⟩, fun b hb => ?_⟩))
      · rw [q 53 (by decide) (by decide), r 53 (by decide), f0 4 (by decide), hML.2.2.1]
        exact (ob_le (by omega) (by omega)).mpr (Nat.le_refl _)
      · rw [q i c d, r i b, r0 i a]
      · rw [q 53 (by decide) (by decide), r 53 (by decide), f0 k hk]
      · rw [q 53 (by decide) (by decide), r 53 (by decide)]; exact t0
      · rw [q 53 (by decide) (by decide), r 53 (by decide), f0 16 (by decide)]; exact hMS.2.1
      · rw [q 60 (by decide) (by decide)]; exact ea p hp
      · rw [q 61 (by decide) (by decide), r 61 (by decide), r0 61 (by decide)]; exact (hMS.2.2.1 p hp).2.1
      · rw [q 62 (by decide) (by decide), r 62 (by decide), r0 62 (by decide)]; exact (hMS.2.2.1 p hp).2.2
      · have := w b hb
        simp only [hb, true_and] at this
        rw [q 63 (by decide) (by decide), r 63 (by decide), r0 63 (by decide)]
        exact ⟨(hMS.2.2.2 b hb).1, this⟩
    · intro i hi ih κ q w
      have hin : vp_in (nI i) 8 := ob_in (by omega) (by omega)
      have hcl : (nI i).toNatClampNeg = i := ob_cl (by omega)
      obtain ⟨w1, w2⟩ := w i hi
      rw [if_neg (fun z => Nat.lt_irrefl _ z.1)] at w1 w2
      have next : (st_b s i = none ∨ ¬ st_e s i ≤ st_t s + 1) → ob_RT shp E oX9_dayNow 87 [.ref 53, .int (nI (i + 1)), .null] [] κ (ob_qV Q) := by
        intro hh
        refine ih κ q (fun b hb => ?_)
        by_cases hbi : b = i
        · subst hbi
          have e : (if b < b + 1 ∧ st_e s b ≤ st_t s + 1 then none else st_b s b) = st_b s b := by
            rcases hh with hh | hh
            · rw [hh]; split <;> rfl
            · rw [if_neg (fun z => hh z.2)]
          rw [e]
          exact ⟨w1, w2⟩
        · have := w b hb
          simp only [show (b < i + 1) ↔ (b < i) from by omega]
          exact this
      refine b_X9_dayNow_87 (br_f ?_ ⟨hin, ?_⟩)
      · rw [q 53 (by decide) (by decide), r 53 (by decide), f0 4 (by decide), hML.2.2.1]
        exact fun z => by rw [ob_le (by omega) (by omega)] at z; omega
      · rw [hcl, w1, nI_1]
        cases hv : st_b s i with
        | none => exact br_t (by decide) (next (Or.inl hv))
        | some y =>
          obtain ⟨a1, a2, a3, a4, a5, a6⟩ := ((hs.2.2.2 i hi).2.2) y hv
          refine br_f (ob_nneg (by omega)) ⟨hin, ?_⟩
          rw [w2, hv, q 53 (by decide) (by decide), r 53 (by decide), t0]
          show (nI (st_t s + 1) < nI (st_e s i) → _) ∧ _
          by_cases he : st_e s i ≤ st_t s + 1
          · refine br_f (fun z => by rw [ob_lt (by omega) (by omega)] at z; omega) (m_X9_endLoan (b_X9_endLoan_0 ⟨hin, hin, ?_⟩))
            rw [hcl]
            refine ih _ (fun j a b => by rw [ob_wI_o b, ob_wI_o a]; exact q j a b) (fun b hb => ?_)
            by_cases hbi : b = i
            · subst hbi
              rw [if_pos ⟨Nat.lt_succ_self _, he⟩, ob_wI_s, ob_wI_o (by decide), ob_wI_s]
              exact ⟨rfl, rfl⟩
            · rw [ob_wI_n hbi, ob_wI_o (i := 65) (a := 64) (by decide), ob_wI_n hbi, ob_wI_o (i := 64) (a := 65) (by decide)]
              have := w b hb
              simp only [show (b < i + 1) ↔ (b < i) from by omega]
              exact this
          · exact br_t ((ob_lt (by omega) (by omega)).mpr (by omega)) (next (Or.inr he))
    · rw [if_neg (fun z => Nat.not_lt_zero _ z.1), r 64 (by decide), r0 64 (by decide), r 65 (by decide), r0 65 (by decide)]
      exact (hMS.2.2.2 b hb).2
  refine ob_loop0 (T := fun i => ∀ τ : ob_Mem, (∀ j, j ≠ 60 → τ.1 j = σ1.1 j) → (∀ p, p < la_P l → τ.1 60 p = nI (min 999 (st_a s p + ob_ys l s p 1 none i))) → ob_RT shp E oX9_dayNow 12 [.ref 53, .int (nI i), .null] [] τ (ob_qV Q)) (B := la_B l) ?_ ?_ σ1 (fun _ _ => rfl) (fun p hp => ?_)
  · intro τ r w
    refine b_X9_dayNow_12 (br_t ?_ (second τ r w))
    rw [r 53 (by decide), f0 4 (by decide), hML.2.2.1]
    exact (ob_le (by omega) (by omega)).mpr (Nat.le_refl _)
  · intro i hi ih τ r w
    have hin : vp_in (nI i) 8 := ob_in (by omega) (by omega)
    have hcl : (nI i).toNatClampNeg = i := ob_cl (by omega)
    obtain ⟨g1, g2, g3⟩ := hs.2.2.2 i hi
    obtain ⟨m1, m2, -⟩ := hMS.2.2.2 i hi
    have hD := (hl.2.2.2.2.1 i hi).1
    have hku := (ob_kb hs hl hi).2.2
    have hmod := Nat.mod_lt (st_t s + 1) (show 0 < la_N l by omega)
    have y1 : ∀ p, ob_ys l s p 1 none (i + 1) = ob_ys l s p 1 none i + if (st_t s + 1) % la_N l = la_D l i ∧ ob_us s i = some p then 1 else 0 := fun p => by rw [ob_ysn, ob_yf1 hl hs hi]
    have user : ∀ {Q2 : Int32 → ob_Mem → Prop}, Q2 (ob_oI (ob_us s i)) τ → ob_RM shp E oX9_userOf [.ref 53, .int (nI i)] τ (ob_qI Q2) := by
      intro Q2 h2
      refine m_X9_userOf (b_X9_userOf_0 ⟨hin, ?_⟩)
      rw [hcl, r 64 (by decide), r0 64 (by decide), m2, r 63 (by decide), r0 63 (by decide), m1]
      unfold ob_us at h2
      cases hv : st_b s i with
      | none => rw [hv] at h2; exact br_f (by decide) ⟨hin, h2⟩
      | some q => rw [hv] at h2; exact br_t (ob_pos (by have := (g3 q hv).1; omega)) ⟨hin, h2⟩
    refine b_X9_dayNow_12 (br_f ?_ (user ⟨hin, ?_, ?_⟩))
    · rw [r 53 (by decide), f0 4 (by decide), hML.2.2.1]
      exact fun z => by rw [ob_le (by omega) (by omega)] at z; omega
    · rw [r 53 (by decide), f0 0 (by decide), hML.1]
      exact nI_ne0 (by omega) (by omega)
    · rw [hcl, r 53 (by decide), f0 0 (by decide), hML.1, t0, r 56 (by decide), r0 56 (by decide), (hML.2.2.2.2.1 i hi).1, ob_mod (by omega) (by omega) (by omega), nI_1]
      have same : ¬ ((st_t s + 1) % la_N l = la_D l i ∧ ∃ p, ob_us s i = some p ∧ min 999 (st_a s p + ob_ys l s p 1 none i) < 999) → ob_RT shp E oX9_dayNow 12 [.ref 53, .int (nI (i + 1)), .null] [] τ (ob_qV Q) := by
        intro hh
        refine ih τ r (fun p hp => ?_)
        rw [w p hp, y1]
        congr 1
        by_cases hc : (st_t s + 1) % la_N l = la_D l i ∧ ob_us s i = some p
        · rw [if_pos hc]
          by_cases h9 : min 999 (st_a s p + ob_ys l s p 1 none i) < 999
          · exact absurd ⟨hc.1, p, hc.2, h9⟩ hh
          · omega
        · rw [if_neg hc]
          omega
      by_cases hd : (st_t s + 1) % la_N l = la_D l i
      · refine ob_bf (by rw [hd]) ?_
        cases hu : ob_us s i with
        | none => exact br_t (by decide) (same (fun ⟨_, p, z, _⟩ => by rw [hu] at z; cases z))
        | some u =>
          have hup := hku u hu
          have hiu : vp_in (ob_oI (some u)) 6 := ob_in (show u < 6 by omega) (by omega)
          have hlive : st_v s u = true := by
            unfold ob_us at hu
            split at hu
            · exact (g2 u hu).2
            · rename_i q hq
              cases hu
              exact (g3 _ hq).2.1
          refine br_f (ob_nneg (by omega)) ⟨hiu, ?_⟩
          rw [show (ob_oI (some u)).toNatClampNeg = u from ob_cl (by omega), r 62 (by decide), r0 62 (by decide), (hMS.2.2.1 u hup).2.2, hlive]
          refine br_f (by decide) ⟨hiu, ?_⟩
          rw [w u hup, show (999 : Int32) = nI 999 from rfl]
          by_cases h9 : min 999 (st_a s u + ob_ys l s u 1 none i) < 999
          · refine br_f (fun z => by rw [ob_le (by omega) (by omega)] at z; omega) ⟨hiu, hiu, ?_⟩
            rw [nI_1]
            rintro κ rfl
            refine ih _ (fun j a => by rw [ob_wI_o a]; exact r j a) (fun p hp => ?_)
            rw [y1]
            by_cases hpu : p = u
            · subst hpu
              rw [ob_wI_s, if_pos ⟨hd, hu⟩]
              congr 1
              omega
            · rw [ob_wI_n hpu, w p hp, if_neg (fun z => hpu (by have := z.2; rw [hu] at this; cases this; rfl)), Nat.add_zero]
          · exact br_t ((ob_le (by omega) (by omega)).mpr (by omega)) (same (fun ⟨_, p, z, y⟩ => h9 (by rw [hu] at z; cases z; exact y)))
      · exact ob_bt (fun z => hd (by rw [ob_eq (by omega) (by omega)] at z; exact z.symm)) (same (fun z => hd z.1))
  · rw [r0 60 (by decide), (hMS.2.2.1 p hp).1]
    show _ = nI (min 999 (st_a s p + 0))
    have := hs.2.2.1 p hp
    congr 1
    omega
end DY
theorem pr_day (x : Int32) : ob_PAIR oX8_day oX9_day [.int x] := by
  intro E c σ hc hR
  have hR1 := hR.mono (Nat.le_succ c)
  obtain ⟨l, s, kp, im, tn, td, hl, hs, hCL, hML, hCS, hMS, hIM, hTD, hTX, hF⟩ := hR
  have hP6 := hl.2.2.1
  have hB8 := hl.2.2.2.1
  have ht : st_t s < 100000000 := by have := hs.1; omega
  by_cases hx : (1 : Int32) ≤ x ∧ x ≤ 9999
  · obtain ⟨n, hn1, hn2, rfl⟩ := ob_rng (m := 1) (n := 9999) rfl rfl (by omega) hx
    refine m_X8_day (b_X8_day_0 (k_out hx (br_t rfl (k_passDays hl hs (by omega) hn2 hCL hCS (fun σ1 r1 hCS1 => ?_)))))
    have hok := fun k (hk : k ≤ 9999) => ob_ps_ok (d := c + 1) (k := k) hs (by have := hs.1; omega)
    rw [show σ1.1 17 7 = nI (st_t s + n) from hCS1.2.1]
    have hML1 : pi_ML σ1.1 l := hML.to (fun i a b => r1 i (by omega)) (fun k hk => by rw [r1 53 (by omega)])
    have hMS1 : pi_MS σ1.1 l s := hMS.to (fun i a b => r1 i (by omega)) (fun k hk => by rw [r1 53 (by omega)])
    refine m_X9_day (b_X9_day_0 (n_in1 (a := 1) (b := 9999) (by decide) (by decide) hx (ob_bt (by decide) ?_)))
    refine ob_loop0 (T := fun i => ∀ τ : ob_Mem, (∀ j, j ≠ 53 → j ≠ 60 → j ≠ 64 → j ≠ 65 → τ.1 j = σ1.1 j) → (∀ k, k ≠ 9 → τ.1 53 k = σ1.1 53 k) → pi_MS τ.1 l (ob_ps l s i) → ob_RT shp E oX9_day 17 [.ref 53, .int (nI n), .int (nI i)] [] τ (ob_qI fun r' σ2 => nI (st_t s + n) = r' ∧ ob_REL (c + 1) σ2.1)) (B := n) ?_ ?_ σ1 (fun _ _ _ _ _ => rfl) (fun _ _ => rfl) (ob_ps0M hl hs hMS1)
    · intro τ r f w
      refine b_X9_day_17 (br_t ((ob_le (by omega) (by omega)).mpr (Nat.le_refl _)) ⟨w.1.symm, ?_⟩)
      refine ob_REL.st (Nat.le_succ c) hl hCL hML hIM hTD hTX hF (hok n hn2) (hCS1.to (fun i a b => r i (by omega) (by omega) (by omega) (by omega)) (fun k hk => by rw [r 17 (by decide) (by decide) (by decide) (by decide)])) w (fun i hi => by rw [r i (by omega) (by omega) (by omega) (by omega), r1 i (by omega)]) (fun i k hk => ?_)
      by_cases h53 : i = 53
      · subst h53
        rw [f k (by omega), r1 53 (by decide)]
      · rw [r i (by omega) (by omega) (by omega) (by omega), r1 i (by omega)]
    · intro i hi ih τ r f w
      refine b_X9_day_17 (br_f (fun z => by rw [ob_le (by omega) (by omega)] at z; omega) ?_)
      have hMLt : pi_ML τ.1 l := hML1.to (fun j a b => r j (by omega) (by omega) (by omega) (by omega)) (fun k hk => f k (by omega))
      rw [nI_1]
      refine n_dayNow hl (hok i (by omega)) (by omega) hMLt w (fun τ2 r2 f2 w2 => ih τ2 (fun j a b c d => by rw [r2 j a b c d]; exact r j a b c d) (fun k hk => by rw [f2 k hk]; exact f k hk) ?_)
      rw [ob_ps_s hl hs] at w2
      exact w2
  · exact m_X8_day (b_X8_day_0 (k_out' hx (br_f (by decide) (m_X9_day (b_X9_day_0 (n_in0 (a := 1) (b := 9999) (by decide) (by decide) hx (ob_bf rfl ⟨rfl, hR1⟩)))))))
