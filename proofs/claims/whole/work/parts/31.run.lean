/-! the whole text in the class -/
/-- the run over the clauses, from a place that is no blank on -/
def ob_run (X : Nat) (T : Nat → Nat) (n : Nat) : Nat → DrT → Nat → (Nat × Nat) ⊕ DrT
  | 0, d, _ => .inr d
  | f + 1, d, a => if a < n then (match ob_cl1 X T n d a (ob_skp ob_isL T n a) with
    | .inl x => .inl x
    | .inr (d', e) => ob_run X T n f d' (ob_skp ob_isB T n e)) else .inr d
theorem ob_run_e {X : Nat} {T : Nat → Nat} {n f a : Nat} {d : DrT} (h : ¬ a < n) : ob_run X T n f d a = .inr d := by
  cases f with
  | zero => rfl
  | succ f => simp only [ob_run]; rw [if_neg h]
theorem ob_run_f {X : Nat} {T : Nat → Nat} {n f a : Nat} {d : DrT} {x : Nat × Nat} (h : a < n) (hc : ob_cl1 X T n d a (ob_skp ob_isL T n a) = .inl x) : ob_run X T n (f + 1) d a = .inl x := by
  simp only [ob_run]; rw [if_pos h, hc]
theorem ob_run_s {X : Nat} {T : Nat → Nat} {n f a e : Nat} {d d' : DrT} (h : a < n) (hc : ob_cl1 X T n d a (ob_skp ob_isL T n a) = .inr (d', e)) : ob_run X T n (f + 1) d a = ob_run X T n f d' (ob_skp ob_isB T n e) := by
  simp only [ob_run]; rw [if_pos h, hc]
/-- nothing told -/
def dr_0 : DrT := ((0, 0, 0, 0), fun _ => 0, fun _ => 0, fun _ => 0, fun _ => 0, fun _ => 0, fun _ => none)
theorem ob_dok0 : ob_dok dr_0 := ⟨Or.inl rfl, by decide, by decide, by decide, fun p hp => absurd hp (Nat.not_lt_zero _), fun b hb => absurd hb (Nat.not_lt_zero _), fun a g h => by cases h⟩
section CH
variable {E : ob_E} {σ : ob_Mem} {T : Nat → Nat} {n : Nat}
theorem pi_CT.f9 {σ' : ob_Mem} (h : pi_CT σ.1 T n) (f : ob_f9 σ σ') : pi_CT σ'.1 T n := ⟨h.1, by rw [f.2]; exact h.2.1, fun i hi => by rw [f.1 2 (by decide) (by decide)]; exact h.2.2 i hi⟩
/-- the loop over the clauses -/
theorem k_clauses {Q : Int32 → ob_Mem → Prop} {R : (Nat × Nat) ⊕ DrT} (ht : pi_CT σ.1 T n) (hf : ∀ c p, R = .inl (c, p) → ∀ σ' : ob_Mem, ob_f9 σ (σ'.1, σ'.2) → 0 < c → c ≤ 4 → σ'.1 1 4 = nI c → σ'.1 1 5 = nI p → Q (nI c) (ob_wI σ' 1 2 0)) (hv : ∀ d, R = .inr d → ob_dok d → ∀ σ' : ob_Mem, ob_f9 σ (σ'.1, σ'.2) → pi_CD σ'.1 d → σ'.1 1 5 = -1 → Q 0 (ob_wI σ' 1 2 0)) : ∀ i, i ≤ 500 → ∀ (τ : ob_Mem) (d : DrT) (a : Nat), ob_f9 σ τ → pi_CD τ.1 d → ob_dok d → a ≤ n → i ≤ a → τ.1 1 3 = nI a → τ.1 1 4 = 0 → τ.1 1 5 = -1 → ob_run 100000000000000 T n (500 - i) d a = R → ob_RT shp E oX3_readAll 33 [.ref 1, .int (nI i)] [] τ (ob_qI Q) := by
  have hn := ht.1
  have e4 : ∀ τ : ob_Mem, (ob_wI τ 1 2 0).1 1 4 = τ.1 1 4 := fun τ => ob_wI_n (by decide)
  refine ob_loop (fun τ d a f hd hok ha hia h3 h4 h5 hr => ?_) (fun i hi ih τ d a f hd hok ha hia h3 h4 h5 hr => ?_)
  · rw [ob_run_e (by omega)] at hr
    refine b_X3_readAll_33 (br_t (by decide) ?_)
    rw [e4, h4]
    exact hv d hr.symm hok τ f hd h5
  · refine b_X3_readAll_33 (br_f (fun z => by rw [show (500 : Int32) = nI 500 from rfl, ob_le (by omega) (by omega)] at z; omega) ?_)
    rw [(ht.f9 f).2.1, h3]
    by_cases han : a < n
    · refine br_f (fun z => by rw [ob_le (by omega) (by omega)] at z; omega) (ob_bf h4 ?_)
      rw [show 500 - i = (500 - (i + 1)) + 1 by omega] at hr
      refine k_readClause (ht.f9 f) hd hok ha h3 h4 (fun c p hc σ1 f1 c0 c4 a4 a5 ax => ?_) (fun d' e' hc ok' σ1 f1 hd1 a3 ae al a4 a5 => ?_)
      · rw [ob_run_f han hc] at hr
        obtain ⟨q, hq, hq3⟩ := ax
        refine k_skipBlanks ((ht.f9 f).f9 f1) hq hq3 (fun σ2 f2 q2 e2 => ?_)
        have ne : ¬ σ2.1 1 4 = 0 := by rw [q2 4 (by decide), a4]; exact ob_nc c0 c4
        have fin : Q ((ob_wI σ2 1 2 0).1 1 4) (ob_wI σ2 1 2 0) := by
          rw [e4, q2 4 (by decide), a4]
          exact hf c p hr.symm σ2 ((f.tr f1).tr f2.n) c0 c4 (by rw [q2 4 (by decide)]; exact a4) (by rw [q2 5 (by decide)]; exact a5)
        refine b_X3_readAll_33 ⟨fun _ => fin, fun _ => ⟨fun _ => fin, fun _ => ob_bt ne fin⟩⟩
      · rw [ob_run_s han hc] at hr
        obtain ⟨g1, g2⟩ := ob_skp_le (P := ob_isB) (T := T) e' ae
        refine k_skipBlanks ((ht.f9 f).f9 f1) ae a3 (fun σ2 f2 q2 e2 => ?_)
        rw [nI_1]
        exact ih σ2 d' (ob_skp ob_isB T n e') ((f.tr f1).tr f2.n) (hd1.f1 f2) ok' g2 (by omega) e2 (by rw [q2 4 (by decide)]; exact a4) (by rw [q2 5 (by decide), a5]; exact h5) hr
    · rw [ob_run_e han] at hr
      refine br_t ((ob_le (by omega) (by omega)).mpr (by omega)) ?_
      rw [e4, h4]
      exact hv d hr.symm hok τ f hd h5
end CH
