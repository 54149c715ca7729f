/-! a whole clause in the class -/
def ob_code (j : Nat) : Nat := ob_cdn (fun i => (ob_wl j).getD i 0) (ob_wl j).length
def ob_cl1 (X : Nat) (T : Nat → Nat) (n : Nat) (d : DrT) (a e : Nat) : (Nat × Nat) ⊕ (DrT × Nat) := if ob_wv X T a (e - a) = ob_code 0 then ob_clY T n d a e else if ob_wv X T a (e - a) = ob_code 1 then ob_clP T n d a e else if ob_wv X T a (e - a) = ob_code 2 then ob_clB T n d a e else if ob_wv X T a (e - a) = ob_code 3 then ob_clG T n d a e else .inl (1, a)
section CG
variable {E : ob_E} {σ : ob_Mem} {T : Nat → Nat} {n : Nat} {d : DrT}
theorem k_readClause {Q : ob_Mem → Prop} {a : Nat} (ht : pi_CT σ.1 T n) (hd : pi_CD σ.1 d) (hok : ob_dok d) (ha : a ≤ n) (h3 : σ.1 1 3 = nI a) (h4 : σ.1 1 4 = 0) (hf : ∀ c p, ob_cl1 100000000000000 T n d a (ob_skp ob_isL T n a) = .inl (c, p) → ∀ σ' : ob_Mem, ob_f9 σ σ' → 0 < c → c ≤ 4 → σ'.1 1 4 = nI c → σ'.1 1 5 = nI p → (∃ q, q ≤ n ∧ σ'.1 1 3 = nI q) → Q σ') (hv : ∀ d' e', ob_cl1 100000000000000 T n d a (ob_skp ob_isL T n a) = .inr (d', e') → ob_dok d' → ∀ σ' : ob_Mem, ob_f9 σ σ' → pi_CD σ'.1 d' → σ'.1 1 3 = nI e' → e' ≤ n → a < e' → σ'.1 1 4 = 0 → σ'.1 1 5 = σ.1 1 5 → Q σ') : ob_RM shp E oX3_readClause [.ref 1] σ (ob_qV Q) := by
  obtain ⟨g1, g2⟩ := ob_skp_le (P := ob_isL) (T := T) a ha
  have gin := ob_skp_in (P := ob_isL) (T := T) a ha
  refine m_X3_readClause (b_X3_readClause_0 (k_skipLetters ht ha h3 (fun σ1 f1 q1 e1 => ?_)))
  rw [h3]
  unfold ob_cl1 at hf hv
  generalize ob_skp ob_isL T n a = e at *
  have hl : ∀ i, i < e - a → 97 ≤ T (a + i) ∧ T (a + i) ≤ 122 := fun i hi => of_decide_eq_true (gin (a + i) (by omega) (by omega))
  have w : ∀ j, j < 4 → (ob_wv 100000000000000 T a (e - a) = ob_code j ↔ ob_wq T a (e - a) j) := fun j hj => ob_wq_iff hj hl
  refine k_isWord_110 (ht.f1 f1) g1 g2 gin e1 (fun hw => br_f (by decide) ?_) (fun hw => br_t rfl ?_)
  · rw [if_pos ((w 0 (by decide)).mpr hw)] at hf hv
    refine k_readYear (ht.f1 f1) (hd.f1 f1) hok g2 e1 (by rw [q1 4 (by decide)]; exact h4) (fun c p hc σ2 f2 c0 c4 a4 a5 ax => hf c p hc σ2 (f1.n.tr f2) c0 c4 a4 a5 ax) (fun d' e' hc ok' σ2 f2 hd2 a3 ae al a4 a5 => hv d' e' hc ok' σ2 (f1.n.tr f2) hd2 a3 ae (by omega) a4 (by rw [a5, q1 5 (by decide)]))
  · rw [if_neg (fun z => hw ((w 0 (by decide)).mp z))] at hf hv
    refine k_isWord_111 (ht.f1 f1) g1 g2 gin e1 (fun hw => br_f (by decide) ?_) (fun hw => br_t rfl ?_)
    · rw [if_pos ((w 1 (by decide)).mpr hw)] at hf hv
      refine k_readPerson (ht.f1 f1) (hd.f1 f1) hok g2 e1 (by rw [q1 4 (by decide)]; exact h4) (fun c p hc σ2 f2 c0 c4 a4 a5 ax => hf c p hc σ2 (f1.n.tr f2) c0 c4 a4 a5 ax) (fun d' e' hc ok' σ2 f2 hd2 a3 ae al a4 a5 => hv d' e' hc ok' σ2 (f1.n.tr f2) hd2 a3 ae (by omega) a4 (by rw [a5, q1 5 (by decide)]))
    · rw [if_neg (fun z => hw ((w 1 (by decide)).mp z))] at hf hv
      refine k_isWord_112 (ht.f1 f1) g1 g2 gin e1 (fun hw => br_f (by decide) ?_) (fun hw => br_t rfl ?_)
      · rw [if_pos ((w 2 (by decide)).mpr hw)] at hf hv
        refine k_readBirthday (ht.f1 f1) (hd.f1 f1) hok g2 e1 (by rw [q1 4 (by decide)]; exact h4) (fun c p hc σ2 f2 c0 c4 a4 a5 ax => hf c p hc σ2 (f1.n.tr f2) c0 c4 a4 a5 ax) (fun d' e' hc ok' σ2 f2 hd2 a3 ae al a4 a5 => hv d' e' hc ok' σ2 (f1.n.tr f2) hd2 a3 ae (by omega) a4 (by rw [a5, q1 5 (by decide)]))
      · rw [if_neg (fun z => hw ((w 2 (by decide)).mp z))] at hf hv
        refine k_isWord_113 (ht.f1 f1) g1 g2 gin e1 (fun hw => br_f (by decide) ?_) (fun hw => br_t rfl ?_)
        · rw [if_pos ((w 3 (by decide)).mpr hw)] at hf hv
          refine k_readGood (ht.f1 f1) (hd.f1 f1) hok g2 e1 (by rw [q1 4 (by decide)]; exact h4) (fun c p hc σ2 f2 c0 c4 a4 a5 ax => hf c p hc σ2 (f1.n.tr f2) c0 c4 a4 a5 ax) (fun d' e' hc ok' σ2 f2 hd2 a3 ae al a4 a5 => hv d' e' hc ok' σ2 (f1.n.tr f2) hd2 a3 ae (by omega) a4 (by rw [a5, q1 5 (by decide)]))
        · rw [if_neg (fun z => hw ((w 3 (by decide)).mp z))] at hf
          refine k_setFault0 (by rw [q1 4 (by decide)]; exact h4) (fun σ2 f2 a4 a5 a3 => hf 1 a rfl σ2 (f1.tr f2).n (by omega) (by omega) a4 a5 ⟨_, g2, a3.trans e1⟩)
end CG
