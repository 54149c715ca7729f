/-! a clause ahead of its end, in abstract; the reference's draft -/
def pi_ME (M : Nat → Nat → Int32) (d : DrT) : Prop := M 53 25 = nI (dr_Y d) ∧ M 53 27 = nI (dr_P d) ∧ M 53 30 = nI (dr_B d) ∧ M 53 34 = nI (dr_G d) ∧ (∀ p, p < dr_P d → M 67 p = nI (dr_A d p) ∧ M 68 p = nI (dr_U d p)) ∧ (∀ b, b < dr_B d → M 69 b = nI (dr_D d b) ∧ M 70 b = nI (dr_O d b) ∧ M 71 b = nI (dr_C d b)) ∧ ∀ a, a ≤ 120 → M 72 a = ob_oI (dr_g d a)
theorem pi_MD.e {M : Nat → Nat → Int32} {d : DrT} (h : pi_MD M d) : pi_ME M d := ⟨h.1, h.2.2⟩
theorem pi_ME.d {M : Nat → Nat → Int32} {d : DrT} (h : pi_ME M d) (h2 : M 53 26 = nI (dr_P d + dr_B d + dr_G d)) : pi_MD M d := ⟨h.1, h2, h.2⟩
def ob_f6 (σ σ' : ob_Mem) : Prop := (∀ i, i ≠ 53 → ¬ (67 ≤ i ∧ i ≤ 72) → σ'.1 i = σ.1 i) ∧ ∀ k, (k < 19 ∨ 34 < k) → σ'.1 53 k = σ.1 53 k
theorem ob_f6.tr {a b c : ob_Mem} (h1 : ob_f6 a b) (h2 : ob_f6 b c) : ob_f6 a c := ⟨fun i x y => by rw [h2.1 i x y, h1.1 i x y], fun k x => by rw [h2.2 k x, h1.2 k x]⟩
theorem ob_f6.rf (a : ob_Mem) : ob_f6 a a := ⟨fun _ _ _ => rfl, fun _ _ => rfl⟩
theorem ob_f5.n {σ σ' : ob_Mem} (f : ob_f5 σ σ') : ob_f6 σ σ' := ⟨fun i h _ => f.1 i h, fun k h => f.2 k (by omega) (by omega) (by omega) (by omega) (by omega)⟩
theorem ob_f6.w {σ : ob_Mem} {k : Nat} {x : Int32} (h : 19 ≤ k ∧ k ≤ 34) : ob_f6 σ (ob_wI σ 53 k x) := ⟨fun i a _ => ob_wI_o a, fun j a => ob_wI_n (by omega)⟩
theorem ob_f6.r {σ : ob_Mem} {i k : Nat} {x : Int32} (h : 67 ≤ i ∧ i ≤ 72) : ob_f6 σ (ob_wI σ i k x) := ⟨fun j _ b => ob_wI_o (fun e => b (e ▸ h)), fun j _ => by rw [ob_wI_o (by omega)]⟩
theorem pi_MT.f6 {σ σ' : ob_Mem} {T : Nat → Nat} {n : Nat} (h : pi_MT σ.1 T n) (f : ob_f6 σ σ') : pi_MT σ'.1 T n := ⟨h.1, by rw [f.2 18 (by omega)]; exact h.2.1, fun i hi => by rw [f.1 66 (by decide) (by decide)]; exact h.2.2 i hi⟩
theorem pi_ME.f5 {σ σ' : ob_Mem} {d : DrT} (h : pi_ME σ.1 d) (f : ob_f5 σ σ') : pi_ME σ'.1 d := by
  unfold pi_ME
  rw [f.2 25 (by decide) (by decide) (by decide) (by decide) (by decide), f.2 27 (by decide) (by decide) (by decide) (by decide) (by decide), f.2 30 (by decide) (by decide) (by decide) (by decide) (by decide), f.2 34 (by decide) (by decide) (by decide) (by decide) (by decide), f.1 67 (by decide), f.1 68 (by decide), f.1 69 (by decide), f.1 70 (by decide), f.1 71 (by decide), f.1 72 (by decide)]
  exact h
def ob_then (T : Nat → Nat) (n : Nat) (r : (Nat × Nat) ⊕ (DrT × Nat)) : (Nat × Nat) ⊕ (DrT × Nat) := match r with
  | .inl f => .inl f
  | .inr (d', e') => ob_fin T n e' d'
def ob_tY (T : Nat → Nat) (n : Nat) (d : DrT) (e : Nat) : (Nat × Nat) ⊕ (DrT × Nat) := ob_aft T n (ob_nm T n 2 61 e) fun v _ e1 => .inr (dr_setY d v, e1)
def ob_tP (T : Nat → Nat) (n : Nat) (d : DrT) (e : Nat) : (Nat × Nat) ⊕ (DrT × Nat) := ob_aft T n (ob_nm T n 0 121 e) fun v _ e1 => ob_aft T n (ob_nm T n 0 1000 e1) fun u _ e2 => .inr (dr_addP d v u, e2)
def ob_tB (T : Nat → Nat) (n : Nat) (d : DrT) (e : Nat) : (Nat × Nat) ⊕ (DrT × Nat) := ob_aft T n (ob_nm T n 0 (dr_N d) e) fun x _ e1 => ob_aft T n (ob_nm T n 0 (dr_P d) e1) fun y _ e2 => ob_aft T n (ob_nm T n 1 100 e2) fun z _ e3 => .inr (dr_addB d x y z, e3)
def ob_tG (T : Nat → Nat) (n : Nat) (d : DrT) (e : Nat) : (Nat × Nat) ⊕ (DrT × Nat) := ob_aft T n (ob_nm T n 0 121 e) fun v p e1 => if dr_g d v ≠ none then .inl (4, p) else ob_aft T n (ob_nm T n 0 100 e1) fun g _ e2 => .inr (dr_addG d v g, e2)
section TP
variable {T : Nat → Nat} {n a e e' : Nat} {d d' : DrT}
theorem ob_then_aft {r : (Nat × Nat) ⊕ (Nat × Nat × Nat)} {k : Nat → Nat → Nat → (Nat × Nat) ⊕ (DrT × Nat)} : ob_then T n (ob_aft T n r k) = ob_aft T n r (fun v p e => ob_then T n (k v p e)) := by
  cases r with
  | inl f => rfl
  | inr q => rfl
theorem ob_clY_t : ob_clY T n d a e = if dr_P d + dr_B d + dr_G d ≠ 0 then .inl (1, a) else if dr_Y d ≠ 0 then .inl (3, a) else ob_then T n (ob_tY T n d e) := by
  unfold ob_clY ob_tY
  simp only [ob_then_aft]
  rfl
theorem ob_clP_t : ob_clP T n d a e = if dr_P d = 6 then .inl (3, a) else ob_then T n (ob_tP T n d e) := by
  unfold ob_clP ob_tP
  simp only [ob_then_aft]
  rfl
theorem ob_clB_t : ob_clB T n d a e = if dr_B d = 8 then .inl (3, a) else ob_then T n (ob_tB T n d e) := by
  unfold ob_clB ob_tB
  simp only [ob_then_aft]
  rfl
theorem ob_clG_t : ob_clG T n d a e = if dr_G d = 10 then .inl (3, a) else ob_then T n (ob_tG T n d e) := by
  unfold ob_clG ob_tG
  simp only [ob_then_aft, apply_ite (ob_then T n)]
  rfl
theorem ob_en_e (h : ob_en T n a = .inr e) (ha : a ≤ n) : a < e ∧ e ≤ n := by
  obtain ⟨g1, g2⟩ := ob_skp_le (P := ob_isB) (T := T) a ha
  unfold ob_en at h
  split at h
  · cases h
    omega
  · cases h
theorem ob_nm_n {lo hi v p : Nat} (h : ob_nm T n lo hi a = .inr (v, p, e)) (ha : a ≤ n) : a < e ∧ e ≤ n := by
  refine ⟨ob_nm_e h ha, ?_⟩
  obtain ⟨g1, g2⟩ := ob_skp_le (P := ob_isB) (T := T) a ha
  obtain ⟨g3, g4⟩ := ob_skp_le (P := ob_isF) (T := T) (ob_skp ob_isB T n a) g2
  unfold ob_nm at h
  split at h
  · cases h
  · split at h
    · cases h
      exact g4
    · cases h
theorem ob_fin_ok {d1 d2 : DrT} {e1 e2 : Nat} (h : ob_fin T n e1 d1 = .inr (d2, e2)) (he : e1 ≤ n) : d2 = d1 ∧ e1 < e2 ∧ e2 ≤ n := by
  unfold ob_fin at h
  cases h1 : ob_en T n e1 with
  | inl f => rw [h1] at h; cases h
  | inr x =>
    rw [h1] at h
    cases h
    exact ⟨rfl, ob_en_e h1 he⟩
theorem ob_fin_c {d1 : DrT} {e1 c p : Nat} (h : ob_fin T n e1 d1 = .inl (c, p)) : c = 1 := by
  unfold ob_fin at h
  cases h1 : ob_en T n e1 with
  | inl f =>
    rw [h1] at h
    cases h
    exact ob_en_c h1
  | inr x => rw [h1] at h; cases h
theorem ob_tY_ok (h : ob_tY T n d e = .inr (d', e')) (he : e ≤ n) (hok : ob_dok d) (h0 : dr_P d + dr_B d + dr_G d = 0) : e < e' ∧ e' ≤ n ∧ dr_P d' + dr_B d' + dr_G d' = dr_P d + dr_B d + dr_G d ∧ ob_dok d' := by
  unfold ob_tY at h
  cases h1 : ob_nm T n 2 61 e with
  | inl f => rw [h1] at h; cases h
  | inr q =>
    obtain ⟨v, p, e1⟩ := q
    rw [h1] at h
    have v1 := ob_nm_v h1
    have l1 := ob_nm_n h1 he
    cases h
    refine ⟨l1.1, l1.2, rfl, ?_⟩
    obtain ⟨o0, o1, o2, o3, o4, o5, o6⟩ := hok
    exact ⟨Or.inr ⟨v1.1, by show v ≤ 60; omega⟩, o1, o2, o3, o4, fun b hb => by have hb : b < dr_B d := hb; omega, o6⟩
theorem ob_tP_ok (h : ob_tP T n d e = .inr (d', e')) (he : e ≤ n) (hok : ob_dok d) (h6 : dr_P d ≠ 6) : e < e' ∧ e' ≤ n ∧ dr_P d' + dr_B d' + dr_G d' = dr_P d + dr_B d + dr_G d + 1 ∧ ob_dok d' := by
  unfold ob_tP at h
  cases h1 : ob_nm T n 0 121 e with
  | inl f => rw [h1] at h; cases h
  | inr q =>
    obtain ⟨v, p, e1⟩ := q
    rw [h1] at h
    have v1 := ob_nm_v h1
    have l1 := ob_nm_n h1 he
    dsimp only [ob_aft] at h
    cases h2 : ob_nm T n 0 1000 e1 with
    | inl f => rw [h2] at h; cases h
    | inr q =>
      obtain ⟨u, p2, e2⟩ := q
      rw [h2] at h
      have v2 := ob_nm_v h2
      have l2 := ob_nm_n h2 l1.2
      cases h
      refine ⟨by omega, l2.2, by show dr_P d + 1 + dr_B d + dr_G d = _; omega, ?_⟩
      obtain ⟨o0, o1, o2, o3, o4, o5, o6⟩ := hok
      refine ⟨o0, by show dr_P d + 1 ≤ 6; omega, o2, o3, fun q hq => ?_, fun b hb => ⟨(o5 b hb).1, Nat.lt_succ_of_lt (o5 b hb).2.1, (o5 b hb).2.2⟩, o6⟩
      have hq : q < dr_P d + 1 := hq
      show ob_u1 (dr_A d) (dr_P d) v q ≤ 120 ∧ ob_u1 (dr_U d) (dr_P d) u q ≤ 999
      by_cases eq : q = dr_P d
      · rw [eq, ob_u1s, ob_u1s]; omega
      · rw [ob_u1n eq, ob_u1n eq]; exact o4 q (by omega)
theorem ob_tB_ok (h : ob_tB T n d e = .inr (d', e')) (he : e ≤ n) (hok : ob_dok d) (h8 : dr_B d ≠ 8) : e < e' ∧ e' ≤ n ∧ dr_P d' + dr_B d' + dr_G d' = dr_P d + dr_B d + dr_G d + 1 ∧ ob_dok d' := by
  unfold ob_tB at h
  cases h1 : ob_nm T n 0 (dr_N d) e with
  | inl f => rw [h1] at h; cases h
  | inr q =>
    obtain ⟨x, p, e1⟩ := q
    rw [h1] at h
    have v1 := ob_nm_v h1
    have l1 := ob_nm_n h1 he
    dsimp only [ob_aft] at h
    cases h2 : ob_nm T n 0 (dr_P d) e1 with
    | inl f => rw [h2] at h; cases h
    | inr q =>
      obtain ⟨y, p2, e2⟩ := q
      rw [h2] at h
      have v2 := ob_nm_v h2
      have l2 := ob_nm_n h2 l1.2
      dsimp only at h
      cases h3 : ob_nm T n 1 100 e2 with
      | inl f => rw [h3] at h; cases h
      | inr q =>
        obtain ⟨z, p3, e3⟩ := q
        rw [h3] at h
        have v3 := ob_nm_v h3
        have l3 := ob_nm_n h3 l2.2
        cases h
        refine ⟨by omega, l3.2, by show dr_P d + (dr_B d + 1) + dr_G d = _; omega, ?_⟩
        obtain ⟨o0, o1, o2, o3, o4, o5, o6⟩ := hok
        refine ⟨o0, o1, by show dr_B d + 1 ≤ 8; omega, o3, o4, fun b hb => ?_, o6⟩
        have hb : b < dr_B d + 1 := hb
        show ob_u1 (dr_D d) (dr_B d) x b < dr_N d ∧ ob_u1 (dr_O d) (dr_B d) y b < dr_P d ∧ 1 ≤ ob_u1 (dr_C d) (dr_B d) z b ∧ ob_u1 (dr_C d) (dr_B d) z b ≤ 99
        by_cases eq : b = dr_B d
        · rw [eq, ob_u1s, ob_u1s, ob_u1s]; omega
        · rw [ob_u1n eq, ob_u1n eq, ob_u1n eq]; exact o5 b (by omega)
theorem ob_tG_ok (h : ob_tG T n d e = .inr (d', e')) (he : e ≤ n) (hok : ob_dok d) (h10 : dr_G d ≠ 10) : e < e' ∧ e' ≤ n ∧ dr_P d' + dr_B d' + dr_G d' = dr_P d + dr_B d + dr_G d + 1 ∧ ob_dok d' := by
  unfold ob_tG at h
  cases h1 : ob_nm T n 0 121 e with
  | inl f => rw [h1] at h; cases h
  | inr q =>
    obtain ⟨x, p, e1⟩ := q
    rw [h1] at h
    have v1 := ob_nm_v h1
    have l1 := ob_nm_n h1 he
    dsimp only [ob_aft] at h
    split at h
    · cases h
    · cases h2 : ob_nm T n 0 100 e1 with
      | inl f => rw [h2] at h; cases h
      | inr q =>
        obtain ⟨u, p2, e2⟩ := q
        rw [h2] at h
        have v2 := ob_nm_v h2
        have l2 := ob_nm_n h2 l1.2
        cases h
        refine ⟨by omega, l2.2, by show dr_P d + dr_B d + (dr_G d + 1) = _; omega, ?_⟩
        obtain ⟨o0, o1, o2, o3, o4, o5, o6⟩ := hok
        refine ⟨o0, o1, o2, by show dr_G d + 1 ≤ 10; omega, o4, o5, fun q g hq => ?_⟩
        have hq : (if q = x then some u else dr_g d q) = some g := hq
        split at hq
        · cases hq; omega
        · exact o6 q g hq
end TP
