/-! the text, read in abstract: T the signs, n how many -/
def ob_skf (P : Nat → Bool) (T : Nat → Nat) (n : Nat) : Nat → Nat → Nat
  | 0, a => a
  | f + 1, a => if a < n ∧ P (T a) = true then ob_skf P T n f (a + 1) else a
def ob_skp (P : Nat → Bool) (T : Nat → Nat) (n a : Nat) : Nat := ob_skf P T n (n - a) a
theorem ob_skp_s {P : Nat → Bool} {T : Nat → Nat} {n a : Nat} (h : a < n) (hp : P (T a) = true) : ob_skp P T n a = ob_skp P T n (a + 1) := by
  unfold ob_skp
  rw [show n - a = (n - (a + 1)) + 1 by omega]
  simp only [ob_skf]
  rw [if_pos ⟨h, hp⟩]
theorem ob_skp_e {P : Nat → Bool} {T : Nat → Nat} {n a : Nat} (h : ¬ (a < n ∧ P (T a) = true)) : ob_skp P T n a = a := by
  unfold ob_skp
  cases hn : n - a with
  | zero => rfl
  | succ m => simp only [ob_skf]; rw [if_neg h]
/-- by steps from a on -/
theorem ob_ski {P : Nat → Bool} {T : Nat → Nat} {n : Nat} {R : Nat → Prop} (h1 : ∀ a, a < n → P (T a) = true → R (a + 1) → R a) (h2 : ∀ a, ¬ (a < n ∧ P (T a) = true) → a ≤ n → R a) : ∀ a, a ≤ n → R a := by
  intro a ha
  generalize hk : n - a = k
  induction k generalizing a with
  | zero => exact h2 a (by omega) ha
  | succ k ih =>
    by_cases hp : P (T a) = true
    · exact h1 a (by omega) hp (ih (a + 1) (by omega) (by omega))
    · exact h2 a (fun z => hp z.2) ha
theorem ob_skp_le {P : Nat → Bool} {T : Nat → Nat} {n : Nat} : ∀ a, a ≤ n → a ≤ ob_skp P T n a ∧ ob_skp P T n a ≤ n := by
  refine ob_ski (P := P) (T := T) (fun a h hp ih => ?_) (fun a h ha => ?_)
  · rw [ob_skp_s h hp]; omega
  · rw [ob_skp_e h]; omega
theorem ob_skp_at {P : Nat → Bool} {T : Nat → Nat} {n : Nat} : ∀ a, a ≤ n → ¬ (ob_skp P T n a < n ∧ P (T (ob_skp P T n a)) = true) := by
  refine ob_ski (P := P) (T := T) (fun a h hp ih => ?_) (fun a h ha => ?_)
  · rw [ob_skp_s h hp]; exact ih
  · rw [ob_skp_e h]; exact h
theorem ob_skp_in {P : Nat → Bool} {T : Nat → Nat} {n : Nat} : ∀ a, a ≤ n → ∀ i, a ≤ i → i < ob_skp P T n a → P (T i) = true := by
  refine ob_ski (P := P) (T := T) (fun a h hp ih => ?_) (fun a h ha => ?_)
  · intro i h1 h2
    rw [ob_skp_s h hp] at h2
    by_cases e : i = a
    · rw [e]; exact hp
    · exact ih i (by omega) h2
  · intro i h1 h2
    rw [ob_skp_e h] at h2
    omega
theorem ob_skp_id {P : Nat → Bool} {T : Nat → Nat} {n a : Nat} (ha : a ≤ n) : ob_skp P T n (ob_skp P T n a) = ob_skp P T n a := ob_skp_e (ob_skp_at a ha)
def ob_isB (c : Nat) : Bool := decide (c = 32)
def ob_isL (c : Nat) : Bool := decide (97 ≤ c ∧ c ≤ 122)
def ob_isF (c : Nat) : Bool := decide (48 ≤ c ∧ c ≤ 57)
/-- a sign as the class holds it -/
def ob_c8 (c : Nat) : Int32 := (nI c).toInt8.toInt32
theorem ob_c8F : ∀ c : Fin 256, (decide (ob_c8 c.val = 32) = ob_isB c.val) ∧ (decide (ob_c8 c.val = 59) = decide (c.val = 59)) ∧ (decide (¬ ob_c8 c.val < 97 ∧ ¬ 122 < ob_c8 c.val) = ob_isL c.val) ∧ (decide (¬ ob_c8 c.val < 48 ∧ ¬ 57 < ob_c8 c.val) = ob_isF c.val) ∧ (ob_isF c.val = true → ob_c8 c.val - 48 = nI (c.val - 48)) ∧ (ob_isL c.val = true → ob_c8 c.val = nI c.val) := by decide +kernel
theorem ob_di {a : Prop} [Decidable a] {b : Bool} (h : decide a = b) : a ↔ b = true := by rw [← h]; exact decide_eq_true_iff.symm
/-- the first k figures from a on -/
def ob_dec10 (T : Nat → Nat) (a : Nat) : Nat → Nat
  | 0 => 0
  | k + 1 => 10 * ob_dec10 T a k + (T (a + k) - 48)
/-- a number: a fault's number and place, or value, place and where it ends -/
def ob_nm (T : Nat → Nat) (n lo hi a : Nat) : (Nat × Nat) ⊕ (Nat × Nat × Nat) :=
  if ob_skp ob_isF T n (ob_skp ob_isB T n a) = ob_skp ob_isB T n a then .inl (1, ob_skp ob_isB T n a)
  else if ob_skp ob_isF T n (ob_skp ob_isB T n a) - ob_skp ob_isB T n a ≤ 3 ∧ lo ≤ ob_dec10 T (ob_skp ob_isB T n a) (ob_skp ob_isF T n (ob_skp ob_isB T n a) - ob_skp ob_isB T n a) ∧ ob_dec10 T (ob_skp ob_isB T n a) (ob_skp ob_isF T n (ob_skp ob_isB T n a) - ob_skp ob_isB T n a) < hi then .inr (ob_dec10 T (ob_skp ob_isB T n a) (ob_skp ob_isF T n (ob_skp ob_isB T n a) - ob_skp ob_isB T n a), ob_skp ob_isB T n a, ob_skp ob_isF T n (ob_skp ob_isB T n a))
  else .inl (2, ob_skp ob_isB T n a)
/-- the end of a clause -/
def ob_en (T : Nat → Nat) (n a : Nat) : (Nat × Nat) ⊕ Nat := if ob_skp ob_isB T n a < n ∧ T (ob_skp ob_isB T n a) = 59 then .inr (ob_skp ob_isB T n a + 1) else .inl (1, ob_skp ob_isB T n a)
theorem ob_dec_lt {T : Nat → Nat} {a : Nat} : ∀ k, (∀ i, i < k → T (a + i) ≤ 57) → ob_dec10 T a k < 10 ^ k
  | 0, _ => by show 0 < 1; decide
  | k + 1, h => by
    have h1 := ob_dec_lt (T := T) (a := a) k (fun i hi => h i (by omega))
    have h2 := h k (by omega)
    simp only [ob_dec10]
    rw [Nat.pow_succ]
    omega
/-- the text in the class, and in the reference -/
def pi_CT (M : Nat → Nat → Int32) (T : Nat → Nat) (n : Nat) : Prop := n ≤ 500 ∧ M 1 2 = nI n ∧ ∀ i, i < n → T i < 256 ∧ M 2 i = ob_c8 (T i)
def pi_MT (M : Nat → Nat → Int32) (T : Nat → Nat) (n : Nat) : Prop := n ≤ 500 ∧ M 53 18 = nI n ∧ ∀ i, i < n → T i < 256 ∧ M 66 i = nI (T i)
/-- only the reader's own place, fault and number have changed -/
def ob_f1 (σ σ' : ob_Mem) : Prop := (∀ i, i ≠ 1 → σ'.1 i = σ.1 i) ∧ σ'.1 1 2 = σ.1 1 2 ∧ σ'.1 1 7 = σ.1 1 7
theorem ob_f1.tr {a b c : ob_Mem} (h1 : ob_f1 a b) (h2 : ob_f1 b c) : ob_f1 a c := ⟨fun i hi => by rw [h2.1 i hi, h1.1 i hi], by rw [h2.2.1, h1.2.1], by rw [h2.2.2, h1.2.2]⟩
theorem ob_f1.rf (a : ob_Mem) : ob_f1 a a := ⟨fun _ _ => rfl, rfl, rfl⟩
theorem ob_f1.w {σ : ob_Mem} {k : Nat} {x : Int32} (h2 : k ≠ 2) (h7 : k ≠ 7) : ob_f1 σ (ob_wI σ 1 k x) := ⟨fun i hi => ob_wI_o hi, ob_wI_n (fun e => h2 e.symm), ob_wI_n (fun e => h7 e.symm)⟩
theorem pi_CT.f1 {σ σ' : ob_Mem} {T : Nat → Nat} {n : Nat} (h : pi_CT σ.1 T n) (f : ob_f1 σ σ') : pi_CT σ'.1 T n := ⟨h.1, by rw [f.2.1]; exact h.2.1, fun i hi => by rw [f.1 2 (by decide)]; exact h.2.2 i hi⟩
section TX
variable {E : ob_E} {σ : ob_Mem} {T : Nat → Nat} {n : Nat}
theorem k_skipBlanks {Q : ob_Mem → Prop} {a : Nat} (ht : pi_CT σ.1 T n) (ha : a ≤ n) (h3 : σ.1 1 3 = nI a) (h : ∀ σ' : ob_Mem, ob_f1 σ σ' → (∀ k, k ≠ 3 → σ'.1 1 k = σ.1 1 k) → σ'.1 1 3 = nI (ob_skp ob_isB T n a) → Q σ') : ob_RM shp E oX3_skipBlanks [.ref 1] σ (ob_qV Q) := by
  have hn := ht.1
  refine m_X3_skipBlanks ?_
  have key : ∀ a, a ≤ n → ∀ τ : ob_Mem, ob_f1 σ τ → (∀ k, k ≠ 3 → τ.1 1 k = σ.1 1 k) → τ.1 1 3 = nI a → (∀ σ' : ob_Mem, ob_f1 σ σ' → (∀ k, k ≠ 3 → σ'.1 1 k = σ.1 1 k) → σ'.1 1 3 = nI (ob_skp ob_isB T n a) → Q σ') → ob_RT shp E oX3_skipBlanks 0 [.ref 1] [] τ (ob_qV Q) := by
    refine ob_ski (P := ob_isB) (T := T) (fun a han hp ih τ f g e q => ?_) (fun a hno ha τ f g e q => ?_)
    · obtain ⟨c1, c2⟩ := (ht.f1 f).2.2 a han
      refine b_X3_skipBlanks_0 ?_
      rw [e, (ht.f1 f).2.1, ob_cl (by omega), c2, nI_1]
      refine br_f (fun z => by rw [ob_le (by omega) (by omega)] at z; omega) ⟨ob_in (by omega) (by omega), ob_bf ((ob_di (ob_c8F ⟨T a, c1⟩).1).mpr hp) (ih _ (f.tr (ob_f1.w (by decide) (by decide))) (fun k hk => by rw [ob_wI_n hk]; exact g k hk) ob_wI_s ?_)⟩
      rw [ob_skp_s han hp] at q
      exact q
    · rw [ob_skp_e hno] at q
      refine b_X3_skipBlanks_0 ?_
      rw [e, (ht.f1 f).2.1]
      by_cases han : a < n
      · obtain ⟨c1, c2⟩ := (ht.f1 f).2.2 a han
        rw [ob_cl (by omega), c2]
        exact br_f (fun z => by rw [ob_le (by omega) (by omega)] at z; omega) ⟨ob_in (by omega) (by omega), ob_bt (fun z => hno ⟨han, (ob_di (ob_c8F ⟨T a, c1⟩).1).mp z⟩) (q τ f g e)⟩
      · exact br_t ((ob_le (by omega) (by omega)).mpr (by omega)) (q τ f g e)
  exact key a ha σ (ob_f1.rf σ) (fun _ _ => rfl) h3 h
theorem k_skipLetters {Q : ob_Mem → Prop} {a : Nat} (ht : pi_CT σ.1 T n) (ha : a ≤ n) (h3 : σ.1 1 3 = nI a) (h : ∀ σ' : ob_Mem, ob_f1 σ σ' → (∀ k, k ≠ 3 → σ'.1 1 k = σ.1 1 k) → σ'.1 1 3 = nI (ob_skp ob_isL T n a) → Q σ') : ob_RM shp E oX3_skipLetters [.ref 1] σ (ob_qV Q) := by
  have hn := ht.1
  refine m_X3_skipLetters ?_
  have key : ∀ a, a ≤ n → ∀ τ : ob_Mem, ob_f1 σ τ → (∀ k, k ≠ 3 → τ.1 1 k = σ.1 1 k) → τ.1 1 3 = nI a → (∀ σ' : ob_Mem, ob_f1 σ σ' → (∀ k, k ≠ 3 → σ'.1 1 k = σ.1 1 k) → σ'.1 1 3 = nI (ob_skp ob_isL T n a) → Q σ') → ob_RT shp E oX3_skipLetters 0 [.ref 1] [] τ (ob_qV Q) := by
    refine ob_ski (P := ob_isL) (T := T) (fun a han hp ih τ f g e q => ?_) (fun a hno ha τ f g e q => ?_)
    · obtain ⟨c1, c2⟩ := (ht.f1 f).2.2 a han
      have hin : vp_in (nI a) 500 := ob_in (by omega) (by omega)
      obtain ⟨l1, l2⟩ := (ob_di (ob_c8F ⟨T a, c1⟩).2.2.1).mpr hp
      refine b_X3_skipLetters_0 ?_
      rw [e, (ht.f1 f).2.1, ob_cl (by omega), c2, nI_1]
      refine br_f (fun z => by rw [ob_le (by omega) (by omega)] at z; omega) ⟨hin, br_f l1 ⟨hin, br_f l2 (ih _ (f.tr (ob_f1.w (by decide) (by decide))) (fun k hk => by rw [ob_wI_n hk]; exact g k hk) ob_wI_s ?_)⟩⟩
      rw [ob_skp_s han hp] at q
      exact q
    · rw [ob_skp_e hno] at q
      refine b_X3_skipLetters_0 ?_
      rw [e, (ht.f1 f).2.1]
      by_cases han : a < n
      · obtain ⟨c1, c2⟩ := (ht.f1 f).2.2 a han
        have hin : vp_in (nI a) 500 := ob_in (by omega) (by omega)
        rw [ob_cl (by omega), c2]
        refine br_f (fun z => by rw [ob_le (by omega) (by omega)] at z; omega) ⟨hin, ?_⟩
        by_cases l1 : ob_c8 (T a) < 97
        · exact br_t l1 (q τ f g e)
        · refine br_f l1 ⟨hin, br_t ?_ (q τ f g e)⟩
          exact Decidable.byContradiction (fun l2 => hno ⟨han, (ob_di (ob_c8F ⟨T a, c1⟩).2.2.1).mp ⟨l1, l2⟩⟩)
      · exact br_t ((ob_le (by omega) (by omega)).mpr (by omega)) (q τ f g e)
  exact key a ha σ (ob_f1.rf σ) (fun _ _ => rfl) h3 h
theorem k_setFault0 {Q : ob_Mem → Prop} {x p : Int32} (h4 : σ.1 1 4 = 0) (h : ∀ σ' : ob_Mem, ob_f1 σ σ' → σ'.1 1 4 = x → σ'.1 1 5 = p → σ'.1 1 3 = σ.1 1 3 → Q σ') : ob_RM shp E oX3_setFault [.ref 1, .int x, .int p] σ (ob_qV Q) := by
  refine m_X3_setFault (b_X3_setFault_0 (ob_bf h4 (h _ ((ob_f1.w (by decide) (by decide)).tr (ob_f1.w (by decide) (by decide))) ?_ ob_wI_s ?_)))
  · rw [ob_wI_n (by decide), ob_wI_s]
  · rw [ob_wI_n (by decide), ob_wI_n (by decide)]
theorem k_isFigure {Q : Int32 → ob_Mem → Prop} {c : Nat} (hc : c < 256) (h1 : ob_isF c = true → Q 1 σ) (h0 : ob_isF c = false → Q 0 σ) : ob_RM shp E oX3_isFigure [.int (ob_c8 c)] σ (ob_qI Q) := by
  have d := ob_di (ob_c8F ⟨c, hc⟩).2.2.2.1
  have no : ¬ (¬ ob_c8 c < 48 ∧ ¬ 57 < ob_c8 c) → Q 0 σ := fun z => h0 (by
    cases hf : ob_isF c with
    | false => rfl
    | true => exact absurd (d.mpr hf) z)
  refine m_X3_isFigure (b_X3_isFigure_0 ?_)
  by_cases a1 : ob_c8 c < 48
  · exact br_t a1 (no (fun z => z.1 a1))
  · refine br_f a1 ?_
    by_cases a2 : 57 < ob_c8 c
    · exact br_t a2 (no (fun z => z.2 a2))
    · exact br_f a2 (h1 (d.mp ⟨a1, a2⟩))
/-- a number in the class: no fault so far -/
theorem k_number {Q : Int32 → ob_Mem → Prop} {a lo hi : Nat} {xh : Int32} (ht : pi_CT σ.1 T n) (ha : a ≤ n) (h3 : σ.1 1 3 = nI a) (h4 : σ.1 1 4 = 0) (hlo : lo ≤ 2) (hhi : hi ≤ 1000) (hx : xh = nI hi - 1) (hf : ∀ c p, ob_nm T n lo hi a = .inl (c, p) → ∀ (v : Int32) (σ' : ob_Mem), ob_f1 σ σ' → σ'.1 1 4 = nI c → σ'.1 1 5 = nI p → (∃ q, q ≤ n ∧ σ'.1 1 3 = nI q) → Q v σ') (hv : ∀ v p e, ob_nm T n lo hi a = .inr (v, p, e) → ∀ σ' : ob_Mem, ob_f1 σ σ' → σ'.1 1 3 = nI e → e ≤ n → σ'.1 1 4 = 0 → σ'.1 1 5 = σ.1 1 5 → σ'.1 1 6 = nI p → Q (nI v) σ') : ob_RM shp E oX3_readNumber [.ref 1, .int (nI lo), .int xh] σ (ob_qI Q) := by
  have hn := ht.1
  obtain ⟨g1, g2⟩ := ob_skp_le (P := ob_isB) (T := T) a ha
  refine m_X3_readNumber (b_X3_readNumber_0 (br_t h4 (k_skipBlanks ht ha h3 (fun σ1 f1 q1 e1 => ?_))))
  unfold ob_nm at hf hv
  generalize ob_skp ob_isB T n a = s at *
  obtain ⟨g3, g4⟩ := ob_skp_le (P := ob_isF) (T := T) s g2
  have gin := ob_skp_in (P := ob_isF) (T := T) s g2
  rw [e1]
  have f2 : ob_f1 σ (ob_wI σ1 1 6 (nI s)) := f1.tr (ob_f1.w (by decide) (by decide))
  have fin : ∀ (τ : ob_Mem) (x : Int32), ob_f1 σ τ → τ.1 1 3 = nI (ob_skp ob_isF T n s) → τ.1 1 6 = nI s → τ.1 1 4 = 0 → τ.1 1 5 = σ.1 1 5 → (ob_skp ob_isF T n s - s ≤ 3 → x = nI (ob_dec10 T s (ob_skp ob_isF T n s - s))) → ob_RT shp E oX3_readNumber 93 [.ref 1, .int (nI lo), .int xh, .int x, .null] [] τ (ob_qI Q) := by
    intro τ x f t3 t6 t4 t5 tx
    refine b_X3_readNumber_93 ?_
    rw [t3, t6, ob_sub g3]
    by_cases h0 : ob_skp ob_isF T n s = s
    · rw [if_pos h0] at hf
      refine ob_bf (by rw [h0, Nat.sub_self]; rfl) (k_setFault0 t4 (fun σ' f' a4 a5 a3 => hf 1 s rfl x σ' (f.tr f') a4 ?_ ⟨_, g4, a3.trans t3⟩))
      rw [a5, h0]
    · rw [if_neg h0] at hf hv
      refine ob_bt (fun z => h0 (by have := (ob_eq (b := 0) (by omega) (by omega)).mp z; omega)) ?_
      by_cases h3 : ob_skp ob_isF T n s - s ≤ 3
      · have hl := ob_dec_lt (T := T) (a := s) (ob_skp ob_isF T n s - s) (fun i hi => by
          have := gin (s + i) (by omega) (by omega)
          unfold ob_isF at this
          have := of_decide_eq_true this
          omega)
        have hl2 : ob_dec10 T s (ob_skp ob_isF T n s - s) < 1000 := Nat.lt_of_lt_of_le hl (show 10 ^ (ob_skp ob_isF T n s - s) ≤ 10 ^ 3 from Nat.pow_le_pow_right (by decide) h3)
        refine br_f (fun z => by rw [show (3 : Int32) = nI 3 from rfl, ob_lt (by omega) (by omega)] at z; omega) ?_
        rw [tx h3, hx]
        generalize ob_dec10 T s (ob_skp ob_isF T n s - s) = v at *
        have hr : (nI lo ≤ nI v ∧ nI v ≤ nI hi - 1) ↔ (lo ≤ v ∧ v < hi) := by
          rw [ob_le (by omega) (by omega)]
          refine ⟨fun z => ⟨z.1, ?_⟩, fun z => ⟨z.1, ?_⟩⟩
          · have := z.2
            rw [Int32.le_iff_toInt_le, nI_toInt (by omega)] at this
            have e : (nI hi - 1).toInt = (hi : Int) - 1 := by
              have := pk_sub_toInt (a := hi) (b := 1) (by omega) (by omega)
              exact this
            omega
          · rw [Int32.le_iff_toInt_le, nI_toInt (by omega)]
            have e : (nI hi - 1).toInt = (hi : Int) - 1 := by
              have := pk_sub_toInt (a := hi) (b := 1) (by omega) (by omega)
              exact this
            omega
        by_cases hc : lo ≤ v ∧ v < hi
        · rw [if_pos ⟨h3, hc⟩] at hv
          exact k_out (hr.mpr hc) (br_t rfl (hv v s _ rfl τ f t3 g4 t4 t5 t6))
        · rw [if_neg (fun z => hc z.2)] at hf
          refine k_out' (fun z => hc (hr.mp z)) (br_f (by decide) (k_setFault0 t4 (fun σ' f' a4 a5 a3 => hf 2 s rfl _ σ' (f.tr f') a4 ?_ ⟨_, g4, a3.trans t3⟩)))
          rw [a5, t6]
      · rw [if_neg (fun z => h3 z.1)] at hf
        exact br_t ((ob_lt (a := 3) (by omega) (by omega)).mpr (by omega)) (k_setFault0 t4 (fun σ' f' a4 a5 a3 => hf 2 s rfl _ σ' (f.tr f') a4 a5 ⟨_, g4, a3.trans t3⟩))
  have key : ∀ b, b ≤ n → s ≤ b → (∀ i, s ≤ i → i < b → ob_isF (T i) = true) → ob_skp ob_isF T n b = ob_skp ob_isF T n s → ∀ (τ : ob_Mem) (x : Int32), ob_f1 σ τ → τ.1 1 3 = nI b → τ.1 1 6 = nI s → τ.1 1 4 = 0 → τ.1 1 5 = σ.1 1 5 → (b - s ≤ 4 → x = nI (ob_dec10 T s (b - s))) → ob_RT shp E oX3_readNumber 23 [.ref 1, .int (nI lo), .int xh, .int x, .null] [] τ (ob_qI Q) := by
    refine ob_ski (P := ob_isF) (T := T) (fun b hbn hp ih hsb hall heq τ x f t3 t6 t4 t5 tx => ?_) (fun b hno hb hsb hall heq τ x f t3 t6 t4 t5 tx => ?_)
    · obtain ⟨c1, c2⟩ := (ht.f1 f).2.2 b hbn
      have hin : vp_in (nI b) 500 := ob_in (by omega) (by omega)
      have hall2 : ∀ i, s ≤ i → i < b + 1 → ob_isF (T i) = true := fun i h1 h2 => by
        by_cases e : i = b
        · rw [e]; exact hp
        · exact hall i h1 (by omega)
      have heq2 : ob_skp ob_isF T n (b + 1) = ob_skp ob_isF T n s := by rw [← heq, ob_skp_s hbn hp]
      refine b_X3_readNumber_23 ?_
      rw [t3, (ht.f1 f).2.1, ob_cl (by omega), c2]
      refine br_f (fun z => by rw [ob_le (by omega) (by omega)] at z; omega) ⟨hin, k_isFigure c1 (fun _ => br_f (by decide) ?_) (fun z => by rw [hp] at z; cases z)⟩
      rw [t3, t6, ob_sub hsb, nI_1]
      have put : ∀ y : Int32, (b + 1 - s ≤ 4 → y = nI (ob_dec10 T s (b + 1 - s))) → ob_RT shp E oX3_readNumber 23 [.ref 1, .int (nI lo), .int xh, .int y, .null] [] (ob_wI τ 1 3 (nI (b + 1))) (ob_qI Q) := fun y hy => ih (by omega) hall2 heq2 _ y (f.tr (ob_f1.w (by decide) (by decide))) ob_wI_s (by rw [ob_wI_n (by decide)]; exact t6) (by rw [ob_wI_n (by decide)]; exact t4) (by rw [ob_wI_n (by decide)]; exact t5) hy
      by_cases h4' : 4 ≤ b - s
      · exact br_t ((ob_le (a := 4) (by omega) (by omega)).mpr h4') (put x (fun z => by omega))
      · refine br_f (fun z => h4' ((ob_le (a := 4) (by omega) (by omega)).mp z)) ⟨hin, ?_⟩
        rintro w3 rfl
        refine put _ (fun _ => ?_)
        rw [ob_cl (by omega), c2, (ob_c8F ⟨T b, c1⟩).2.2.2.2.1 hp, tx (by omega), show (10 : Int32) = nI 10 from rfl, pk_mul, nI_add, show b + 1 - s = (b - s) + 1 by omega]
        show nI (ob_dec10 T s (b - s) * 10 + (T b - 48)) = nI (10 * ob_dec10 T s (b - s) + (T (s + (b - s)) - 48))
        rw [show s + (b - s) = b by omega, Nat.mul_comm]
    · rw [ob_skp_e hno] at heq
      rw [← heq] at fin
      have go := fin τ x f t3 t6 t4 t5 (fun z => tx (by omega))
      refine b_X3_readNumber_23 ?_
      rw [t3, (ht.f1 f).2.1]
      by_cases hbn : b < n
      · obtain ⟨c1, c2⟩ := (ht.f1 f).2.2 b hbn
        rw [ob_cl (by omega), c2]
        exact br_f (fun z => by rw [ob_le (by omega) (by omega)] at z; omega) ⟨ob_in (by omega) (by omega), k_isFigure c1 (fun z => absurd ⟨hbn, z⟩ hno) (fun _ => br_t rfl go)⟩
      · exact br_t ((ob_le (by omega) (by omega)).mpr (by omega)) go
  refine key s g2 (Nat.le_refl _) (fun i h1 h2 => by omega) rfl _ _ f2 ?_ ob_wI_s ?_ ?_ (fun _ => by rw [Nat.sub_self]; rfl)
  · rw [ob_wI_n (by decide)]; exact e1
  · rw [ob_wI_n (by decide), q1 4 (by decide)]; exact h4
  · rw [ob_wI_n (by decide), q1 5 (by decide)]
theorem k_numberX {Q : Int32 → ob_Mem → Prop} {x1 x2 : Int32} (h4 : ¬ σ.1 1 4 = 0) (h : Q 0 σ) : ob_RM shp E oX3_readNumber [.ref 1, .int x1, .int x2] σ (ob_qI Q) := m_X3_readNumber (b_X3_readNumber_0 (br_f h4 h))
theorem k_end {Q : ob_Mem → Prop} {a : Nat} (ht : pi_CT σ.1 T n) (ha : a ≤ n) (h3 : σ.1 1 3 = nI a) (h4 : σ.1 1 4 = 0) (hf : ∀ c p, ob_en T n a = .inl (c, p) → ∀ σ' : ob_Mem, ob_f1 σ σ' → σ'.1 1 4 = nI c → σ'.1 1 5 = nI p → (∃ q, q ≤ n ∧ σ'.1 1 3 = nI q) → Q σ') (hv : ∀ e, ob_en T n a = .inr e → ∀ σ' : ob_Mem, ob_f1 σ σ' → σ'.1 1 3 = nI e → e ≤ n → a < e → σ'.1 1 4 = 0 → σ'.1 1 5 = σ.1 1 5 → Q σ') : ob_RM shp E oX3_readEnd [.ref 1] σ (ob_qV Q) := by
  have hn := ht.1
  obtain ⟨g1, g2⟩ := ob_skp_le (P := ob_isB) (T := T) a ha
  unfold ob_en at hf hv
  refine m_X3_readEnd (b_X3_readEnd_0 (br_t h4 (k_skipBlanks ht ha h3 (fun σ1 f1 q1 e1 => ?_))))
  generalize ob_skp ob_isB T n a = s at *
  rw [e1, (ht.f1 f1).2.1]
  by_cases hs : s < n
  · obtain ⟨c1, c2⟩ := (ht.f1 f1).2.2 s hs
    refine br_f (fun z => by rw [ob_le (by omega) (by omega)] at z; omega) ⟨ob_in (by omega) (by omega), ?_⟩
    rw [ob_cl (by omega), c2]
    by_cases h59 : T s = 59
    · rw [if_pos ⟨hs, h59⟩] at hv
      refine ob_bf (of_decide_eq_true ((ob_c8F ⟨T s, c1⟩).2.1.trans (decide_eq_true h59))) (hv _ rfl _ (f1.tr (ob_f1.w (by decide) (by decide))) (by rw [ob_wI_s, nI_1]) (by omega) (by omega) ?_ ?_)
      · rw [ob_wI_n (by decide), q1 4 (by decide)]; exact h4
      · rw [ob_wI_n (by decide), q1 5 (by decide)]
    · rw [if_neg (fun z => h59 z.2)] at hf
      refine ob_bt (fun z => h59 (of_decide_eq_true ((ob_c8F ⟨T s, c1⟩).2.1.symm.trans (decide_eq_true z)))) (k_setFault0 (by rw [q1 4 (by decide)]; exact h4) (fun σ' f' a4 a5 a3 => hf 1 s rfl σ' (f1.tr f') a4 a5 ⟨_, g2, a3.trans e1⟩))
  · rw [if_neg (fun z => hs z.1)] at hf
    exact br_t ((ob_le (by omega) (by omega)).mpr (by omega)) (k_setFault0 (by rw [q1 4 (by decide)]; exact h4) (fun σ' f' a4 a5 a3 => hf 1 s rfl σ' (f1.tr f') a4 a5 ⟨_, g2, a3.trans e1⟩))
theorem k_endX {Q : ob_Mem → Prop} (h4 : ¬ σ.1 1 4 = 0) (h : Q σ) : ob_RM shp E oX3_readEnd [.ref 1] σ (ob_qV Q) := m_X3_readEnd (b_X3_readEnd_0 (br_f h4 h))
end TX
