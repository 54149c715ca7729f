/-! rests -/
def ob_cb (f : Nat → Bool) : Nat → Nat
  | 0 => 0
  | n + 1 => ob_cb f n + if f n = true then 1 else 0
theorem ob_cb_le {f : Nat → Bool} : ∀ n, ob_cb f n ≤ n
  | 0 => Nat.le_refl _
  | n + 1 => by
    have := ob_cb_le (f := f) n
    simp only [ob_cb]
    split <;> omega
theorem ob_cb_congr {f g : Nat → Bool} : ∀ {n : Nat}, (∀ i, i < n → f i = g i) → ob_cb f n = ob_cb g n
  | 0, _ => rfl
  | n + 1, h => by
    simp only [ob_cb]
    rw [ob_cb_congr (n := n) (fun i hi => h i (by omega)), h n (by omega)]
theorem ob_cb_pos {f : Nat → Bool} {b : Nat} (hf : f b = true) : ∀ {n : Nat}, b < n → 1 ≤ ob_cb f n
  | 0, h => by omega
  | n + 1, h => by
    simp only [ob_cb]
    by_cases e : b = n
    · subst e; rw [if_pos hf]; omega
    · have := ob_cb_pos hf (n := n) (by omega)
      omega
theorem ob_cb_set {f : Nat → Bool} {b : Nat} {x : Bool} : ∀ {n : Nat}, b < n → ob_cb (fun d => if d = b then x else f d) n + (if f b = true then 1 else 0) = ob_cb f n + (if x = true then 1 else 0)
  | 0, h => by omega
  | n + 1, h => by
    simp only [ob_cb]
    by_cases e : b = n
    · subst e
      have := ob_cb_congr (f := fun d => if d = b then x else f d) (g := f) (n := b) (fun i hi => by rw [if_neg (by omega)])
      simp only [this, if_true]
      omega
    · have := ob_cb_set (f := f) (x := x) (b := b) (n := n) (by omega)
      simp only [show ¬ n = b by omega, if_false]
      omega
theorem ob_tt1 {f : Nat → Bool} {S : Nat} : ∀ {n : Nat}, (∀ i, i < n → S.testBit i = f i) → ob_tt (fun _ => 1) S n = ob_cb f n
  | 0, _ => rfl
  | n + 1, h => by
    simp only [ob_tt, ob_cb]
    rw [ob_tt1 (n := n) (fun i hi => h i (by omega)), h n (by omega)]
def ob_bc (x0 : Int32) : Int32 :=
  let w1 := (x0 - (((x0).toUInt32 >>> (((1 : Int32)).toUInt32 &&& Int32.toUInt32 31)).toInt32 &&& (1431655765 : Int32)))
  let w2 := ((w1 &&& (858993459 : Int32)) + (((w1).toUInt32 >>> (((2 : Int32)).toUInt32 &&& Int32.toUInt32 31)).toInt32 &&& (858993459 : Int32)))
  let w3 := ((w2 + ((w2).toUInt32 >>> (((4 : Int32)).toUInt32 &&& Int32.toUInt32 31)).toInt32) &&& (252645135 : Int32))
  let w4 := (w3 + ((w3).toUInt32 >>> (((8 : Int32)).toUInt32 &&& Int32.toUInt32 31)).toInt32)
  let w5 := (w4 + ((w4).toUInt32 >>> (((16 : Int32)).toUInt32 &&& Int32.toUInt32 31)).toInt32)
  w5 &&& (63 : Int32)
theorem ob_bcF : ∀ S : Fin 256, ob_bc (nI S.val) = nI (ob_tt (fun _ => 1) S.val 8) := by decide +kernel
theorem ob_bit1 : ∀ (S : Fin 256) (b : Fin 8), ((nI S.val >>> (nI b.val &&& 31)) &&& 1) = nI (if S.val.testBit b.val = true then 1 else 0) := by decide +kernel
theorem ob_orF2 : ∀ (S : Fin 256) (b : Fin 8), nI S.val ||| (1 <<< (nI b.val &&& 31)) = nI (S.val ||| 2 ^ b.val) := by decide +kernel
/-- what the next birthday is worth to p, who has k others -/
def ob_wo (G a : Nat → Nat) (p k : Nat) : Int32 := nI (G (a p + k + 1)) - nI (G (a p + k))
def ob_gn (v : Nat → Bool) (f : Nat) (m0 : Int32) (W : Nat → Int32) : Nat → Option Nat × Int32
  | 0 => (none, m0)
  | n + 1 => if n ≠ f ∧ v n = true ∧ ¬ W n ≤ (ob_gn v f m0 W n).2 then (some n, W n) else ob_gn v f m0 W n
theorem ob_gn_inv {v : Nat → Bool} {f : Nat} {m0 : Int32} {W : Nat → Int32} : ∀ n, ((ob_gn v f m0 W n).1 = none → (ob_gn v f m0 W n).2 = m0) ∧ (∀ q, (ob_gn v f m0 W n).1 = some q → (ob_gn v f m0 W n).2 = W q ∧ q < n ∧ q ≠ f ∧ ¬ W q ≤ m0)
  | 0 => ⟨fun _ => rfl, fun q e => by cases e⟩
  | n + 1 => by
    obtain ⟨h1, h2⟩ := ob_gn_inv (v := v) (f := f) (m0 := m0) (W := W) n
    simp only [ob_gn]
    by_cases hc : n ≠ f ∧ v n = true ∧ ¬ W n ≤ (ob_gn v f m0 W n).2
    · rw [if_pos hc]
      refine ⟨fun e => (by cases e), fun q e => ?_⟩
      cases e
      refine ⟨rfl, by omega, hc.1, ?_⟩
      cases hr : (ob_gn v f m0 W n).1 with
      | none => rw [← h1 hr]; exact hc.2.2
      | some q =>
        obtain ⟨a1, a2, a3, a4⟩ := h2 q hr
        have h3 := hc.2.2
        rw [a1] at h3
        rw [Int32.le_iff_toInt_le] at h3 a4 ⊢
        omega
    · rw [if_neg hc]
      exact ⟨h1, fun q e => ⟨(h2 q e).1, by have := (h2 q e).2.1; omega, (h2 q e).2.2⟩⟩
def ob_cw (w : Nat → Option Nat) (B p : Nat) : Nat := ob_cb (fun d => decide (w d = some p)) B
def ob_g (l : LdT) (s : StT) (w : Nat → Option Nat) (b : Nat) : Option Nat := match w b with
  | none => none
  | some f => (ob_gn (st_v s) f (ob_wo (la_G l) (st_a s) f (ob_cw w (la_B l) f - 1)) (fun p => ob_wo (la_G l) (st_a s) p (ob_cw w (la_B l) p)) (la_P l)).1
def ob_fm (g : Nat → Option Nat) : Nat → Nat → Option (Nat × Nat)
  | 0, _ => none
  | n + 1, b => match g b with
    | some q => some (b, q)
    | none => ob_fm g n (b + 1)
theorem ob_fm0 {g : Nat → Option Nat} : ∀ {n b : Nat}, (∀ d, b ≤ d → d < b + n → g d = none) → ob_fm g n b = none
  | 0, _, _ => rfl
  | n + 1, b, h => by
    simp only [ob_fm]
    rw [h b (Nat.le_refl _) (by omega)]
    exact ob_fm0 (fun d h1 h2 => h d (by omega) (by omega))
theorem ob_fm1 {g : Nat → Option Nat} {q : Nat} : ∀ {n b d : Nat}, b ≤ d → d < b + n → (∀ e, b ≤ e → e < d → g e = none) → g d = some q → ob_fm g n b = some (d, q)
  | 0, b, d, h1, h2, _, _ => by omega
  | n + 1, b, d, h1, h2, h3, h4 => by
    simp only [ob_fm]
    by_cases e : d = b
    · subst e; rw [h4]
    · rw [h3 b (Nat.le_refl _) (by omega)]
      exact ob_fm1 (by omega) (by omega) (fun e g1 g2 => h3 e (by omega) g2) h4
def ob_up (w : Nat → Option Nat) (b q : Nat) : Nat → Option Nat := fun d => if d = b then some q else w d
def ob_rr (l : LdT) (s : StT) : Nat → (Nat → Option Nat) → Nat × (Nat → Option Nat)
  | 0, w => (0, w)
  | n + 1, w => match ob_fm (ob_g l s w) (la_B l) 0 with
    | none => (0, w)
    | some (b, q) => ((ob_rr l s n (ob_up w b q)).1 + 1, (ob_rr l s n (ob_up w b q)).2)
theorem ob_rr0 {l : LdT} {s : StT} {n : Nat} {w : Nat → Option Nat} (h : ob_fm (ob_g l s w) (la_B l) 0 = none) : ob_rr l s n w = (0, w) := by
  cases n with
  | zero => rfl
  | succ n => simp only [ob_rr]; rw [h]
theorem ob_rr1 {l : LdT} {s : StT} {n b q : Nat} {w : Nat → Option Nat} (h : ob_fm (ob_g l s w) (la_B l) 0 = some (b, q)) : ob_rr l s (n + 1) w = ((ob_rr l s n (ob_up w b q)).1 + 1, (ob_rr l s n (ob_up w b q)).2) := by
  simp only [ob_rr]; rw [h]
theorem ob_g_lt {l : LdT} {s : StT} {w : Nat → Option Nat} {b q : Nat} (h : ob_g l s w b = some q) : q < la_P l ∧ w b ≠ some q ∧ w b ≠ none := by
  unfold ob_g at h
  cases hw : w b with
  | none => rw [hw] at h; cases h
  | some f =>
    rw [hw] at h
    obtain ⟨a1, a2, a3, a4⟩ := (ob_gn_inv _).2 q h
    exact ⟨a2, fun e => a3 (by cases e; rfl), fun e => by cases e⟩
theorem ob_cw_up {w : Nat → Option Nat} {b q f B p : Nat} (hb : b < B) (hw : w b = some f) : ob_cw (ob_up w b q) B p + (if f = p then 1 else 0) = ob_cw w B p + (if q = p then 1 else 0) := by
  have h := ob_cb_set (f := fun d => decide (w d = some p)) (b := b) (x := decide (q = p)) hb
  have e : ob_cw (ob_up w b q) B p = ob_cb (fun d => if d = b then decide (q = p) else decide (w d = some p)) B := by
    unfold ob_cw ob_up
    apply ob_cb_congr
    intro i _
    by_cases hi : i = b
    · rw [if_pos hi, if_pos hi]
      by_cases hq : q = p
      · subst hq; simp
      · have : ¬ some q = some p := fun z => hq (by cases z; rfl)
        rw [decide_eq_false hq, decide_eq_false this]
    · rw [if_neg hi, if_neg hi]
  rw [e]
  simp only [hw, Option.some.injEq, decide_eq_true_eq] at h
  exact h
section RE
variable {E : ob_E} {σ : ob_Mem} {l : LdT} {s : StT}
theorem k_bitCount {Q : Int32 → ob_Mem → Prop} {S : Nat} (hS : S < 256) (h : Q (nI (ob_tt (fun _ => 1) S 8)) σ) : ob_RM shp E oJ6_bitCount_0f7a4 [.int (nI S)] σ (ob_qI Q) := by
  refine m_J6_bitCount_0f7a4 (b_J6_bitCount_0f7a4_0 ?_)
  rintro w1 rfl w2 rfl w3 rfl w4 rfl w5 rfl
  have := ob_bcF ⟨S, hS⟩
  rw [← this] at h
  exact h
theorem k_worth {Q : Int32 → ob_Mem → Prop} {p k : Nat} (hl : ob_lok l) (ha : ∀ p, p < la_P l → st_a s p ≤ 999) (hCL : pi_CL σ.1 10 l) (hA : ∀ p, p < la_P l → σ.1 18 p = nI (st_a s p)) (hp : p < la_P l) (hk : k < 1000) (h : Q (ob_wo (la_G l) (st_a s) p k) σ) : ob_RM shp E oX5_worthOfNext [.ref 17, .int (nI p), .int (nI k)] σ (ob_qI Q) := by
  have hP6 := hl.2.2.1
  have h9 := ha p hp
  refine m_X5_worthOfNext (b_X5_worthOfNext_0 ⟨ob_in (by omega) (by omega), ?_⟩)
  rw [ob_cl (by omega), hA p hp, nI_add, nI_1]
  exact k_goodOf (by omega) hl hCL (k_goodOf (by omega) hl hCL h)
theorem k_gainer {Q : Int32 → ob_Mem → Prop} {w : Nat → Option Nat} {f b : Nat} (hl : ob_lok l) (ha : ∀ p, p < la_P l → st_a s p ≤ 999) (hCL : pi_CL σ.1 10 l) (hCS : pi_CS σ.1 17 l s) (hb : b < la_B l) (hw : w b = some f) (hf : f < la_P l) (ho : ∀ p, p < la_P l → σ.1 52 p = nI (ob_cw w (la_B l) p)) (h : Q (ob_oI (ob_g l s w b)) σ) : ob_RM shp E oX5_gainer [.ref 50, .ref 17, .int (nI f)] σ (ob_qI Q) := by
  have hP6 := hl.2.2.1
  have hB8 := hl.2.2.2.1
  have hA : ∀ p, p < la_P l → σ.1 18 p = nI (st_a s p) := fun p hp => (hCS.2.2.2.1 p hp).1
  have hcw : ∀ p, ob_cw w (la_B l) p ≤ 8 := fun p => Nat.le_trans (ob_cb_le _) hB8
  have hc1 : 1 ≤ ob_cw w (la_B l) f := ob_cb_pos (f := fun d => decide (w d = some f)) (decide_eq_true hw) hb
  have hcf := hcw f
  refine m_X5_gainer (b_X5_gainer_0 (k_hasP1 hCL.2.1 hP6 hf (ob_bt (by decide) ⟨ob_in (by omega) (by omega), ?_⟩)))
  rw [ob_cl (by omega), ho f hf, show (1 : Int32) = nI 1 from rfl, ob_sub hc1]
  refine k_worth hl ha hCL hA hf (by omega) ?_
  unfold ob_g at h
  rw [hw] at h
  dsimp only at h
  generalize ob_wo (la_G l) (st_a s) f (ob_cw w (la_B l) f - 1) = m0 at h ⊢
  have := ob_loop0 (T := fun i => ob_RT shp E oX5_gainer 33 [.ref 50, .ref 17, .int (nI f), .int (ob_oI (ob_gn (st_v s) f m0 (fun p => ob_wo (la_G l) (st_a s) p (ob_cw w (la_B l) p)) i).1), .int (ob_gn (st_v s) f m0 (fun p => ob_wo (la_G l) (st_a s) p (ob_cw w (la_B l) p)) i).2, .int (nI i)] [] σ (ob_qI Q)) (B := la_P l) (b_X5_gainer_33 (by rw [hCL.2.1]; exact br_t ((ob_le (by omega) (by omega)).mpr (Nat.le_refl _)) h)) (fun i hi ih => b_X5_gainer_33 ?_)
  · exact this
  · rw [hCL.2.1, nI_1]
    refine br_f (fun z => by rw [ob_le (by omega) (by omega)] at z; omega) ?_
    simp only [ob_gn] at ih
    have hwi := hcw i
    by_cases h1 : i = f
    · rw [if_neg (fun z => z.1 h1)] at ih
      exact br_t (by rw [h1]) ih
    · refine br_f (fun z => h1 ((ob_eq (by omega) (by omega)).mp z)) ?_
      cases hv : st_v s i with
      | false =>
        rw [if_neg (fun z => by rw [hv] at z; cases z.2.1)] at ih
        exact k_lives0 hl hCL hCS hi hv (br_t rfl ih)
      | true =>
        refine k_lives1 hl hCL hCS hi hv (br_f (by decide) ⟨ob_in (by omega) (by omega), ?_⟩)
        rw [ob_cl (n := i) (by omega), ho i hi]
        refine k_worth hl ha hCL hA hi (by omega) ?_
        by_cases hc : ob_wo (la_G l) (st_a s) i (ob_cw w (la_B l) i) ≤ (ob_gn (st_v s) f m0 (fun p => ob_wo (la_G l) (st_a s) p (ob_cw w (la_B l) p)) i).2
        · rw [if_neg (fun z => z.2.2 hc)] at ih
          exact br_t hc ih
        · rw [if_pos ⟨h1, hv, hc⟩] at ih
          refine br_f hc ⟨ob_in (by omega) (by omega), ?_⟩
          rw [ho i hi]
          exact k_worth hl ha hCL hA hi (by omega) ih
theorem k_moveFirst {Q : Int32 → ob_Mem → Prop} {w : Nat → Option Nat} (hl : ob_lok l) (ha : ∀ p, p < la_P l → st_a s p ≤ 999) (hCL : pi_CL σ.1 10 l) (hCS : pi_CS σ.1 17 l s) (hwP : ∀ b, b < la_B l → ∀ q, w b = some q → q < la_P l) (hw : ∀ b, b < la_B l → σ.1 51 b = ob_oI (w b)) (ho : ∀ p, p < la_P l → σ.1 52 p = nI (ob_cw w (la_B l) p)) (h0 : ob_fm (ob_g l s w) (la_B l) 0 = none → Q 0 σ) (h1 : ∀ b q, ob_fm (ob_g l s w) (la_B l) 0 = some (b, q) → b < la_B l → q < la_P l → ∀ σ' : ob_Mem, (∀ i, i ≠ 51 → i ≠ 52 → σ'.1 i = σ.1 i) → (∀ d, d < la_B l → σ'.1 51 d = ob_oI (ob_up w b q d)) → (∀ p, p < la_P l → σ'.1 52 p = nI (ob_cw (ob_up w b q) (la_B l) p)) → Q 1 σ') : ob_RM shp E oX5_moveFirst [.ref 50, .ref 17] σ (ob_qI Q) := by
  have hP6 := hl.2.2.1
  have hB8 := hl.2.2.2.1
  refine m_X5_moveFirst (b_X5_moveFirst_0 ?_)
  refine ob_loop0 (T := fun i => (∀ d, d < i → ob_g l s w d = none) → ob_RT shp E oX5_moveFirst 2 [.ref 50, .ref 17, .int (nI i), .null, .null] [] σ (ob_qI Q)) (B := la_B l) (fun hn => b_X5_moveFirst_2 ?_) (fun i hi ih hn => b_X5_moveFirst_2 ?_) (fun d hd => by omega)
  · rw [hCL.2.2.1]
    exact br_t ((ob_le (by omega) (by omega)).mpr (Nat.le_refl _)) (h0 (ob_fm0 (fun d _ h2 => hn d (by omega))))
  · have hin : vp_in (nI i) 8 := ob_in (by omega) (by omega)
    rw [hCL.2.2.1, ob_cl (n := i) (by omega), hw i hi, nI_1]
    refine br_f (fun z => by rw [ob_le (by omega) (by omega)] at z; omega) ⟨hin, ?_⟩
    have next : ob_g l s w i = none → ob_RT shp E oX5_moveFirst 2 [.ref 50, .ref 17, .int (nI (i + 1)), .null, .null] [] σ (ob_qI Q) := fun e => ih (fun d hd => by
      by_cases hdi : d = i
      · rw [hdi]; exact e
      · exact hn d (by omega))
    cases hwi : w i with
    | none =>
      have hg : ob_g l s w i = none := by unfold ob_g; rw [hwi]
      have hno : ¬ ∃ j, j < la_P l ∧ ob_oI none = nI j := fun ⟨j, hj, e⟩ => ob_m1 (n := j) (by omega) e.symm
      exact m_X5_gainer (b_X5_gainer_0 (k_hasP0 hCL.2.1 hP6 hno (ob_bf rfl (k_hasP0 hCL.2.1 hP6 hno (br_t rfl (next hg))))))
    | some f =>
      have hf := hwP i hi f hwi
      refine k_gainer (f := f) hl ha hCL hCS hi hwi hf ho (k_hasP1 hCL.2.1 hP6 hf (br_f (by decide) ?_))
      cases hg : ob_g l s w i with
      | none =>
        have hno : ¬ ∃ j, j < la_P l ∧ ob_oI none = nI j := fun ⟨j, hj, e⟩ => ob_m1 (n := j) (by omega) e.symm
        exact k_hasP0 hCL.2.1 hP6 hno (br_t rfl (next hg))
      | some q =>
        obtain ⟨hq, hqf, -⟩ := ob_g_lt hg
        have hqf2 : ¬ q = f := fun e => hqf (by rw [hwi, e])
        have hif : vp_in (ob_oI (some f)) 6 := ob_in (show f < 6 by omega) (by omega)
        have hiq : vp_in (ob_oI (some q)) 6 := ob_in (show q < 6 by omega) (by omega)
        refine k_hasP1 hCL.2.1 hP6 hq (br_f (by decide) ⟨hif, hif, ?_⟩)
        rw [show (ob_oI (some f)).toNatClampNeg = f from ob_cl (by omega), show (ob_oI (some q)).toNatClampNeg = q from ob_cl (by omega)]
        rintro σ7 rfl
        refine ⟨hiq, hiq, ?_⟩
        rintro σ8 rfl
        refine ⟨hin, ?_⟩
        have hfm := ob_fm1 (g := ob_g l s w) (n := la_B l) (b := 0) (Nat.zero_le i) (by omega) (fun e _ he => hn e he) hg
        have hc1 : 1 ≤ ob_cw w (la_B l) f := ob_cb_pos (f := fun d => decide (w d = some f)) (decide_eq_true hwi) hi
        refine h1 i q hfm hi hq _ (fun j a b => by rw [ob_wI_o a, ob_wI_o b, ob_wI_o b]) (fun d hd => ?_) (fun p hp => ?_)
        · unfold ob_up
          by_cases hdi : d = i
          · subst hdi; rw [ob_wI_s, if_pos rfl]
          · rw [ob_wI_n hdi, if_neg hdi, ob_wI_o (by decide), ob_wI_o (by decide)]; exact hw d hd
        · have hup := ob_cw_up (q := q) (p := p) hi hwi
          rw [ob_wI_o (i := 51) (by decide)]
          by_cases hpq : p = q
          · subst hpq
            rw [if_neg (show ¬ f = p from fun e => hqf2 e.symm), if_pos rfl] at hup
            rw [ob_wI_s, ob_wI_n hqf2, ho p hp, nI_1, ← hup, Nat.add_zero]
          · rw [ob_wI_n hpq]
            rw [if_neg (show ¬ q = p from fun e => hpq e.symm)] at hup
            by_cases hpf : p = f
            · subst hpf
              rw [if_pos rfl] at hup
              rw [ob_wI_s, ho p hp, show (1 : Int32) = nI 1 from rfl, ob_sub hc1]
              congr 1
              omega
            · rw [if_neg (show ¬ f = p from fun e => hpf e.symm)] at hup
              rw [ob_wI_n hpf, ho p hp]
              congr 1
              omega
theorem k_run {Q : ob_Mem → Prop} {c : Nat} (hl : ob_lok l) (hs : ob_sok l s c) (hCL : pi_CL σ.1 10 l) (hCS : pi_CS σ.1 17 l s) (h : ∀ σ' : ob_Mem, (∀ i, i ≠ 50 → i ≠ 51 → i ≠ 52 → σ'.1 i = σ.1 i) → σ'.1 50 2 = nI (ob_rr l s 40 (st_w s)).1 → (∀ d, d < la_B l → σ'.1 51 d = ob_oI ((ob_rr l s 40 (st_w s)).2 d)) → Q σ') : ob_RM shp E oX5_run [.ref 50, .ref 17] σ (ob_qV Q) := by
  have hP6 := hl.2.2.1
  have hB8 := hl.2.2.2.1
  have hB2 : 2 ^ la_B l ≤ 256 := Nat.pow_le_pow_right (show 0 < 2 by decide) hB8
  refine m_X5_run (b_X5_run_0 ?_)
  -- the moves
  have moves : ∀ (x2 : Int32) (n m : Nat) (w : Nat → Option Nat) (τ : ob_Mem), m + n = 40 → (∀ i, i ≠ 50 → i ≠ 51 → i ≠ 52 → τ.1 i = σ.1 i) → (∀ b, b < la_B l → ∀ q, w b = some q → q < la_P l) → τ.1 50 2 = nI m → (∀ b, b < la_B l → τ.1 51 b = ob_oI (w b)) → (∀ p, p < la_P l → τ.1 52 p = nI (ob_cw w (la_B l) p)) → (m + (ob_rr l s n w).1 = (ob_rr l s 40 (st_w s)).1 ∧ (ob_rr l s n w).2 = (ob_rr l s 40 (st_w s)).2) → ob_RT shp E oX5_run 48 [.ref 50, .ref 17, .int x2] [] τ (ob_qV Q) := by
    intro x2 n
    induction n with
    | zero =>
      intro m w τ hm r hwP e2 hw ho hr
      refine b_X5_run_48 (br_t ?_ (h τ r ?_ ?_))
      · rw [e2, show m = 40 by omega]; decide
      · rw [e2, ← hr.1]; rfl
      · rw [← hr.2]; exact hw
    | succ n ih =>
      intro m w τ hm r hwP e2 hw ho hr
      have hCLt : pi_CL τ.1 10 l := hCL.to (fun j a b => r j (by omega) (by omega) (by omega)) (fun j _ => by rw [r 10 (by decide) (by decide) (by decide)])
      have hCSt : pi_CS τ.1 17 l s := hCS.to (fun j a b => r j (by omega) (by omega) (by omega)) (fun j _ => by rw [r 17 (by decide) (by decide) (by decide)])
      refine b_X5_run_48 (br_f ?_ (k_moveFirst hl hs.2.2.1 hCLt hCSt hwP hw ho (fun hf => br_t rfl (h τ r ?_ ?_)) (fun b q hf hb hq σ1 r1 w1 o1 => br_f (by decide) ?_)))
      · rw [e2, show (40 : Int32) = nI 40 from rfl, ob_le (by omega) (by omega)]; omega
      · rw [e2, ← hr.1, ob_rr0 hf]; rfl
      · rw [← hr.2, ob_rr0 hf]; exact hw
      · rw [r1 50 (by decide) (by decide), e2, nI_1]
        rw [ob_rr1 hf] at hr
        refine ih (m + 1) (ob_up w b q) _ (by omega) (fun i a b c => by rw [ob_wI_o a, r1 i b c, r i a b c]) (fun d hd p e => ?_) ob_wI_s (fun d hd => by rw [ob_wI_o (by decide)]; exact w1 d hd) (fun p hp => by rw [ob_wI_o (by decide)]; exact o1 p hp) ⟨by rw [← hr.1]; dsimp only; omega, hr.2⟩
        unfold ob_up at e
        split at e
        · cases e; exact hq
        · exact hwP d hd p e
  -- the counts
  have hwP : ∀ b, b < la_B l → ∀ q, st_w s b = some q → q < la_P l := fun b hb q e => ((hs.2.2.2 b hb).2.1 q e).1
  have r0 : ∀ i, i ≠ 50 → i ≠ 51 → (ob_cp (ob_wI σ 50 2 0) 20 51 8).1 i = σ.1 i := fun i a b => by rw [ob_cp_o b, ob_wI_o a]
  have e0 : (ob_cp (ob_wI σ 50 2 0) 20 51 8).1 50 2 = 0 := by rw [ob_cp_o (by decide), ob_wI_s]
  have w0 : ∀ b, b < la_B l → (ob_cp (ob_wI σ 50 2 0) 20 51 8).1 51 b = ob_oI (st_w s b) := fun b hb => by rw [ob_cp_s (by omega), ob_wI_o (by decide)]; exact (hCS.2.2.2.2 b hb).1
  generalize ob_cp (ob_wI σ 50 2 0) 20 51 8 = σ1 at r0 e0 w0 ⊢
  refine ob_loop0 (T := fun i => ∀ τ : ob_Mem, (∀ j, j ≠ 52 → τ.1 j = σ1.1 j) → (∀ p, p < i → τ.1 52 p = nI (ob_cw (st_w s) (la_B l) p)) → ob_RT shp E oX5_run 22 [.ref 50, .ref 17, .int (nI i)] [] τ (ob_qV Q)) (B := 6) ?_ ?_ σ1 (fun _ _ => rfl) (fun p hp => by omega)
  · intro τ r w
    refine b_X5_run_22 (br_t (by decide) (moves _ 40 0 (st_w s) τ rfl (fun i a b c => by rw [r i c, r0 i a b]) hwP (by rw [r 50 (by decide), e0]; rfl) (fun b hb => by rw [r 51 (by decide)]; exact w0 b hb) (fun p hp => w p (by omega)) ⟨Nat.zero_add _, rfl⟩))
  · intro i hi ih τ r w
    have hCLt : pi_CL τ.1 10 l := hCL.to (fun j a b => by rw [r j (by omega), r0 j (by omega) (by omega)]) (fun j _ => by rw [r 10 (by decide), r0 10 (by decide) (by decide)])
    have hCSt : pi_CS τ.1 17 l s := hCS.to (fun j a b => by rw [r j (by omega), r0 j (by omega) (by omega)]) (fun j _ => by rw [r 17 (by decide), r0 17 (by decide) (by decide)])
    refine b_X5_run_22 (br_f (fun z => by rw [show (6 : Int32) = nI 6 from rfl, ob_le (by omega) (by omega)] at z; omega) (k_ownedSet (by omega) hl hs hCLt hCSt ?_))
    have hlt := ob_sn_lt (f := fun b => decide (st_w s b = some i)) (la_B l)
    rw [ob_sf_sn hB8]
    refine k_bitCount (by omega) ⟨ob_in (by omega) (by omega), ?_⟩
    rw [ob_tt_ext hlt hB8, ob_tt1 (f := fun b => decide (st_w s b = some i)) (fun j hj => by rw [ob_sn_bit]; simp [hj]), ob_cl (n := i) (by omega), nI_1]
    refine ih _ (fun j a => by rw [ob_wI_o a]; exact r j a) (fun p hp => ?_)
    by_cases e : p = i
    · subst e; rw [ob_wI_s]; rfl
    · rw [ob_wI_n e]; exact w p (by omega)
theorem n_bits {Q : Int32 → ob_Mem → Prop} {S : Nat} (hS : S < 256) (h : Q (nI (ob_tt (fun _ => 1) S 8)) σ) : ob_RM shp E oX9_bits [.int (nI S)] σ (ob_qI Q) := by
  refine m_X9_bits (b_X9_bits_0 ?_)
  refine ob_loop0 (T := fun i => ob_RT shp E oX9_bits 4 [.int (nI S), .int (nI (ob_tt (fun _ => 1) S i)), .int (nI i)] [] σ (ob_qI Q)) (B := 8) (b_X9_bits_4 (br_t (by decide) h)) (fun i hi ih => b_X9_bits_4 (br_f (fun z => by rw [show (8 : Int32) = nI 8 from rfl, ob_le (by omega) (by omega)] at z; omega) ?_))
  rw [ob_bit1 ⟨S, hS⟩ ⟨i, hi⟩, nI_add, nI_1]
  exact ih
theorem n_worthTo {Q : Int32 → ob_Mem → Prop} {w : Nat → Option Nat} {b p : Nat} (hl : ob_lok l) (ha : ∀ p, p < la_P l → st_a s p ≤ 999) (hML : pi_ML σ.1 l) (hA : ∀ p, p < la_P l → σ.1 60 p = nI (st_a s p)) (hwP : ∀ b, b < la_B l → ∀ q, w b = some q → q < la_P l) (hw : ∀ b, b < la_B l → σ.1 63 b = ob_oI (w b)) (hb : b < la_B l) (hp : p < la_P l) (h : Q (ob_wo (la_G l) (st_a s) p (if w b = some p then ob_cw w (la_B l) p - 1 else ob_cw w (la_B l) p)) σ) : ob_RM shp E oX9_worthTo [.ref 53, .int (nI b), .int (nI p)] σ (ob_qI Q) := by
  have hP6 := hl.2.2.1
  have hB8 := hl.2.2.2.1
  have h9 := ha p hp
  have hip : vp_in (nI p) 6 := ob_in (by omega) (by omega)
  have hB2 : 2 ^ la_B l ≤ 256 := Nat.pow_le_pow_right (show 0 < 2 by decide) hB8
  have hlt := ob_sn_lt (f := fun d => decide (w d = some p)) (la_B l)
  have hb2 : 2 ^ b < 2 ^ la_B l := Nat.pow_lt_pow_right (by decide) hb
  refine m_X9_worthTo (b_X9_worthTo_0 (n_ownedBy (c := 0) (ow := w) (by omega) hl (fun d hd q e => by have := hwP d hd q e; omega) hML hw ?_))
  rw [ob_sf_sn hB8, ob_orF2 ⟨ob_sn (fun d => decide (w d = some p)) (la_B l), by omega⟩ ⟨b, by omega⟩]
  have hor : ob_sn (fun d => decide (w d = some p)) (la_B l) ||| 2 ^ b < 2 ^ la_B l := Nat.or_lt_two_pow hlt hb2
  refine n_bits (by dsimp only; omega) ⟨hip, ?_⟩
  dsimp only
  have hcw : ob_cw w (la_B l) p ≤ 8 := Nat.le_trans (ob_cb_le _) hB8
  have key : ob_tt (fun _ => 1) (ob_sn (fun d => decide (w d = some p)) (la_B l) ||| 2 ^ b) (la_B l) = (if w b = some p then ob_cw w (la_B l) p - 1 else ob_cw w (la_B l) p) + 1 := by
    rw [ob_tt1 (f := fun d => if d = b then true else decide (w d = some p)) (fun i hi => ?_)]
    · have hset := ob_cb_set (f := fun d => decide (w d = some p)) (x := true) hb
      simp only [decide_eq_true_eq, if_true] at hset
      by_cases hwb : w b = some p
      · have hc1 : 1 ≤ ob_cw w (la_B l) p := ob_cb_pos (f := fun d => decide (w d = some p)) (decide_eq_true hwb) hb
        rw [if_pos hwb] at hset ⊢
        unfold ob_cw at hc1 ⊢
        omega
      · rw [if_neg hwb] at hset ⊢
        unfold ob_cw
        omega
    · rw [Nat.testBit_or, ob_sn_bit, Nat.testBit_two_pow]
      by_cases e : i = b
      · subst e; simp
      · have e2 : ¬ b = i := fun z => e z.symm
        simp [hi, e, e2]
  rw [ob_tt_ext hor hB8, key]
  generalize hK : (if w b = some p then ob_cw w (la_B l) p - 1 else ob_cw w (la_B l) p) = K at h ⊢
  have hK8 : K ≤ 8 := by
    rw [← hK]
    split <;> omega
  rw [ob_cl (n := p) (by omega), hA p hp, nI_add, show st_a s p + (K + 1) = st_a s p + K + 1 from rfl]
  refine n_goodOf (by omega) hl hML ⟨hip, ?_⟩
  rw [hA p hp, nI_add, show st_a s p + (K + 1) = st_a s p + K + 1 from rfl, nI_pred]
  exact n_goodOf (by omega) hl hML h
theorem n_changes {Q : Int32 → ob_Mem → Prop} {w : Nat → Option Nat} (hl : ob_lok l) (ha : ∀ p, p < la_P l → st_a s p ≤ 999) (hML : pi_ML σ.1 l) (hA : ∀ p, p < la_P l → σ.1 60 p = nI (st_a s p)) (hV : ∀ p, p < la_P l → σ.1 62 p = ob_bI (st_v s p)) (hwP : ∀ b, b < la_B l → ∀ q, w b = some q → q < la_P l) (hw : ∀ b, b < la_B l → σ.1 63 b = ob_oI (w b)) (h0 : ob_fm (ob_g l s w) (la_B l) 0 = none → Q 0 σ) (h1 : ∀ b q, ob_fm (ob_g l s w) (la_B l) 0 = some (b, q) → b < la_B l → q < la_P l → Q 1 (ob_wI σ 63 b (nI q))) : ob_RM shp E oX9_changes [.ref 53] σ (ob_qI Q) := by
  have hP6 := hl.2.2.1
  have hB8 := hl.2.2.2.1
  refine m_X9_changes (b_X9_changes_0 ?_)
  refine ob_loop0 (T := fun i => (∀ d, d < i → ob_g l s w d = none) → ob_RT shp E oX9_changes 2 [.ref 53, .int (nI i), .null, .null, .null] [] σ (ob_qI Q)) (B := la_B l) (fun hn => b_X9_changes_2 ?_) (fun i hi ih hn => b_X9_changes_2 ?_) (fun d hd => by omega)
  · rw [hML.2.2.1]
    exact br_t ((ob_le (by omega) (by omega)).mpr (Nat.le_refl _)) (h0 (ob_fm0 (fun d _ h2 => hn d (by omega))))
  · have hin : vp_in (nI i) 8 := ob_in (by omega) (by omega)
    rw [hML.2.2.1, ob_cl (n := i) (by omega), hw i hi, nI_1]
    refine br_f (fun z => by rw [ob_le (by omega) (by omega)] at z; omega) ⟨hin, ?_⟩
    have next : ob_g l s w i = none → ob_RT shp E oX9_changes 2 [.ref 53, .int (nI (i + 1)), .null, .null, .null] [] σ (ob_qI Q) := fun e => ih (fun d hd => by
      by_cases hdi : d = i
      · rw [hdi]; exact e
      · exact hn d (by omega))
    cases hwi : w i with
    | none => exact br_t (by decide) (next (by unfold ob_g; rw [hwi]))
    | some f =>
      have hf := hwP i hi f hwi
      refine br_f (ob_nneg (by omega)) ⟨hin, ?_⟩
      have hg : ob_g l s w i = (ob_gn (st_v s) f (ob_wo (la_G l) (st_a s) f (ob_cw w (la_B l) f - 1)) (fun p => ob_wo (la_G l) (st_a s) p (ob_cw w (la_B l) p)) (la_P l)).1 := by unfold ob_g; rw [hwi]
      have own : ob_wo (la_G l) (st_a s) f (if w i = some f then ob_cw w (la_B l) f - 1 else ob_cw w (la_B l) f) = ob_wo (la_G l) (st_a s) f (ob_cw w (la_B l) f - 1) := by rw [if_pos hwi]
      have oth : ∀ p, p ≠ f → ob_wo (la_G l) (st_a s) p (if w i = some p then ob_cw w (la_B l) p - 1 else ob_cw w (la_B l) p) = ob_wo (la_G l) (st_a s) p (ob_cw w (la_B l) p) := fun p hp => by rw [if_neg (fun e => hp (by rw [hwi] at e; cases e; rfl))]
      generalize hm0 : ob_wo (la_G l) (st_a s) f (ob_cw w (la_B l) f - 1) = m0 at hg own
      have loop := ob_loop0 (T := fun j => ob_RT shp E oX9_changes 28 [.ref 53, .int (nI i), .int (nI (((ob_gn (st_v s) f m0 (fun p => ob_wo (la_G l) (st_a s) p (ob_cw w (la_B l) p)) j).1).getD f)), .int (nI j), .null] [] σ (ob_qI Q)) (B := la_P l) (b_X9_changes_28 ?_) (fun j hj jh => b_X9_changes_28 ?_)
      · exact loop
      · rw [hML.2.1, ob_cl (n := i) (by omega), hw i hi, nI_1, ← hg]
        refine br_t ((ob_le (by omega) (by omega)).mpr (Nat.le_refl _)) ⟨hin, ?_⟩
        cases hgi : ob_g l s w i with
        | none => exact br_t (by rw [hwi]; rfl) (next hgi)
        | some q =>
          obtain ⟨hq, hqf, -⟩ := ob_g_lt hgi
          have hfm := ob_fm1 (g := ob_g l s w) (n := la_B l) (b := 0) (Nat.zero_le i) (by omega) (fun e _ he => hn e he) hgi
          refine br_f (fun z => hqf ?_) ⟨hin, h1 i q hfm hi hq⟩
          rw [hwi] at z ⊢
          have z : nI q = nI f := z
          rw [ob_eq (by omega) (by omega)] at z
          rw [z]
      · have hij : vp_in (nI j) 6 := ob_in (by omega) (by omega)
        obtain ⟨i1, i2⟩ := ob_gn_inv (v := st_v s) (f := f) (m0 := m0) (W := fun p => ob_wo (la_G l) (st_a s) p (ob_cw w (la_B l) p)) j
        simp only [ob_gn] at jh
        generalize hr : ob_gn (st_v s) f m0 (fun p => ob_wo (la_G l) (st_a s) p (ob_cw w (la_B l) p)) j = r at i1 i2 jh ⊢
        obtain ⟨to, mo⟩ := r
        dsimp only at i1 i2 jh ⊢
        have hcur : to.getD f < la_P l ∧ ob_wo (la_G l) (st_a s) (to.getD f) (if w i = some (to.getD f) then ob_cw w (la_B l) (to.getD f) - 1 else ob_cw w (la_B l) (to.getD f)) = mo := by
          cases to with
          | none => exact ⟨hf, own.trans (i1 rfl).symm⟩
          | some q =>
            obtain ⟨a1, a2, a3, a4⟩ := i2 q rfl
            exact ⟨Nat.lt_trans a2 hj, (oth q a3).trans a1.symm⟩
        rw [hML.2.1, ob_cl (n := j) (by omega), hV j hj]
        refine br_f (fun z => by rw [ob_le (by omega) (by omega)] at z; omega) ⟨hij, ?_⟩
        have stay : ¬ (j ≠ f ∧ st_v s j = true ∧ ¬ ob_wo (la_G l) (st_a s) j (ob_cw w (la_B l) j) ≤ mo) → ob_RT shp E oX9_changes 69 [.ref 53, .int (nI i), .int (nI (to.getD f)), .int (nI j), .null] [] σ (ob_qI Q) := by
          intro hh
          rw [if_neg hh] at jh
          refine b_X9_changes_69 (b_X9_changes_70 (br_t rfl ?_))
          rw [nI_1]
          exact jh
        cases hv : st_v s j with
        | false => exact br_t rfl (stay (fun z => by rw [hv] at z; cases z.2.1))
        | true =>
          refine br_f (by decide) ?_
          by_cases hjc : j = to.getD f
          · refine br_t (by rw [← hjc]) (stay (fun z => ?_))
            cases to with
            | none => exact z.1 hjc
            | some q =>
              have := (i2 q rfl).2.1
              have e : j = q := hjc
              omega
          · refine br_f (fun z => hjc ((ob_eq (by omega) (by have := hcur.1; omega)).mp z)) ?_
            refine n_worthTo hl ha hML hA hwP hw hi hj (n_worthTo hl ha hML hA hwP hw hi hcur.1 ?_)
            rw [hcur.2]
            by_cases hjf : j = f
            · -- the owner again: another is worth more already
              cases to with
              | none => exact absurd hjf hjc
              | some q =>
                obtain ⟨a1, a2, a3, a4⟩ := i2 q rfl
                refine br_t ?_ (stay (fun z => z.1 hjf))
                rw [hjf, own]
                rw [a1]
                rw [Int32.le_iff_toInt_le] at a4 ⊢
                omega
            · rw [oth j hjf]
              by_cases hc : ob_wo (la_G l) (st_a s) j (ob_cw w (la_B l) j) ≤ mo
              · exact br_t hc (stay (fun z => z.2.2 hc))
              · rw [if_pos ⟨hjf, hv, hc⟩] at jh
                refine br_f hc (b_X9_changes_70 (br_f (by decide) ?_))
                rw [nI_1]
                exact jh
end RE
theorem pr_rests (x : Int32) : ob_PAIR oX8_rests oX9_rests [.int x] := by
  intro E c σ hc hR
  have hR1 := hR.mono (Nat.le_succ c)
  obtain ⟨l, s, kp, im, tn, td, hl, hs, hCL, hML, hCS, hMS, hIM, hTD, hTX, hF⟩ := hR
  have hP6 := hl.2.2.1
  have hB8 := hl.2.2.2.1
  have ht : st_t s < 100000000 := by have := hs.1; omega
  have hwP : ∀ b, b < la_B l → ∀ q, st_w s b = some q → q < la_P l := fun b hb q e => ((hs.2.2.2 b hb).2.1 q e).1
  by_cases hx : x = -1 ∨ ∃ j, j < la_B l ∧ x = nI j
  · -- the reference, from its loop that keeps the owners
    have model : ∀ (v : Int32) (σ1 : ob_Mem), (∀ i, i ≠ 50 → i ≠ 51 → i ≠ 52 → σ1.1 i = σ.1 i) → (x = -1 → v = nI (ob_rr l s 40 (st_w s)).1) → (∀ b, b < la_B l → x = nI b → v = ob_oI ((ob_rr l s 40 (st_w s)).2 b)) → ob_RT shp E oX9_rests 18 [.ref 53, .int x, .int (nI 0), .null, .null] [] σ1 (ob_qI fun r' σ2 => v = r' ∧ ob_REL (c + 1) σ2.1) := by
      intro v σ1 r1 v1 v2
      have hML1 : pi_ML σ1.1 l := hML.to (fun i a b => r1 i (by omega) (by omega) (by omega)) (fun k hk => by rw [r1 53 (by decide) (by decide) (by decide)])
      have hMS1 : pi_MS σ1.1 l s := hMS.to (fun i a b => r1 i (by omega) (by omega) (by omega)) (fun k hk => by rw [r1 53 (by decide) (by decide) (by decide)])
      have back : ∀ (x2 x3 : Int32) (τ : ob_Mem), (∀ i, i ≠ 63 → i ≠ 78 → τ.1 i = σ1.1 i) → (∀ b, b < la_B l → τ.1 78 b = σ1.1 63 b) → (∀ b, ¬ b < la_B l → τ.1 63 b = σ1.1 63 b) → v = x3 → ob_RT shp E oX9_rests 84 [.ref 53, .int x, .int x2, .int x3, .int (nI 0)] [] τ (ob_qI fun r' σ2 => v = r' ∧ ob_REL (c + 1) σ2.1) := by
        intro x2 x3 τ r w78 w63 hv
        refine ob_loop0 (T := fun i => ∀ κ : ob_Mem, (∀ j, j ≠ 63 → κ.1 j = τ.1 j) → (∀ b, b < i ∨ ¬ b < la_B l → κ.1 63 b = σ1.1 63 b) → ob_RT shp E oX9_rests 84 [.ref 53, .int x, .int x2, .int x3, .int (nI i)] [] κ (ob_qI fun r' σ2 => v = r' ∧ ob_REL (c + 1) σ2.1)) (B := la_B l) ?_ ?_ τ (fun _ _ => rfl) (fun b hb => w63 b (by omega))
        · intro κ k1 k2
          refine b_X9_rests_84 (br_t ?_ ⟨hv, ?_⟩)
          · rw [k1 53 (by decide), r 53 (by decide) (by decide), hML1.2.2.1]
            exact (ob_le (by omega) (by omega)).mpr (Nat.le_refl _)
          · have e63 : κ.1 63 = σ.1 63 := by
              rw [← r1 63 (by decide) (by decide) (by decide)]
              funext b
              exact k2 b (by omega)
            refine hR1.core ⟨fun i hi => ?_, fun i k hk => by rw [k1 i (by omega), r i (by omega) (by omega), r1 i (by omega) (by omega) (by omega)]⟩
            by_cases h63 : i = 63
            · rw [h63, e63]
            · rw [k1 i h63, r i h63 (by omega), r1 i (by omega) (by omega) (by omega)]
        · intro i hi ih κ k1 k2
          have hin : vp_in (nI i) 8 := ob_in (by omega) (by omega)
          refine b_X9_rests_84 (br_f ?_ ⟨hin, hin, ?_⟩)
          · rw [k1 53 (by decide), r 53 (by decide) (by decide), hML1.2.2.1]
            exact fun z => by rw [ob_le (by omega) (by omega)] at z; omega
          · rw [ob_cl (n := i) (by omega), k1 78 (by decide), w78 i hi, nI_1]
            refine ih _ (fun j a => by rw [ob_wI_o a]; exact k1 j a) (fun b hb => ?_)
            by_cases e : b = i
            · subst e; rw [ob_wI_s]
            · rw [ob_wI_n e]; exact k2 b (by omega)
      have answer : ∀ (m : Nat) (w : Nat → Option Nat) (τ : ob_Mem), m < 100 → (∀ i, i ≠ 63 → i ≠ 78 → τ.1 i = σ1.1 i) → (∀ b, b < la_B l → τ.1 78 b = σ1.1 63 b) → (∀ b, ¬ b < la_B l → τ.1 63 b = σ1.1 63 b) → (∀ b, b < la_B l → τ.1 63 b = ob_oI (w b)) → m = (ob_rr l s 40 (st_w s)).1 → w = (ob_rr l s 40 (st_w s)).2 → ob_RT shp E oX9_rests 65 [.ref 53, .int x, .int (nI m), .null, .null] [] τ (ob_qI fun r' σ2 => v = r' ∧ ob_REL (c + 1) σ2.1) := by
        intro m w τ hm r w78 w63 hw e1 e2
        rcases hx with hx | ⟨b, hb, hx⟩
        · exact b_X9_rests_65 (ob_bf hx (back _ _ τ r w78 w63 (by rw [v1 hx, e1])))
        · refine b_X9_rests_65 (ob_bt (by rw [hx]; exact ob_m1 (by omega)) ⟨by rw [hx]; exact ob_in (by omega) (by omega), ?_⟩)
          have e : (x).toNatClampNeg = b := by rw [hx]; exact ob_cl (by omega)
          rw [e, hw b hb]
          exact back _ _ τ r w78 w63 (by rw [v2 b hb hx, e2])
      have moves : ∀ (n m : Nat) (w : Nat → Option Nat) (τ : ob_Mem), m + n = 40 → (∀ i, i ≠ 63 → i ≠ 78 → τ.1 i = σ1.1 i) → (∀ b, b < la_B l → τ.1 78 b = σ1.1 63 b) → (∀ b, ¬ b < la_B l → τ.1 63 b = σ1.1 63 b) → (∀ b, b < la_B l → ∀ q, w b = some q → q < la_P l) → (∀ b, b < la_B l → τ.1 63 b = ob_oI (w b)) → m + (ob_rr l s n w).1 = (ob_rr l s 40 (st_w s)).1 → (ob_rr l s n w).2 = (ob_rr l s 40 (st_w s)).2 → ob_RT shp E oX9_rests 46 [.ref 53, .int x, .int (nI m), .null, .null] [] τ (ob_qI fun r' σ2 => v = r' ∧ ob_REL (c + 1) σ2.1) := by
        intro n
        induction n with
        | zero =>
          intro m w τ hm r w78 w63 hwp hw e1 e2
          exact b_X9_rests_46 (br_t (by rw [show m = 40 by omega]; decide) (answer m w τ (by omega) r w78 w63 hw e1 e2))
        | succ n ih =>
          intro m w τ hm r w78 w63 hwp hw e1 e2
          have hMLt : pi_ML τ.1 l := hML1.to (fun i a b => r i (by omega) (by omega)) (fun k hk => by rw [r 53 (by decide) (by decide)])
          refine b_X9_rests_46 (br_f (fun z => by rw [show (40 : Int32) = nI 40 from rfl, ob_le (by omega) (by omega)] at z; omega) (n_changes hl hs.2.2.1 hMLt (fun p hp => by rw [r 60 (by decide) (by decide)]; exact (hMS1.2.2.1 p hp).1) (fun p hp => by rw [r 62 (by decide) (by decide)]; exact (hMS1.2.2.1 p hp).2.2) hwp hw (fun hf => br_t rfl ?_) (fun b q hf hb hq => br_f (by decide) ?_)))
          · rw [ob_rr0 hf] at e1 e2
            exact answer m w τ (by omega) r w78 w63 hw e1 e2
          · rw [ob_rr1 hf] at e1 e2
            rw [nI_1]
            refine ih (m + 1) (ob_up w b q) _ (by omega) (fun i a1 a2 => by rw [ob_wI_o a1]; exact r i a1 a2) (fun d hd => by rw [ob_wI_o (by decide)]; exact w78 d hd) (fun d hd => by rw [ob_wI_n (by omega)]; exact w63 d hd) (fun d hd p e => ?_) (fun d hd => ?_) (by rw [← e1]; dsimp only; omega) e2
            · unfold ob_up at e
              split at e
              · cases e; exact hq
              · exact hwp d hd p e
            · unfold ob_up
              by_cases e : d = b
              · subst e; rw [ob_wI_s, if_pos rfl]; rfl
              · rw [ob_wI_n e, if_neg e]; exact hw d hd
      refine ob_loop0 (T := fun i => ∀ τ : ob_Mem, (∀ j, j ≠ 78 → τ.1 j = σ1.1 j) → (∀ b, b < i → τ.1 78 b = σ1.1 63 b) → ob_RT shp E oX9_rests 18 [.ref 53, .int x, .int (nI i), .null, .null] [] τ (ob_qI fun r' σ2 => v = r' ∧ ob_REL (c + 1) σ2.1)) (B := la_B l) ?_ ?_ σ1 (fun _ _ => rfl) (fun b hb => by omega)
      · intro τ r w
        refine b_X9_rests_18 (br_t ?_ (moves 40 0 (st_w s) τ rfl (fun i a b => r i b) w (fun b hb => by rw [r 63 (by decide)]) hwP (fun b hb => by rw [r 63 (by decide)]; exact (hMS1.2.2.2 b hb).1) (Nat.zero_add _) rfl))
        rw [r 53 (by decide), hML1.2.2.1]
        exact (ob_le (by omega) (by omega)).mpr (Nat.le_refl _)
      · intro i hi ih τ r w
        have hin : vp_in (nI i) 8 := ob_in (by omega) (by omega)
        refine b_X9_rests_18 (br_f ?_ ⟨hin, hin, ?_⟩)
        · rw [r 53 (by decide), hML1.2.2.1]
          exact fun z => by rw [ob_le (by omega) (by omega)] at z; omega
        · rw [ob_cl (n := i) (by omega), r 63 (by decide), nI_1]
          refine ih _ (fun j a => by rw [ob_wI_o a]; exact r j a) (fun b hb => ?_)
          by_cases e : b = i
          · subst e; rw [ob_wI_s]
          · rw [ob_wI_n e]; exact w b (by omega)
    -- both
    have all : ∀ κ : ob_Mem, κ = σ → ob_RT shp E oX8_rests 19 [.ref 0, .int x] [] κ (ob_qI fun r σ1 => ob_RM shp E oX9_rests [.ref 53, .int x] σ1 (ob_qI fun r' σ2 => r = r' ∧ ob_REL (c + 1) σ2.1)) := by
      rintro κ rfl
      refine b_X8_rests_19 (k_run hl hs hCL hCS (fun σ1 r1 e1 w1 => ?_))
      have hML1 : pi_ML σ1.1 l := hML.to (fun i a b => r1 i (by omega) (by omega) (by omega)) (fun k hk => by rw [r1 53 (by decide) (by decide) (by decide)])
      by_cases hm : x = -1
      · refine ob_bf hm (m_X9_rests (b_X9_rests_0 (br_t hm (model _ σ1 r1 (fun _ => e1) (fun b hb e => ?_)))))
        rw [hm] at e
        exact absurd e.symm (ob_m1 (by omega))
      · obtain ⟨b, hb, e⟩ : ∃ j, j < la_B l ∧ x = nI j := by
          rcases hx with h | h
          · exact absurd h hm
          · exact h
        have ecl : (x).toNatClampNeg = b := by rw [e]; exact ob_cl (by omega)
        refine ob_bt hm ⟨by rw [e]; exact ob_in (by omega) (by omega), ?_⟩
        rw [ecl, w1 b hb]
        refine m_X9_rests (b_X9_rests_0 (br_f hm ?_))
        have hmod := model (ob_oI ((ob_rr l s 40 (st_w s)).2 b)) σ1 r1 (fun z => absurd z hm) (fun d hd z => ?_)
        · rw [e] at hmod ⊢
          exact n_isB1 hML1.2.2.1 hB8 hb (ob_bt (by decide) hmod)
        · rw [e, ob_eq (by omega) (by omega)] at z
          rw [z]
    by_cases hm : x = -1
    · exact m_X8_rests (b_X8_rests_0 (br_t hm (all σ rfl)))
    · obtain ⟨b, hb, e⟩ : ∃ j, j < la_B l ∧ x = nI j := by
        rcases hx with h | h
        · exact absurd h hm
        · exact h
      refine m_X8_rests (b_X8_rests_0 (br_f hm ?_))
      have := all σ rfl
      rw [e] at this ⊢
      exact k_hasB1 hCL.2.2.1 hB8 hb (ob_bt (by decide) this)
  · have h1 : ¬ x = -1 := fun e => hx (Or.inl e)
    have h2 : ¬ ∃ j, j < la_B l ∧ x = nI j := fun e => hx (Or.inr e)
    exact m_X8_rests (b_X8_rests_0 (br_f h1 (k_hasB0 hCL.2.2.1 hB8 h2 (ob_bf rfl (m_X9_rests (b_X9_rests_0 (br_f h1 (n_isB0 hML.2.2.1 hB8 h2 (ob_bf rfl ⟨rfl, hR1⟩)))))))))
