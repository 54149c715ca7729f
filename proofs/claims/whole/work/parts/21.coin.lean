/-! coin -/
def ob_tt (f : Nat → Nat) (S : Nat) : Nat → Nat
  | 0 => 0
  | n + 1 => ob_tt f S n + if S.testBit n = true then f n else 0
def ob_al (f : Nat → Bool) (S : Nat) : Nat → Bool
  | 0 => true
  | n + 1 => ob_al f S n && (!S.testBit n || f n)
def ob_sn (f : Nat → Bool) : Nat → Nat
  | 0 => 0
  | n + 1 => ob_sn f n + if f n = true then 2 ^ n else 0
theorem ob_tt_ext {f : Nat → Nat} {S B : Nat} (hS : S < 2 ^ B) : ∀ {n : Nat}, B ≤ n → ob_tt f S n = ob_tt f S B
  | 0, h => by rw [Nat.le_zero.mp h]
  | n + 1, h => by
    by_cases hn : B = n + 1
    · rw [hn]
    · simp only [ob_tt]
      rw [ob_tt_ext hS (n := n) (by omega), Nat.testBit_lt_two_pow (Nat.lt_of_lt_of_le hS (Nat.pow_le_pow_right (by decide) (by omega))), if_neg (by decide), Nat.add_zero]
theorem ob_tt_le {f : Nat → Nat} {S M : Nat} (hf : ∀ b, f b ≤ M) : ∀ n, ob_tt f S n ≤ n * M
  | 0 => Nat.zero_le _
  | n + 1 => by
    have h1 := ob_tt_le (S := S) hf n
    have h2 := hf n
    simp only [ob_tt]
    rw [Nat.add_mul, Nat.one_mul]
    split <;> omega
theorem ob_al_iff {f : Nat → Bool} {S : Nat} : ∀ n, ob_al f S n = true ↔ ∀ b, b < n → S.testBit b = true → f b = true
  | 0 => ⟨fun _ b hb => by omega, fun _ => rfl⟩
  | n + 1 => by
    simp only [ob_al, Bool.and_eq_true, Bool.or_eq_true, Bool.not_eq_true']
    rw [ob_al_iff n]
    constructor
    · rintro ⟨h1, h2⟩ b hb hs
      by_cases e : b = n
      · subst e
        rcases h2 with h2 | h2
        · rw [h2] at hs; cases hs
        · exact h2
      · exact h1 b (by omega) hs
    · intro h
      refine ⟨fun b hb hs => h b (by omega) hs, ?_⟩
      cases hs : S.testBit n with
      | false => exact Or.inl rfl
      | true => exact Or.inr (h n (by omega) hs)
theorem ob_bitF : ∀ (S : Fin 256) (b : Fin 8), (decide (((nI S.val >>> (nI b.val &&& 31)) &&& 1) = 1) = S.val.testBit b.val) := by decide +kernel
theorem ob_bitI {S b : Nat} (hS : S < 256) (hb : b < 8) : ((nI S >>> (nI b &&& 31)) &&& (1 : Int32)) = (1 : Int32) ↔ S.testBit b = true := by
  have := ob_bitF ⟨S, hS⟩ ⟨b, hb⟩
  constructor
  · intro h
    rw [← this]
    exact decide_eq_true h
  · intro h
    rw [← this] at h
    exact of_decide_eq_true h
theorem ob_orF : ∀ (x : Fin 256) (n : Fin 8), x.val < 2 ^ n.val → nI x.val ||| (1 <<< (nI n.val &&& 31)) = nI (x.val + 2 ^ n.val) := by decide +kernel
theorem ob_sn_lt {f : Nat → Bool} : ∀ n, ob_sn f n < 2 ^ n
  | 0 => by show 0 < 1; decide
  | n + 1 => by
    have := ob_sn_lt (f := f) n
    simp only [ob_sn]
    rw [Nat.pow_succ]
    split <;> omega
theorem ob_sf_sn {f : Nat → Bool} : ∀ {n : Nat}, n ≤ 8 → ob_sf f n = nI (ob_sn f n)
  | 0, _ => rfl
  | n + 1, h => by
    have h1 := ob_sn_lt (f := f) n
    have h2 : 2 ^ n ≤ 2 ^ 7 := Nat.pow_le_pow_right (by decide) (by omega)
    simp only [ob_sf, ob_sn]
    rw [ob_sf_sn (f := f) (n := n) (by omega)]
    split
    · exact ob_orF ⟨ob_sn f n, by omega⟩ ⟨n, by omega⟩ h1
    · rfl
theorem ob_sn_bit {f : Nat → Bool} : ∀ n i, (ob_sn f n).testBit i = (decide (i < n) && f i)
  | 0, i => by simp [ob_sn]
  | n + 1, i => by
    have ih := ob_sn_bit (f := f) n
    have hlt := ob_sn_lt (f := f) n
    have hlt2 := ob_sn_lt (f := f) (n + 1)
    by_cases hi : i < n + 1
    · simp only [ob_sn]
      by_cases hn : i = n
      · subst hn
        have e0 := ih i
        simp only [Nat.lt_irrefl, decide_false, Bool.false_and] at e0
        cases hf : f i with
        | false => rw [if_neg (by decide), Nat.add_zero, e0]; simp
        | true => rw [if_pos rfl, Nat.add_comm, Nat.testBit_two_pow_add_eq, e0]; simp
      · have hin : i < n := by omega
        have e0 := ih i
        cases hf : f n with
        | false => rw [if_neg (by decide), Nat.add_zero, e0]; simp [hin, hi]
        | true => rw [if_pos rfl, Nat.add_comm, Nat.testBit_two_pow_add_gt hin, e0]; simp [hin, hi]
    · rw [Nat.testBit_lt_two_pow (Nat.lt_of_lt_of_le hlt2 (Nat.pow_le_pow_right (by decide) (by omega)))]
      simp [hi]
theorem ob_subI {S F : Nat} (hS : S < 256) (hF : F < 256) : (nI S &&& (nI F ^^^ (-1 : Int32))) = 0 ↔ ∀ b, S.testBit b = true → F.testBit b = true := by
  have e : ∀ i, i < 32 → (nI S &&& (nI F ^^^ (-1 : Int32))).toBitVec.getLsbD i = (S.testBit i && !F.testBit i) := by
    intro i hi
    rw [Int32.toBitVec_and, Int32.toBitVec_xor, show (-1 : Int32).toBitVec = BitVec.allOnes 32 from by decide, BitVec.getLsbD_and, BitVec.getLsbD_xor]
    show ((BitVec.ofNat 32 S).getLsbD i && ((BitVec.ofNat 32 F).getLsbD i ^^ (BitVec.allOnes 32).getLsbD i)) = _
    rw [BitVec.getLsbD_ofNat, BitVec.getLsbD_ofNat, BitVec.getLsbD_allOnes]
    simp [hi]
  constructor
  · intro h b hb
    have hb8 : b < 8 := by
      by_cases hb8 : b < 8
      · exact hb8
      · rw [Nat.testBit_lt_two_pow (Nat.lt_of_lt_of_le hS (show 2 ^ 8 ≤ 2 ^ b from Nat.pow_le_pow_right (by decide) (by omega)))] at hb
        cases hb
    have := e b (by omega)
    rw [h, hb] at this
    cases hF2 : F.testBit b with
    | true => rfl
    | false =>
      rw [hF2] at this
      have h0 : ((0 : Int32).toBitVec.getLsbD b) = false := BitVec.getLsbD_zero
      rw [h0] at this
      cases this
  · intro h
    apply Int32.toBitVec_inj.mp
    apply BitVec.eq_of_getLsbD_eq
    intro i hi
    rw [e i hi]
    show _ = (0#32).getLsbD i
    rw [BitVec.getLsbD_zero]
    cases hs : S.testBit i with
    | false => rfl
    | true => rw [h i hs]; rfl
theorem ob_sub_le {S F : Nat} (h : ∀ b, S.testBit b = true → F.testBit b = true) : S ≤ F := by
  have e : S &&& F = S := by
    apply Nat.eq_of_testBit_eq
    intro i
    rw [Nat.testBit_and]
    cases hs : S.testBit i with
    | false => rfl
    | true => rw [h i hs]; rfl
  rw [← e]
  exact Nat.and_le_right
theorem ob_shB : ∀ B : Fin 9, (1 : Int32) <<< (nI B.val &&& 31) = nI (2 ^ B.val) := by decide +kernel
theorem ob_yg_ext {v : Nat → Bool} {a : Nat → Nat} {m : Nat} : ∀ {n : Nat}, m ≤ n → (∀ i, m ≤ i → i < n → v i = false) → ob_yg v a n = ob_yg v a m
  | 0, h, _ => by rw [Nat.le_zero.mp h]
  | n + 1, h, hv => by
    by_cases hn : m = n + 1
    · rw [hn]
    · simp only [ob_yg]
      rw [hv n (by omega) (by omega), if_neg (by decide)]
      exact ob_yg_ext (by omega) (fun i h1 h2 => hv i h1 (by omega))
theorem ob_yg_neg {v : Nat → Bool} {a : Nat → Nat} {n : Nat} (h : v n = false) : ob_yg v a (n + 1) = ob_yg v a n := by
  simp only [ob_yg]
  rw [h, if_neg (by decide)]
theorem ob_yg_p0 {v : Nat → Bool} {a : Nat → Nat} {n : Nat} (h : v n = true) (h2 : ob_yg v a n = none) : ob_yg v a (n + 1) = some n := by
  simp only [ob_yg]
  rw [h, if_pos rfl, h2]
theorem ob_yg_p1 {v : Nat → Bool} {a : Nat → Nat} {n y : Nat} (h : v n = true) (h2 : ob_yg v a n = some y) (h3 : a n < a y) : ob_yg v a (n + 1) = some n := by
  simp only [ob_yg]
  rw [h, if_pos rfl, h2]
  dsimp only
  rw [if_pos h3]
theorem ob_yg_p2 {v : Nat → Bool} {a : Nat → Nat} {n y : Nat} (h : v n = true) (h2 : ob_yg v a n = some y) (h3 : ¬ a n < a y) : ob_yg v a (n + 1) = some y := by
  simp only [ob_yg]
  rw [h, if_pos rfl, h2]
  dsimp only
  rw [if_neg h3]
def ob_fr (l : LdT) (s : StT) (p k b : Nat) : Bool := decide (st_w s b ≠ none ∧ st_w s b ≠ some p ∧ st_b s b = none ∧ 0 < ob_cm (la_N l) (st_t s) (la_D l b) k)
def ob_tm (l : LdT) (s : StT) (k b : Nat) : Nat := ob_cm (la_N l) (st_t s) (la_D l b) k
def ob_ck (l : LdT) (s : StT) (p v k S : Nat) : Bool := ob_al (ob_fr l s p k) S (la_B l) && decide (ob_tt (ob_tm l s k) S (la_B l) + ob_ys l s p k none (la_B l) = v)
def ob_cc (l : LdT) (s : StT) (S : Nat) : Nat := ob_tt (ob_sea l s) S (la_B l)
def ob_om (o : Option Nat) (f : Nat → Nat) : Option Nat := match o with
  | none => none
  | some j => some (f j)
section CO
variable {E : ob_E} {σ : ob_Mem} {l : LdT} {s : StT}
theorem k_total_40 {Q : Int32 → ob_Mem → Prop} {f : Nat → Nat} {S B : Nat} (hB : B ≤ 8) (hS : S < 2 ^ B) (hf : ∀ b, b < B → σ.1 40 b = nI (f b)) (h : Q (nI (ob_tt f S B)) σ) : ob_RM shp E oX0_totalOf [.ref 40, .int (nI S)] σ (ob_qI Q) := by
  have hS8 : S < 256 := Nat.lt_of_lt_of_le hS (Nat.pow_le_pow_right (by decide) hB)
  refine m_X0_totalOf_40 (b_X0_totalOf_40_0 ?_)
  refine ob_loop0 (T := fun i => ob_RT shp E oX0_totalOf 4 [.ref 40, .int (nI S), .int (nI (ob_tt f S i)), .int (nI i)] [] σ (ob_qI Q)) (B := 8) (b_X0_totalOf_40_4 (br_t (by decide) (by rw [ob_tt_ext hS hB]; exact h))) (fun i hi ih => b_X0_totalOf_40_4 (br_f (fun z => by rw [show (8 : Int32) = nI 8 from rfl, ob_le (by omega) (by omega)] at z; omega) ?_))
  simp only [ob_tt] at ih
  by_cases hb : S.testBit i = true
  · rw [if_pos hb] at ih
    have hiB : i < B := by
      by_cases hiB : i < B
      · exact hiB
      · rw [Nat.testBit_lt_two_pow (Nat.lt_of_lt_of_le hS (Nat.pow_le_pow_right (by decide) (by omega)))] at hb
        cases hb
    refine ob_bf ((ob_bitI hS8 hi).mpr hb) ⟨ob_in (by omega) (by omega), ?_⟩
    rw [ob_cl (by omega), hf i hiB, nI_add, nI_1]
    exact ih
  · rw [if_neg hb] at ih
    refine ob_bt (fun z => hb ((ob_bitI hS8 hi).mp z)) ?_
    rw [nI_1]
    exact ih
theorem k_total_41 {Q : Int32 → ob_Mem → Prop} {f : Nat → Nat} {S B : Nat} (hB : B ≤ 8) (hS : S < 2 ^ B) (hf : ∀ b, b < B → σ.1 41 b = nI (f b)) (h : Q (nI (ob_tt f S B)) σ) : ob_RM shp E oX0_totalOf [.ref 41, .int (nI S)] σ (ob_qI Q) := by
  have hS8 : S < 256 := Nat.lt_of_lt_of_le hS (Nat.pow_le_pow_right (by decide) hB)
  refine m_X0_totalOf_41 (b_X0_totalOf_41_0 ?_)
  refine ob_loop0 (T := fun i => ob_RT shp E oX0_totalOf 4 [.ref 41, .int (nI S), .int (nI (ob_tt f S i)), .int (nI i)] [] σ (ob_qI Q)) (B := 8) (b_X0_totalOf_41_4 (br_t (by decide) (by rw [ob_tt_ext hS hB]; exact h))) (fun i hi ih => b_X0_totalOf_41_4 (br_f (fun z => by rw [show (8 : Int32) = nI 8 from rfl, ob_le (by omega) (by omega)] at z; omega) ?_))
  simp only [ob_tt] at ih
  by_cases hb : S.testBit i = true
  · rw [if_pos hb] at ih
    have hiB : i < B := by
      by_cases hiB : i < B
      · exact hiB
      · rw [Nat.testBit_lt_two_pow (Nat.lt_of_lt_of_le hS (Nat.pow_le_pow_right (by decide) (by omega)))] at hb
        cases hb
    refine ob_bf ((ob_bitI hS8 hi).mpr hb) ⟨ob_in (by omega) (by omega), ?_⟩
    rw [ob_cl (by omega), hf i hiB, nI_add, nI_1]
    exact ih
  · rw [if_neg hb] at ih
    refine ob_bt (fun z => hb ((ob_bitI hS8 hi).mp z)) ?_
    rw [nI_1]
    exact ih
theorem k_freeFor {Q : Int32 → ob_Mem → Prop} {p k c : Nat} (hl : ob_lok l) (hs : ob_sok l s c) (hc : c ≤ 600) (hp : p < la_P l) (hk : k < 100000000) (hCL : pi_CL σ.1 10 l) (hCS : pi_CS σ.1 17 l s) (h : ∀ σ' : ob_Mem, (∀ i, i ≠ 40 → i ≠ 41 → σ'.1 i = σ.1 i) → (∀ b, b < la_B l → σ'.1 40 b = nI (ob_tm l s k b) ∧ σ'.1 41 b = nI (ob_sea l s b)) → Q (ob_sf (ob_fr l s p k) (la_B l)) σ') : ob_RM shp E oX0_freeFor [.ref 39, .ref 17, .int (nI p), .int (nI k)] σ (ob_qI Q) := by
  have hP6 := hl.2.2.1
  have hB8 := hl.2.2.2.1
  have ht : st_t s < 100000000 := by have := hs.1; omega
  refine m_X0_freeFor (b_X0_freeFor_0 ?_)
  refine ob_loop0 (T := fun i => ∀ τ : ob_Mem, (∀ j, j ≠ 40 → j ≠ 41 → τ.1 j = σ.1 j) → (∀ b, b < i → τ.1 40 b = nI (ob_tm l s k b) ∧ τ.1 41 b = nI (ob_sea l s b)) → ob_RT shp E oX0_freeFor 6 [.ref 39, .ref 17, .int (nI p), .int (nI k), .int (ob_sf (ob_fr l s p k) i), .int (nI i)] [] τ (ob_qI Q)) (B := la_B l) ?_ ?_ σ (fun _ _ _ => rfl) (fun b hb => by omega)
  · intro τ r w
    refine b_X0_freeFor_6 (br_t ?_ (h τ r w))
    rw [r 10 (by decide) (by decide), hCL.2.2.1]
    exact (ob_le (by omega) (by omega)).mpr (Nat.le_refl _)
  · intro i hi ih τ r w
    have hin : vp_in (nI i) 8 := ob_in (by omega) (by omega)
    have hcl : (nI i).toNatClampNeg = i := ob_cl (by omega)
    obtain ⟨kb, kw, -⟩ := ob_kb hs hl hi
    have hcm : ob_tm l s k i ≤ k := ob_cm_le (by have := hl.1; omega)
    have toL : ∀ κ : ob_Mem, (∀ j, j ≠ 40 → j ≠ 41 → κ.1 j = σ.1 j) → pi_CL κ.1 10 l ∧ pi_CS κ.1 17 l s := fun κ q => ⟨hCL.to (fun j a b => q j (by omega) (by omega)) (fun j _ => by rw [q 10 (by decide) (by decide)]), hCS.to (fun j a b => q j (by omega) (by omega)) (fun j _ => by rw [q 17 (by decide) (by decide)])⟩
    refine b_X0_freeFor_6 (br_f ?_ (k_comings hl ht hk (toL τ r).1 (toL τ r).2 hi ⟨hin, ?_⟩))
    · rw [r 10 (by decide) (by decide), hCL.2.2.1]
      exact fun z => by rw [ob_le (by omega) (by omega)] at z; omega
    · rw [hcl]
      have r1 : ∀ j, j ≠ 40 → j ≠ 41 → (ob_wI τ 40 i (nI (ob_cm (la_N l) (st_t s) (la_D l i) k))).1 j = σ.1 j := fun j a b => by rw [ob_wI_o a]; exact r j a b
      refine k_seasonOf hl ht (toL _ r1).1 (toL _ r1).2 hi ⟨hin, hin, ?_⟩
      have r2 : ∀ j, j ≠ 40 → j ≠ 41 → (ob_wI (ob_wI τ 40 i (nI (ob_cm (la_N l) (st_t s) (la_D l i) k))) 41 i (nI (ob_sea l s i))).1 j = σ.1 j := fun j a b => by rw [ob_wI_o b]; exact r1 j a b
      have w2 : ∀ b, b < i + 1 → (ob_wI (ob_wI τ 40 i (nI (ob_cm (la_N l) (st_t s) (la_D l i) k))) 41 i (nI (ob_sea l s i))).1 40 b = nI (ob_tm l s k b) ∧ (ob_wI (ob_wI τ 40 i (nI (ob_cm (la_N l) (st_t s) (la_D l i) k))) 41 i (nI (ob_sea l s i))).1 41 b = nI (ob_sea l s b) := by
        intro b hb
        by_cases e : b = i
        · subst e
          rw [ob_wI_o (i := 41) (a := 40) (by decide), ob_wI_s, ob_wI_s]
          exact ⟨rfl, rfl⟩
        · rw [ob_wI_o (i := 41) (a := 40) (by decide), ob_wI_n e, ob_wI_n e, ob_wI_o (i := 40) (a := 41) (by decide)]
          exact w b (by omega)
      generalize ob_wI (ob_wI τ 40 i (nI (ob_cm (la_N l) (st_t s) (la_D l i) k))) 41 i (nI (ob_sea l s i)) = κ at r2 w2 ⊢
      rw [show κ.1 20 i = _ from ((toL κ r2).2.2.2.2.2 i hi).1, nI_1]
      have no : ¬ (st_w s i ≠ none ∧ st_w s i ≠ some p ∧ st_b s i = none ∧ 0 < ob_cm (la_N l) (st_t s) (la_D l i) k) → ob_RT shp E oX0_freeFor 6 [.ref 39, .ref 17, .int (nI p), .int (nI k), .int (ob_sf (ob_fr l s p k) i), .int (nI (i + 1))] [] κ (ob_qI Q) := by
        intro hh
        rw [ob_sf_neg (f := ob_fr l s p k) (i := i) (decide_eq_false hh)]
        exact ih κ r2 w2
      by_cases h1 : st_w s i = none
      · exact br_t ((ob_oI_m1 kw).mpr h1) (no (fun z => z.1 h1))
      · refine br_f (fun z => h1 ((ob_oI_m1 kw).mp z)) ⟨hin, ?_⟩
        by_cases h2 : st_w s i = some p
        · exact br_t ((ob_oI_eq kw (by omega)).mpr h2) (no (fun z => z.2.1 h2))
        · refine br_f (fun z => h2 ((ob_oI_eq kw (by omega)).mp z)) (k_isLent hl kb (toL κ r2).2 hi (fun h3 => ob_bt (by decide) (no (fun z => h3 z.2.2.1))) (fun h3 => ob_bf rfl ⟨hin, ?_⟩))
          rw [(w2 i (by omega)).1]
          by_cases h4 : 0 < ob_cm (la_N l) (st_t s) (la_D l i) k
          · refine br_f (nI_nle h4 (by have : ob_cm (la_N l) (st_t s) (la_D l i) k ≤ k := hcm; omega)) ?_
            rw [ob_sf_pos (f := ob_fr l s p k) (i := i) (decide_eq_true ⟨h1, h2, h3, h4⟩)]
            exact ih κ r2 w2
          · refine br_t ?_ (no (fun z => h4 z.2.2.2))
            have : ob_tm l s k i = 0 := Nat.eq_zero_of_not_pos h4
            rw [this]
            decide
theorem ob_tt_le2 {f : Nat → Nat} {S M B : Nat} (hf : ∀ b, b < B → f b ≤ M) : ∀ n, n ≤ B → ob_tt f S n ≤ n * M
  | 0, _ => Nat.zero_le _
  | n + 1, hn => by
    have h1 := ob_tt_le2 (S := S) hf n (by omega)
    have h2 := hf n (by omega)
    simp only [ob_tt]
    rw [Nat.add_mul, Nat.one_mul]
    split <;> omega
theorem ob_ses_le {S n : Nat} (hl : ob_lok l) (hB8 : la_B l ≤ 8) (hn : n ≤ la_B l) : ob_tt (ob_sea l s) S n ≤ 7992 := by
  have h1 := ob_tt_le2 (S := S) (fun b hb => ob_sea_le (s := s) hl hb) n hn
  have h2 : n * 999 ≤ 8 * 999 := Nat.mul_le_mul (by omega) (Nat.le_refl _)
  exact Nat.le_trans h1 h2
theorem ob_ckx {p v k S : Nat} : ob_ck l s p v k S = true ↔ (∀ b, b < la_B l → S.testBit b = true → ob_fr l s p k b = true) ∧ ob_tt (ob_tm l s k) S (la_B l) + ob_ys l s p k none (la_B l) = v := by
  unfold ob_ck
  rw [Bool.and_eq_true, ob_al_iff, decide_eq_true_iff]
theorem k_coin {Q : ob_Mem → Prop} {p v k c : Nat} (hl : ob_lok l) (hs : ob_sok l s c) (hc : c ≤ 600) (hp : p < la_P l) (hv : v ≤ 999) (hk : k ≤ 9999) (hCL : pi_CL σ.1 10 l) (hCS : pi_CS σ.1 17 l s) (h : ∀ σ' : ob_Mem, (∀ i, i ≠ 39 → i ≠ 40 → i ≠ 41 → σ'.1 i = σ.1 i) → σ'.1 39 2 = ob_oI (ob_om (ob_yg (ob_ck l s p v k) (ob_cc l s) (2 ^ la_B l)) (ob_cc l s)) → σ'.1 39 3 = ob_oI (ob_yg (ob_ck l s p v k) (ob_cc l s) (2 ^ la_B l)) → Q σ') : ob_RM shp E oX0_search [.ref 39, .ref 17, .int (nI p), .int (nI v), .int (nI k)] σ (ob_qV Q) := by
  have hP6 := hl.2.2.1
  have hB8 := hl.2.2.2.1
  have hN := hl.1
  refine m_X0_search (b_X0_search_0 ?_)
  have r0 : ∀ i, i ≠ 39 → (ob_wI (ob_wI σ 39 2 (-1)) 39 3 (-1)).1 i = σ.1 i := fun i a => by rw [ob_wI_o a, ob_wI_o a]
  have e2 : (ob_wI (ob_wI σ 39 2 (-1)) 39 3 (-1)).1 39 2 = -1 := by rw [ob_wI_n (by decide), ob_wI_s]
  have e3 : (ob_wI (ob_wI σ 39 2 (-1)) 39 3 (-1)).1 39 3 = -1 := ob_wI_s
  generalize ob_wI (ob_wI σ 39 2 (-1)) 39 3 (-1) = σ1 at r0 e2 e3 ⊢
  have hCL1 : pi_CL σ1.1 10 l := hCL.to (fun j a b => r0 j (by omega)) (fun j _ => by rw [r0 10 (by decide)])
  have hCS1 : pi_CS σ1.1 17 l s := hCS.to (fun j a b => r0 j (by omega)) (fun j _ => by rw [r0 17 (by decide)])
  refine k_yearsBehind (left := none) (fun q e => by cases e) hl hs hc (by omega) (by omega) hCL1 hCS1 (k_freeFor hl hs hc hp (by omega) hCL1 hCS1 (fun σ2 r2 w2 => ?_))
  have hys := ob_ys_le (s := s) hl (p := p) (k := k) (left := none) (la_B l)
  have hys2 : la_B l * k ≤ 8 * 9999 := Nat.mul_le_mul hB8 hk
  have htm : ∀ b, ob_tm l s k b ≤ 9999 := fun b => Nat.le_trans (ob_cm_le (by omega)) hk
  have hF := ob_sn_lt (f := ob_fr l s p k) (la_B l)
  have hB2 : 2 ^ la_B l ≤ 256 := Nat.pow_le_pow_right (show 0 < 2 by decide) hB8
  have hFb := ob_sn_bit (f := ob_fr l s p k) (la_B l)
  rw [ob_sf_sn hB8]
  have sub : ∀ S, S < 2 ^ la_B l → ((∀ b, S.testBit b = true → (ob_sn (ob_fr l s p k) (la_B l)).testBit b = true) ↔ ∀ b, b < la_B l → S.testBit b = true → ob_fr l s p k b = true) := by
    intro S hS
    constructor
    · intro z b hb hsb
      have := z b hsb
      rw [hFb] at this
      simpa [hb] using this
    · intro z b hsb
      by_cases hb : b < la_B l
      · rw [hFb, z b hb hsb]; simpa using hb
      · rw [Nat.testBit_lt_two_pow (Nat.lt_of_lt_of_le hS (Nat.pow_le_pow_right (by decide) (by omega)))] at hsb
        cases hsb
  have ext : ob_yg (ob_ck l s p v k) (ob_cc l s) (2 ^ la_B l) = ob_yg (ob_ck l s p v k) (ob_cc l s) (ob_sn (ob_fr l s p k) (la_B l) + 1) := by
    refine ob_yg_ext (by omega) (fun i h1 h2 => ?_)
    cases hck : ob_ck l s p v k i with
    | false => rfl
    | true =>
      have := ob_sub_le ((sub i h2).mpr (ob_ckx.mp hck).1)
      omega
  rw [ext] at h
  generalize hFF : ob_sn (ob_fr l s p k) (la_B l) = F at *
  have cle : ∀ S, ob_cc l s S ≤ 7992 := fun S => ob_ses_le hl hB8 (Nat.le_refl _)
  refine ob_loop0 (T := fun i => ∀ τ : ob_Mem, (∀ j, j ≠ 39 → τ.1 j = σ2.1 j) → τ.1 39 2 = ob_oI (ob_om (ob_yg (ob_ck l s p v k) (ob_cc l s) i) (ob_cc l s)) → τ.1 39 3 = ob_oI (ob_yg (ob_ck l s p v k) (ob_cc l s) i) → ob_RT shp E oX0_search 35 [.ref 39, .ref 17, .int (nI p), .int (nI v), .int (nI k), .int (nI v - nI (ob_ys l s p k none (la_B l))), .int (nI F), .int (nI i), .null] [] τ (ob_qV Q)) (B := F + 1) ?_ ?_ σ2 (fun _ _ => rfl) (by rw [r2 39 (by decide) (by decide)]; exact e2) (by rw [r2 39 (by decide) (by decide)]; exact e3)
  · intro τ r q1 q2
    exact b_X0_search_35 (br_t ((ob_lt (by omega) (by omega)).mpr (by omega)) (h τ (fun i a b c => by rw [r i a, r2 i b c, r0 i a]) q1 q2))
  · intro i hi ih τ r q1 q2
    have hi2 : i < 2 ^ la_B l := by omega
    have hin : nI i + 1 = nI (i + 1) := nI_1 i
    have htt := ob_tt_le (S := i) htm (la_B l)
    have htt2 : la_B l * 9999 ≤ 8 * 9999 := Nat.mul_le_mul hB8 (Nat.le_refl _)
    have no : ob_ck l s p v k i = false → ob_RT shp E oX0_search 35 [.ref 39, .ref 17, .int (nI p), .int (nI v), .int (nI k), .int (nI v - nI (ob_ys l s p k none (la_B l))), .int (nI F), .int (nI (i + 1)), .null] [] τ (ob_qV Q) := by
      intro hh
      refine ih τ r ?_ ?_
      · rw [ob_yg_neg hh]; exact q1
      · rw [ob_yg_neg hh]; exact q2
    refine b_X0_search_35 (br_f (fun z => by rw [ob_lt (by omega) (by omega)] at z; omega) ?_)
    rw [hin]
    by_cases hsub : ∀ b, i.testBit b = true → F.testBit b = true
    · refine ob_bf ((ob_subI (by omega) (by omega)).mpr hsub) (k_total_40 hB8 hi2 (fun b hb => by rw [r 40 (by decide)]; exact (w2 b hb).1) ?_)
      by_cases hyr : ob_tt (ob_tm l s k) i (la_B l) + ob_ys l s p k none (la_B l) = v
      · have hok : ob_ck l s p v k i = true := ob_ckx.mpr ⟨(sub i hi2).mp hsub, hyr⟩
        refine ob_bf ?_ (k_total_41 hB8 hi2 (fun b hb => by rw [r 41 (by decide)]; exact (w2 b hb).2) ?_)
        · rw [← hyr, ← nI_add, Int32.add_sub_cancel]
        · show (τ.1 39 2 = -1 → _) ∧ _
          have hci := cle i
          have take : ob_yg (ob_ck l s p v k) (ob_cc l s) (i + 1) = some i → ob_RT shp E oX0_search 35 [.ref 39, .ref 17, .int (nI p), .int (nI v), .int (nI k), .int (nI v - nI (ob_ys l s p k none (la_B l))), .int (nI F), .int (nI (i + 1)), .null] [] (ob_wI (ob_wI τ 39 2 (nI (ob_cc l s i))) 39 3 (nI i)) (ob_qV Q) := by
            intro e
            refine ih _ (fun j a => by rw [ob_wI_o a, ob_wI_o a]; exact r j a) ?_ ?_
            · rw [e, ob_wI_n (by decide), ob_wI_s]; rfl
            · rw [e, ob_wI_s]; rfl
          rw [q1]
          cases hb : ob_yg (ob_ck l s p v k) (ob_cc l s) i with
          | none => exact br_t rfl (take (ob_yg_p0 hok hb))
          | some y =>
            have hcy := cle y
            refine br_f (ob_m1 (n := ob_cc l s y) (by omega)) ?_
            by_cases hc : ob_cc l s i < ob_cc l s y
            · exact br_f (fun z => by have := (ob_le (a := ob_cc l s y) (b := ob_cc l s i) (by omega) (by omega)).mp z; omega) (take (ob_yg_p1 hok hb hc))
            · refine br_t ((ob_le (a := ob_cc l s y) (b := ob_cc l s i) (by omega) (by omega)).mpr (by omega)) (ih τ r ?_ ?_)
              · rw [ob_yg_p2 hok hb hc]; rw [hb] at q1; exact q1
              · rw [ob_yg_p2 hok hb hc]; rw [hb] at q2; exact q2
      · refine ob_bt (fun z => hyr ?_) (no ?_)
        · have e : nI (ob_tt (ob_tm l s k) i (la_B l)) + nI (ob_ys l s p k none (la_B l)) = nI v := by rw [z, Int32.sub_add_cancel]
          rw [nI_add, ob_eq (by omega) (by omega)] at e
          exact e
        · cases hck : ob_ck l s p v k i with
          | false => rfl
          | true => exact absurd (ob_ckx.mp hck).2 hyr
    · refine ob_bt (fun z => hsub ((ob_subI (by omega) (by omega)).mp z)) (no ?_)
      cases hck : ob_ck l s p v k i with
      | false => rfl
      | true => exact absurd ((sub i hi2).mpr (ob_ckx.mp hck).1) hsub
theorem n_coin {Q : Int32 → ob_Mem → Prop} {p v k c : Nat} {x4 : Int32} (hl : ob_lok l) (hs : ob_sok l s c) (hc : c ≤ 600) (hp : p < la_P l) (hv : v ≤ 999) (hk : k ≤ 9999) (hML : pi_ML σ.1 l) (hMS : pi_MS σ.1 l s) (h : (x4 = 0 → Q (ob_oI (ob_om (ob_yg (ob_ck l s p v k) (ob_cc l s) (2 ^ la_B l)) (ob_cc l s))) σ) ∧ (¬ x4 = 0 → Q (ob_oI (ob_yg (ob_ck l s p v k) (ob_cc l s) (2 ^ la_B l))) σ)) : ob_RT shp E oX9_coin 80 [.ref 53, .int (nI p), .int (nI v), .int (nI k), .int x4, .int (nI (ob_ys l s p k none (la_B l))), .int (-1), .int 0, .int (nI 0), .null, .null, .null, .null] [] σ (ob_qI Q) := by
  have hP6 := hl.2.2.1
  have hB8 := hl.2.2.2.1
  have hN := hl.1
  have ht : st_t s < 100000000 := by have := hs.1; omega
  have hys := ob_ys_le (s := s) hl (p := p) (k := k) (left := none) (la_B l)
  have hys2 : la_B l * k ≤ 8 * 9999 := Nat.mul_le_mul hB8 hk
  have htm : ∀ b, ob_tm l s k b ≤ 9999 := fun b => Nat.le_trans (ob_cm_le (by omega)) hk
  have hB2 : 2 ^ la_B l ≤ 256 := Nat.pow_le_pow_right (show 0 < 2 by decide) hB8
  have cle : ∀ S n, n ≤ la_B l → ob_tt (ob_sea l s) S n ≤ 7992 := fun S n hn => ob_ses_le hl hB8 hn
  refine ob_loop0 (T := fun i => ∀ x7 : Int32, (∀ y, ob_yg (ob_ck l s p v k) (ob_cc l s) i = some y → x7 = nI (ob_cc l s y)) → ob_RT shp E oX9_coin 80 [.ref 53, .int (nI p), .int (nI v), .int (nI k), .int x4, .int (nI (ob_ys l s p k none (la_B l))), .int (ob_oI (ob_yg (ob_ck l s p v k) (ob_cc l s) i)), .int x7, .int (nI i), .null, .null, .null, .null] [] σ (ob_qI Q)) (B := 2 ^ la_B l) ?_ ?_ 0 (fun y e => by cases e)
  · intro x7 hx7
    refine b_X9_coin_80 ?_
    rw [hML.2.2.1, show (1 : Int32) <<< (nI (la_B l) &&& 31) = nI (2 ^ la_B l) from ob_shB ⟨la_B l, by omega⟩]
    refine br_t ((ob_le (by omega) (by omega)).mpr (Nat.le_refl _)) ?_
    cases hb : ob_yg (ob_ck l s p v k) (ob_cc l s) (2 ^ la_B l) with
    | none =>
      rw [hb] at h
      refine br_f (by decide) ?_
      by_cases hx : x4 = 0
      · exact h.1 hx
      · exact h.2 hx
    | some y =>
      have hy := (ob_yg_some hb).1
      rw [hb] at h
      refine br_t (ob_pos (by omega)) ?_
      by_cases hx : x4 = 0
      · refine ob_bf hx ?_
        rw [hx7 y hb]
        exact h.1 hx
      · exact ob_bt hx (h.2 hx)
  · intro i hi ih x7 hx7
    have hi8 : i < 256 := by omega
    refine b_X9_coin_80 ?_
    rw [hML.2.2.1, show (1 : Int32) <<< (nI (la_B l) &&& 31) = nI (2 ^ la_B l) from ob_shB ⟨la_B l, by omega⟩]
    refine br_f (fun z => by rw [ob_le (by omega) (by omega)] at z; omega) ?_
    have inner : ob_RT shp E oX9_coin 104 [.ref 53, .int (nI p), .int (nI v), .int (nI k), .int x4, .int (nI (ob_ys l s p k none (la_B l))), .int (ob_oI (ob_yg (ob_ck l s p v k) (ob_cc l s) i)), .int x7, .int (nI i), .int (nI (ob_ys l s p k none (la_B l) + ob_tt (ob_tm l s k) i 0)), .int (nI (ob_tt (ob_sea l s) i 0)), .int (ob_bI (ob_al (ob_fr l s p k) i 0)), .int (nI 0)] [] σ (ob_qI Q) := by
      refine ob_loop0 (T := fun b => ob_RT shp E oX9_coin 104 [.ref 53, .int (nI p), .int (nI v), .int (nI k), .int x4, .int (nI (ob_ys l s p k none (la_B l))), .int (ob_oI (ob_yg (ob_ck l s p v k) (ob_cc l s) i)), .int x7, .int (nI i), .int (nI (ob_ys l s p k none (la_B l) + ob_tt (ob_tm l s k) i b)), .int (nI (ob_tt (ob_sea l s) i b)), .int (ob_bI (ob_al (ob_fr l s p k) i b)), .int (nI b)] [] σ (ob_qI Q)) (B := la_B l) ?_ ?_
      · have htt := ob_tt_le (S := i) htm (la_B l)
        have htt2 : la_B l * 9999 ≤ 8 * 9999 := Nat.mul_le_mul hB8 (Nat.le_refl _)
        have hci := cle i (la_B l) (Nat.le_refl _)
        have no : ∀ x12 : Int32, ob_ck l s p v k i = false → ob_RT shp E oX9_coin 232 [.ref 53, .int (nI p), .int (nI v), .int (nI k), .int x4, .int (nI (ob_ys l s p k none (la_B l))), .int (ob_oI (ob_yg (ob_ck l s p v k) (ob_cc l s) i)), .int x7, .int (nI i), .int (nI (ob_ys l s p k none (la_B l) + ob_tt (ob_tm l s k) i (la_B l))), .int (nI (ob_tt (ob_sea l s) i (la_B l))), .int (ob_bI (ob_al (ob_fr l s p k) i (la_B l))), .int x12] [] σ (ob_qI Q) := by
          intro x12 hck
          refine b_X9_coin_232 (b_X9_coin_233 (br_t rfl (b_X9_coin_247 (br_t rfl ?_))))
          have := ih x7 (fun y e => hx7 y (by rw [ob_yg_neg hck] at e; exact e))
          rw [ob_yg_neg hck] at this
          rw [nI_1]
          exact this
        have keep : ∀ (x12 : Int32) (y : Nat), ob_yg (ob_ck l s p v k) (ob_cc l s) i = some y → ob_yg (ob_ck l s p v k) (ob_cc l s) (i + 1) = some y → ob_RT shp E oX9_coin 232 [.ref 53, .int (nI p), .int (nI v), .int (nI k), .int x4, .int (nI (ob_ys l s p k none (la_B l))), .int (ob_oI (some y)), .int x7, .int (nI i), .int (nI (ob_ys l s p k none (la_B l) + ob_tt (ob_tm l s k) i (la_B l))), .int (nI (ob_tt (ob_sea l s) i (la_B l))), .int (ob_bI (ob_al (ob_fr l s p k) i (la_B l))), .int x12] [] σ (ob_qI Q) := by
          intro x12 y e1 e2
          refine b_X9_coin_232 (b_X9_coin_233 (br_t rfl (b_X9_coin_247 (br_t rfl ?_))))
          have := ih x7 (fun z e => by rw [e2] at e; cases e; exact hx7 y e1)
          rw [e2] at this
          rw [nI_1]
          exact this
        have take : ∀ (x6 x12 : Int32), ob_yg (ob_ck l s p v k) (ob_cc l s) (i + 1) = some i → ob_RT shp E oX9_coin 228 [.ref 53, .int (nI p), .int (nI v), .int (nI k), .int x4, .int (nI (ob_ys l s p k none (la_B l))), .int x6, .int x7, .int (nI i), .int (nI (ob_ys l s p k none (la_B l) + ob_tt (ob_tm l s k) i (la_B l))), .int (nI (ob_tt (ob_sea l s) i (la_B l))), .int (ob_bI (ob_al (ob_fr l s p k) i (la_B l))), .int x12] [] σ (ob_qI Q) := by
          intro x6 x12 e2
          refine b_X9_coin_228 (b_X9_coin_233 (br_f (by decide) (b_X9_coin_247 (br_f (by decide) ?_))))
          have := ih (nI (ob_tt (ob_sea l s) i (la_B l))) (fun z e => by rw [e2] at e; cases e; rfl)
          rw [e2] at this
          rw [nI_1]
          exact this
        refine b_X9_coin_104 ?_
        rw [hML.2.2.1]
        refine br_t ((ob_le (by omega) (by omega)).mpr (Nat.le_refl _)) ?_
        cases hal : ob_al (ob_fr l s p k) i (la_B l) with
        | false =>
          rw [hal] at no
          exact br_t rfl (no _ (by unfold ob_ck; rw [hal]; rfl))
        | true =>
          rw [hal] at no keep take
          refine br_f (by decide) ?_
          by_cases hyr : ob_tt (ob_tm l s k) i (la_B l) + ob_ys l s p k none (la_B l) = v
          · have hok : ob_ck l s p v k i = true := by
              unfold ob_ck
              rw [hal, hyr]
              simp
            refine ob_bf (by rw [← hyr, Nat.add_comm]) ?_
            cases hb : ob_yg (ob_ck l s p v k) (ob_cc l s) i with
            | none => exact br_t (by decide) (take _ _ (ob_yg_p0 hok hb))
            | some y =>
              have hy := (ob_yg_some hb).1
              have hcy := cle y (la_B l) (Nat.le_refl _)
              have e7 := hx7 y hb
              refine br_f (ob_nneg (by omega)) ?_
              by_cases hc : ob_cc l s i < ob_cc l s y
              · refine br_f (fun z => ?_) (take _ _ (ob_yg_p1 hok hb hc))
                rw [e7] at z
                have := (ob_le (a := ob_cc l s y) (b := ob_cc l s i) (by unfold ob_cc; omega) (by unfold ob_cc; omega)).mp z
                omega
              · refine br_t ?_ (keep _ y hb (ob_yg_p2 hok hb hc))
                rw [e7]
                exact (ob_le (a := ob_cc l s y) (b := ob_cc l s i) (by unfold ob_cc; omega) (by unfold ob_cc; omega)).mpr (by omega)
          · refine ob_bt (fun z => hyr ?_) (no _ ?_)
            · rw [ob_eq (by omega) (by omega)] at z
              omega
            · unfold ob_ck
              rw [decide_eq_false hyr, Bool.and_false]
      · intro b hb jh
        have hin : vp_in (nI b) 8 := ob_in (by omega) (by omega)
        have hcl : (nI b).toNatClampNeg = b := ob_cl (by omega)
        obtain ⟨kb, kw, -⟩ := ob_kb hs hl hb
        obtain ⟨m1, m2, -⟩ := hMS.2.2.2 b hb
        refine b_X9_coin_104 ?_
        rw [hML.2.2.1, hcl, nI_1]
        refine br_f (fun z => by rw [ob_le (by omega) (by omega)] at z; omega) (m_X9_has (b_X9_has_0 ?_))
        simp only [ob_tt, ob_al] at jh
        by_cases hbit : i.testBit b = true
        · refine ob_bf ((ob_bitI hi8 (by omega)).mpr hbit) (br_f (by decide) ?_)
          rw [if_pos hbit, if_pos hbit, hbit] at jh
          have go : ∀ q : Bool, q = (ob_al (ob_fr l s p k) i b && (!true || ob_fr l s p k b)) → ob_RT shp E oX9_coin 174 [.ref 53, .int (nI p), .int (nI v), .int (nI k), .int x4, .int (nI (ob_ys l s p k none (la_B l))), .int (ob_oI (ob_yg (ob_ck l s p v k) (ob_cc l s) i)), .int x7, .int (nI i), .int (nI (ob_ys l s p k none (la_B l) + ob_tt (ob_tm l s k) i b)), .int (nI (ob_tt (ob_sea l s) i b)), .int (ob_bI (ob_al (ob_fr l s p k) i b)), .int (nI b)] [.int (ob_bI q)] σ (ob_qI Q) := by
            intro q hq
            subst hq
            refine b_X9_coin_174 (n_timesIn hl ht (by omega) hML hMS hb (n_seasonOf hl ht hML hMS hb ?_))
            rw [nI_add, nI_add, nI_1, Nat.add_assoc]
            exact jh
          have not : ob_fr l s p k b = false ∨ ob_al (ob_fr l s p k) i b = false → ob_RT shp E oX9_coin 173 [.ref 53, .int (nI p), .int (nI v), .int (nI k), .int x4, .int (nI (ob_ys l s p k none (la_B l))), .int (ob_oI (ob_yg (ob_ck l s p v k) (ob_cc l s) i)), .int x7, .int (nI i), .int (nI (ob_ys l s p k none (la_B l) + ob_tt (ob_tm l s k) i b)), .int (nI (ob_tt (ob_sea l s) i b)), .int (ob_bI (ob_al (ob_fr l s p k) i b)), .int (nI b)] [] σ (ob_qI Q) := by
            intro hh
            refine b_X9_coin_173 (go false ?_)
            rcases hh with hh | hh
            · rw [hh]; cases ob_al (ob_fr l s p k) i b <;> rfl
            · rw [hh]; rfl
          cases hal : ob_al (ob_fr l s p k) i b with
          | false =>
            rw [hal] at not
            exact br_t rfl (not (Or.inr rfl))
          | true =>
            rw [hal] at not go
            refine br_f (by decide) ⟨hin, ?_⟩
            rw [m1, m2]
            by_cases h1 : st_w s b = none
            · exact br_t ((ob_oI_lt kw).mpr h1) (not (Or.inl (decide_eq_false (fun z => z.1 h1))))
            · refine br_f (fun z => h1 ((ob_oI_lt kw).mp z)) ⟨hin, ?_⟩
              by_cases h2 : st_b s b = none
              · refine br_f (fun z => ((ob_oI_ge kb).mp z) h2) ⟨hin, ?_⟩
                by_cases h3 : st_w s b = some p
                · exact br_t ((ob_oI_eq kw (by omega)).mpr h3) (not (Or.inl (decide_eq_false (fun z => z.2.1 h3))))
                · refine br_f (fun z => h3 ((ob_oI_eq kw (by omega)).mp z)) (n_timesIn hl ht (by omega) hML hMS hb ?_)
                  have hcm : ob_cm (la_N l) (st_t s) (la_D l b) k ≤ k := ob_cm_le (by omega)
                  by_cases h4 : 0 < ob_cm (la_N l) (st_t s) (la_D l b) k
                  · refine br_f (nI_nle h4 (by omega)) (go true ?_)
                    rw [show ob_fr l s p k b = true from decide_eq_true ⟨h1, h3, h2, h4⟩]
                    rfl
                  · refine br_t ?_ (not (Or.inl (decide_eq_false (fun z => h4 z.2.2.2))))
                    rw [Nat.eq_zero_of_not_pos h4]
                    decide
              · exact br_t ((ob_oI_ge kb).mpr h2) (not (Or.inl (decide_eq_false (fun z => h2 z.2.2.1))))
        · rw [if_neg hbit, if_neg hbit, Nat.add_zero, Nat.add_zero, Bool.eq_false_iff.mpr hbit] at jh
          refine ob_bt (fun z => hbit ((ob_bitI hi8 (by omega)).mp z)) (br_t rfl ?_)
          rw [Bool.not_false, Bool.true_or, Bool.and_true] at jh
          exact jh
    exact inner
end CO
theorem pr_coin (x z y u : Int32) : ob_PAIR oX8_coin oX9_coin [.int x, .int z, .int y, .int u] := by
  intro E c σ hc hR
  have hR1 := hR.mono (Nat.le_succ c)
  obtain ⟨l, s, kp, im, tn, td, hl, hs, hCL, hML, hCS, hMS, hIM, hTD, hTX, hF⟩ := hR
  have hP6 := hl.2.2.1
  have hB8 := hl.2.2.2.1
  have ht : st_t s < 100000000 := by have := hs.1; omega
  by_cases hx : ∃ j, j < la_P l ∧ x = nI j
  · obtain ⟨p, hp, rfl⟩ := hx
    have hip : vp_in (nI p) 6 := ob_in (by omega) (by omega)
    refine m_X8_coin (b_X8_coin_0 (k_hasP1 hCL.2.1 hP6 hp (ob_bt (by decide) ?_)))
    by_cases hz : (0 : Int32) ≤ z ∧ z ≤ 999
    · refine k_out hz (ob_bf rfl ?_)
      by_cases hy : (1 : Int32) ≤ y ∧ y ≤ 9999
      · refine k_out hy (ob_bf rfl ?_)
        by_cases hu : (0 : Int32) ≤ u ∧ u ≤ 1
        · refine k_out hu (br_t rfl ?_)
          cases hv : st_v s p with
          | false =>
            refine k_lives0 hl hCL hCS hp hv (ob_bf rfl (m_X9_coin (b_X9_coin_0 (n_isP1 hML.2.1 hP6 hp (ob_bt (by decide) (n_in1 (a := 0) (b := 999) (by decide) (by decide) hz (br_f (by decide) (n_in1 (a := 1) (b := 9999) (by decide) (by decide) hy (br_f (by decide) (n_in1 (a := 0) (b := 1) (by decide) (by decide) hu (ob_bt (by decide) ⟨hip, ?_⟩)))))))))))
            rw [ob_cl (by omega), (hMS.2.2.1 p hp).2.2, hv]
            exact ob_bf rfl ⟨rfl, hR1⟩
          | true =>
            obtain ⟨v, -, hv2, rfl⟩ := ob_rng (m := 0) (n := 999) rfl rfl (by omega) hz
            obtain ⟨k, -, hk2, rfl⟩ := ob_rng (m := 1) (n := 9999) rfl rfl (by omega) hy
            refine k_lives1 hl hCL hCS hp hv (ob_bt (by decide) (k_coin hl hs (by omega) hp hv2 hk2 hCL hCS (fun σ1 r1 e2 e3 => ?_)))
            have hML1 : pi_ML σ1.1 l := hML.to (fun i a b => r1 i (by omega) (by omega) (by omega)) (fun k hk => by rw [r1 53 (by decide) (by decide) (by decide)])
            have hMS1 : pi_MS σ1.1 l s := hMS.to (fun i a b => r1 i (by omega) (by omega) (by omega)) (fun k hk => by rw [r1 53 (by decide) (by decide) (by decide)])
            have fin : ob_REL (c + 1) σ1.1 := hR1.core ⟨fun i hi => r1 i (by omega) (by omega) (by omega), fun i k hk => by rw [r1 i (by omega) (by omega) (by omega)]⟩
            have model : ∀ a : Int32, (u = 0 → a = ob_oI (ob_om (ob_yg (ob_ck l s p v k) (ob_cc l s) (2 ^ la_B l)) (ob_cc l s))) → (¬ u = 0 → a = ob_oI (ob_yg (ob_ck l s p v k) (ob_cc l s) (2 ^ la_B l))) → ob_RM shp E oX9_coin [.ref 53, .int (nI p), .int (nI v), .int (nI k), .int u] σ1 (ob_qI fun r' σ2 => a = r' ∧ ob_REL (c + 1) σ2.1) := by
              intro a h1 h2
              refine m_X9_coin (b_X9_coin_0 (n_isP1 hML1.2.1 hP6 hp (ob_bt (by decide) (n_in1 (a := 0) (b := 999) (by decide) (by decide) hz (br_f (by decide) (n_in1 (a := 1) (b := 9999) (by decide) (by decide) hy (br_f (by decide) (n_in1 (a := 0) (b := 1) (by decide) (by decide) hu (ob_bt (by decide) ⟨hip, ?_⟩)))))))))
              rw [ob_cl (by omega), (hMS1.2.2.1 p hp).2.2, hv]
              refine ob_bt (by decide) (n_olderBy (left := none) (fun q e => by cases e) hl hs (by omega) hp (by omega) hML1 hMS1 (n_coin hl hs (by omega) hp hv2 hk2 hML1 hMS1 ⟨fun e => ⟨h1 e, fin⟩, fun e => ⟨h2 e, fin⟩⟩))
            by_cases h0 : u = 0
            · exact ob_bf h0 (model _ (fun _ => e2) (fun e => absurd h0 e))
            · exact ob_bt h0 (model _ (fun e => absurd e h0) (fun _ => e3))
        · exact k_out' hu (br_f (by decide) (m_X9_coin (b_X9_coin_0 (n_isP1 hML.2.1 hP6 hp (ob_bt (by decide) (n_in1 (a := 0) (b := 999) (by decide) (by decide) hz (br_f (by decide) (n_in1 (a := 1) (b := 9999) (by decide) (by decide) hy (br_f (by decide) (n_in0 (a := 0) (b := 1) (by decide) (by decide) hu (ob_bf rfl ⟨rfl, hR1⟩)))))))))))
      · exact k_out' hy (ob_bt (by decide) (m_X9_coin (b_X9_coin_0 (n_isP1 hML.2.1 hP6 hp (ob_bt (by decide) (n_in1 (a := 0) (b := 999) (by decide) (by decide) hz (br_f (by decide) (n_in0 (a := 1) (b := 9999) (by decide) (by decide) hy (br_t rfl ⟨rfl, hR1⟩)))))))))
    · exact k_out' hz (ob_bt (by decide) (m_X9_coin (b_X9_coin_0 (n_isP1 hML.2.1 hP6 hp (ob_bt (by decide) (n_in0 (a := 0) (b := 999) (by decide) (by decide) hz (br_t rfl ⟨rfl, hR1⟩)))))))
  · exact m_X8_coin (b_X8_coin_0 (k_hasP0 hCL.2.1 hP6 hx (ob_bf rfl (m_X9_coin (b_X9_coin_0 (n_isP0 hML.2.1 hP6 hx (ob_bf rfl ⟨rfl, hR1⟩)))))))
