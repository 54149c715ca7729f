/-! life -/
def ob_sfL (f : Nat → Bool) : Nat → Int64
  | 0 => 0
  | n + 1 => if f n = true then ob_sfL f n ||| (1 <<< ((nI n).toInt64 &&& 63)) else ob_sfL f n
theorem ob_sh64 : ∀ k : Fin 64, (((nI k.val).toInt64 &&& 63).toBitVec.smod 64).toNat = k.val := by decide +kernel
theorem ob_sfL_bit {f : Nat → Bool} : ∀ {n : Nat}, n ≤ 64 → ∀ i, (ob_sfL f n).toBitVec.getLsbD i = (decide (i < n) && f i)
  | 0, _, i => by
    show (0#64).getLsbD i = _
    simp
  | n + 1, hn, i => by
    have ih := ob_sfL_bit (f := f) (n := n) (by omega) i
    simp only [ob_sfL]
    cases hf : f n with
    | false =>
      rw [if_neg (by decide), ih]
      by_cases h : i = n
      · subst h; simp [hf]
      · have : (i < n + 1) ↔ (i < n) := by omega
        simp only [this]
    | true =>
      rw [if_pos rfl, Int64.toBitVec_or, BitVec.getLsbD_or, ih]
      have e : ((1 : Int64) <<< ((nI n).toInt64 &&& 63)).toBitVec = (1#64) <<< n := by
        show (1#64) <<< (((nI n).toInt64 &&& 63).toBitVec.smod 64).toNat = _
        rw [ob_sh64 ⟨n, by omega⟩]
      rw [e, BitVec.getLsbD_shiftLeft, BitVec.getLsbD_one]
      by_cases h : i = n
      · subst h
        simp [hf]
        omega
      · by_cases h2 : i < n
        · simp [h2, show i < n + 1 by omega]
        · have h3 : ¬ i < n + 1 := by omega
          have h4 : ¬ i - n = 0 := by omega
          simp [h2, h3, h4]
theorem ob_sfL_get {f : Nat → Bool} {n k : Nat} (hn : n ≤ 64) (hk : k < n) : (((ob_sfL f n >>> ((nI k).toInt64 &&& 63)) &&& (1 : Int64))).toInt32 = nI (if f k = true then 1 else 0) := by
  have hb := ob_sfL_bit (f := f) hn k
  have e : ((ob_sfL f n >>> ((nI k).toInt64 &&& 63)) &&& (1 : Int64)) = if f k = true then 1 else 0 := by
    apply Int64.toBitVec_inj.mp
    rw [Int64.toBitVec_and]
    have e1 : (ob_sfL f n >>> ((nI k).toInt64 &&& 63)).toBitVec = (ob_sfL f n).toBitVec.sshiftRight k := by
      show (ob_sfL f n).toBitVec.sshiftRight (((nI k).toInt64 &&& 63).toBitVec.smod 64).toNat = _
      rw [ob_sh64 ⟨k, by omega⟩]
    rw [e1]
    apply BitVec.eq_of_getLsbD_eq
    intro i hi
    rw [BitVec.getLsbD_and, show (1 : Int64).toBitVec = 1#64 from rfl, BitVec.getLsbD_one]
    by_cases h0 : i = 0
    · subst h0
      rw [BitVec.getLsbD_sshiftRight, if_pos (by omega), Nat.add_zero, hb]
      cases hf : f k <;> simp [hk]
    · cases hf : f k
      · simp [h0]
      · show _ = (1#64).getLsbD i
        rw [BitVec.getLsbD_one]
        simp [h0]
  rw [e]
  cases f k <;> rfl
/-- the greatest sum in r years, beginning k years older -/
def ob_lfv (G : Nat → Nat) (a : Nat) : Nat → Nat → Nat
  | 0, _ => 0
  | r + 1, k => max (G (a + k) + ob_lfv G a r k) (G (a + k + 1) + ob_lfv G a r (k + 1))
theorem ob_lfv_le {G : Nat → Nat} {a : Nat} (hG : ∀ a, G a ≤ 99) : ∀ r k, ob_lfv G a r k ≤ 99 * r
  | 0, _ => Nat.le_refl _
  | r + 1, k => by
    have h1 := ob_lfv_le hG (a := a) r k
    have h2 := ob_lfv_le hG (a := a) r (k + 1)
    have h3 := hG (a + k)
    have h4 := hG (a + k + 1)
    simp only [ob_lfv]
    omega
def ob_gr (G : Nat → Nat) (a m y k : Nat) : Bool := decide (G (a + k) + ob_lfv G a (m - y - 1) k < G (a + k + 1) + ob_lfv G a (m - y - 1) (k + 1))
def ob_ol (g : Nat → Nat → Bool) : Nat → Nat
  | 0 => 0
  | t + 1 => ob_ol g t + if g t (ob_ol g t) = true then 1 else 0
def ob_lt1 (g : Nat → Nat → Bool) : Nat → Nat
  | 0 => 0
  | t + 1 => if g t (ob_ol g t) = true then 1 else 0
theorem ob_ol_le {g : Nat → Nat → Bool} : ∀ t, ob_ol g t ≤ t
  | 0 => Nat.le_refl _
  | t + 1 => by
    have := ob_ol_le (g := g) t
    simp only [ob_ol]
    split <;> omega
theorem ob_max_nI {a b : Nat} (ha : a < 2000000000) (hb : b < 2000000000) : ob_max (nI a) (nI b) = nI (max a b) := by
  unfold ob_max
  by_cases h : a < b
  · rw [if_pos ((ob_lt ha hb).mpr h), Nat.max_eq_right (by omega)]
  · rw [if_neg (fun z => h ((ob_lt ha hb).mp z)), Nat.max_eq_left (by omega)]
theorem ob_dec {k : Nat} : nI (k + 1) - 1 + (-1) = nI k - 1 := by
  rw [nI_pred, Int32.sub_eq_add_neg]
section LF
variable {E : ob_E} {σ : ob_Mem} {l : LdT} {s : StT}
theorem k_make {Q : ob_Mem → Prop} {a m : Nat} (hl : ob_lok l) (ha : a ≤ 999) (hm1 : 1 ≤ m) (hm : m ≤ 60) (hCL : pi_CL σ.1 10 l) (h : ∀ σ' : ob_Mem, (∀ i, i ≠ 43 → σ'.1 i = σ.1 i) → σ'.1 43 0 = nI (ob_lfv (la_G l) a m 0) → (∀ y, y < m → σ'.2 44 y = ob_sfL (ob_gr (la_G l) a m y) (y + 1)) → Q σ') : ob_RM shp E oX4_make [.ref 42, .ref 10, .int (nI a), .int (nI m)] σ (ob_qV Q) := by
  have hG := hl.2.2.2.2.2.1
  refine m_X4_make (b_X4_make_0 (k_fill_43 ?_))
  rw [show (60 : Int32) = nI 60 from rfl, ob_min_nI (by omega) (by omega), Nat.min_eq_left hm]
  refine ob_loop0 (T := fun r => ∀ τ : ob_Mem, (∀ i, i ≠ 43 → τ.1 i = σ.1 i) → (∀ k, k ≤ m - r → τ.1 43 k = nI (ob_lfv (la_G l) a r k)) → (∀ y, m - r ≤ y → y < m → τ.2 44 y = ob_sfL (ob_gr (la_G l) a m y) (y + 1)) → ob_RT shp E oX4_make 18 [.ref 42, .ref 10, .int (nI a), .int (nI m), .int (nI (m - r) - 1), .null, .null, .null, .null, .null] [] τ (ob_qV Q)) (B := m) ?_ ?_ _ (fun i hi => ob_wA_o hi) (fun k hk => ?_) (fun y h1 h2 => by omega)
  · intro τ r1 w1 w2
    rw [Nat.sub_self] at w1 w2 ⊢
    exact b_X4_make_18 (br_t (by decide) (h τ r1 (w1 0 (Nat.le_refl _)) (fun y hy => w2 y (Nat.zero_le _) hy)))
  · intro r hr ih τ r1 w1 w2
    obtain ⟨y, hy⟩ : ∃ y, m - r = y + 1 := ⟨m - r - 1, by omega⟩
    have hry : m - y - 1 = r := by omega
    rw [hy, nI_pred]
    rw [hy] at w1 w2
    have hih : m - (r + 1) = y := by omega
    rw [hih] at ih
    refine b_X4_make_18 (br_f (ob_nneg (by omega)) ?_)
    refine ob_loop0 (T := fun j => ∀ κ : ob_Mem, (∀ i, i ≠ 43 → κ.1 i = σ.1 i) → κ.2 = τ.2 → (∀ k, k < j → κ.1 43 k = nI (ob_lfv (la_G l) a (r + 1) k)) → (∀ k, j ≤ k → k ≤ y + 1 → κ.1 43 k = nI (ob_lfv (la_G l) a r k)) → ob_RT shp E oX4_make 29 [.ref 42, .ref 10, .int (nI a), .int (nI m), .int (nI y), .long (ob_sfL (ob_gr (la_G l) a m y) j), .null, .int (nI j), .null, .null] [] κ (ob_qV Q)) (B := y + 1) ?_ ?_ τ r1 rfl (fun k hk => by omega) (fun k _ hk => w1 k hk)
    · intro κ q1 q2 q3 q4
      refine b_X4_make_29 (br_t ((ob_lt (by omega) (by omega)).mpr (by omega)) ⟨ob_in (by omega) (by omega), ?_⟩)
      have ed : nI y + (-1) = nI y - 1 := by rw [Int32.sub_eq_add_neg]
      rw [ob_cl (n := y) (by omega), ed]
      refine ih _ (fun i hi => q1 i hi) (fun k hk => q3 k (by omega)) (fun z h1 h2 => ?_)
      by_cases hz : z = y
      · subst hz
        simp [ob_wL]
      · rw [show (ob_wL κ 44 y (ob_sfL (ob_gr (la_G l) a m y) (y + 1))).2 44 z = κ.2 44 z from by simp [ob_wL, hz], q2]
        exact w2 z (by omega) h2
    · intro j hj jh κ q1 q2 q3 q4
      have hCLk : pi_CL κ.1 10 l := hCL.to (fun i a b => q1 i (by omega)) (fun k _ => by rw [q1 10 (by decide)])
      have g1 := hG (a + j)
      have g2 := hG (a + j + 1)
      have l1 := ob_lfv_le (G := la_G l) (a := a) hG r j
      have l2 := ob_lfv_le (G := la_G l) (a := a) hG r (j + 1)
      refine b_X4_make_29 (br_f (fun z => by rw [ob_lt (by omega) (by omega)] at z; omega) ?_)
      rw [nI_add, nI_1, nI_1]
      refine k_goodOf (by omega) hl hCLk ⟨ob_in (by omega) (by omega), k_goodOf (by omega) hl hCLk ⟨ob_in (by omega) (by omega), ?_⟩⟩
      rw [ob_cl (n := j) (by omega), ob_cl (n := j + 1) (by omega), q4 j (Nat.le_refl _) (by omega), q4 (j + 1) (by omega) (by omega), nI_add, nI_add]
      have next : ∀ g : Int64, g = ob_sfL (ob_gr (la_G l) a m y) (j + 1) → ob_RT shp E oX4_make 92 [.ref 42, .ref 10, .int (nI a), .int (nI m), .int (nI y), .long g, .null, .int (nI j), .int (nI (la_G l (a + j) + ob_lfv (la_G l) a r j)), .int (nI (la_G l (a + j + 1) + ob_lfv (la_G l) a r (j + 1)))] [] κ (ob_qV Q) := by
        intro g hg
        subst hg
        refine b_X4_make_92 ⟨ob_in (by omega) (by omega), ?_⟩
        rw [ob_cl (n := j) (by omega), nI_1, ob_max_nI (by omega) (by omega)]
        refine jh _ (fun i hi => by rw [ob_wI_o hi]; exact q1 i hi) q2 (fun k hk => ?_) (fun k h1 h2 => ?_)
        · by_cases hkj : k = j
          · subst hkj; rw [ob_wI_s]; rfl
          · rw [ob_wI_n hkj]; exact q3 k (by omega)
        · rw [ob_wI_n (by omega)]; exact q4 k (by omega) h2
      by_cases hc : la_G l (a + j) + ob_lfv (la_G l) a r j < la_G l (a + j + 1) + ob_lfv (la_G l) a r (j + 1)
      · refine br_f (fun z => by rw [ob_le (by omega) (by omega)] at z; omega) (next _ ?_)
        simp only [ob_sfL]
        rw [if_pos (by unfold ob_gr; rw [hry]; exact decide_eq_true hc)]
      · refine br_t ((ob_le (by omega) (by omega)).mpr (by omega)) (next _ ?_)
        simp only [ob_sfL]
        rw [if_neg (by unfold ob_gr; rw [hry]; simpa using hc)]
  · rw [ob_wA_s, if_pos (by omega)]
    rfl
theorem k_agesIn {Q : Int32 → ob_Mem → Prop} {i m : Nat} {g : Nat → Nat → Bool} (hi : i < m) (hm : m ≤ 60) (hw : ∀ y, y < m → σ.2 44 y = ob_sfL (g y) (y + 1)) (h : Q (nI (ob_lt1 g (i + 1))) σ) : ob_RM shp E oX4_agesIn [.ref 42, .int (nI i)] σ (ob_qI Q) := by
  refine m_X4_agesIn (b_X4_agesIn_0 ?_)
  refine ob_loop0 (T := fun t => ob_RT shp E oX4_agesIn 7 [.ref 42, .int (nI i), .int (nI (ob_ol g t)), .int (nI (ob_lt1 g t)), .int (nI t)] [] σ (ob_qI Q)) (B := i + 1) (b_X4_agesIn_7 (br_t ((ob_lt (by omega) (by omega)).mpr (by omega)) h)) (fun t ht ih => b_X4_agesIn_7 (br_f (fun z => by rw [ob_lt (by omega) (by omega)] at z; omega) ?_))
  refine br_f (fun z => by rw [show (60 : Int32) = nI 60 from rfl, ob_le (by omega) (by omega)] at z; omega) ⟨ob_in (by omega) (by omega), ?_⟩
  have hol := ob_ol_le (g := g) t
  rw [ob_cl (n := t) (by omega), hw t (by omega), ob_sfL_get (by omega) (by omega)]
  rintro w1 rfl
  rw [nI_add, nI_1]
  exact ih
end LF
theorem n_life {E : ob_E} {σ : ob_Mem} {l : LdT} {Q : Int32 → ob_Mem → Prop} {p m a : Nat} {x3 : Int32} (hl : ob_lok l) (hp : p < la_P l) (ha : a ≤ 999) (hm1 : 1 ≤ m) (hm : m ≤ 60) (hML : pi_ML σ.1 l) (hA : σ.1 60 p = nI a) (h : ∀ σ' : ob_Mem, (∀ i, i ≠ 73 → σ'.1 i = σ.1 i) → (x3 = -1 → Q (nI (ob_lfv (la_G l) a m 0)) σ') ∧ (∀ i, i < m → x3 = nI i → Q (nI (ob_lt1 (ob_gr (la_G l) a m) (i + 1))) σ') ∧ (¬ x3 = -1 → (¬ ∃ i, i < m ∧ x3 = nI i) → Q (-1) σ')) : ob_RT shp E oX9_life 29 [.ref 53, .int (nI p), .int (nI m), .int x3, .int (nI m), .null, .null, .null] [] σ (ob_qI Q) := by
  have hP6 := hl.2.2.1
  have hG := hl.2.2.2.2.2.1
  have hip : vp_in (nI p) 6 := ob_in (by omega) (by omega)
  have hin : ∀ k, k < 3782 → vp_in (nI k) 3782 := fun k hk => ob_in hk (by omega)
  have gd : ∀ (κ : ob_Mem) (b : Nat) {Q2 : Int32 → ob_Mem → Prop}, (∀ i, i ≠ 73 → κ.1 i = σ.1 i) → b < 1000000 → Q2 (nI (la_G l b)) κ → ob_RM shp E oX9_goodOf [.ref 53, .int (nI b)] κ (ob_qI Q2) := fun κ b Q2 r hb q => n_goodOf hb hl (hML.to (fun i a b => r i (by omega)) (fun k _ => by rw [r 53 (by decide)])) q
  have start : ob_RT shp E oX9_life 29 [.ref 53, .int (nI p), .int (nI m), .int x3, .int (nI (m + 1 - 0) - 1), .null, .null, .null] [] σ (ob_qI Q) := by
    refine ob_loop0 (T := fun r => ∀ τ : ob_Mem, (∀ i, i ≠ 73 → τ.1 i = σ.1 i) → (∀ y k, m + 1 - r ≤ y → y ≤ m → k ≤ y → τ.1 73 (61 * y + k) = nI (ob_lfv (la_G l) a (m - y) k)) → ob_RT shp E oX9_life 29 [.ref 53, .int (nI p), .int (nI m), .int x3, .int (nI (m + 1 - r) - 1), .null, .null, .null] [] τ (ob_qI Q)) (B := m + 1) ?_ ?_ σ (fun _ _ => rfl) (fun y k h1 h2 _ => by omega)
    · intro τ r w
      rw [Nat.sub_self] at w ⊢
      obtain ⟨k1, k2, k3⟩ := h τ r
      refine b_X9_life_29 (br_t (by decide) ?_)
      by_cases h1 : x3 = -1
      · refine ob_bf h1 ?_
        have := w 0 0 (Nat.zero_le _) (Nat.zero_le _) (Nat.le_refl _)
        rw [show ((0 : Int32)).toNatClampNeg = 61 * 0 + 0 from by decide, this]
        exact k1 h1
      · refine ob_bt h1 ?_
        by_cases hi : ∃ i, i < m ∧ x3 = nI i
        · obtain ⟨i, hi, rfl⟩ := hi
          have hem : nI m - 1 = nI (m - 1) := by rw [show (1 : Int32) = nI 1 from rfl, ob_sub hm1]
          refine n_in1 (a := 0) (b := nI m - 1) (by decide) rfl ⟨ob_pos (by omega), by rw [hem, ob_le (by omega) (by omega)]; omega⟩ (ob_bt (by decide) ?_)
          refine ob_loop0 (T := fun t => ob_RT shp E oX9_life 205 [.ref 53, .int (nI p), .int (nI m), .int (nI i), .int (nI (ob_ol (ob_gr (la_G l) a m) t)), .int (nI (ob_lt1 (ob_gr (la_G l) a m) t)), .int (nI t), .null] [] τ (ob_qI Q)) (B := i + 1) (b_X9_life_205 (br_t ((ob_lt (by omega) (by omega)).mpr (by omega)) (k2 i hi rfl))) (fun t ht ih => b_X9_life_205 (br_f (fun z => by rw [ob_lt (by omega) (by omega)] at z; omega) ⟨hip, ?_⟩))
          have hol := ob_ol_le (g := ob_gr (la_G l) a m) t
          rw [ob_cl (n := p) (by omega), r 60 (by decide), hA, nI_add, nI_1, show (61 : Int32) = nI 61 from rfl, pk_mul, pk_mul, nI_add, nI_add]
          have eg : ob_gr (la_G l) a m t (ob_ol (ob_gr (la_G l) a m) t) = decide (la_G l (a + ob_ol (ob_gr (la_G l) a m) t) + ob_lfv (la_G l) a (m - t - 1) (ob_ol (ob_gr (la_G l) a m) t) < la_G l (a + ob_ol (ob_gr (la_G l) a m) t + 1) + ob_lfv (la_G l) a (m - t - 1) (ob_ol (ob_gr (la_G l) a m) t + 1)) := rfl
          simp only [ob_ol, ob_lt1] at ih
          rw [eg] at ih
          have w1 := w (t + 1) (ob_ol (ob_gr (la_G l) a m) t) (Nat.zero_le _) (by omega) (by omega)
          have w2 := w t (ob_ol (ob_gr (la_G l) a m) t) (Nat.zero_le _) (by omega) (by omega)
          generalize ob_ol (ob_gr (la_G l) a m) t = k at *
          have g1 := hG (a + k)
          have g2 := hG (a + k + 1)
          have l1 := ob_lfv_le (G := la_G l) (a := a) hG (m - t - 1) k
          have l2 := ob_lfv_le (G := la_G l) (a := a) hG (m - t - 1) (k + 1)
          refine gd τ (a + k) r (by omega) ⟨hin _ (by omega), ?_⟩
          rintro w3 rfl
          refine ⟨hin _ (by omega), ?_⟩
          rw [ob_cl (n := 61 * (t + 1) + k) (by omega), ob_cl (n := 61 * t + k) (by omega), w1, w2, nI_add, show m - (t + 1) = m - t - 1 from by omega, show m - t = (m - t - 1) + 1 from by omega]
          simp only [ob_lfv]
          by_cases hc : la_G l (a + k) + ob_lfv (la_G l) a (m - t - 1) k < la_G l (a + k + 1) + ob_lfv (la_G l) a (m - t - 1) (k + 1)
          · rw [if_pos (decide_eq_true hc)] at ih
            refine ob_bt (fun z => ?_) ?_
            · rw [show m - t - 1 + 1 - 1 = m - t - 1 from by omega] at z
              rw [ob_eq (by omega) (by omega)] at z
              omega
            · rw [nI_1]
              exact ih
          · rw [if_neg (by simpa using hc)] at ih
            refine ob_bf ?_ ?_
            · rw [show m - t - 1 + 1 - 1 = m - t - 1 from by omega]
              congr 1
              omega
            · rw [show (0 : Int32) = nI 0 from rfl, nI_add]
              exact ih
        · refine n_in0 (a := 0) (b := nI m - 1) (by decide) rfl (fun z => hi ((ob_upto (by omega)).mp z)) (ob_bf rfl (k3 h1 hi))
    · intro r hr ih τ q w
      obtain ⟨y, hy⟩ : ∃ y, m + 1 - r = y + 1 := ⟨m - r, by omega⟩
      rw [hy, nI_pred]
      rw [hy] at w
      rw [show m + 1 - (r + 1) = y from by omega] at ih
      refine b_X9_life_29 (br_f (ob_nneg (by omega)) ?_)
      refine ob_loop0 (T := fun j => ∀ κ : ob_Mem, (∀ i, i ≠ 73 → κ.1 i = σ.1 i) → (∀ z k, y + 1 ≤ z → z ≤ m → k ≤ z → κ.1 73 (61 * z + k) = nI (ob_lfv (la_G l) a (m - z) k)) → (∀ k, k < j → κ.1 73 (61 * y + k) = nI (ob_lfv (la_G l) a (m - y) k)) → ob_RT shp E oX9_life 37 [.ref 53, .int (nI p), .int (nI m), .int x3, .int (nI y), .int (nI j), .null, .null] [] κ (ob_qI Q)) (B := y + 1) ?_ ?_ τ q w (fun k hk => by omega)
      · intro κ q1 q2 q3
        refine b_X9_life_37 (br_t ((ob_lt (by omega) (by omega)).mpr (by omega)) ?_)
        have ed : nI y + (-1) = nI y - 1 := by rw [Int32.sub_eq_add_neg]
        rw [ed]
        refine ih κ q1 (fun z k h1 h2 h3 => ?_)
        by_cases hz : z = y
        · subst hz; exact q3 k (by omega)
        · exact q2 z k (by omega) h2 h3
      · intro j hj jh κ q1 q2 q3
        have fin : ∀ u v : Nat, u < 1000000 → v < 1000000 → max u v = ob_lfv (la_G l) a (m - y) j → ob_RT shp E oX9_life 128 [.ref 53, .int (nI p), .int (nI m), .int x3, .int (nI y), .int (nI j), .int (nI u), .null] [.int (nI v)] κ (ob_qI Q) := by
          intro u v hu hv e
          have put : ob_RT shp E oX9_life 37 [.ref 53, .int (nI p), .int (nI m), .int x3, .int (nI y), .int (nI (j + 1)), .null, .null] [] (ob_wI κ 73 (61 * y + j) (nI (max u v))) (ob_qI Q) := by
            refine jh _ (fun i hi => by rw [ob_wI_o hi]; exact q1 i hi) (fun z k h1 h2 h3 => ?_) (fun k hk => ?_)
            · rw [ob_wI_n (by omega)]; exact q2 z k h1 h2 h3
            · by_cases hkj : k = j
              · subst hkj; rw [ob_wI_s, e]
              · rw [ob_wI_n (by omega)]; exact q3 k (by omega)
          refine b_X9_life_128 ?_
          rw [show (61 : Int32) = nI 61 from rfl, pk_mul, nI_add, ob_cl (n := 61 * y + j) (by omega), nI_1]
          by_cases hc : v ≤ u
          · rw [Nat.max_eq_left hc] at put
            exact br_t ((ob_le (by omega) (by omega)).mpr hc) ⟨hin _ (by omega), put⟩
          · rw [Nat.max_eq_right (by omega)] at put
            exact br_f (fun z => hc ((ob_le (by omega) (by omega)).mp z)) ⟨hin _ (by omega), put⟩
        refine b_X9_life_37 (br_f (fun z => by rw [ob_lt (by omega) (by omega)] at z; omega) ?_)
        by_cases hym : y = m
        · refine ob_bf (by rw [hym]) (b_X9_life_83 (ob_bf (by rw [hym]) (fin 0 0 (by omega) (by omega) ?_)))
          rw [hym, Nat.sub_self]
          rfl
        · have hne : ¬ nI y = nI m := fun z => hym ((ob_eq (by omega) (by omega)).mp z)
          have g1 := hG (a + j)
          have g2 := hG (a + j + 1)
          have l1 := ob_lfv_le (G := la_G l) (a := a) hG (m - (y + 1)) j
          have l2 := ob_lfv_le (G := la_G l) (a := a) hG (m - (y + 1)) (j + 1)
          refine ob_bt hne ⟨hip, ?_⟩
          rw [ob_cl (n := p) (by omega), q1 60 (by decide), hA, nI_add, nI_1, show (61 : Int32) = nI 61 from rfl, pk_mul, nI_add]
          refine gd κ (a + j) q1 (by omega) ⟨hin _ (by omega), ?_⟩
          rw [ob_cl (n := 61 * (y + 1) + j) (by omega), q2 (y + 1) j (Nat.le_refl _) (by omega) (by omega), nI_add]
          refine b_X9_life_83 (ob_bt hne ⟨hip, ?_⟩)
          rw [ob_cl (n := p) (by omega), q1 60 (by decide), hA, nI_add, nI_1, nI_1, show (61 : Int32) = nI 61 from rfl, pk_mul, nI_add, nI_1]
          refine gd κ (a + j + 1) q1 (by omega) ⟨hin _ (by omega), ?_⟩
          rw [ob_cl (n := 61 * (y + 1) + j + 1) (by omega), show 61 * (y + 1) + j + 1 = 61 * (y + 1) + (j + 1) from by omega, q2 (y + 1) (j + 1) (Nat.le_refl _) (by omega) (by omega), nI_add]
          refine fin _ _ (by omega) (by omega) ?_
          rw [show m - y = (m - (y + 1)) + 1 from by omega]
          rfl
  rw [Nat.sub_zero, nI_pred] at start
  exact start
theorem pr_life (x z y : Int32) : ob_PAIR oX8_life oX9_life [.int x, .int z, .int y] := by
  intro E c σ hc hR
  have hR1 := hR.mono (Nat.le_succ c)
  obtain ⟨l, s, kp, im, tn, td, hl, hs, hCL, hML, hCS, hMS, hIM, hTD, hTX, hF⟩ := hR
  have hP6 := hl.2.2.1
  have hB8 := hl.2.2.2.1
  have ht : st_t s < 100000000 := by have := hs.1; omega
  by_cases hx : ∃ j, j < la_P l ∧ x = nI j
  · obtain ⟨p, hp, rfl⟩ := hx
    have hip : vp_in (nI p) 6 := ob_in (by omega) (by omega)
    refine m_X8_life (b_X8_life_0 (k_hasP1 hCL.2.1 hP6 hp (ob_bt (by decide) ?_)))
    by_cases hz : (1 : Int32) ≤ z ∧ z ≤ 60
    · refine k_out hz (br_t rfl ?_)
      obtain ⟨m, hm1, hm2, rfl⟩ := ob_rng (m := 1) (n := 60) rfl rfl (by omega) hz
      have ha := hs.2.2.1 p hp
      -- what follows once the class has answered
      have model : ∀ (σ1 : ob_Mem) (v : Int32), (∀ i, i ≠ 43 → σ1.1 i = σ.1 i) → (y = -1 → v = nI (ob_lfv (la_G l) (st_a s p) m 0)) → (∀ i, i < m → y = nI i → v = nI (ob_lt1 (ob_gr (la_G l) (st_a s p) m) (i + 1))) → (¬ y = -1 → (¬ ∃ i, i < m ∧ y = nI i) → v = -1) → ob_RM shp E oX9_life [.ref 53, .int (nI p), .int (nI m), .int y] σ1 (ob_qI fun r' σ2 => v = r' ∧ ob_REL (c + 1) σ2.1) := by
        intro σ1 v r v1 v2 v3
        have hML1 : pi_ML σ1.1 l := hML.to (fun i a b => r i (by omega)) (fun k hk => by rw [r 53 (by omega)])
        refine m_X9_life (b_X9_life_0 (n_isP1 hML1.2.1 hP6 hp (ob_bt (by decide) (n_in1 (a := 1) (b := 60) (by decide) (by decide) hz (ob_bt (by decide) ?_)))))
        refine n_life hl hp ha hm1 hm2 hML1 (by rw [r 60 (by decide)]; exact (hMS.2.2.1 p hp).1) (fun σ2 r2 => ?_)
        have fin : ob_REL (c + 1) σ2.1 := hR1.core ⟨fun i hi => by rw [r2 i (by omega), r i (by omega)], fun i k hk => by rw [r2 i (by omega), r i (by omega)]⟩
        exact ⟨fun e => ⟨v1 e, fin⟩, fun i hi e => ⟨v2 i hi e, fin⟩, fun e1 e2 => ⟨v3 e1 e2, fin⟩⟩
      by_cases hy : y = -1
      · subst hy
        refine br_f (by decide) (br_t ?_ ⟨hip, ?_⟩)
        · rw [Int32.lt_iff_toInt_lt, nI_toInt (by omega)]
          show (-1 : Int) < m
          omega
        · rw [ob_cl (n := p) (by omega), show σ.1 18 p = _ from (hCS.2.2.2.1 p hp).1]
          refine k_make hl ha hm1 hm2 hCL (fun σ1 r1 w1 _ => ob_bf rfl (m_X4_greatestSum (b_X4_greatestSum_0 ?_)))
          rw [show ((0 : Int32)).toNatClampNeg = 0 from by decide, w1]
          exact model σ1 _ r1 (fun _ => rfl) (fun i hi e => absurd e.symm (ob_m1 (by omega))) (fun e => absurd rfl e)
      · by_cases hi : ∃ i, i < m ∧ y = nI i
        · obtain ⟨i, hi, rfl⟩ := hi
          refine br_f (fun q => ?_) (br_t ((ob_lt (by omega) (by omega)).mpr hi) ⟨hip, ?_⟩)
          · rw [Int32.lt_iff_toInt_lt, nI_toInt (by omega)] at q
            have : ((-1 : Int32)).toInt = -1 := by decide
            omega
          · rw [ob_cl (n := p) (by omega), show σ.1 18 p = _ from (hCS.2.2.2.1 p hp).1]
            refine k_make hl ha hm1 hm2 hCL (fun σ1 r1 _ w2 => ob_bt hy (k_agesIn hi hm2 w2 ?_))
            refine model σ1 _ r1 (fun e => absurd e hy) (fun j hj e => ?_) (fun _ e => absurd ⟨i, hi, rfl⟩ e)
            rw [ob_eq (by omega) (by omega)] at e
            rw [e]
        · have none : ob_RM shp E oX9_life [.ref 53, .int (nI p), .int (nI m), .int y] σ (ob_qI fun r' σ2 => -1 = r' ∧ ob_REL (c + 1) σ2.1) := model σ (-1) (fun _ _ => rfl) (fun e => absurd e hy) (fun i h1 h2 => absurd ⟨i, h1, h2⟩ hi) (fun _ _ => rfl)
          by_cases h1 : y < -1
          · exact br_t h1 none
          · refine br_f h1 (br_f (fun q => hi ?_) none)
            have h0 : ¬ y < 0 := by
              intro q2
              apply hy
              apply Int32.toInt_inj.mp
              rw [Int32.lt_iff_toInt_lt] at h1 q2
              have e1 : ((-1 : Int32)).toInt = -1 := by decide
              have e2 : ((0 : Int32)).toInt = 0 := by decide
              omega
            refine ob_inv h0 (fun q2 => ?_) (by omega)
            rw [Int32.le_iff_toInt_le] at q2
            rw [Int32.lt_iff_toInt_lt] at q
            omega
    · exact k_out' hz (br_f (by decide) (m_X9_life (b_X9_life_0 (n_isP1 hML.2.1 hP6 hp (ob_bt (by decide) (n_in0 (a := 1) (b := 60) (by decide) (by decide) hz (ob_bf rfl ⟨rfl, hR1⟩)))))))
  · exact m_X8_life (b_X8_life_0 (k_hasP0 hCL.2.1 hP6 hx (ob_bf rfl (m_X9_life (b_X9_life_0 (n_isP0 hML.2.1 hP6 hx (ob_bf rfl ⟨rfl, hR1⟩)))))))
