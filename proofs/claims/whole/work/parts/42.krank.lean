/-! GIVEN in the class: ranks, sums by sets, just enough -/
theorem ob_andI (a b : Nat) : nI a &&& nI b = nI (a &&& b) := by
  apply Int32.toBitVec_inj.mp
  rw [Int32.toBitVec_and]
  show BitVec.ofNat 32 a &&& BitVec.ofNat 32 b = BitVec.ofNat 32 (a &&& b)
  apply BitVec.eq_of_getLsbD_eq
  intro i hi
  rw [BitVec.getLsbD_and, BitVec.getLsbD_ofNat, BitVec.getLsbD_ofNat, BitVec.getLsbD_ofNat, Nat.testBit_and]
  simp [hi]
theorem ob_orI (a b : Nat) : nI a ||| nI b = nI (a ||| b) := by
  apply Int32.toBitVec_inj.mp
  rw [Int32.toBitVec_or]
  show BitVec.ofNat 32 a ||| BitVec.ofNat 32 b = BitVec.ofNat 32 (a ||| b)
  apply BitVec.eq_of_getLsbD_eq
  intro i hi
  rw [BitVec.getLsbD_or, BitVec.getLsbD_ofNat, BitVec.getLsbD_ofNat, BitVec.getLsbD_ofNat, Nat.testBit_or]
  simp [hi]
theorem ob_clrF : ∀ (S : Fin 256) (b : Fin 8), S.val.testBit b.val = true → (nI S.val &&& (((1 : Int32) <<< (nI b.val &&& 31)) ^^^ (-1 : Int32))) = nI (S.val - 2 ^ b.val) := by decide +kernel
theorem ob_figF : ∀ b : Fin 8, (ob_fig b.val).toInt64 = lN (6 ^ (7 - b.val)) ∧ (1 : Int32) ≤ ob_fig b.val ∧ ¬ (ob_fig b.val).toInt64 = 0 := by decide +kernel
theorem ob_wL_1 {σ : ob_Mem} {i k : Nat} {x : Int64} : (ob_wL σ i k x).1 = σ.1 := rfl
theorem ob_wL_o {σ : ob_Mem} {i k a : Nat} {x : Int64} (h : a ≠ i) : (ob_wL σ i k x).2 a = σ.2 a := by funext b; simp [ob_wL, h]
theorem ob_wL_s {σ : ob_Mem} {i k : Nat} {x : Int64} : (ob_wL σ i k x).2 i k = x := by simp [ob_wL]
theorem ob_wL_n {σ : ob_Mem} {i k b : Nat} {x : Int64} (h : b ≠ k) : (ob_wL σ i k x).2 i b = σ.2 i b := by simp [ob_wL, h]
theorem ob_wI_2 {σ : ob_Mem} {i k : Nat} {x : Int32} : (ob_wI σ i k x).2 = σ.2 := rfl
theorem ob_tt_cg {f : Nat → Nat} {S T : Nat} : ∀ {n : Nat}, (∀ i, i < n → S.testBit i = T.testBit i) → ob_tt f S n = ob_tt f T n
  | 0, _ => rfl
  | n + 1, h => by
    simp only [ob_tt]
    rw [h n (by omega), ob_tt_cg (n := n) (fun i hi => h i (by omega))]
theorem ob_tt_lo {f : Nat → Nat} {S b : Nat} (h : S < 2 ^ b) : ob_tt f S (b + 1) = ob_tt f S b := by
  simp only [ob_tt]
  rw [Nat.testBit_lt_two_pow h, if_neg (by decide), Nat.add_zero]
theorem ob_tt_hi {f : Nat → Nat} {S b : Nat} (h : S < 2 ^ b) : ob_tt f (S + 2 ^ b) (b + 1) = ob_tt f S b + f b := by
  simp only [ob_tt]
  rw [Nat.add_comm S, Nat.testBit_two_pow_add_eq, Nat.testBit_lt_two_pow h, if_pos (by decide), ob_tt_cg (fun i hi => Nat.testBit_two_pow_add_gt hi S)]
theorem ob_p2 {B S : Nat} (hB : B ≤ 8) (h : S < 2 ^ B) : S < 256 := Nat.lt_of_lt_of_le h (Nat.pow_le_pow_right (by decide) hB)
theorem ob_p256 {B : Nat} (hB : B ≤ 8) : 2 ^ B ≤ 256 := Nat.pow_le_pow_right (by decide) hB
theorem ob_shN {b : Nat} (hb : b ≤ 8) : (1 : Int32) <<< (nI b &&& 31) = nI (2 ^ b) := ob_shB ⟨b, by omega⟩
theorem ob_orN {j b : Nat} (hb : b < 8) (hj : j < 2 ^ b) : nI j ||| ((1 : Int32) <<< (nI b &&& 31)) = nI (j + 2 ^ b) := ob_orF ⟨j, Nat.lt_of_lt_of_le hj (show 2 ^ b ≤ 2 ^ 8 from Nat.pow_le_pow_right (by decide) (by omega))⟩ ⟨b, hb⟩ hj
theorem ob_clrN {S b : Nat} (hS : S < 256) (hb : b < 8) (h : S.testBit b = true) : (nI S &&& (((1 : Int32) <<< (nI b &&& 31)) ^^^ (-1 : Int32))) = nI (S - 2 ^ b) := ob_clrF ⟨S, hS⟩ ⟨b, hb⟩ h
section KR
variable {E : ob_E} {σ : ob_Mem} {l : LdT} {s : StT} {k v n X c0 : Nat}
theorem k_rankOf {Q : Int64 → ob_Mem → Prop} {b p : Nat} (hX : X = 6 ^ 8) (hl : ob_lok l) (hs : ob_sok l s c0) (hCL : pi_CL σ.1 10 l) (hCS : pi_CS σ.1 17 l s) (hus : ∀ b, b < la_B l → ob_us s b = some (ob_uu s b)) (hb : b < la_B l) (hp : p < 6) (h : Q (lN (gv_rk X (ob_uu s) (la_C l) b p)) σ) : ob_RM shp E oX1_rankOf [.ref 17, .int (nI b), .int (nI p)] σ (ob_qL Q) := by
  have hP6 := hl.2.2.1
  have hB8 := hl.2.2.2.1
  have i8 : vp_in (nI b) 8 := ob_in (by omega) (by omega)
  have hub := (ob_kb hs hl hb).2.2 _ (hus b hb)
  have e15 : σ.1 15 b = nI (la_C l b) := (hCL.2.2.2.2.1 b hb).2.2
  have hC := (hl.2.2.2.2.1 b hb).2.2.2
  refine m_X1_rankOf (b_X1_rankOf_0 (k_userOf hl hs hCS hb ?_))
  rw [hus b hb, ob_cl (n := b) (by omega), e15]
  show (¬ nI (ob_uu s b) = nI p → _) ∧ (nI (ob_uu s b) = nI p → _)
  rw [ob_eq (by omega) (by omega)]
  have go : ∀ z : Nat, z = (if p = ob_uu s b then 0 else la_C l b) → ob_RT shp E oX1_rankOf 23 [.ref 17, .int (nI b), .int (nI p), .null, .null] [.long (lN z)] σ (ob_qL Q) := by
    intro z hz
    refine b_X1_rankOf_23 ⟨i8, ?_⟩
    rw [ob_cl (n := b) (by omega), (ob_figF ⟨b, by omega⟩).1, nI_l (by omega), show (1679616 : Int64) = lN (6 ^ 8) from by decide +kernel, lN_mul, lN_mul, lN_add, hz, ← hX]
    exact h
  refine ⟨fun z => ⟨i8, ?_⟩, fun z => go 0 (by rw [if_pos z.symm])⟩
  rw [nI_l (by omega)]
  exact go _ (by rw [if_neg (fun y => z y.symm)])
theorem k_leftTo {Q : Int32 → ob_Mem → Prop} {b : Nat} (hl : ob_lok l) (hs : ob_sok l s c0) (hCL : pi_CL σ.1 10 l) (hCS : pi_CS σ.1 17 l s) (hus : ∀ b, b < la_B l → ob_us s b = some (ob_uu s b)) (huv : gv_va (st_v s) (la_P l) (la_B l) (ob_uu s)) (hb : b < la_B l) (h : Q (nI (ob_uu s b)) σ) : ob_RM shp E oX1_leftTo [.ref 17, .int (nI b)] σ (ob_qI Q) := by
  refine m_X1_leftTo (b_X1_leftTo_0 (k_userOf hl hs hCS hb ?_))
  rw [hus b hb]
  exact k_lives1 hl hCL hCS (huv b hb).1 (huv b hb).2 (br_f (by decide) h)
theorem k_rankLeft {Q : Int64 → ob_Mem → Prop} (hX : X = 6 ^ 8) (hl : ob_lok l) (hs : ob_sok l s c0) (hCL : pi_CL σ.1 10 l) (hCS : pi_CS σ.1 17 l s) (hus : ∀ b, b < la_B l → ob_us s b = some (ob_uu s b)) (huv : gv_va (st_v s) (la_P l) (la_B l) (ob_uu s)) (h : Q (lN (gv_R X (ob_uu s) (la_C l) (la_B l) (ob_uu s))) σ) : ob_RM shp E oX1_rankLeft [.ref 17] σ (ob_qL Q) := by
  have hP6 := hl.2.2.1
  have hB8 := hl.2.2.2.1
  refine m_X1_rankLeft (b_X1_rankLeft_0 ?_)
  refine ob_loop0 (T := fun i => ob_RT shp E oX1_rankLeft 4 [.ref 17, .long (lN (ob_ns (fun b => gv_rk X (ob_uu s) (la_C l) b (ob_uu s b)) i)), .null, .int (nI i)] [] σ (ob_qL Q)) (B := la_B l) (b_X1_rankLeft_4 ?_) (fun i hi ih => b_X1_rankLeft_4 ?_)
  · rw [hCL.2.2.1]
    exact br_t ((ob_le (by omega) (by omega)).mpr (Nat.le_refl _)) h
  · rw [hCL.2.2.1]
    refine br_f (fun z => by rw [ob_le (by omega) (by omega)] at z; omega) (k_leftTo hl hs hCL hCS hus huv hi (k_rankOf hX hl hs hCL hCS hus hi (by have := (huv i hi).1; omega) ?_))
    rw [lN_add, nI_1]
    exact ih
theorem k_countOld {Q : Int32 → ob_Mem → Prop} (hl : ob_lok l) (hs : ob_sok l s c0) (hCL : pi_CL σ.1 10 l) (hCS : pi_CS σ.1 17 l s) (hv : v ≤ 999) (h : Q (nI (gv_old (st_v s) (st_a s) v (la_P l))) σ) : ob_RM shp E oX1_countOldEnough [.ref 17, .int (nI v)] σ (ob_qI Q) := by
  have hP6 := hl.2.2.1
  refine m_X1_countOldEnough (b_X1_countOldEnough_0 ?_)
  refine ob_loop0 (T := fun p => ob_RT shp E oX1_countOldEnough 4 [.ref 17, .int (nI v), .int (nI (ob_ns (fun p => if st_v s p = true ∧ v ≤ st_a s p then 1 else 0) p)), .int (nI p)] [] σ (ob_qI Q)) (B := la_P l) (b_X1_countOldEnough_4 ?_) (fun p hp ih => b_X1_countOldEnough_4 ?_)
  · rw [hCL.2.1]
    exact br_t ((ob_le (by omega) (by omega)).mpr (Nat.le_refl _)) h
  · rw [hCL.2.1]
    have ih : ∀ x, x = ob_ns (fun p => if st_v s p = true ∧ v ≤ st_a s p then 1 else 0) p + (if st_v s p = true ∧ v ≤ st_a s p then 1 else 0) → ob_RT shp E oX1_countOldEnough 4 [.ref 17, .int (nI v), .int (nI x), .int (nI (p + 1))] [] σ (ob_qI Q) := by
      rintro x rfl
      exact ih
    have ha := hs.2.2.1 p hp
    refine br_f (fun z => by rw [ob_le (by omega) (by omega)] at z; omega) ?_
    rw [nI_1, nI_1]
    cases hv : st_v s p with
    | false => exact k_lives0 hl hCL hCS hp hv (br_t rfl (ih _ (by rw [if_neg (fun z => by rw [hv] at z; exact absurd z.1 (by decide)), Nat.add_zero])))
    | true =>
      refine k_lives1 hl hCL hCS hp hv (br_f (by decide) ⟨ob_in (by omega) (by omega), ?_⟩)
      rw [ob_cl (n := p) (by omega), show σ.1 18 p = _ from (hCS.2.2.2.1 p hp).1, ob_lt (by omega) (by omega)]
      refine ⟨fun z => ih _ (by rw [if_neg (fun y => by have := y.2; omega), Nat.add_zero]), fun z => ih _ (by rw [if_pos ⟨hv, by omega⟩])⟩
theorem k_fillB {Q : ob_Mem → Prop} {x : Int64} (h : ∀ σ' : ob_Mem, σ'.1 = σ.1 → (∀ i, i ≠ 49 → σ'.2 i = σ.2 i) → (∀ j, j < 1792 → σ'.2 49 j = x) → Q σ') : ob_RM shp E oJ7_fill_d0a16 [.ref 49, .long x] σ (ob_qV Q) := by
  refine m_J7_fill_d0a16 (b_J7_fill_d0a16_0 ?_)
  refine ob_loop0 (T := fun i => ∀ τ : ob_Mem, τ.1 = σ.1 → (∀ j, j ≠ 49 → τ.2 j = σ.2 j) → (∀ j, j < i → τ.2 49 j = x) → ob_RT shp E oJ7_fill_d0a16 6 [.ref 49, .long x, .null, .int (nI i), .int (1792 : Int32)] [] τ (ob_qV Q)) (B := 1792) (fun τ r1 r2 w => b_J7_fill_d0a16_6 (br_t (by decide) (h τ r1 r2 w))) (fun i hi ih τ r1 r2 w => b_J7_fill_d0a16_6 (br_f (fun z => by rw [show (1792 : Int32) = nI 1792 from rfl, ob_le (by omega) (by omega)] at z; omega) ⟨ob_in (by omega) (by omega), ?_⟩)) σ rfl (fun _ _ => rfl) (fun j hj => by omega)
  rw [nI_1, ob_cl (n := i) (by omega)]
  refine ih (ob_wL τ 49 i x) r1 (fun j hj => by rw [ob_wL_o hj]; exact r2 j hj) (fun j hj => ?_)
  by_cases e : j = i
  · rw [e, ob_wL_s]
  · rw [ob_wL_n e]; exact w j (by omega)
theorem k_addUpYears {Q : ob_Mem → Prop} (hl : ob_lok l) (hs : ob_sok l s c0) (hc0 : c0 ≤ 600) (hn : n ≤ 9999) (hCL : pi_CL σ.1 10 l) (hCS : pi_CS σ.1 17 l s) (h : ∀ σ' : ob_Mem, (∀ i, i ≠ 46 → σ'.1 i = σ.1 i) → σ'.2 = σ.2 → (∀ S, S < 2 ^ la_B l → σ'.1 46 S = nI (ob_tt (ob_tm l s n) S (la_B l))) → Q σ') : ob_RM shp E oX1_addUpYears [.ref 45, .ref 17, .int (nI n)] σ (ob_qV Q) := by
  have hB8 := hl.2.2.2.1
  have ht : st_t s < 100000000 := by have := hs.1; omega
  refine m_X1_addUpYears (b_X1_addUpYears_0 ?_)
  rw [show ((0 : Int32)).toNatClampNeg = 0 from by decide]
  refine ob_loop0 (T := fun b => ∀ τ : ob_Mem, (∀ i, i ≠ 46 → τ.1 i = σ.1 i) → τ.2 = σ.2 → (∀ S, S < 2 ^ b → τ.1 46 S = nI (ob_tt (ob_tm l s n) S b)) → ob_RT shp E oX1_addUpYears 9 [.ref 45, .ref 17, .int (nI n), .int (nI b), .null, .null] [] τ (ob_qV Q)) (B := la_B l) (fun τ r1 r2 w => b_X1_addUpYears_9 ?_) (fun b hb ih τ r1 r2 w => b_X1_addUpYears_9 ?_) _ (fun i hi => ob_wI_o hi) rfl (fun S hS => ?_)
  · rw [r1 10 (by decide), hCL.2.2.1]
    exact br_t ((ob_le (by omega) (by omega)).mpr (Nat.le_refl _)) (h τ r1 r2 w)
  · rw [r1 10 (by decide), hCL.2.2.1]
    have hCL1 : pi_CL τ.1 10 l := hCL.to (fun i a b => r1 i (by omega)) (fun j _ => by rw [r1 10 (by decide)])
    have hCS1 : pi_CS τ.1 17 l s := hCS.to (fun i a b => r1 i (by omega)) (fun j _ => by rw [r1 17 (by decide)])
    have hb2 : 2 ^ b ≤ 128 := Nat.pow_le_pow_right (show 0 < 2 by decide) (show b ≤ 7 by omega)
    refine br_f (fun z => by rw [ob_le (by omega) (by omega)] at z; omega) (k_comings hl ht (by omega) hCL1 hCS1 hb ?_)
    refine ob_loop0 (T := fun j => ∀ κ : ob_Mem, (∀ i, i ≠ 46 → κ.1 i = σ.1 i) → κ.2 = σ.2 → (∀ S, S < 2 ^ b → κ.1 46 S = nI (ob_tt (ob_tm l s n) S b)) → (∀ S, S < j → κ.1 46 (S + 2 ^ b) = nI (ob_tt (ob_tm l s n) S b + ob_tm l s n b)) → ob_RT shp E oX1_addUpYears 31 [.ref 45, .ref 17, .int (nI n), .int (nI b), .int (nI (ob_cm (la_N l) (st_t s) (la_D l b) n)), .int (nI j)] [] κ (ob_qV Q)) (B := 2 ^ b) (fun κ q1 q2 w1 w2 => b_X1_addUpYears_31 ?_) (fun j hj ihj κ q1 q2 w1 w2 => b_X1_addUpYears_31 ?_) τ r1 r2 w (fun S hS => by omega)
    · rw [ob_shN (by omega), nI_1]
      refine br_t ((ob_le (by omega) (by omega)).mpr (Nat.le_refl _)) (ih κ q1 q2 (fun S hS => ?_))
      rw [Nat.pow_succ] at hS
      by_cases e : S < 2 ^ b
      · rw [ob_tt_lo e]; exact w1 S e
      · have := w2 (S - 2 ^ b) (by omega)
        rw [← ob_tt_hi (by omega), show S - 2 ^ b + 2 ^ b = S by omega] at this
        exact this
    · rw [ob_orN (by omega) hj, ob_shN (by omega), nI_1 j, ob_cl (n := j) (by omega), ob_cl (n := j + 2 ^ b) (by omega), w1 j hj, nI_add]
      refine br_f (fun z => by rw [ob_le (by omega) (by omega)] at z; omega) ⟨ob_in (by omega) (by omega), ob_in (by omega) (by omega), ?_⟩
      rintro σ1 rfl
      refine ihj (ob_wI κ 46 (j + 2 ^ b) (nI (ob_tt (ob_tm l s n) j b + ob_cm (la_N l) (st_t s) (la_D l b) n))) (fun i hi => by rw [ob_wI_o hi]; exact q1 i hi) q2 (fun S hS => by rw [ob_wI_n (by omega)]; exact w1 S hS) (fun S hS => ?_)
      by_cases e : S = j
      · rw [e, ob_wI_s]; rfl
      · rw [ob_wI_n (by omega)]; exact w2 S (by omega)
  · rw [show S = 0 by omega, ob_wI_s]; rfl
theorem k_addUpRanks {Q : ob_Mem → Prop} {p : Nat} (hX : X = 6 ^ 8) (hl : ob_lok l) (hs : ob_sok l s c0) (hCL : pi_CL σ.1 10 l) (hCS : pi_CS σ.1 17 l s) (hus : ∀ b, b < la_B l → ob_us s b = some (ob_uu s b)) (huv : gv_va (st_v s) (la_P l) (la_B l) (ob_uu s)) (hp : p < 6) (h : ∀ σ' : ob_Mem, σ'.1 = σ.1 → (∀ i, i ≠ 47 → σ'.2 i = σ.2 i) → (∀ S, S < 2 ^ la_B l → σ'.2 47 S = lN (ob_tt (fun b => gv_de X (ob_uu s) (la_C l) b p) S (la_B l))) → Q σ') : ob_RM shp E oX1_addUpRanks [.ref 45, .ref 17, .int (nI p)] σ (ob_qV Q) := by
  have hB8 := hl.2.2.2.1
  have hP6 := hl.2.2.1
  refine m_X1_addUpRanks (b_X1_addUpRanks_0 ?_)
  rw [show ((0 : Int32)).toNatClampNeg = 0 from by decide]
  refine ob_loop0 (T := fun b => ∀ τ : ob_Mem, τ.1 = σ.1 → (∀ i, i ≠ 47 → τ.2 i = σ.2 i) → (∀ S, S < 2 ^ b → τ.2 47 S = lN (ob_tt (fun b => gv_de X (ob_uu s) (la_C l) b p) S b)) → ob_RT shp E oX1_addUpRanks 9 [.ref 45, .ref 17, .int (nI p), .int (nI b), .null, .null, .null] [] τ (ob_qV Q)) (B := la_B l) (fun τ r1 r2 w => b_X1_addUpRanks_9 ?_) (fun b hb ih τ r1 r2 w => b_X1_addUpRanks_9 ?_) _ rfl (fun i hi => ob_wL_o hi) (fun S hS => ?_)
  · rw [r1, hCL.2.2.1]
    exact br_t ((ob_le (by omega) (by omega)).mpr (Nat.le_refl _)) (h τ r1 r2 w)
  · rw [r1, hCL.2.2.1]
    have hCL1 : pi_CL τ.1 10 l := by rw [r1]; exact hCL
    have hCS1 : pi_CS τ.1 17 l s := by rw [r1]; exact hCS
    have hb2 : 2 ^ b ≤ 128 := Nat.pow_le_pow_right (show 0 < 2 by decide) (show b ≤ 7 by omega)
    have hub : ob_uu s b < 6 := by have := (huv b hb).1; omega
    refine br_f (fun z => by rw [ob_le (by omega) (by omega)] at z; omega) (k_rankOf hX hl hs hCL1 hCS1 hus hb hp (k_leftTo hl hs hCL1 hCS1 hus huv hb (k_rankOf hX hl hs hCL1 hCS1 hus hb hub ?_)))
    rw [lN_sub (gv_rk_le (by rw [hX]; decide) (hl.2.2.2.2.1 b hb).2.2.1 hub)]
    refine ob_loop0 (T := fun j => ∀ κ : ob_Mem, κ.1 = σ.1 → (∀ i, i ≠ 47 → κ.2 i = σ.2 i) → (∀ S, S < 2 ^ b → κ.2 47 S = lN (ob_tt (fun b => gv_de X (ob_uu s) (la_C l) b p) S b)) → (∀ S, S < j → κ.2 47 (S + 2 ^ b) = lN (ob_tt (fun b => gv_de X (ob_uu s) (la_C l) b p) S b + gv_de X (ob_uu s) (la_C l) b p)) → ob_RT shp E oX1_addUpRanks 42 [.ref 45, .ref 17, .int (nI p), .int (nI b), .long (lN (gv_rk X (ob_uu s) (la_C l) b p - gv_rk X (ob_uu s) (la_C l) b (ob_uu s b))), .null, .int (nI j)] [] κ (ob_qV Q)) (B := 2 ^ b) (fun κ q1 q2 w1 w2 => b_X1_addUpRanks_42 ?_) (fun j hj ihj κ q1 q2 w1 w2 => b_X1_addUpRanks_42 ?_) τ r1 r2 w (fun S hS => by omega)
    · rw [ob_shN (by omega), nI_1]
      refine br_t ((ob_le (by omega) (by omega)).mpr (Nat.le_refl _)) (ih κ q1 q2 (fun S hS => ?_))
      rw [Nat.pow_succ] at hS
      by_cases e : S < 2 ^ b
      · rw [ob_tt_lo e]; exact w1 S e
      · have := w2 (S - 2 ^ b) (by omega)
        rw [← ob_tt_hi (f := fun b => gv_de X (ob_uu s) (la_C l) b p) (by omega), show S - 2 ^ b + 2 ^ b = S by omega] at this
        exact this
    · rw [ob_orN (by omega) hj, ob_shN (by omega), nI_1 j, ob_cl (n := j) (by omega), ob_cl (n := j + 2 ^ b) (by omega), w1 j hj, lN_add]
      refine br_f (fun z => by rw [ob_le (by omega) (by omega)] at z; omega) ⟨ob_in (by omega) (by omega), ob_in (by omega) (by omega), ?_⟩
      rintro σ1 rfl
      refine ihj (ob_wL κ 47 (j + 2 ^ b) (lN (ob_tt (fun b => gv_de X (ob_uu s) (la_C l) b p) j b + (gv_rk X (ob_uu s) (la_C l) b p - gv_rk X (ob_uu s) (la_C l) b (ob_uu s b))))) q1 (fun i hi => by rw [ob_wL_o hi]; exact q2 i hi) (fun S hS => by rw [ob_wL_n (by omega)]; exact w1 S hS) (fun S hS => ?_)
      by_cases e : S = j
      · rw [e, ob_wL_s]; rfl
      · rw [ob_wL_n (by omega)]; exact w2 S (by omega)
  · rw [show S = 0 by omega, ob_wL_s]; rfl
theorem k_isJust {Q : Int32 → ob_Mem → Prop} {tm age : Nat → Nat} {B q S : Nat} (hB : B ≤ 8) (hS : S < 2 ^ B) (hY : ∀ S, S < 2 ^ B → σ.1 46 S = nI (ob_tt tm S B)) (hYb : ∀ S, ob_tt tm S B ≤ 100000) (hv : v ≤ 999) (ha : age q < v) (h1 : gv_je tm age v B q S → Q 1 σ) (h0 : ¬ gv_je tm age v B q S → Q 0 σ) : ob_RM shp E oX1_isJustEnough [.ref 45, .int (nI S), .int (nI (v - age q))] σ (ob_qI Q) := by
  have h256 := ob_p256 hB
  have y1 := hYb S
  refine m_X1_isJustEnough (b_X1_isJustEnough_0 ⟨ob_in (by omega) (by omega), ?_⟩)
  rw [ob_cl (n := S) (by omega), hY S hS, ob_le (by omega) (by omega)]
  by_cases he : v - age q ≤ ob_tt tm S B
  · refine br_t he ?_
    refine ob_loop0 (T := fun b => (∀ i, i < b → S.testBit i = true → age q + ob_tt tm (S - 2 ^ i) B < v) → ob_RT shp E oX1_isJustEnough 14 [.ref 45, .int (nI S), .int (nI (v - age q)), .int (nI b)] [] σ (ob_qI Q)) (B := 8) (fun w => b_X1_isJustEnough_14 (br_t (by decide) (h1 ⟨by omega, fun i hi => w i (by omega)⟩))) (fun b hb ih w => b_X1_isJustEnough_14 ?_) (fun i hi => by omega)
    rw [nI_1]
    refine br_f (fun z => by rw [show (8 : Int32) = nI 8 from rfl, ob_le (by omega) (by omega)] at z; omega) ?_
    by_cases hbit : S.testBit b = true
    · have hbB : b < B := by
        by_cases e : b < B
        · exact e
        · rw [Nat.testBit_lt_two_pow (Nat.lt_of_lt_of_le hS (Nat.pow_le_pow_right (by decide) (by omega)))] at hbit
          cases hbit
      have hlt := (ob_xorF ⟨S, by omega⟩ ⟨b, hb⟩ hbit).2
      have hlt : S - 2 ^ b < S := hlt
      have y2 := hYb (S - 2 ^ b)
      rw [ob_clrN (by omega) hb hbit, ob_cl (n := S - 2 ^ b) (by omega), hY (S - 2 ^ b) (by omega), ob_lt (by omega) (by omega)]
      refine ob_bf ((ob_bitI (by omega) hb).mpr hbit) ⟨ob_in (by omega) (by omega), fun z => ih (fun i hi hib => ?_), fun z => h0 (fun y => by have := y.2 b hbB hbit; omega)⟩
      by_cases e : i = b
      · rw [e]; omega
      · exact w i (by omega) hib
    · refine ob_bt (fun z => hbit ((ob_bitI (by omega) hb).mp z)) (ih (fun i hi hib => ?_))
      by_cases e : i = b
      · rw [e] at hib; exact absurd hib hbit
      · exact w i (by omega) hib
  · exact br_f he (h0 (fun y => by have := y.1; omega))
theorem k_findEnough {Q : ob_Mem → Prop} {tm age : Nat → Nat} {B q : Nat} (hB : B ≤ 8) (h4 : σ.1 45 4 = nI (2 ^ B)) (hY : ∀ S, S < 2 ^ B → σ.1 46 S = nI (ob_tt tm S B)) (hYb : ∀ S, ob_tt tm S B ≤ 100000) (hv : v ≤ 999) (ha : age q < v) (h : ∀ (σ' : ob_Mem) (e : Nat → Nat) (cnt : Nat), (∀ i, i ≠ 45 → i ≠ 48 → σ'.1 i = σ.1 i) → (∀ k, k ≠ 5 → σ'.1 45 k = σ.1 45 k) → σ'.2 = σ.2 → cnt ≤ 256 → σ'.1 45 5 = nI cnt → (∀ i, i < cnt → σ'.1 48 i = nI (e i) ∧ e i < 2 ^ B ∧ gv_je tm age v B q (e i)) → (∀ S, S < 2 ^ B → gv_je tm age v B q S → ∃ i, i < cnt ∧ e i = S) → Q σ') : ob_RM shp E oX1_findEnough [.ref 45, .int (nI (v - age q))] σ (ob_qV Q) := by
  have h256 := ob_p256 hB
  refine m_X1_findEnough (b_X1_findEnough_0 ?_)
  refine ob_loop0 (T := fun S => ∀ (τ : ob_Mem) (e : Nat → Nat) (cnt : Nat), (∀ i, i ≠ 45 → i ≠ 48 → τ.1 i = σ.1 i) → (∀ k, k ≠ 5 → τ.1 45 k = σ.1 45 k) → τ.2 = σ.2 → cnt ≤ S → τ.1 45 5 = nI cnt → (∀ i, i < cnt → τ.1 48 i = nI (e i) ∧ e i < 2 ^ B ∧ gv_je tm age v B q (e i)) → (∀ S', S' < S → gv_je tm age v B q S' → ∃ i, i < cnt ∧ e i = S') → ob_RT shp E oX1_findEnough 7 [.ref 45, .int (nI (v - age q)), .int (nI S)] [] τ (ob_qV Q)) (B := 2 ^ B) (fun τ e cnt r1 r2 r3 c1 c2 w1 w2 => b_X1_findEnough_7 ?_) (fun S hS ih τ e cnt r1 r2 r3 c1 c2 w1 w2 => b_X1_findEnough_7 ?_) _ (fun _ => 0) 0 (fun i a b => ob_wI_o a) (fun k a => ob_wI_n a) rfl (Nat.zero_le _) ob_wI_s (fun i hi => by omega) (fun S' hS' => by omega)
  · rw [r2 4 (by decide), h4]
    exact br_t ((ob_le (by omega) (by omega)).mpr (Nat.le_refl _)) (h τ e cnt r1 r2 r3 (by omega) c2 w1 w2)
  · rw [r2 4 (by decide), h4, nI_1]
    refine br_f (fun z => by rw [ob_le (by omega) (by omega)] at z; omega) (k_isJust hB hS (fun S hS => by rw [r1 46 (by decide) (by decide)]; exact hY S hS) hYb hv ha (fun hj => br_f (by decide) ?_) (fun hj => br_t rfl ?_))
    · rw [c2, ob_cl (n := cnt) (by omega), ob_wI_o (i := 48) (a := 45) (by decide), c2, nI_1]
      refine ⟨ob_in (by omega) (by omega), ?_⟩
      rintro σ3 rfl
      refine ih _ (ob_u1 e cnt S) (cnt + 1) (fun i a b => by rw [ob_wI_o a, ob_wI_o b]; exact r1 i a b) (fun k a => by rw [ob_wI_n a, ob_wI_o (by decide)]; exact r2 k a) r3 (by omega) ob_wI_s (fun i hi => ?_) (fun S' hS' hj' => ?_)
      · rw [ob_wI_o (by decide)]
        by_cases ei : i = cnt
        · rw [ei, ob_u1s, ob_wI_s]; exact ⟨rfl, hS, hj⟩
        · rw [ob_u1n ei, ob_wI_n ei]; exact w1 i (by omega)
      · by_cases es : S' = S
        · exact ⟨cnt, by omega, by rw [ob_u1s, es]⟩
        · obtain ⟨i, i1, i2⟩ := w2 S' (by omega) hj'
          exact ⟨i, by omega, by rw [ob_u1n (by omega)]; exact i2⟩
    · refine ih τ e cnt r1 r2 r3 (by omega) c2 w1 (fun S' hS' hj' => ?_)
      by_cases es : S' = S
      · rw [es] at hj'; exact absurd hj' hj
      · exact w2 S' (by omega) hj'
end KR
