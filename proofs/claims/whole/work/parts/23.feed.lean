/-! feed -/
def ob_by (X : Int64) (j : Nat) : Nat := (X.toBitVec >>> (8 * j)).toNat % 256
theorem ob_sh8 : ∀ j : Fin 8, ((((8 : Int32) * nI j.val).toInt64 &&& 63).toBitVec.smod 64).toNat = 8 * j.val := by decide +kernel
theorem ob_sh8u : ∀ j : Fin 8, ((((8 : Int32) * nI j.val).toInt64.toUInt64 &&& Int64.toUInt64 63).toBitVec % 64).toNat = 8 * j.val := by decide +kernel
theorem ob_byT {X : Int64} {j i : Nat} : (ob_by X j).testBit i = (decide (i < 8) && X.toBitVec.getLsbD (8 * j + i)) := by
  unfold ob_by
  rw [show 256 = 2 ^ 8 from rfl, Nat.testBit_mod_two_pow, BitVec.testBit_toNat, BitVec.getLsbD_ushiftRight]
theorem ob_byM {X : Int64} {j : Nat} (hj : j < 8) : ((X >>> ((((8 : Int32) * nI j)).toInt64 &&& 63)) &&& (255 : Int64)).toInt32 = nI (ob_by X j) := by
  have e : ((X >>> ((((8 : Int32) * nI j)).toInt64 &&& 63)) &&& (255 : Int64)) = lN (ob_by X j) := by
    apply Int64.toBitVec_inj.mp
    rw [Int64.toBitVec_and]
    have e1 : (X >>> ((((8 : Int32) * nI j)).toInt64 &&& 63)).toBitVec = X.toBitVec.sshiftRight (8 * j) := by
      show X.toBitVec.sshiftRight ((((8 : Int32) * nI j).toInt64 &&& 63).toBitVec.smod 64).toNat = _
      rw [ob_sh8 ⟨j, hj⟩]
    rw [e1]
    apply BitVec.eq_of_getLsbD_eq
    intro i hi
    rw [BitVec.getLsbD_and, show (255 : Int64).toBitVec = BitVec.ofNat 64 255 from rfl]
    show _ = (BitVec.ofNat 64 (ob_by X j)).getLsbD i
    rw [BitVec.getLsbD_ofNat, BitVec.getLsbD_ofNat, ob_byT, BitVec.getLsbD_sshiftRight, show 255 = 2 ^ 8 - 1 from rfl, Nat.testBit_two_pow_sub_one]
    by_cases h8 : i < 8
    · rw [if_pos (by omega)]
      simp [h8, hi, show ¬ 64 ≤ i by omega]
    · simp [h8]
  rw [e, lN_i]
theorem ob_byC {X : Int64} {j : Nat} (hj : j < 8) : vp_nar .byte ((((X).toUInt64 >>> ((((8 : Int32) * nI j)).toInt64.toUInt64 &&& Int64.toUInt64 63)).toInt64).toInt32).toInt8.toInt32 = (nI (ob_by X j)).toInt8.toInt32 := by
  rw [pk_vb]
  congr 1
  apply Int8.toBitVec_inj.mp
  rw [Int32.toBitVec_toInt8, Int32.toBitVec_toInt8, Int64.toBitVec_toInt32]
  have e1 : ((X).toUInt64 >>> ((((8 : Int32) * nI j)).toInt64.toUInt64 &&& Int64.toUInt64 63)).toInt64.toBitVec = X.toBitVec >>> (8 * j) := by
    rw [← ob_sh8u ⟨j, hj⟩]
    exact UInt64.toBitVec_shiftRight _ _
  rw [e1]
  apply BitVec.eq_of_getLsbD_eq
  intro i hi
  rw [BitVec.getLsbD_signExtend, BitVec.getLsbD_signExtend, BitVec.getLsbD_signExtend, if_pos (show i < 32 by omega), if_pos (show i < 64 by omega), if_pos (show i < 32 by omega), BitVec.getLsbD_ushiftRight]
  show _ = (decide (i < 8) && (BitVec.ofNat 32 (ob_by X j)).getLsbD i)
  rw [BitVec.getLsbD_ofNat, ob_byT]
  simp [hi, show i < 32 by omega]
section FE
variable {E : ob_E} {σ : ob_Mem} {X : Int64}
theorem k_append {Q : ob_Mem → Prop} {n L : Nat} (hn1 : 1 ≤ n) (hn : n ≤ 8) (hL : L + n ≤ 500) (hl : σ.1 1 2 = nI L) (h : ∀ σ' : ob_Mem, (∀ i, i ≠ 1 → i ≠ 2 → σ'.1 i = σ.1 i) → (∀ i, i < L → σ'.1 2 i = σ.1 2 i) → (∀ i, i < n → σ'.1 2 (L + i) = (nI (ob_by X (n - 1 - i))).toInt8.toInt32) → σ'.1 1 2 = nI (L + n) → Q σ') : ob_RM shp E oX3_append [.ref 1, .int (nI n), .long X] σ (ob_qV Q) := by
  refine m_X3_append (b_X3_append_0 ?_)
  have := ob_loop0 (T := fun k => ∀ τ : ob_Mem, (∀ i, i ≠ 1 → i ≠ 2 → τ.1 i = σ.1 i) → (∀ i, i < L → τ.1 2 i = σ.1 2 i) → (∀ i, i < k → τ.1 2 (L + i) = (nI (ob_by X (n - 1 - i))).toInt8.toInt32) → τ.1 1 2 = nI (L + k) → ob_RT shp E oX3_append 5 [.ref 1, .int (nI n), .long X, .null, .int (nI (n - k) - 1)] [] τ (ob_qV Q)) (B := n) ?_ ?_ σ (fun _ _ _ => rfl) (fun _ _ => rfl) (fun i hi => by omega) hl
  · exact this
  · intro τ r w1 w2 w3
    rw [Nat.sub_self]
    exact b_X3_append_5 (br_t (by decide) (h τ r w1 w2 w3))
  · intro k hk ih τ r w1 w2 w3
    obtain ⟨j, hj⟩ : ∃ j, n - k = j + 1 := ⟨n - k - 1, by omega⟩
    rw [show n - (k + 1) = j by omega] at ih
    rw [hj, nI_pred]
    refine b_X3_append_5 (br_f (ob_nneg (by omega)) ?_)
    rw [w3]
    refine br_f (fun z => by rw [show (500 : Int32) = nI 500 from rfl, ob_le (by omega) (by omega)] at z; omega) ⟨ob_in (by omega) (by omega), ?_⟩
    rw [ob_byC (by omega), ob_cl (by omega)]
    rintro σ1 rfl
    rw [ob_wI_o (by decide), w3, nI_1, show nI j + (-1) = nI j - 1 from by rw [Int32.sub_eq_add_neg]]
    refine ih _ (fun i a b => by rw [ob_wI_o a, ob_wI_o b]; exact r i a b) (fun i hi => by rw [ob_wI_o (by decide), ob_wI_n (by omega)]; exact w1 i hi) (fun i hi => ?_) ob_wI_s
    rw [ob_wI_o (by decide)]
    by_cases e : i = k
    · subst e
      rw [ob_wI_s, show n - 1 - i = j by omega]
    · rw [ob_wI_n (by omega)]; exact w2 i (by omega)
theorem n_feed {Q : Int32 → ob_Mem → Prop} {n L : Nat} (hn1 : 1 ≤ n) (hn : n ≤ 8) (hL : L + n ≤ 500) (hl : σ.1 53 18 = nI L) (h : ∀ σ' : ob_Mem, (∀ i, i ≠ 53 → i ≠ 66 → σ'.1 i = σ.1 i) → (∀ k, k ≠ 18 → σ'.1 53 k = σ.1 53 k) → (∀ i, i < L → σ'.1 66 i = σ.1 66 i) → (∀ i, i < n → σ'.1 66 (L + i) = nI (ob_by X (n - 1 - i))) → σ'.1 53 18 = nI (L + n) → Q (nI (L + n)) σ') : ob_RT shp E oX9_feed 35 [.ref 53, .int (nI n), .long X, .null, .int (nI n - 1)] [] σ (ob_qI Q) := by
  have := ob_loop0 (T := fun k => ∀ τ : ob_Mem, (∀ i, i ≠ 53 → i ≠ 66 → τ.1 i = σ.1 i) → (∀ k, k ≠ 18 → τ.1 53 k = σ.1 53 k) → (∀ i, i < L → τ.1 66 i = σ.1 66 i) → (∀ i, i < k → τ.1 66 (L + i) = nI (ob_by X (n - 1 - i))) → τ.1 53 18 = nI (L + k) → ob_RT shp E oX9_feed 35 [.ref 53, .int (nI n), .long X, .null, .int (nI (n - k) - 1)] [] τ (ob_qI Q)) (B := n) ?_ ?_ σ (fun _ _ _ => rfl) (fun _ _ => rfl) (fun _ _ => rfl) (fun i hi => by omega) hl
  · exact this
  · intro τ r f w1 w2 w3
    rw [Nat.sub_self]
    refine b_X9_feed_35 (br_t (by decide) ?_)
    rw [w3]
    exact h τ r f w1 w2 w3
  · intro k hk ih τ r f w1 w2 w3
    obtain ⟨j, hj⟩ : ∃ j, n - k = j + 1 := ⟨n - k - 1, by omega⟩
    rw [show n - (k + 1) = j by omega] at ih
    rw [hj, nI_pred]
    refine b_X9_feed_35 (br_f (ob_nneg (by omega)) ?_)
    rw [w3]
    refine ⟨ob_in (by omega) (by omega), ?_⟩
    rw [ob_byM (by omega), ob_cl (by omega)]
    rintro σ1 rfl
    rw [ob_wI_o (by decide), w3, nI_1, show nI j + (-1) = nI j - 1 from by rw [Int32.sub_eq_add_neg]]
    refine ih _ (fun i a b => by rw [ob_wI_o a, ob_wI_o b]; exact r i a b) (fun i hi => by rw [ob_wI_n hi, ob_wI_o (by decide)]; exact f i hi) (fun i hi => by rw [ob_wI_o (by decide), ob_wI_n (by omega)]; exact w1 i hi) (fun i hi => ?_) ob_wI_s
    rw [ob_wI_o (by decide)]
    by_cases e : i = k
    · subst e
      rw [ob_wI_s, show n - 1 - i = j by omega]
    · rw [ob_wI_n (by omega)]; exact w2 i (by omega)
end FE
theorem pr_feed (x : Int32) (X : Int64) : ob_PAIR oX8_feed oX9_feed [.int x, .long X] := by
  intro E c σ hc hR
  have hR1 := hR.mono (Nat.le_succ c)
  obtain ⟨l, s, kp, im, tn, td, hl, hs, hCL, hML, hCS, hMS, hIM, hTD, hTX, hF⟩ := hR
  have hP6 := hl.2.2.1
  have hB8 := hl.2.2.2.1
  have ht : st_t s < 100000000 := by have := hs.1; omega
  by_cases hx : (1 : Int32) ≤ x ∧ x ≤ 8
  · refine m_X8_feed (b_X8_feed_0 (k_out hx (br_t rfl (m_X3_hasRoom (b_X3_hasRoom_0 ?_)))))
    obtain ⟨n, hn1, hn2, rfl⟩ := ob_rng (m := 1) (n := 8) rfl rfl (by omega) hx
    obtain ⟨L, hL, hL1, hL2, hch⟩ := hTX
    rw [hL1, show (500 : Int32) = nI 500 from rfl, ob_sub hL]
    by_cases hr : L + n ≤ 500
    · refine br_f (fun z => by rw [ob_lt (by omega) (by omega)] at z; omega) (ob_bt (by decide) (k_append hn1 hn2 hr hL1 (fun σ1 r1 w1 w2 w3 => ?_)))
      rw [w3]
      refine m_X9_feed (b_X9_feed_0 (n_in1 (a := 1) (b := 8) (by decide) (by decide) hx (ob_bt (by decide) ?_)))
      have hL3 : σ1.1 53 18 = nI L := by rw [r1 53 (by decide) (by decide)]; exact hL2
      rw [hL3, show (500 : Int32) = nI 500 from rfl, nI_add]
      refine br_t ((ob_le (by omega) (by omega)).mpr hr) (n_feed hn1 hn2 hr hL3 (fun σ2 r2 f2 u1 u2 u3 => ⟨rfl, ?_⟩))
      have rr : ∀ i, i ≠ 1 → i ≠ 2 → i ≠ 53 → i ≠ 66 → σ2.1 i = σ.1 i := fun i a b c d => by rw [r2 i c d, r1 i a b]
      have f53 : ∀ k, k ≠ 18 → σ2.1 53 k = σ.1 53 k := fun k hk => by rw [f2 k hk, r1 53 (by decide) (by decide)]
      refine ⟨l, s, kp, im, tn, td, hl, hs.mono (Nat.le_succ c), ?_, ?_, ?_, ?_, ?_, ?_, ?_, ?_⟩
      · exact hCL.to (fun i a b => rr i (by omega) (by omega) (by omega) (by omega)) (fun k hk => by rw [rr 10 (by decide) (by decide) (by decide) (by decide)])
      · exact hML.to (fun i a b => rr i (by omega) (by omega) (by omega) (by omega)) (fun k hk => f53 k (by omega))
      · exact hCS.to (fun i a b => rr i (by omega) (by omega) (by omega) (by omega)) (fun k hk => by rw [rr 17 (by decide) (by decide) (by decide) (by decide)])
      · exact hMS.to (fun i a b => rr i (by omega) (by omega) (by omega) (by omega)) (fun k hk => f53 k (by omega))
      · exact (hIM.mono (Nat.le_succ c)).to (fun i hi => rr i (by omega) (by omega) (by omega) (by omega)) (fun i k hk => by rw [rr i (by omega) (by omega) (by omega) (by omega)]) (by rw [rr 0 (by decide) (by decide) (by decide) (by decide)])
      · exact hTD.to (fun i hi => rr i (by omega) (by omega) (by omega) (by omega)) (by rw [rr 35 (by decide) (by decide) (by decide) (by decide)]) (f53 42 (by decide))
      · refine ⟨L + n, hr, by rw [r2 1 (by decide) (by decide)]; exact w3, u3, fun i hi => ?_⟩
        by_cases h1 : i < L
        · obtain ⟨ch, c1, c2, c3⟩ := hch i h1
          exact ⟨ch, c1, by rw [u1 i h1, r1 66 (by decide) (by decide)]; exact c2, by rw [r2 2 (by decide) (by decide), w1 i h1]; exact c3⟩
        · obtain ⟨d, rfl⟩ : ∃ d, i = L + d := ⟨i - L, by omega⟩
          exact ⟨ob_by X (n - 1 - d), Nat.mod_lt _ (by decide), u2 d (by omega), by rw [r2 2 (by decide) (by decide)]; exact w2 d (by omega)⟩
      · rw [rr 0 (by decide) (by decide) (by decide) (by decide), f53 19 (by decide)]; exact hF
    · refine br_t ((ob_lt (by omega) (by omega)).mpr (by omega)) (ob_bf rfl (m_X9_feed (b_X9_feed_0 (n_in1 (a := 1) (b := 8) (by decide) (by decide) hx (ob_bt (by decide) ?_)))))
      rw [hL2, show (500 : Int32) = nI 500 from rfl, nI_add]
      exact br_f (fun z => hr ((ob_le (by omega) (by omega)).mp z)) ⟨rfl, hR1⟩
  · exact m_X8_feed (b_X8_feed_0 (k_out' hx (br_f (by decide) (m_X9_feed (b_X9_feed_0 (n_in0 (a := 1) (b := 8) (by decide) (by decide) hx (ob_bf rfl ⟨rfl, hR1⟩)))))))
