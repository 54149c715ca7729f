/-! tell, keep, goBack -/
section KG
variable {E : ob_E} {σ : ob_Mem} {l : LdT} {s : StT}
theorem k_add {Q : ob_Mem → Prop} {tn : Nat} {x y z : Int32} (h1 : σ.1 35 3 = nI tn) (h20 : tn < 20) (h : ∀ σ' : ob_Mem, (∀ i, ¬ (35 ≤ i ∧ i ≤ 38) → σ'.1 i = σ.1 i) → σ'.1 35 3 = nI (tn + 1) → (∀ i, i ≠ tn → σ'.1 36 i = σ.1 36 i ∧ σ'.1 37 i = σ.1 37 i ∧ σ'.1 38 i = σ.1 38 i) → σ'.1 36 tn = x → σ'.1 37 tn = y → σ'.1 38 tn = z → Q σ') : ob_RM shp E oX7_add [.ref 35, .int x, .int y, .int z] σ (ob_qV Q) := by
  have hin : vp_in (nI tn) 20 := ob_in (by omega) (by omega)
  refine m_X7_add (b_X7_add_0 ?_)
  rw [ob_wI_o (i := 36) (a := 35) (by decide), h1, ob_cl (by omega)]
  refine br_f (fun q => by rw [show (20 : Int32) = nI 20 from rfl, ob_le (by omega) (by omega)] at q; omega) ⟨hin, hin, ?_⟩
  rintro σ1 rfl
  rw [ob_wI_o (i := 37) (a := 35) (by decide), ob_wI_o (i := 36) (a := 35) (by decide), h1, ob_cl (by omega), ob_wI_o (i := 38) (a := 35) (by decide), ob_wI_o (i := 37) (a := 35) (by decide), ob_wI_o (i := 36) (a := 35) (by decide), h1, nI_1]
  refine ⟨hin, h _ (fun i hi => ?_) ob_wI_s (fun i hi => ⟨?_, ?_, ?_⟩) ?_ ?_ ?_⟩
  · rw [ob_wI_o (by omega), ob_wI_o (by omega), ob_wI_o (by omega), ob_wI_o (by omega)]
  · rw [ob_wI_o (by decide), ob_wI_o (by decide), ob_wI_o (by decide), ob_wI_n hi]
  · rw [ob_wI_o (by decide), ob_wI_o (by decide), ob_wI_n hi, ob_wI_o (by decide)]
  · rw [ob_wI_o (by decide), ob_wI_n hi, ob_wI_o (by decide), ob_wI_o (by decide)]
  · rw [ob_wI_o (by decide), ob_wI_o (by decide), ob_wI_o (by decide), ob_wI_s]
  · rw [ob_wI_o (by decide), ob_wI_o (by decide), ob_wI_s]
  · rw [ob_wI_o (by decide), ob_wI_s]
theorem n_keep {Q : Int32 → ob_Mem → Prop} {i : Nat} (hi : i < 2) (hl : ob_lok l) (hMS : pi_MS σ.1 l s) (h : ∀ σ' : ob_Mem, (∀ r, r ≠ 82 → r ≠ 83 → σ'.1 r = σ.1 r) → (∀ m, ¬ (50 * i ≤ m ∧ m < 50 * i + 50) → σ'.1 82 m = σ.1 82 m) → (∀ m, m ≠ i → σ'.1 83 m = σ.1 83 m) → σ'.1 83 i = 1 → pi_MI σ'.1 (50 * i) l s → Q 1 σ') : ob_RM shp E oX9_keep [.ref 53, .int (nI i)] σ (ob_qI Q) := by
  have hP6 := hl.2.2.1
  have hB8 := hl.2.2.2.1
  have hr : (0 : Int32) ≤ nI i ∧ nI i ≤ 1 := ⟨ob_pos (by omega), (ob_le (b := 1) (by omega) (by omega)).mpr (by omega)⟩
  refine m_X9_keep (b_X9_keep_0 (n_in1 (a := 0) (b := 1) (by decide) (by decide) hr (ob_bt (by decide) ?_)))
  rw [show (50 : Int32) = nI 50 from rfl, pk_mul]
  have b1 : vp_nar .boolean 1 = 1 := by decide
  have L : ∀ n : Nat, n ≤ 49 → vp_in (nI (50 * i + n)) 100 ∧ (nI (50 * i + n)).toNatClampNeg = 50 * i + n := fun n hn => ⟨ob_in (by omega) (by omega), ob_cl (by omega)⟩
  have two : ∀ τ : ob_Mem, (∀ r, r ≠ 82 → τ.1 r = σ.1 r) → (∀ m, ¬ (50 * i ≤ m ∧ m < 50 * i + 50) → τ.1 82 m = σ.1 82 m) → (∀ q, q < 6 → τ.1 82 (50 * i + q) = σ.1 60 q ∧ τ.1 82 (50 * i + 6 + q) = σ.1 61 q ∧ τ.1 82 (50 * i + 12 + q) = if σ.1 62 q = 0 then 0 else 1) → ob_RT shp E oX9_keep 90 [.ref 53, .int (nI i), .int (nI (50 * i)), .int (nI 0)] [] τ (ob_qI Q) := by
    intro τ r f g
    refine ob_loop0 (T := fun j => ∀ τ : ob_Mem, (∀ r, r ≠ 82 → τ.1 r = σ.1 r) → (∀ m, ¬ (50 * i ≤ m ∧ m < 50 * i + 50) → τ.1 82 m = σ.1 82 m) → (∀ q, q < 6 → τ.1 82 (50 * i + q) = σ.1 60 q ∧ τ.1 82 (50 * i + 6 + q) = σ.1 61 q ∧ τ.1 82 (50 * i + 12 + q) = if σ.1 62 q = 0 then 0 else 1) → (∀ q, q < j → τ.1 82 (50 * i + 18 + q) = σ.1 63 q ∧ τ.1 82 (50 * i + 26 + q) = σ.1 64 q ∧ τ.1 82 (50 * i + 34 + q) = σ.1 65 q) → ob_RT shp E oX9_keep 90 [.ref 53, .int (nI i), .int (nI (50 * i)), .int (nI j)] [] τ (ob_qI Q)) (B := 8) ?_ ?_ τ r f g (fun q hq => by omega)
    · intro τ r f g w
      refine b_X9_keep_90 (br_t (by decide) ?_)
      rw [show (42 : Int32) = nI 42 from rfl, show (43 : Int32) = nI 43 from rfl, nI_add, nI_add, (L 42 (by omega)).2, (L 43 (by omega)).2, ob_wI_o (i := 82) (a := 53) (by decide), r 53 (by decide)]
      refine ⟨(L 42 (by omega)).1, (L 43 (by omega)).1, ?_⟩
      rintro σ1 rfl
      rw [ob_cl (by omega), b1]
      have keep : ∀ m, m ≠ 50 * i + 42 → m ≠ 50 * i + 43 → (ob_wI (ob_wI (ob_wI τ 82 (50 * i + 42) (σ.1 53 9)) 82 (50 * i + 43) (σ.1 53 16)) 83 i 1).1 82 m = τ.1 82 m := fun m a b => by rw [ob_wI_o (by decide), ob_wI_n b, ob_wI_n a]
      refine ⟨ob_in hi (by omega), h _ (fun k a b => ?_) (fun m hm => ?_) (fun m hm => ?_) ob_wI_s ⟨?_, ?_, fun p hp => ⟨?_, ?_, ?_⟩, fun b hb => ⟨?_, ?_, ?_⟩⟩⟩
      · rw [ob_wI_o b, ob_wI_o a, ob_wI_o a]; exact r k a
      · rw [keep m (by omega) (by omega)]; exact f m hm
      · rw [ob_wI_n hm, ob_wI_o (by decide), ob_wI_o (by decide), r 83 (by decide)]
      · rw [ob_wI_o (by decide), ob_wI_n (by omega), ob_wI_s]; exact hMS.1
      · rw [ob_wI_o (by decide), ob_wI_s]; exact hMS.2.1
      · rw [keep _ (by omega) (by omega), (g p (by omega)).1]; exact (hMS.2.2.1 p hp).1
      · rw [keep _ (by omega) (by omega), (g p (by omega)).2.1]; exact (hMS.2.2.1 p hp).2.1
      · rw [keep _ (by omega) (by omega), (g p (by omega)).2.2, (hMS.2.2.1 p hp).2.2]
        cases st_v s p <;> rfl
      · rw [keep _ (by omega) (by omega), (w b (by omega)).1]; exact (hMS.2.2.2 b hb).1
      · rw [keep _ (by omega) (by omega), (w b (by omega)).2.1]; exact (hMS.2.2.2 b hb).2.1
      · rw [keep _ (by omega) (by omega), (w b (by omega)).2.2]; exact (hMS.2.2.2 b hb).2.2
    · intro j hj ih τ r f g w
      have hin : vp_in (nI j) 8 := ob_in (by omega) (by omega)
      refine b_X9_keep_90 (br_f (fun q => by rw [show (8 : Int32) = nI 8 from rfl, ob_le (by omega) (by omega)] at q; omega) ?_)
      rw [show (18 : Int32) = nI 18 from rfl, show (26 : Int32) = nI 26 from rfl, show (34 : Int32) = nI 34 from rfl, nI_add, nI_add, nI_add, nI_add, nI_add, nI_add, Nat.add_assoc, Nat.add_assoc, Nat.add_assoc, (L (18 + j) (by omega)).2, (L (26 + j) (by omega)).2, (L (34 + j) (by omega)).2, ob_cl (n := j) (by omega), nI_1]
      refine ⟨hin, (L (18 + j) (by omega)).1, ?_⟩
      rintro σ2 rfl
      refine ⟨hin, (L (26 + j) (by omega)).1, ?_⟩
      rintro σ3 rfl
      refine ⟨hin, (L (34 + j) (by omega)).1, ?_⟩
      rintro σ4 rfl
      rw [ob_wI_o (i := 82) (a := 64) (by decide), ob_wI_o (i := 82) (a := 65) (by decide), ob_wI_o (i := 82) (a := 65) (by decide), r 63 (by decide), r 64 (by decide), r 65 (by decide)]
      have keep : ∀ m, m ≠ 50 * i + (18 + j) → m ≠ 50 * i + (26 + j) → m ≠ 50 * i + (34 + j) → (ob_wI (ob_wI (ob_wI τ 82 (50 * i + (18 + j)) (σ.1 63 j)) 82 (50 * i + (26 + j)) (σ.1 64 j)) 82 (50 * i + (34 + j)) (σ.1 65 j)).1 82 m = τ.1 82 m := fun m a b c => by rw [ob_wI_n c, ob_wI_n b, ob_wI_n a]
      refine ih _ (fun k a => ?_) (fun m hm => ?_) (fun q hq => ?_) (fun q hq => ?_)
      · rw [ob_wI_o a, ob_wI_o a, ob_wI_o a]; exact r k a
      · rw [keep m (by omega) (by omega) (by omega)]; exact f m hm
      · rw [keep _ (by omega) (by omega) (by omega), keep _ (by omega) (by omega) (by omega), keep _ (by omega) (by omega) (by omega)]; exact g q hq
      · by_cases hqj : q = j
        · subst hqj
          rw [Nat.add_assoc, Nat.add_assoc, Nat.add_assoc]
          refine ⟨?_, ?_, ob_wI_s⟩
          · rw [ob_wI_n (by omega), ob_wI_n (by omega), ob_wI_s]
          · rw [ob_wI_n (by omega), ob_wI_s]
        · rw [keep _ (by omega) (by omega) (by omega), keep _ (by omega) (by omega) (by omega), keep _ (by omega) (by omega) (by omega)]
          exact w q (by omega)
  refine ob_loop0 (T := fun j => ∀ τ : ob_Mem, (∀ r, r ≠ 82 → τ.1 r = σ.1 r) → (∀ m, ¬ (50 * i ≤ m ∧ m < 50 * i + 50) → τ.1 82 m = σ.1 82 m) → (∀ q, q < j → τ.1 82 (50 * i + q) = σ.1 60 q ∧ τ.1 82 (50 * i + 6 + q) = σ.1 61 q ∧ τ.1 82 (50 * i + 12 + q) = if σ.1 62 q = 0 then 0 else 1) → ob_RT shp E oX9_keep 20 [.ref 53, .int (nI i), .int (nI (50 * i)), .int (nI j)] [] τ (ob_qI Q)) (B := 6) ?_ ?_ σ (fun _ _ => rfl) (fun _ _ => rfl) (fun q hq => by omega)
  · intro τ r f g
    exact b_X9_keep_20 (br_t (by decide) (two τ r f g))
  · intro j hj ih τ r f g
    have hin : vp_in (nI j) 6 := ob_in (by omega) (by omega)
    refine b_X9_keep_20 (br_f (fun q => by rw [show (6 : Int32) = nI 6 from rfl, ob_le (by omega) (by omega)] at q; omega) ?_)
    rw [show (6 : Int32) = nI 6 from rfl, show (12 : Int32) = nI 12 from rfl, nI_add, nI_add, nI_add, nI_add, nI_add, Nat.add_assoc, Nat.add_assoc, (L j (by omega)).2, (L (6 + j) (by omega)).2, (L (12 + j) (by omega)).2, ob_cl (n := j) (by omega), nI_1]
    refine ⟨hin, (L j (by omega)).1, hin, (L (6 + j) (by omega)).1, ?_⟩
    rintro σ1 rfl
    rw [ob_wI_o (i := 82) (a := 61) (by decide), ob_wI_o (i := 82) (a := 62) (by decide), ob_wI_o (i := 82) (a := 62) (by decide), r 60 (by decide), r 61 (by decide), r 62 (by decide)]
    refine ⟨hin, ?_⟩
    have fin : ∀ v : Int32, v = (if σ.1 62 j = 0 then 0 else 1) → ob_RT shp E oX9_keep 20 [.ref 53, .int (nI i), .int (nI (50 * i)), .int (nI (j + 1))] [] (ob_wI (ob_wI (ob_wI τ 82 (50 * i + j) (σ.1 60 j)) 82 (50 * i + (6 + j)) (σ.1 61 j)) 82 (50 * i + (12 + j)) v) (ob_qI Q) := by
      intro v hv
      have keep : ∀ m, m ≠ 50 * i + j → m ≠ 50 * i + (6 + j) → m ≠ 50 * i + (12 + j) → (ob_wI (ob_wI (ob_wI τ 82 (50 * i + j) (σ.1 60 j)) 82 (50 * i + (6 + j)) (σ.1 61 j)) 82 (50 * i + (12 + j)) v).1 82 m = τ.1 82 m := fun m a b c => by rw [ob_wI_n c, ob_wI_n b, ob_wI_n a]
      refine ih _ (fun k a => ?_) (fun m hm => ?_) (fun q hq => ?_)
      · rw [ob_wI_o a, ob_wI_o a, ob_wI_o a]; exact r k a
      · rw [keep m (by omega) (by omega) (by omega)]; exact f m hm
      · by_cases hqj : q = j
        · subst hqj
          rw [Nat.add_assoc, Nat.add_assoc]
          refine ⟨?_, ?_, ?_⟩
          · rw [ob_wI_n (by omega), ob_wI_n (by omega), ob_wI_s]
          · rw [ob_wI_n (by omega), ob_wI_s]
          · rw [ob_wI_s]; exact hv
        · rw [keep _ (by omega) (by omega) (by omega), keep _ (by omega) (by omega) (by omega), keep _ (by omega) (by omega) (by omega)]
          exact g q (by omega)
    by_cases hz : σ.1 62 j = 0
    · exact br_t hz ⟨(L (12 + j) (by omega)).1, fin 0 (by rw [if_pos hz])⟩
    · exact br_f hz ⟨(L (12 + j) (by omega)).1, fin 1 (by rw [if_neg hz])⟩
theorem n_goBack {Q : Int32 → ob_Mem → Prop} {i : Nat} (hi : i < 2) (hl : ob_lok l) (hk : ¬ σ.1 83 i = 0) (hMI : pi_MI σ.1 (50 * i) l s) (h : ∀ σ' : ob_Mem, (∀ r, r ≠ 53 → ¬ (60 ≤ r ∧ r ≤ 65) → σ'.1 r = σ.1 r) → (∀ k, k ≠ 9 → k ≠ 16 → σ'.1 53 k = σ.1 53 k) → pi_MS σ'.1 l s → Q 1 σ') : ob_RM shp E oX9_goBack [.ref 53, .int (nI i)] σ (ob_qI Q) := by
  have hP6 := hl.2.2.1
  have hB8 := hl.2.2.2.1
  have hr : (0 : Int32) ≤ nI i ∧ nI i ≤ 1 := ⟨ob_pos (by omega), (ob_le (b := 1) (by omega) (by omega)).mpr (by omega)⟩
  refine m_X9_goBack (b_X9_goBack_0 (n_in1 (a := 0) (b := 1) (by decide) (by decide) hr (ob_bt (by decide) ⟨ob_in hi (by omega), ?_⟩)))
  rw [ob_cl (by omega), show (50 : Int32) = nI 50 from rfl, pk_mul]
  refine ob_bt hk ?_
  have b0 : vp_nar .boolean 0 = 0 := by decide
  have b1 : vp_nar .boolean 1 = 1 := by decide
  have L : ∀ n : Nat, n ≤ 49 → vp_in (nI (50 * i + n)) 100 ∧ (nI (50 * i + n)).toNatClampNeg = 50 * i + n := fun n hn => ⟨ob_in (by omega) (by omega), ob_cl (by omega)⟩
  have two : ∀ τ : ob_Mem, (∀ r, ¬ (60 ≤ r ∧ r ≤ 65) → τ.1 r = σ.1 r) → (∀ q, q < 6 → τ.1 60 q = σ.1 82 (50 * i + q) ∧ τ.1 61 q = σ.1 82 (50 * i + 6 + q) ∧ τ.1 62 q = if σ.1 82 (50 * i + 12 + q) = 1 then 1 else 0) → ob_RT shp E oX9_goBack 104 [.ref 53, .int (nI i), .int (nI (50 * i)), .int (nI 0)] [] τ (ob_qI Q) := by
    intro τ r g
    refine ob_loop0 (T := fun j => ∀ τ : ob_Mem, (∀ r, ¬ (60 ≤ r ∧ r ≤ 65) → τ.1 r = σ.1 r) → (∀ q, q < 6 → τ.1 60 q = σ.1 82 (50 * i + q) ∧ τ.1 61 q = σ.1 82 (50 * i + 6 + q) ∧ τ.1 62 q = if σ.1 82 (50 * i + 12 + q) = 1 then 1 else 0) → (∀ q, q < j → τ.1 63 q = σ.1 82 (50 * i + 18 + q) ∧ τ.1 64 q = σ.1 82 (50 * i + 26 + q) ∧ τ.1 65 q = σ.1 82 (50 * i + 34 + q)) → ob_RT shp E oX9_goBack 104 [.ref 53, .int (nI i), .int (nI (50 * i)), .int (nI j)] [] τ (ob_qI Q)) (B := 8) ?_ ?_ τ r g (fun q hq => by omega)
    · intro τ r g w
      refine b_X9_goBack_104 (br_t (by decide) ?_)
      rw [show (42 : Int32) = nI 42 from rfl, show (43 : Int32) = nI 43 from rfl, nI_add, nI_add, (L 42 (by omega)).2, (L 43 (by omega)).2, ob_wI_o (i := 53) (a := 82) (by decide), r 82 (by decide)]
      refine ⟨(L 42 (by omega)).1, (L 43 (by omega)).1, ?_⟩
      rintro σ1 rfl
      refine h _ (fun k a b => ?_) (fun k a b => ?_) ⟨?_, ob_wI_s.trans hMI.2.1, fun p hp => ⟨?_, ?_, ?_⟩, fun b hb => ⟨?_, ?_, ?_⟩⟩
      · rw [ob_wI_o a, ob_wI_o a]; exact r k b
      · rw [ob_wI_n b, ob_wI_n a, r 53 (by decide)]
      · rw [ob_wI_n (by decide), ob_wI_s]; exact hMI.1
      · rw [ob_wI_o (by decide), ob_wI_o (by decide), (g p (by omega)).1]; exact (hMI.2.2.1 p hp).1
      · rw [ob_wI_o (by decide), ob_wI_o (by decide), (g p (by omega)).2.1]; exact (hMI.2.2.1 p hp).2.1
      · rw [ob_wI_o (by decide), ob_wI_o (by decide), (g p (by omega)).2.2, (hMI.2.2.1 p hp).2.2]
        cases st_v s p <;> rfl
      · rw [ob_wI_o (by decide), ob_wI_o (by decide), (w b (by omega)).1]; exact (hMI.2.2.2 b hb).1
      · rw [ob_wI_o (by decide), ob_wI_o (by decide), (w b (by omega)).2.1]; exact (hMI.2.2.2 b hb).2.1
      · rw [ob_wI_o (by decide), ob_wI_o (by decide), (w b (by omega)).2.2]; exact (hMI.2.2.2 b hb).2.2
    · intro j hj ih τ r g w
      have hin : vp_in (nI j) 8 := ob_in (by omega) (by omega)
      refine b_X9_goBack_104 (br_f (fun q => by rw [show (8 : Int32) = nI 8 from rfl, ob_le (by omega) (by omega)] at q; omega) ?_)
      rw [show (18 : Int32) = nI 18 from rfl, show (26 : Int32) = nI 26 from rfl, show (34 : Int32) = nI 34 from rfl, nI_add, nI_add, nI_add, nI_add, nI_add, nI_add, Nat.add_assoc, Nat.add_assoc, Nat.add_assoc, (L (18 + j) (by omega)).2, (L (26 + j) (by omega)).2, (L (34 + j) (by omega)).2, ob_cl (n := j) (by omega), nI_1, r 82 (by decide)]
      refine ⟨(L (18 + j) (by omega)).1, hin, ?_⟩
      rintro σ2 rfl
      refine ⟨(L (26 + j) (by omega)).1, hin, ?_⟩
      rintro σ3 rfl
      refine ⟨(L (34 + j) (by omega)).1, hin, ?_⟩
      rintro σ4 rfl
      rw [ob_wI_o (i := 63) (a := 82) (by decide), ob_wI_o (i := 64) (a := 82) (by decide), ob_wI_o (i := 63) (a := 82) (by decide), r 82 (by decide)]
      refine ih _ (fun k a => ?_) (fun q hq => ?_) (fun q hq => ?_)
      · rw [ob_wI_o (by omega), ob_wI_o (by omega), ob_wI_o (by omega)]; exact r k a
      · rw [ob_wI_o (i := 65) (a := 60) (by decide), ob_wI_o (i := 64) (a := 60) (by decide), ob_wI_o (i := 63) (a := 60) (by decide), ob_wI_o (i := 65) (a := 61) (by decide), ob_wI_o (i := 64) (a := 61) (by decide), ob_wI_o (i := 63) (a := 61) (by decide), ob_wI_o (i := 65) (a := 62) (by decide), ob_wI_o (i := 64) (a := 62) (by decide), ob_wI_o (i := 63) (a := 62) (by decide)]; exact g q hq
      · rw [ob_wI_o (i := 65) (a := 63) (by decide), ob_wI_o (i := 64) (a := 63) (by decide), ob_wI_o (i := 65) (a := 64) (by decide)]
        by_cases hqj : q = j
        · subst hqj
          rw [ob_wI_s, ob_wI_s, ob_wI_s, Nat.add_assoc, Nat.add_assoc, Nat.add_assoc]
          exact ⟨rfl, rfl, rfl⟩
        · rw [ob_wI_n hqj, ob_wI_n hqj, ob_wI_n hqj, ob_wI_o (i := 63) (a := 64) (by decide), ob_wI_o (i := 64) (a := 65) (by decide), ob_wI_o (i := 63) (a := 65) (by decide)]
          exact w q (by omega)
  refine ob_loop0 (T := fun j => ∀ τ : ob_Mem, (∀ r, ¬ (60 ≤ r ∧ r ≤ 65) → τ.1 r = σ.1 r) → (∀ q, q < j → τ.1 60 q = σ.1 82 (50 * i + q) ∧ τ.1 61 q = σ.1 82 (50 * i + 6 + q) ∧ τ.1 62 q = if σ.1 82 (50 * i + 12 + q) = 1 then 1 else 0) → ob_RT shp E oX9_goBack 33 [.ref 53, .int (nI i), .int (nI (50 * i)), .int (nI j)] [] τ (ob_qI Q)) (B := 6) ?_ ?_ σ (fun _ _ => rfl) (fun q hq => by omega)
  · intro τ r g
    exact b_X9_goBack_33 (br_t (by decide) (two τ r g))
  · intro j hj ih τ r g
    have hin : vp_in (nI j) 6 := ob_in (by omega) (by omega)
    refine b_X9_goBack_33 (br_f (fun q => by rw [show (6 : Int32) = nI 6 from rfl, ob_le (by omega) (by omega)] at q; omega) ?_)
    rw [show (6 : Int32) = nI 6 from rfl, show (12 : Int32) = nI 12 from rfl, nI_add, nI_add, nI_add, nI_add, nI_add, Nat.add_assoc, Nat.add_assoc, (L j (by omega)).2, (L (6 + j) (by omega)).2, (L (12 + j) (by omega)).2, ob_cl (n := j) (by omega), nI_1, ob_wI_o (i := 60) (a := 82) (by decide), r 82 (by decide)]
    refine ⟨(L j (by omega)).1, hin, (L (6 + j) (by omega)).1, hin, ?_⟩
    rintro σ1 rfl
    rw [ob_wI_o (i := 61) (a := 82) (by decide), ob_wI_o (i := 60) (a := 82) (by decide), r 82 (by decide), b0, b1]
    refine ⟨(L (12 + j) (by omega)).1, ?_⟩
    have fin : ∀ v : Int32, v = (if σ.1 82 (50 * i + (12 + j)) = 1 then 1 else 0) → ob_RT shp E oX9_goBack 33 [.ref 53, .int (nI i), .int (nI (50 * i)), .int (nI (j + 1))] [] (ob_wI (ob_wI (ob_wI τ 60 j (σ.1 82 (50 * i + j))) 61 j (σ.1 82 (50 * i + (6 + j)))) 62 j v) (ob_qI Q) := by
      intro v hv
      refine ih _ (fun k a => ?_) (fun q hq => ?_)
      · rw [ob_wI_o (by omega), ob_wI_o (by omega), ob_wI_o (by omega)]; exact r k a
      · rw [ob_wI_o (i := 62) (a := 60) (by decide), ob_wI_o (i := 61) (a := 60) (by decide), ob_wI_o (i := 62) (a := 61) (by decide)]
        by_cases hqj : q = j
        · subst hqj
          rw [ob_wI_s, ob_wI_s, ob_wI_s, Nat.add_assoc, Nat.add_assoc]
          exact ⟨rfl, rfl, hv⟩
        · rw [ob_wI_n hqj, ob_wI_n hqj, ob_wI_n hqj, ob_wI_o (i := 60) (a := 61) (by decide), ob_wI_o (i := 61) (a := 62) (by decide), ob_wI_o (i := 60) (a := 62) (by decide)]
          exact g q (by omega)
    by_cases hz : σ.1 82 (50 * i + (12 + j)) = 1
    · exact ob_bf hz ⟨hin, fin 1 (by rw [if_pos hz])⟩
    · exact ob_bt hz ⟨hin, fin 0 (by rw [if_neg hz])⟩
theorem ob_sf2_set : ∀ (a b : Bool) (i : Fin 2), ob_sf (ob_t8 a b false false false false false false) 2 ||| ((1 : Int32) <<< (nI i.val &&& 31)) = ob_sf (ob_t8 (a || decide (i.val = 0)) (b || decide (i.val = 1)) false false false false false false) 2 := by decide +kernel
theorem ob_sf_set {kp : Nat → Bool} {i : Nat} (hi : i < 2) : ob_sf kp 2 ||| (1 <<< (nI i &&& 31)) = ob_sf (fun j => if j = i then true else kp j) 2 := by
  have e : ob_sf kp 2 = ob_sf (ob_t8 (kp 0) (kp 1) false false false false false false) 2 := by
    apply ob_sf_congr
    intro j hj
    match j, hj with
    | 0, _ => rfl
    | 1, _ => rfl
    | k + 2, h => omega
  have h := ob_sf2_set (kp 0) (kp 1) ⟨i, hi⟩
  rw [e]
  refine h.trans ?_
  apply ob_sf_congr
  intro j hj
  match i, hi, j, hj with
  | 0, _, 0, _ => simp [ob_t8]
  | 0, _, 1, _ => simp [ob_t8]
  | 1, _, 0, _ => simp [ob_t8]
  | 1, _, 1, _ => simp [ob_t8]
  | k + 2, h, _, _ => omega
  | _, _, k + 2, h => omega
end KG
theorem pr_tell (x z y : Int32) : ob_PAIR oX8_tell oX9_tell [.int x, .int z, .int y] := by
  intro E c σ hc hR
  have hR1 := hR.mono (Nat.le_succ c)
  obtain ⟨l, s, kp, im, tn, td, hl, hs, hCL, hML, hCS, hMS, hIM, hTD, hTX, hF⟩ := hR
  have hP6 := hl.2.2.1
  have hB8 := hl.2.2.2.1
  have ht : st_t s < 100000000 := by have := hs.1; omega
  obtain ⟨h20, t1, t2, t3⟩ := id hTD
  by_cases hx : ∃ j, j < la_P l ∧ x = nI j
  · obtain ⟨p, hp, rfl⟩ := hx
    refine m_X8_tell (b_X8_tell_0 (k_hasP1 hCL.2.1 hP6 hp (ob_bt (by decide) ?_)))
    by_cases hz : (0 : Int32) ≤ z ∧ z ≤ 9999
    · obtain ⟨n, -, hn, rfl⟩ := ob_rng (m := 0) (n := 9999) rfl rfl (by omega) hz
      refine k_out hz (ob_bf rfl ?_)
      by_cases hy : (0 : Int32) ≤ y ∧ y ≤ 999
      · refine k_out hy (br_t rfl ?_)
        have mo : ∀ {τ : ob_Mem} {Q : Int32 → ob_Mem → Prop}, pi_ML τ.1 l → ((¬ (τ.1 53 42) = (20 : Int32) → (vp_in (τ.1 53 42) 20 ∧ (vp_in ((ob_wI τ 79 ((τ.1 53 42)).toNatClampNeg (nI p)).1 53 42) 20 ∧ (∀ σ7, σ7 = (ob_wI (ob_wI τ 79 ((τ.1 53 42)).toNatClampNeg (nI p)) 80 (((ob_wI τ 79 ((τ.1 53 42)).toNatClampNeg (nI p)).1 53 42)).toNatClampNeg (nI n)) → (vp_in (σ7.1 53 42) 20 ∧ (∀ σ8, σ8 = (ob_wI (ob_wI σ7 81 ((σ7.1 53 42)).toNatClampNeg y) 53 42 (((ob_wI σ7 81 ((σ7.1 53 42)).toNatClampNeg y).1 53 42) + (1 : Int32))) → Q (σ8.1 53 42) σ8)))))) ∧ ((τ.1 53 42) = (20 : Int32) → Q (-1000000004 : Int32) τ)) → ob_RM shp E oX9_tell [.ref 53, .int (nI p), .int (nI n), .int y] τ (ob_qI Q) := fun hML k => m_X9_tell (b_X9_tell_0 (n_isP1 hML.2.1 hP6 hp (ob_bt (by decide) (n_in1 (a := 0) (b := 9999) (by decide) (by decide) hz (br_f (by decide) (n_in1 (a := 0) (b := 999) (by decide) (by decide) hy (ob_bt (by decide) k)))))))
        rw [t1]
        by_cases hf : tn < 20
        · refine br_t ((ob_lt (b := 20) (by omega) (by omega)).mpr hf) (k_add t1 hf (fun σ1 r1 a1 a2 a3 a4 a5 => ?_))
          rw [a1]
          have hML1 : pi_ML σ1.1 l := hML.to (fun i a b => r1 i (by omega)) (fun k hk => by rw [r1 53 (by omega)])
          refine mo hML1 ?_
          have e0 : σ1.1 53 42 = nI tn := by rw [r1 53 (by omega)]; exact t2
          have hin : vp_in (nI tn) 20 := ob_in (by omega) (by omega)
          rw [ob_wI_o (i := 79) (a := 53) (by decide), e0, ob_cl (by omega)]
          refine ob_bt (fun q => by rw [show (20 : Int32) = nI 20 from rfl, ob_eq (by omega) (by omega)] at q; omega) ⟨hin, hin, ?_⟩
          rintro σ7 rfl
          rw [ob_wI_o (i := 80) (a := 53) (by decide), ob_wI_o (i := 79) (a := 53) (by decide), e0, ob_cl (by omega), ob_wI_o (i := 81) (a := 53) (by decide), ob_wI_o (i := 80) (a := 53) (by decide), ob_wI_o (i := 79) (a := 53) (by decide), e0, nI_1]
          refine ⟨hin, ?_⟩
          rintro σ8 rfl
          refine ⟨ob_wI_s.symm, ?_⟩
          have r : ∀ i, ¬ (35 ≤ i ∧ i ≤ 38) → i ≠ 53 → ¬ (79 ≤ i ∧ i ≤ 81) → (ob_wI (ob_wI (ob_wI (ob_wI σ1 79 tn (nI p)) 80 tn (nI n)) 81 tn y) 53 42 (nI (tn + 1))).1 i = σ.1 i := fun i a b c => by rw [ob_wI_o b, ob_wI_o (by omega), ob_wI_o (by omega), ob_wI_o (by omega), r1 i a]
          have f : ∀ k, k ≠ 42 → (ob_wI (ob_wI (ob_wI (ob_wI σ1 79 tn (nI p)) 80 tn (nI n)) 81 tn y) 53 42 (nI (tn + 1))).1 53 k = σ.1 53 k := fun k a => by rw [ob_wI_n a, ob_wI_o (by decide), ob_wI_o (by decide), ob_wI_o (by decide), r1 53 (by omega)]
          refine ⟨l, s, kp, im, tn + 1, (fun i => if i = tn then (p, n, y) else td i), hl, hs.mono (by omega), hCL.to (fun i a b => r i (by omega) (by omega) (by omega)) (fun k hk => by rw [r 10 (by omega) (by omega) (by omega)]), hML.to (fun i a b => r i (by omega) (by omega) (by omega)) (fun k hk => f k (by omega)), hCS.to (fun i a b => r i (by omega) (by omega) (by omega)) (fun k hk => by rw [r 17 (by omega) (by omega) (by omega)]), hMS.to (fun i a b => r i (by omega) (by omega) (by omega)) (fun k hk => f k (by omega)), (hIM.mono (by omega)).to (fun i hi => r i (by omega) (by omega) (by omega)) (fun i k hk => by rw [r i (by omega) (by omega) (by omega)]) (by rw [r 0 (by omega) (by omega) (by omega)]), ⟨by omega, ?_, ob_wI_s, fun i hi => ?_⟩, hTX.to (r 2 (by omega) (by omega) (by omega)) (r 66 (by omega) (by omega) (by omega)) (by rw [r 1 (by omega) (by omega) (by omega)]) (f 18 (by decide)), by rw [r 0 (by omega) (by omega) (by omega), f 19 (by decide)]; exact hF⟩
          · rw [ob_wI_o (by decide), ob_wI_o (by decide), ob_wI_o (by decide), ob_wI_o (by decide)]; exact a1
          · rw [ob_wI_o (i := 53) (a := 36) (by decide), ob_wI_o (i := 81) (a := 36) (by decide), ob_wI_o (i := 80) (a := 36) (by decide), ob_wI_o (i := 79) (a := 36) (by decide), ob_wI_o (i := 53) (a := 37) (by decide), ob_wI_o (i := 81) (a := 37) (by decide), ob_wI_o (i := 80) (a := 37) (by decide), ob_wI_o (i := 79) (a := 37) (by decide), ob_wI_o (i := 53) (a := 38) (by decide), ob_wI_o (i := 81) (a := 38) (by decide), ob_wI_o (i := 80) (a := 38) (by decide), ob_wI_o (i := 79) (a := 38) (by decide), ob_wI_o (i := 53) (a := 79) (by decide), ob_wI_o (i := 81) (a := 79) (by decide), ob_wI_o (i := 80) (a := 79) (by decide), ob_wI_o (i := 53) (a := 80) (by decide), ob_wI_o (i := 81) (a := 80) (by decide), ob_wI_o (i := 53) (a := 81) (by decide)]
            by_cases hit : i = tn
            · subst hit
              dsimp only
              rw [if_pos rfl, ob_wI_s, ob_wI_s, ob_wI_s]
              exact ⟨hp, hn, a3, rfl, a4, rfl, a5, rfl⟩
            · dsimp only
              rw [if_neg hit, ob_wI_n hit, ob_wI_n hit, ob_wI_n hit, ob_wI_o (i := 79) (a := 80) (by decide), ob_wI_o (i := 80) (a := 81) (by decide), ob_wI_o (i := 79) (a := 81) (by decide), (a2 i hit).1, (a2 i hit).2.1, (a2 i hit).2.2, r1 79 (by omega), r1 80 (by omega), r1 81 (by omega)]
              exact t3 i (by omega)
        · have he : tn = 20 := by omega
          refine br_f (fun q => hf ((ob_lt (b := 20) (by omega) (by omega)).mp q)) (mo hML (ob_bf (by rw [t2, he]; rfl) ⟨rfl, hR1⟩))
      · exact k_out' hy (br_f (by decide) (m_X9_tell (b_X9_tell_0 (n_isP1 hML.2.1 hP6 hp (ob_bt (by decide) (n_in1 (a := 0) (b := 9999) (by decide) (by decide) hz (br_f (by decide) (n_in0 (a := 0) (b := 999) (by decide) (by decide) hy (ob_bf rfl ⟨rfl, hR1⟩)))))))))
    · exact k_out' hz (ob_bt (by decide) (m_X9_tell (b_X9_tell_0 (n_isP1 hML.2.1 hP6 hp (ob_bt (by decide) (n_in0 (a := 0) (b := 9999) (by decide) (by decide) hz (br_t rfl ⟨rfl, hR1⟩)))))))
  · exact m_X8_tell (b_X8_tell_0 (k_hasP0 hCL.2.1 hP6 hx (ob_bf rfl (m_X9_tell (b_X9_tell_0 (n_isP0 hML.2.1 hP6 hx (ob_bf rfl ⟨rfl, hR1⟩)))))))
theorem pr_keep (x : Int32) : ob_PAIR oX8_keep oX9_keep [.int x] := by
  intro E c σ hc hR
  have hR1 := hR.mono (Nat.le_succ c)
  obtain ⟨l, s, kp, im, tn, td, hl, hs, hCL, hML, hCS, hMS, hIM, hTD, hTX, hF⟩ := hR
  have hP6 := hl.2.2.1
  have hB8 := hl.2.2.2.1
  have ht : st_t s < 100000000 := by have := hs.1; omega
  by_cases hx : (0 : Int32) ≤ x ∧ x ≤ 1
  · obtain ⟨i, -, hi, rfl⟩ := ob_rng (m := 0) (n := 1) rfl rfl (by omega) hx
    refine m_X8_keep (b_X8_keep_0 (k_out hx (br_t rfl (m_X8_imageOf (b_X8_imageOf_0 ?_)))))
    rcases (show i = 0 ∨ i = 1 by omega) with rfl | rfl
    · refine ob_bf rfl ?_
      refine Or.inl ⟨rfl, k_like_23_17 hl hCS (fun σ1 r1 hI => ?_)⟩
      have hMS1 : pi_MS (ob_wI σ1 0 10 (σ1.1 0 10 ||| 1 <<< (nI 0 &&& 31))).1 l s := hMS.to (fun j a b => by rw [ob_wI_o (by omega)]; exact r1 j (by omega)) (fun k hk => by rw [ob_wI_o (by decide), r1 53 (by omega)])
      refine n_keep (i := 0) (by omega) hl hMS1 (fun σ2 r2 g1 g2 g3 hMI => ⟨rfl, ?_⟩)
      have r : ∀ j, ¬ (23 ≤ j ∧ j ≤ 28) → j ≠ 0 → j ≠ 82 → j ≠ 83 → σ2.1 j = σ.1 j := fun j a b c d => by rw [r2 j c d, ob_wI_o b, r1 j a]
      refine ⟨l, s, (fun j => if j = 0 then true else kp j), (fun j => if j = 0 then s else im j), tn, td, hl, hs.mono (by omega), hCL.to (fun j a b => r j (by omega) (by omega) (by omega) (by omega)) (fun k hk => by rw [r 10 (by omega) (by omega) (by omega) (by omega)]), hML.to (fun j a b => r j (by omega) (by omega) (by omega) (by omega)) (fun k hk => by rw [r 53 (by omega) (by omega) (by omega) (by omega)]), hCS.to (fun j a b => r j (by omega) (by omega) (by omega) (by omega)) (fun k hk => by rw [r 17 (by omega) (by omega) (by omega) (by omega)]), hMS.to (fun j a b => r j (by omega) (by omega) (by omega) (by omega)) (fun k hk => by rw [r 53 (by omega) (by omega) (by omega) (by omega)]), ⟨?_, fun j hj => ?_⟩, hTD.to (fun j hj => r j (by omega) (by omega) (by omega) (by omega)) (by rw [r 35 (by omega) (by omega) (by omega) (by omega)]) (by rw [r 53 (by omega) (by omega) (by omega) (by omega)]), hTX.to (r 2 (by omega) (by omega) (by omega) (by omega)) (r 66 (by omega) (by omega) (by omega) (by omega)) (by rw [r 1 (by omega) (by omega) (by omega) (by omega)]) (by rw [r 53 (by omega) (by omega) (by omega) (by omega)]), ?_⟩
      · rw [r2 0 (by decide) (by decide), ob_wI_s, r1 0 (by omega), hIM.1]
        exact ob_sf_set (by omega)
      · by_cases hji : j = 0
        · subst hji
          dsimp only
          rw [if_pos rfl, if_pos rfl]
          exact ⟨g3, fun _ => ⟨hs.mono (by omega), hI.to (fun k a b => by rw [r2 k (by omega) (by omega), ob_wI_o (by omega)]) (fun k hk => by rw [r2 23 (by decide) (by decide), ob_wI_o (by decide)]), hMI⟩⟩
        · have hj0 : j = 1 := by omega
          subst hj0
          dsimp only
          rw [if_neg (show ¬ (1 = 0) by decide), if_neg (show ¬ (1 = 0) by decide)]
          obtain ⟨q1, q2⟩ := hIM.2 1 (by omega)
          refine ⟨by rw [g2 1 (by decide), ob_wI_o (by decide), r1 83 (by omega)]; exact q1, fun hk => ?_⟩
          obtain ⟨q3, q4, q5⟩ := q2 hk
          refine ⟨q3.mono (by omega), q4.to (fun k a b => r k (by omega) (by omega) (by omega) (by omega)) (fun k hk => by rw [r 29 (by omega) (by omega) (by omega) (by omega)]), ?_⟩
          have e82 : ∀ m, ¬ (50 * 0 ≤ m ∧ m < 50 * 0 + 50) → σ2.1 82 m = σ.1 82 m := fun m hm => by rw [g1 m hm, ob_wI_o (by decide), r1 82 (by omega)]
          obtain ⟨w1, w2, w3, w4⟩ := q5
          refine ⟨by rw [e82 _ (by omega)]; exact w1, by rw [e82 _ (by omega)]; exact w2, fun p hp => ?_, fun b hb => ?_⟩
          · rw [e82 _ (by omega), e82 _ (by omega), e82 _ (by omega)]; exact w3 p hp
          · rw [e82 _ (by omega), e82 _ (by omega), e82 _ (by omega)]; exact w4 b hb
      · rw [r2 0 (by decide) (by decide), ob_wI_n (by decide), r1 0 (by omega), r2 53 (by decide) (by decide), ob_wI_o (by decide), r1 53 (by omega)]
        exact hF
    · refine ob_bt (by decide) ?_
      refine Or.inr ⟨rfl, k_like_29_17 hl hCS (fun σ1 r1 hI => ?_)⟩
      have hMS1 : pi_MS (ob_wI σ1 0 10 (σ1.1 0 10 ||| 1 <<< (nI 1 &&& 31))).1 l s := hMS.to (fun j a b => by rw [ob_wI_o (by omega)]; exact r1 j (by omega)) (fun k hk => by rw [ob_wI_o (by decide), r1 53 (by omega)])
      refine n_keep (i := 1) (by omega) hl hMS1 (fun σ2 r2 g1 g2 g3 hMI => ⟨rfl, ?_⟩)
      have r : ∀ j, ¬ (29 ≤ j ∧ j ≤ 34) → j ≠ 0 → j ≠ 82 → j ≠ 83 → σ2.1 j = σ.1 j := fun j a b c d => by rw [r2 j c d, ob_wI_o b, r1 j a]
      refine ⟨l, s, (fun j => if j = 1 then true else kp j), (fun j => if j = 1 then s else im j), tn, td, hl, hs.mono (by omega), hCL.to (fun j a b => r j (by omega) (by omega) (by omega) (by omega)) (fun k hk => by rw [r 10 (by omega) (by omega) (by omega) (by omega)]), hML.to (fun j a b => r j (by omega) (by omega) (by omega) (by omega)) (fun k hk => by rw [r 53 (by omega) (by omega) (by omega) (by omega)]), hCS.to (fun j a b => r j (by omega) (by omega) (by omega) (by omega)) (fun k hk => by rw [r 17 (by omega) (by omega) (by omega) (by omega)]), hMS.to (fun j a b => r j (by omega) (by omega) (by omega) (by omega)) (fun k hk => by rw [r 53 (by omega) (by omega) (by omega) (by omega)]), ⟨?_, fun j hj => ?_⟩, hTD.to (fun j hj => r j (by omega) (by omega) (by omega) (by omega)) (by rw [r 35 (by omega) (by omega) (by omega) (by omega)]) (by rw [r 53 (by omega) (by omega) (by omega) (by omega)]), hTX.to (r 2 (by omega) (by omega) (by omega) (by omega)) (r 66 (by omega) (by omega) (by omega) (by omega)) (by rw [r 1 (by omega) (by omega) (by omega) (by omega)]) (by rw [r 53 (by omega) (by omega) (by omega) (by omega)]), ?_⟩
      · rw [r2 0 (by decide) (by decide), ob_wI_s, r1 0 (by omega), hIM.1]
        exact ob_sf_set (by omega)
      · by_cases hji : j = 1
        · subst hji
          dsimp only
          rw [if_pos rfl, if_pos rfl]
          exact ⟨g3, fun _ => ⟨hs.mono (by omega), hI.to (fun k a b => by rw [r2 k (by omega) (by omega), ob_wI_o (by omega)]) (fun k hk => by rw [r2 29 (by decide) (by decide), ob_wI_o (by decide)]), hMI⟩⟩
        · have hj0 : j = 0 := by omega
          subst hj0
          dsimp only
          rw [if_neg (show ¬ (0 = 1) by decide), if_neg (show ¬ (0 = 1) by decide)]
          obtain ⟨q1, q2⟩ := hIM.2 0 (by omega)
          refine ⟨by rw [g2 0 (by decide), ob_wI_o (by decide), r1 83 (by omega)]; exact q1, fun hk => ?_⟩
          obtain ⟨q3, q4, q5⟩ := q2 hk
          refine ⟨q3.mono (by omega), q4.to (fun k a b => r k (by omega) (by omega) (by omega) (by omega)) (fun k hk => by rw [r 23 (by omega) (by omega) (by omega) (by omega)]), ?_⟩
          have e82 : ∀ m, ¬ (50 * 1 ≤ m ∧ m < 50 * 1 + 50) → σ2.1 82 m = σ.1 82 m := fun m hm => by rw [g1 m hm, ob_wI_o (by decide), r1 82 (by omega)]
          obtain ⟨w1, w2, w3, w4⟩ := q5
          refine ⟨by rw [e82 _ (by omega)]; exact w1, by rw [e82 _ (by omega)]; exact w2, fun p hp => ?_, fun b hb => ?_⟩
          · rw [e82 _ (by omega), e82 _ (by omega), e82 _ (by omega)]; exact w3 p hp
          · rw [e82 _ (by omega), e82 _ (by omega), e82 _ (by omega)]; exact w4 b hb
      · rw [r2 0 (by decide) (by decide), ob_wI_n (by decide), r1 0 (by omega), r2 53 (by decide) (by decide), ob_wI_o (by decide), r1 53 (by omega)]
        exact hF
  · exact m_X8_keep (b_X8_keep_0 (k_out' hx (br_f (by decide) (m_X9_keep (b_X9_keep_0 (n_in0 (a := 0) (b := 1) (by decide) (by decide) hx (ob_bf rfl ⟨rfl, hR1⟩)))))))
theorem pr_goBack (x : Int32) : ob_PAIR oX8_goBack oX9_goBack [.int x] := by
  intro E c σ hc hR
  have hR1 := hR.mono (Nat.le_succ c)
  obtain ⟨l, s, kp, im, tn, td, hl, hs, hCL, hML, hCS, hMS, hIM, hTD, hTX, hF⟩ := hR
  have hP6 := hl.2.2.1
  have hB8 := hl.2.2.2.1
  have ht : st_t s < 100000000 := by have := hs.1; omega
  by_cases hx : (0 : Int32) ≤ x ∧ x ≤ 1
  · obtain ⟨i, -, hi, rfl⟩ := ob_rng (m := 0) (n := 1) rfl rfl (by omega) hx
    obtain ⟨q1, q2⟩ := hIM.2 i (by omega)
    have bit := ob_sf_bit (f := kp) (n := 2) (p := i) (by omega) (by omega)
    have bit0 : ((σ.1 0 10 >>> (nI i &&& 31)) &&& 1) = 0 ↔ kp i = false := by
      rw [hIM.1]
      have two : ∀ y : Int32, (y &&& 1) = 0 ∨ (y &&& 1) = 1 := by
        intro y
        obtain ⟨j, hj, e⟩ := pk_andE y (m := 1) 1 (by decide)
        rcases (show j = 0 ∨ j = 1 by omega) with rfl | rfl
        · exact Or.inl e
        · exact Or.inr e
      constructor
      · intro e
        cases hk : kp i with
        | false => rfl
        | true => rw [bit.mpr hk] at e; exact absurd e (by decide)
      · intro hk
        rcases two (ob_sf kp 2 >>> (nI i &&& 31)) with e | e
        · exact e
        · rw [bit.mp e] at hk; cases hk
    refine m_X8_goBack (b_X8_goBack_0 (k_out hx (br_t rfl ?_)))
    cases hk : kp i with
    | false =>
      refine ob_bf (bit0.mpr hk) (m_X9_goBack (b_X9_goBack_0 (n_in1 (a := 0) (b := 1) (by decide) (by decide) hx (ob_bt (by decide) ⟨ob_in (by omega) (by omega), ?_⟩))))
      rw [ob_cl (by omega), q1, hk]
      exact ob_bf rfl ⟨rfl, hR1⟩
    | true =>
      obtain ⟨q3, q4, q5⟩ := q2 hk
      refine ob_bt (fun e => by rw [bit0.mp e] at hk; cases hk) (m_X8_imageOf (b_X8_imageOf_0 ?_))
      rcases (show i = 0 ∨ i = 1 by omega) with rfl | rfl
      · refine ob_bf rfl ?_
        refine Or.inl ⟨rfl, k_like_17_23 hl q4 (fun σ1 r1 hI => ?_)⟩
        have hMI1 : pi_MI σ1.1 (50 * 0) l (im 0) := by unfold pi_MI; rw [r1 82 (by omega)]; exact q5
        refine n_goBack (i := 0) (by omega) hl (by rw [r1 83 (by omega), q1, hk]; decide) hMI1 (fun σ2 r2 f2 hMS2 => ⟨rfl, ?_⟩)
        have r : ∀ j, ¬ (17 ≤ j ∧ j ≤ 22) → j ≠ 53 → ¬ (60 ≤ j ∧ j ≤ 65) → σ2.1 j = σ.1 j := fun j a b c => by rw [r2 j b c, r1 j a]
        refine ob_REL.st (Nat.le_succ c) hl hCL hML hIM hTD hTX hF (q3.mono (Nat.le_succ c)) (hI.to (fun k a b => r2 k (by omega) (by omega)) (fun k hk => by rw [r2 17 (by decide) (by decide)])) hMS2 (fun j hj => r j (by omega) (by omega) (by omega)) (fun j k hk => ?_)
        by_cases h53 : j = 53
        · subst h53
          rw [f2 k (by omega) (by omega), r1 53 (by omega)]
        · rw [r j (by omega) h53 (by omega)]
      · refine ob_bt (by decide) ?_
        refine Or.inr ⟨rfl, k_like_17_29 hl q4 (fun σ1 r1 hI => ?_)⟩
        have hMI1 : pi_MI σ1.1 (50 * 1) l (im 1) := by unfold pi_MI; rw [r1 82 (by omega)]; exact q5
        refine n_goBack (i := 1) (by omega) hl (by rw [r1 83 (by omega), q1, hk]; decide) hMI1 (fun σ2 r2 f2 hMS2 => ⟨rfl, ?_⟩)
        have r : ∀ j, ¬ (17 ≤ j ∧ j ≤ 22) → j ≠ 53 → ¬ (60 ≤ j ∧ j ≤ 65) → σ2.1 j = σ.1 j := fun j a b c => by rw [r2 j b c, r1 j a]
        refine ob_REL.st (Nat.le_succ c) hl hCL hML hIM hTD hTX hF (q3.mono (Nat.le_succ c)) (hI.to (fun k a b => r2 k (by omega) (by omega)) (fun k hk => by rw [r2 17 (by decide) (by decide)])) hMS2 (fun j hj => r j (by omega) (by omega) (by omega)) (fun j k hk => ?_)
        by_cases h53 : j = 53
        · subst h53
          rw [f2 k (by omega) (by omega), r1 53 (by omega)]
        · rw [r j (by omega) h53 (by omega)]
  · exact m_X8_goBack (b_X8_goBack_0 (k_out' hx (br_f (by decide) (m_X9_goBack (b_X9_goBack_0 (n_in0 (a := 0) (b := 1) (by decide) (by decide) hx (ob_bf rfl ⟨rfl, hR1⟩)))))))
