/-! words, and the text in the reference -/
def ob_wl : Nat → List Nat
  | 0 => [121, 101, 97, 114]
  | 1 => [112, 101, 114, 115, 111, 110]
  | 2 => [98, 105, 114, 116, 104, 100, 97, 121]
  | _ => [103, 111, 111, 100]
def ob_wq (T : Nat → Nat) (a k j : Nat) : Prop := k = (ob_wl j).length ∧ ∀ i, i < (ob_wl j).length → T (a + i) = (ob_wl j).getD i 0
theorem ob_chF : ∀ (j : Fin 4) (i : Fin 8), i.val < (ob_wl j.val).length → ((((ob_sb.getD j.val []).getD i.val 0) &&& (255 : Int32)).toUInt32 % 65536).toInt32 = nI ((ob_wl j.val).getD i.val 0) ∧ (ob_wl j.val).getD i.val 0 < 123 ∧ 96 < (ob_wl j.val).getD i.val 0 ∧ (ob_wl j.val).length = ob_sl.getD j.val 0 := by decide +kernel
section WO
variable {E : ob_E} {σ : ob_Mem} {T : Nat → Nat} {n : Nat}
theorem k_len_110 {Q : Int32 → ob_Mem → Prop} (h : Q (nI 4) σ) : ob_RM shp E oJ0_length_8abf5 [.ref 110] σ (ob_qI Q) := m_J0_length_8abf5_110 (b_J0_length_8abf5_110_0 (m_J0_coder_7d493_110 (b_J0_coder_7d493_110_0 (br_f (by decide) h))))
theorem k_char_110 {Q : Int32 → ob_Mem → Prop} {i : Nat} (hi : i < 4) (h : Q (nI ((ob_wl 0).getD i 0)) σ) : ob_RM shp E oJ0_charAt_5068e [.ref 110, .int (nI i)] σ (ob_qI Q) := by
  obtain ⟨c1, c2, c3, c4⟩ := ob_chF ⟨0, by decide⟩ ⟨i, by omega⟩ (by exact hi)
  have hin : vp_in (nI i) (ob_sl.getD 0 0) := by
    rw [show ob_sl.getD 0 0 = 4 from by decide]
    exact ob_in hi (by decide)
  refine m_J0_charAt_5068e_110 (b_J0_charAt_5068e_110_0 ?_)
  refine m_J0_isLatin1_aae02_110 (b_J0_isLatin1_aae02_110_0 (br_f (by decide) (ob_bf rfl (br_f (by decide) ?_))))
  refine m_J1_charAt_3b067_120 (b_J1_charAt_3b067_120_0 ?_)
  refine m_J0_checkIndex_df160 (b_J0_checkIndex_df160_0 (fun w hw => m_J3_any hw (ob_nneg (by omega)) ((ob_lt (b := 4) (by omega) (by omega)).mpr hi) ⟨hin, pk_nc _, ?_⟩))
  refine ⟨pk_nc _, ?_⟩
  rw [ob_cl (n := i) (by omega), show ((((ob_sb.getD 0 []).getD i 0) &&& (255 : Int32)).toUInt32 % 65536).toInt32 = _ from c1]
  exact h
theorem k_isWord_110 {Q : Int32 → ob_Mem → Prop} {a e : Nat} (ht : pi_CT σ.1 T n) (hae : a ≤ e) (hen : e ≤ n) (hle : ∀ i, a ≤ i → i < e → ob_isL (T i) = true) (h3 : σ.1 1 3 = nI e) (h1 : ob_wq T a (e - a) 0 → Q 1 σ) (h0 : ¬ ob_wq T a (e - a) 0 → Q 0 σ) : ob_RM shp E oX3_isWord [.ref 1, .int (nI a), .ref 110] σ (ob_qI Q) := by
  have hn := ht.1
  refine m_X3_isWord_1_110 (b_X3_isWord_1_110_0 (k_len_110 ?_))
  rw [h3, ob_sub hae]
  by_cases hl : e - a = 4
  · refine br_t (by rw [hl]) ?_
    have go := ob_loop0 (T := fun i => (∀ d, d < i → T (a + d) = (ob_wl 0).getD d 0) → ob_RT shp E oX3_isWord 17 [.ref 1, .int (nI a), .ref 110, .int (nI (a + i))] [] σ (ob_qI Q)) (B := 4) (fun hd => b_X3_isWord_1_110_17 ?_) (fun i hi ih hd => b_X3_isWord_1_110_17 ?_) (fun d hd => by omega)
    · exact go
    · rw [h3]
      exact br_t ((ob_le (by omega) (by omega)).mpr (by omega)) (h1 ⟨hl, hd⟩)
    · obtain ⟨c1, c2⟩ := ht.2.2 (a + i) (by omega)
      obtain ⟨d1, d2, d3, d4⟩ := ob_chF ⟨0, by decide⟩ ⟨i, by omega⟩ (by exact hi)
      have d2 : (ob_wl 0).getD i 0 < 123 := d2
      rw [h3, ob_cl (n := a + i) (by omega), ob_sub (by omega), show a + i - a = i by omega, nI_1]
      refine br_f (fun z => by rw [ob_le (by omega) (by omega)] at z; omega) ⟨ob_in (by omega) (by omega), k_char_110 hi ?_⟩
      rw [c2, (ob_c8F ⟨T (a + i), c1⟩).2.2.2.2.2 (hle (a + i) (by omega) (by omega))]
      by_cases hc : T (a + i) = (ob_wl 0).getD i 0
      · refine br_t (by show nI (T (a + i)) = _; rw [hc]) (ih (fun d hdi => ?_))
        by_cases e1 : d = i
        · rw [e1]; exact hc
        · exact hd d (by omega)
      · refine br_f (fun z => hc ?_) (h0 (fun z => hc (z.2 i hi)))
        have z : nI (T (a + i)) = nI ((ob_wl 0).getD i 0) := z
        rw [ob_eq (by omega) (by omega)] at z
        exact z
  · refine br_f (fun z => hl ?_) (h0 (fun z => hl z.1))
    rw [ob_eq (by omega) (by omega)] at z
    exact z
theorem k_len_111 {Q : Int32 → ob_Mem → Prop} (h : Q (nI 6) σ) : ob_RM shp E oJ0_length_8abf5 [.ref 111] σ (ob_qI Q) := m_J0_length_8abf5_111 (b_J0_length_8abf5_111_0 (m_J0_coder_7d493_111 (b_J0_coder_7d493_111_0 (br_f (by decide) h))))
theorem k_char_111 {Q : Int32 → ob_Mem → Prop} {i : Nat} (hi : i < 6) (h : Q (nI ((ob_wl 1).getD i 0)) σ) : ob_RM shp E oJ0_charAt_5068e [.ref 111, .int (nI i)] σ (ob_qI Q) := by
  obtain ⟨c1, c2, c3, c4⟩ := ob_chF ⟨1, by decide⟩ ⟨i, by omega⟩ (by exact hi)
  have hin : vp_in (nI i) (ob_sl.getD 1 0) := by
    rw [show ob_sl.getD 1 0 = 6 from by decide]
    exact ob_in hi (by decide)
  refine m_J0_charAt_5068e_111 (b_J0_charAt_5068e_111_0 ?_)
  refine m_J0_isLatin1_aae02_111 (b_J0_isLatin1_aae02_111_0 (br_f (by decide) (ob_bf rfl (br_f (by decide) ?_))))
  refine m_J1_charAt_3b067_121 (b_J1_charAt_3b067_121_0 ?_)
  refine m_J0_checkIndex_df160 (b_J0_checkIndex_df160_0 (fun w hw => m_J3_any hw (ob_nneg (by omega)) ((ob_lt (b := 6) (by omega) (by omega)).mpr hi) ⟨hin, pk_nc _, ?_⟩))
  refine ⟨pk_nc _, ?_⟩
  rw [ob_cl (n := i) (by omega), show ((((ob_sb.getD 1 []).getD i 0) &&& (255 : Int32)).toUInt32 % 65536).toInt32 = _ from c1]
  exact h
theorem k_isWord_111 {Q : Int32 → ob_Mem → Prop} {a e : Nat} (ht : pi_CT σ.1 T n) (hae : a ≤ e) (hen : e ≤ n) (hle : ∀ i, a ≤ i → i < e → ob_isL (T i) = true) (h3 : σ.1 1 3 = nI e) (h1 : ob_wq T a (e - a) 1 → Q 1 σ) (h0 : ¬ ob_wq T a (e - a) 1 → Q 0 σ) : ob_RM shp E oX3_isWord [.ref 1, .int (nI a), .ref 111] σ (ob_qI Q) := by
  have hn := ht.1
  refine m_X3_isWord_1_111 (b_X3_isWord_1_111_0 (k_len_111 ?_))
  rw [h3, ob_sub hae]
  by_cases hl : e - a = 6
  · refine br_t (by rw [hl]) ?_
    have go := ob_loop0 (T := fun i => (∀ d, d < i → T (a + d) = (ob_wl 1).getD d 0) → ob_RT shp E oX3_isWord 17 [.ref 1, .int (nI a), .ref 111, .int (nI (a + i))] [] σ (ob_qI Q)) (B := 6) (fun hd => b_X3_isWord_1_111_17 ?_) (fun i hi ih hd => b_X3_isWord_1_111_17 ?_) (fun d hd => by omega)
    · exact go
    · rw [h3]
      exact br_t ((ob_le (by omega) (by omega)).mpr (by omega)) (h1 ⟨hl, hd⟩)
    · obtain ⟨c1, c2⟩ := ht.2.2 (a + i) (by omega)
      obtain ⟨d1, d2, d3, d4⟩ := ob_chF ⟨1, by decide⟩ ⟨i, by omega⟩ (by exact hi)
      have d2 : (ob_wl 1).getD i 0 < 123 := d2
      rw [h3, ob_cl (n := a + i) (by omega), ob_sub (by omega), show a + i - a = i by omega, nI_1]
      refine br_f (fun z => by rw [ob_le (by omega) (by omega)] at z; omega) ⟨ob_in (by omega) (by omega), k_char_111 hi ?_⟩
      rw [c2, (ob_c8F ⟨T (a + i), c1⟩).2.2.2.2.2 (hle (a + i) (by omega) (by omega))]
      by_cases hc : T (a + i) = (ob_wl 1).getD i 0
      · refine br_t (by show nI (T (a + i)) = _; rw [hc]) (ih (fun d hdi => ?_))
        by_cases e1 : d = i
        · rw [e1]; exact hc
        · exact hd d (by omega)
      · refine br_f (fun z => hc ?_) (h0 (fun z => hc (z.2 i hi)))
        have z : nI (T (a + i)) = nI ((ob_wl 1).getD i 0) := z
        rw [ob_eq (by omega) (by omega)] at z
        exact z
  · refine br_f (fun z => hl ?_) (h0 (fun z => hl z.1))
    rw [ob_eq (by omega) (by omega)] at z
    exact z
theorem k_len_112 {Q : Int32 → ob_Mem → Prop} (h : Q (nI 8) σ) : ob_RM shp E oJ0_length_8abf5 [.ref 112] σ (ob_qI Q) := m_J0_length_8abf5_112 (b_J0_length_8abf5_112_0 (m_J0_coder_7d493_112 (b_J0_coder_7d493_112_0 (br_f (by decide) h))))
theorem k_char_112 {Q : Int32 → ob_Mem → Prop} {i : Nat} (hi : i < 8) (h : Q (nI ((ob_wl 2).getD i 0)) σ) : ob_RM shp E oJ0_charAt_5068e [.ref 112, .int (nI i)] σ (ob_qI Q) := by
  obtain ⟨c1, c2, c3, c4⟩ := ob_chF ⟨2, by decide⟩ ⟨i, by omega⟩ (by exact hi)
  have hin : vp_in (nI i) (ob_sl.getD 2 0) := by
    rw [show ob_sl.getD 2 0 = 8 from by decide]
    exact ob_in hi (by decide)
  refine m_J0_charAt_5068e_112 (b_J0_charAt_5068e_112_0 ?_)
  refine m_J0_isLatin1_aae02_112 (b_J0_isLatin1_aae02_112_0 (br_f (by decide) (ob_bf rfl (br_f (by decide) ?_))))
  refine m_J1_charAt_3b067_122 (b_J1_charAt_3b067_122_0 ?_)
  refine m_J0_checkIndex_df160 (b_J0_checkIndex_df160_0 (fun w hw => m_J3_any hw (ob_nneg (by omega)) ((ob_lt (b := 8) (by omega) (by omega)).mpr hi) ⟨hin, pk_nc _, ?_⟩))
  refine ⟨pk_nc _, ?_⟩
  rw [ob_cl (n := i) (by omega), show ((((ob_sb.getD 2 []).getD i 0) &&& (255 : Int32)).toUInt32 % 65536).toInt32 = _ from c1]
  exact h
theorem k_isWord_112 {Q : Int32 → ob_Mem → Prop} {a e : Nat} (ht : pi_CT σ.1 T n) (hae : a ≤ e) (hen : e ≤ n) (hle : ∀ i, a ≤ i → i < e → ob_isL (T i) = true) (h3 : σ.1 1 3 = nI e) (h1 : ob_wq T a (e - a) 2 → Q 1 σ) (h0 : ¬ ob_wq T a (e - a) 2 → Q 0 σ) : ob_RM shp E oX3_isWord [.ref 1, .int (nI a), .ref 112] σ (ob_qI Q) := by
  have hn := ht.1
  refine m_X3_isWord_1_112 (b_X3_isWord_1_112_0 (k_len_112 ?_))
  rw [h3, ob_sub hae]
  by_cases hl : e - a = 8
  · refine br_t (by rw [hl]) ?_
    have go := ob_loop0 (T := fun i => (∀ d, d < i → T (a + d) = (ob_wl 2).getD d 0) → ob_RT shp E oX3_isWord 17 [.ref 1, .int (nI a), .ref 112, .int (nI (a + i))] [] σ (ob_qI Q)) (B := 8) (fun hd => b_X3_isWord_1_112_17 ?_) (fun i hi ih hd => b_X3_isWord_1_112_17 ?_) (fun d hd => by omega)
    · exact go
    · rw [h3]
      exact br_t ((ob_le (by omega) (by omega)).mpr (by omega)) (h1 ⟨hl, hd⟩)
    · obtain ⟨c1, c2⟩ := ht.2.2 (a + i) (by omega)
      obtain ⟨d1, d2, d3, d4⟩ := ob_chF ⟨2, by decide⟩ ⟨i, by omega⟩ (by exact hi)
      have d2 : (ob_wl 2).getD i 0 < 123 := d2
      rw [h3, ob_cl (n := a + i) (by omega), ob_sub (by omega), show a + i - a = i by omega, nI_1]
      refine br_f (fun z => by rw [ob_le (by omega) (by omega)] at z; omega) ⟨ob_in (by omega) (by omega), k_char_112 hi ?_⟩
      rw [c2, (ob_c8F ⟨T (a + i), c1⟩).2.2.2.2.2 (hle (a + i) (by omega) (by omega))]
      by_cases hc : T (a + i) = (ob_wl 2).getD i 0
      · refine br_t (by show nI (T (a + i)) = _; rw [hc]) (ih (fun d hdi => ?_))
        by_cases e1 : d = i
        · rw [e1]; exact hc
        · exact hd d (by omega)
      · refine br_f (fun z => hc ?_) (h0 (fun z => hc (z.2 i hi)))
        have z : nI (T (a + i)) = nI ((ob_wl 2).getD i 0) := z
        rw [ob_eq (by omega) (by omega)] at z
        exact z
  · refine br_f (fun z => hl ?_) (h0 (fun z => hl z.1))
    rw [ob_eq (by omega) (by omega)] at z
    exact z
theorem k_len_113 {Q : Int32 → ob_Mem → Prop} (h : Q (nI 4) σ) : ob_RM shp E oJ0_length_8abf5 [.ref 113] σ (ob_qI Q) := m_J0_length_8abf5_113 (b_J0_length_8abf5_113_0 (m_J0_coder_7d493_113 (b_J0_coder_7d493_113_0 (br_f (by decide) h))))
theorem k_char_113 {Q : Int32 → ob_Mem → Prop} {i : Nat} (hi : i < 4) (h : Q (nI ((ob_wl 3).getD i 0)) σ) : ob_RM shp E oJ0_charAt_5068e [.ref 113, .int (nI i)] σ (ob_qI Q) := by
  obtain ⟨c1, c2, c3, c4⟩ := ob_chF ⟨3, by decide⟩ ⟨i, by omega⟩ (by exact hi)
  have hin : vp_in (nI i) (ob_sl.getD 3 0) := by
    rw [show ob_sl.getD 3 0 = 4 from by decide]
    exact ob_in hi (by decide)
  refine m_J0_charAt_5068e_113 (b_J0_charAt_5068e_113_0 ?_)
  refine m_J0_isLatin1_aae02_113 (b_J0_isLatin1_aae02_113_0 (br_f (by decide) (ob_bf rfl (br_f (by decide) ?_))))
  refine m_J1_charAt_3b067_123 (b_J1_charAt_3b067_123_0 ?_)
  refine m_J0_checkIndex_df160 (b_J0_checkIndex_df160_0 (fun w hw => m_J3_any hw (ob_nneg (by omega)) ((ob_lt (b := 4) (by omega) (by omega)).mpr hi) ⟨hin, pk_nc _, ?_⟩))
  refine ⟨pk_nc _, ?_⟩
  rw [ob_cl (n := i) (by omega), show ((((ob_sb.getD 3 []).getD i 0) &&& (255 : Int32)).toUInt32 % 65536).toInt32 = _ from c1]
  exact h
theorem k_isWord_113 {Q : Int32 → ob_Mem → Prop} {a e : Nat} (ht : pi_CT σ.1 T n) (hae : a ≤ e) (hen : e ≤ n) (hle : ∀ i, a ≤ i → i < e → ob_isL (T i) = true) (h3 : σ.1 1 3 = nI e) (h1 : ob_wq T a (e - a) 3 → Q 1 σ) (h0 : ¬ ob_wq T a (e - a) 3 → Q 0 σ) : ob_RM shp E oX3_isWord [.ref 1, .int (nI a), .ref 113] σ (ob_qI Q) := by
  have hn := ht.1
  refine m_X3_isWord_1_113 (b_X3_isWord_1_113_0 (k_len_113 ?_))
  rw [h3, ob_sub hae]
  by_cases hl : e - a = 4
  · refine br_t (by rw [hl]) ?_
    have go := ob_loop0 (T := fun i => (∀ d, d < i → T (a + d) = (ob_wl 3).getD d 0) → ob_RT shp E oX3_isWord 17 [.ref 1, .int (nI a), .ref 113, .int (nI (a + i))] [] σ (ob_qI Q)) (B := 4) (fun hd => b_X3_isWord_1_113_17 ?_) (fun i hi ih hd => b_X3_isWord_1_113_17 ?_) (fun d hd => by omega)
    · exact go
    · rw [h3]
      exact br_t ((ob_le (by omega) (by omega)).mpr (by omega)) (h1 ⟨hl, hd⟩)
    · obtain ⟨c1, c2⟩ := ht.2.2 (a + i) (by omega)
      obtain ⟨d1, d2, d3, d4⟩ := ob_chF ⟨3, by decide⟩ ⟨i, by omega⟩ (by exact hi)
      have d2 : (ob_wl 3).getD i 0 < 123 := d2
      rw [h3, ob_cl (n := a + i) (by omega), ob_sub (by omega), show a + i - a = i by omega, nI_1]
      refine br_f (fun z => by rw [ob_le (by omega) (by omega)] at z; omega) ⟨ob_in (by omega) (by omega), k_char_113 hi ?_⟩
      rw [c2, (ob_c8F ⟨T (a + i), c1⟩).2.2.2.2.2 (hle (a + i) (by omega) (by omega))]
      by_cases hc : T (a + i) = (ob_wl 3).getD i 0
      · refine br_t (by show nI (T (a + i)) = _; rw [hc]) (ih (fun d hdi => ?_))
        by_cases e1 : d = i
        · rw [e1]; exact hc
        · exact hd d (by omega)
      · refine br_f (fun z => hc ?_) (h0 (fun z => hc (z.2 i hi)))
        have z : nI (T (a + i)) = nI ((ob_wl 3).getD i 0) := z
        rw [ob_eq (by omega) (by omega)] at z
        exact z
  · refine br_f (fun z => hl ?_) (h0 (fun z => hl z.1))
    rw [ob_eq (by omega) (by omega)] at z
    exact z
end WO
/-- the word's number, as the reference reckons it -/
def ob_wv (X : Nat) (T : Nat → Nat) (a : Nat) : Nat → Nat
  | 0 => 0
  | k + 1 => if ob_wv X T a k ≤ X then 27 * ob_wv X T a k + (T (a + k) - 96) else 2 * X
def ob_cdn (w : Nat → Nat) : Nat → Nat
  | 0 => 0
  | k + 1 => 27 * ob_cdn w k + (w k - 96)
theorem ob_wv_le {X : Nat} {T : Nat → Nat} {a : Nat} : ∀ k, (∀ i, i < k → T (a + i) ≤ 122) → ob_wv X T a k ≤ 27 * X + 26
  | 0, _ => Nat.zero_le _
  | k + 1, h => by
    have := h k (by omega)
    simp only [ob_wv]
    split <;> omega
theorem ob_wv_iff {X : Nat} {T w : Nat → Nat} {a : Nat} (hX : 0 < X) : ∀ m k, (∀ i, i < k → 97 ≤ T (a + i) ∧ T (a + i) ≤ 122) → (∀ i, i < m → 97 ≤ w i ∧ w i ≤ 122) → ob_cdn w m ≤ X → (ob_wv X T a k = ob_cdn w m ↔ k = m ∧ ∀ i, i < m → T (a + i) = w i)
  | 0, 0, _, _, _ => ⟨fun _ => ⟨rfl, fun i hi => by omega⟩, fun _ => rfl⟩
  | 0, k + 1, hT, _, _ => by
    have h1 := hT k (by omega)
    refine ⟨fun e => ?_, fun e => by omega⟩
    simp only [ob_wv, ob_cdn] at e
    split at e <;> omega
  | m + 1, 0, _, hw, _ => by
    have h1 := hw m (by omega)
    refine ⟨fun e => ?_, fun e => by omega⟩
    simp only [ob_wv, ob_cdn] at e
    omega
  | m + 1, k + 1, hT, hw, hc => by
    have h1 := hT k (by omega)
    have h2 := hw m (by omega)
    simp only [ob_cdn] at hc
    have ih := ob_wv_iff hX m k (fun i hi => hT i (by omega)) (fun i hi => hw i (by omega)) (by omega)
    constructor
    · intro e
      simp only [ob_wv, ob_cdn] at e
      have e2 : ob_wv X T a k = ob_cdn w m ∧ T (a + k) = w m := by
        split at e <;> omega
      obtain ⟨i1, i2⟩ := ih.mp e2.1
      refine ⟨by omega, fun i hi => ?_⟩
      by_cases him : i = m
      · rw [him, ← i1]
        have := e2.2
        rw [i1] at this ⊢
        exact this
      · exact i2 i (by omega)
    · rintro ⟨e1, e2⟩
      have e1 : k = m := by omega
      subst e1
      have e3 := ih.mpr ⟨rfl, fun i hi => e2 i (by omega)⟩
      simp only [ob_wv, ob_cdn]
      rw [e3, e2 k (by omega), if_pos (by omega)]
theorem ob_wq_iff {T : Nat → Nat} {a k j : Nat} (hj : j < 4) (hT : ∀ i, i < k → 97 ≤ T (a + i) ∧ T (a + i) ≤ 122) : ob_wv 100000000000000 T a k = ob_cdn (fun i => (ob_wl j).getD i 0) (ob_wl j).length ↔ ob_wq T a k j := by
  have hl : ∀ j : Fin 4, (ob_wl j.val).length ≤ 8 ∧ ob_cdn (fun i => (ob_wl j.val).getD i 0) (ob_wl j.val).length ≤ 100000000000000 := by decide +kernel
  obtain ⟨h1, h2⟩ := hl ⟨j, hj⟩
  exact ob_wv_iff (by omega) _ _ hT (fun i hi => by
    have := ob_chF ⟨j, hj⟩ ⟨i, Nat.lt_of_lt_of_le hi h1⟩ hi
    exact ⟨this.2.2.1, Nat.le_of_lt_succ this.2.1⟩) h2
/-- only the reader's own fields of the reference have changed -/
def ob_f5 (σ σ' : ob_Mem) : Prop := (∀ i, i ≠ 53 → σ'.1 i = σ.1 i) ∧ ∀ k, k ≠ 19 → k ≠ 20 → k ≠ 22 → k ≠ 23 → k ≠ 24 → σ'.1 53 k = σ.1 53 k
theorem ob_f5.tr {a b c : ob_Mem} (h1 : ob_f5 a b) (h2 : ob_f5 b c) : ob_f5 a c := ⟨fun i hi => by rw [h2.1 i hi, h1.1 i hi], fun k a b c d e => by rw [h2.2 k a b c d e, h1.2 k a b c d e]⟩
theorem ob_f5.rf (a : ob_Mem) : ob_f5 a a := ⟨fun _ _ => rfl, fun _ _ _ _ _ _ => rfl⟩
theorem ob_f5.w {σ : ob_Mem} {k : Nat} {x : Int32} (h : k = 19 ∨ k = 20 ∨ k = 22 ∨ k = 23 ∨ k = 24) : ob_f5 σ (ob_wI σ 53 k x) := ⟨fun i hi => ob_wI_o hi, fun j a b c d e => ob_wI_n (by omega)⟩
theorem pi_MT.f5 {σ σ' : ob_Mem} {T : Nat → Nat} {n : Nat} (h : pi_MT σ.1 T n) (f : ob_f5 σ σ') : pi_MT σ'.1 T n := ⟨h.1, by rw [f.2 18 (by decide) (by decide) (by decide) (by decide) (by decide)]; exact h.2.1, fun i hi => by rw [f.1 66 (by decide)]; exact h.2.2 i hi⟩
section WM
variable {E : ob_E} {σ : ob_Mem} {T : Nat → Nat} {n : Nat}
theorem n_here {Q : Int32 → ob_Mem → Prop} {a : Nat} (ht : pi_MT σ.1 T n) (ha : a ≤ n) (h3 : σ.1 53 20 = nI a) (h : ∀ σ' : ob_Mem, ob_f5 σ σ' → (∀ k, k ≠ 20 → σ'.1 53 k = σ.1 53 k) → σ'.1 53 20 = nI (ob_skp ob_isB T n a) → (ob_skp ob_isB T n a < n → T (ob_skp ob_isB T n a) < 256 → Q (nI (T (ob_skp ob_isB T n a))) σ') ∧ (¬ ob_skp ob_isB T n a < n → Q (-1) σ')) : ob_RM shp E oX9_here [.ref 53] σ (ob_qI Q) := by
  have hn := ht.1
  refine m_X9_here ?_
  have key : ∀ a, a ≤ n → ∀ τ : ob_Mem, ob_f5 σ τ → (∀ k, k ≠ 20 → τ.1 53 k = σ.1 53 k) → τ.1 53 20 = nI a → (∀ σ' : ob_Mem, ob_f5 σ σ' → (∀ k, k ≠ 20 → σ'.1 53 k = σ.1 53 k) → σ'.1 53 20 = nI (ob_skp ob_isB T n a) → (ob_skp ob_isB T n a < n → T (ob_skp ob_isB T n a) < 256 → Q (nI (T (ob_skp ob_isB T n a))) σ') ∧ (¬ ob_skp ob_isB T n a < n → Q (-1) σ')) → ob_RT shp E oX9_here 0 [.ref 53] [] τ (ob_qI Q) := by
    refine ob_ski (P := ob_isB) (T := T) (fun a han hp ih τ f g e q => ?_) (fun a hno ha τ f g e q => ?_)
    · obtain ⟨c1, c2⟩ := (ht.f5 f).2.2 a han
      refine b_X9_here_0 ?_
      rw [e, (ht.f5 f).2.1, ob_cl (by omega), c2, nI_1]
      refine br_f (fun z => by rw [ob_le (by omega) (by omega)] at z; omega) ⟨ob_in (by omega) (by omega), ob_bf (by rw [of_decide_eq_true hp]; rfl) (ih _ (f.tr (ob_f5.w (by omega))) (fun k hk => by rw [ob_wI_n hk]; exact g k hk) ob_wI_s ?_)⟩
      rw [ob_skp_s han hp] at q
      exact q
    · rw [ob_skp_e hno] at q
      obtain ⟨q1, q2⟩ := q τ f g e
      refine b_X9_here_0 ?_
      rw [e, (ht.f5 f).2.1]
      by_cases han : a < n
      · obtain ⟨c1, c2⟩ := (ht.f5 f).2.2 a han
        have hin : vp_in (nI a) 500 := ob_in (by omega) (by omega)
        have hle : ¬ nI n ≤ nI a := fun z => by rw [ob_le (by omega) (by omega)] at z; omega
        rw [ob_cl (by omega), c2]
        refine br_f hle ⟨hin, ob_bt (fun z => hno ⟨han, decide_eq_true ((ob_eq (b := 32) (by omega) (by omega)).mp z)⟩) (b_X9_here_38 ?_)⟩
        rw [e, (ht.f5 f).2.1, ob_cl (by omega), c2]
        exact br_f hle ⟨hin, q1 han c1⟩
      · have hle : nI n ≤ nI a := (ob_le (by omega) (by omega)).mpr (by omega)
        refine br_t hle (b_X9_here_38 ?_)
        rw [e, (ht.f5 f).2.1]
        exact br_t hle (q2 han)
  exact key a ha σ (ob_f5.rf σ) (fun _ _ => rfl) h3 h
theorem ob_Fiff {c : Nat} (hc : c < 256) : ((48 : Int32) ≤ nI c ∧ nI c ≤ 57) ↔ ob_isF c = true := by
  have h1 := ob_le (a := 48) (b := c) (by omega) (by omega)
  have h2 := ob_le (a := c) (b := 57) (by omega) (by omega)
  constructor
  · intro z
    exact decide_eq_true ⟨h1.mp z.1, h2.mp z.2⟩
  · intro z
    have := of_decide_eq_true z
    exact ⟨h1.mpr this.1, h2.mpr this.2⟩
theorem n_number {Q : Int32 → ob_Mem → Prop} {a lo hi : Nat} {xh : Int32} (ht : pi_MT σ.1 T n) (ha : a ≤ n) (h3 : σ.1 53 20 = nI a) (hlo : lo ≤ 2) (hhi : hi ≤ 1000) (hx : xh = nI hi - 1) (hf : ∀ c p, ob_nm T n lo hi a = .inl (c, p) → ∀ σ' : ob_Mem, ob_f5 σ σ' → σ'.1 53 19 = nI p → Q (nI c) σ') (hv : ∀ v p e, ob_nm T n lo hi a = .inr (v, p, e) → ∀ σ' : ob_Mem, ob_f5 σ σ' → σ'.1 53 20 = nI e → e ≤ n → σ'.1 53 19 = σ.1 53 19 → σ'.1 53 23 = nI v → σ'.1 53 24 = nI p → Q 0 σ') : ob_RM shp E oX9_takeNumber [.ref 53, .int (nI lo), .int xh] σ (ob_qI Q) := by
  have hn := ht.1
  obtain ⟨g1, g2⟩ := ob_skp_le (P := ob_isB) (T := T) a ha
  unfold ob_nm at hf hv
  refine m_X9_takeNumber (b_X9_takeNumber_0 (n_here ht ha h3 (fun σ1 f1 q1 e1 => ?_)))
  generalize ob_skp ob_isB T n a = s at *
  obtain ⟨g3, g4⟩ := ob_skp_le (P := ob_isF) (T := T) s g2
  have gin := ob_skp_in (P := ob_isF) (T := T) s g2
  have none : ∀ y : Int32, ob_skp ob_isF T n s = s → ¬ ((48 : Int32) ≤ y ∧ y ≤ 57) → ob_RM shp E oX9_in [.long y.toInt64, .long (48 : Int64), .long (57 : Int64)] σ1 (ob_qI fun v4 σ3 => ((¬ v4 = 0 → ob_RT shp E oX9_takeNumber 42 [.ref 53, .int (nI lo), .int xh, .int y] [] (ob_wI (ob_wI σ3 53 24 (σ3.1 53 20)) 53 23 (0 : Int32)) (ob_qI Q)) ∧ (v4 = 0 → ob_RM shp E oX9_fails [.ref 53, .int (1 : Int32), .int (σ3.1 53 20)] σ3 (ob_qI fun v6 σ5 => Q v6 σ5)))) := by
    intro y h0 hy
    rw [if_pos h0] at hf
    refine n_in0 (a := 48) (b := 57) (by decide) (by decide) hy (ob_bf rfl (m_X9_fails (b_X9_fails_0 (hf 1 s rfl _ (f1.tr (ob_f5.w (by omega))) ?_))))
    rw [ob_wI_s, e1]
  refine ⟨fun hsn hc => ?_, fun hsn => none (-1) (ob_skp_e (fun z => hsn z.1)) (by decide)⟩
  by_cases hfig : ob_isF (T s) = true
  · have hne : ¬ ob_skp ob_isF T n s = s := by
      have := ob_skp_at (P := ob_isF) (T := T) s g2
      intro z
      rw [z] at this
      exact this ⟨hsn, hfig⟩
    rw [if_neg hne] at hf hv
    refine n_in1 (a := 48) (b := 57) (by decide) (by decide) ((ob_Fiff hc).mpr hfig) (ob_bt (by decide) ?_)
    have fin : ∀ (x : Int32) (τ : ob_Mem), ob_f5 σ τ → τ.1 53 20 = nI (ob_skp ob_isF T n s) → τ.1 53 24 = nI s → τ.1 53 19 = σ.1 53 19 → (ob_skp ob_isF T n s - s ≤ 3 → τ.1 53 23 = nI (ob_dec10 T s (ob_skp ob_isF T n s - s))) → ob_RT shp E oX9_takeNumber 129 [.ref 53, .int (nI lo), .int xh, .int x] [] τ (ob_qI Q) := by
      intro x τ f t3 t6 t5 tx
      refine b_X9_takeNumber_129 ?_
      rw [t3, t6, ob_sub g3]
      by_cases h3 : ob_skp ob_isF T n s - s ≤ 3
      · have hl := ob_dec_lt (T := T) (a := s) (ob_skp ob_isF T n s - s) (fun i hi => by
          have := gin (s + i) (by omega) (by omega)
          unfold ob_isF at this
          have := of_decide_eq_true this
          omega)
        have hl2 : ob_dec10 T s (ob_skp ob_isF T n s - s) < 1000 := Nat.lt_of_lt_of_le hl (show 10 ^ (ob_skp ob_isF T n s - s) ≤ 10 ^ 3 from Nat.pow_le_pow_right (by decide) h3)
        refine br_f (fun z => by rw [show (3 : Int32) = nI 3 from rfl, ob_lt (by omega) (by omega)] at z; omega) ?_
        have tx := tx h3
        rw [tx, hx]
        generalize ob_dec10 T s (ob_skp ob_isF T n s - s) = v at *
        have hr : (nI lo ≤ nI v ∧ nI v ≤ nI hi - 1) ↔ (lo ≤ v ∧ v < hi) := by
          have e : (nI hi - 1).toInt = (hi : Int) - 1 := by
            have := pk_sub_toInt (a := hi) (b := 1) (by omega) (by omega)
            exact this
          rw [ob_le (by omega) (by omega)]
          refine ⟨fun z => ⟨z.1, ?_⟩, fun z => ⟨z.1, ?_⟩⟩
          · have := z.2
            rw [Int32.le_iff_toInt_le, nI_toInt (by omega)] at this
            omega
          · rw [Int32.le_iff_toInt_le, nI_toInt (by omega)]
            omega
        by_cases hc : lo ≤ v ∧ v < hi
        · rw [if_pos ⟨h3, hc⟩] at hv
          exact n_in1 rfl rfl (hr.mpr hc) (ob_bt (by decide) (hv v s _ rfl τ f t3 g4 t5 tx t6))
        · rw [if_neg (fun z => hc z.2)] at hf
          refine n_in0 rfl rfl (fun z => hc (hr.mp z)) (ob_bf rfl (m_X9_fails (b_X9_fails_0 (hf 2 s rfl _ (f.tr (ob_f5.w (by omega))) ?_))))
          rw [ob_wI_s, t6]
      · rw [if_neg (fun z => h3 z.1)] at hf
        exact br_t ((ob_lt (a := 3) (by omega) (by omega)).mpr (by omega)) (m_X9_fails (b_X9_fails_0 (hf 2 s rfl _ (f.tr (ob_f5.w (by omega))) ob_wI_s)))
    have key : ∀ b, b ≤ n → s ≤ b → (∀ i, s ≤ i → i < b → ob_isF (T i) = true) → ob_skp ob_isF T n b = ob_skp ob_isF T n s → ∀ (x : Int32) (τ : ob_Mem), ob_f5 σ τ → τ.1 53 20 = nI b → τ.1 53 24 = nI s → τ.1 53 19 = σ.1 53 19 → (b - s ≤ 3 → τ.1 53 23 = nI (ob_dec10 T s (b - s))) → ob_RT shp E oX9_takeNumber 42 [.ref 53, .int (nI lo), .int xh, .int x] [] τ (ob_qI Q) := by
      refine ob_ski (P := ob_isF) (T := T) (fun b hbn hp ih hsb hall heq x τ f t3 t6 t5 tx => ?_) (fun b hno hb hsb hall heq x τ f t3 t6 t5 tx => ?_)
      · obtain ⟨c1, c2⟩ := (ht.f5 f).2.2 b hbn
        have hin : vp_in (nI b) 500 := ob_in (by omega) (by omega)
        have hp2 := of_decide_eq_true hp
        have hall2 : ∀ i, s ≤ i → i < b + 1 → ob_isF (T i) = true := fun i h1 h2 => by
          by_cases e : i = b
          · rw [e]; exact hp
          · exact hall i h1 (by omega)
        have heq2 : ob_skp ob_isF T n (b + 1) = ob_skp ob_isF T n s := by rw [← heq, ob_skp_s hbn hp]
        refine b_X9_takeNumber_42 ?_
        rw [t3, (ht.f5 f).2.1, ob_cl (n := b) (by omega), c2]
        refine br_f (fun z => by rw [ob_le (by omega) (by omega)] at z; omega) ⟨hin, n_in1 (a := 48) (b := 57) (by decide) (by decide) ((ob_Fiff c1).mpr hp) (br_f (by decide) ?_)⟩
        by_cases h10 : τ.1 53 23 ≤ 10000
        · refine br_t h10 ⟨by rw [t3]; exact hin, ?_⟩
          rw [t3, ob_cl (n := b) (by omega), c2]
          rintro σ3 rfl
          rw [ob_wI_n (by decide), t3, nI_1]
          refine ih (by omega) hall2 heq2 x _ (f.tr ((ob_f5.w (by omega)).tr (ob_f5.w (by omega)))) ob_wI_s (by rw [ob_wI_n (by decide), ob_wI_n (by decide)]; exact t6) (by rw [ob_wI_n (by decide), ob_wI_n (by decide)]; exact t5) (fun hb3 => ?_)
          rw [ob_wI_n (by decide), ob_wI_s, tx (by omega), show (10 : Int32) = nI 10 from rfl, pk_mul, nI_add, show (48 : Int32) = nI 48 from rfl, ob_sub (by omega), show b + 1 - s = (b - s) + 1 by omega]
          show nI (10 * ob_dec10 T s (b - s) + T b - 48) = nI (10 * ob_dec10 T s (b - s) + (T (s + (b - s)) - 48))
          rw [show s + (b - s) = b by omega]
          congr 1
          omega
        · refine br_f h10 ?_
          rintro σ4 rfl
          rw [ob_wI_n (by decide), t3, nI_1]
          refine ih (by omega) hall2 heq2 x _ (f.tr ((ob_f5.w (by omega)).tr (ob_f5.w (by omega)))) ob_wI_s (by rw [ob_wI_n (by decide), ob_wI_n (by decide)]; exact t6) (by rw [ob_wI_n (by decide), ob_wI_n (by decide)]; exact t5) (fun hb3 => ?_)
          exfalso
          have hl := ob_dec_lt (T := T) (a := s) (b - s) (fun i hi => by
            have := hall (s + i) (by omega) (by omega)
            unfold ob_isF at this
            have := of_decide_eq_true this
            omega)
          have hl2 : ob_dec10 T s (b - s) < 1000 := Nat.lt_of_lt_of_le hl (show 10 ^ (b - s) ≤ 10 ^ 3 from Nat.pow_le_pow_right (by decide) (by omega))
          apply h10
          rw [tx (by omega)]
          exact (ob_le (b := 10000) (by omega) (by omega)).mpr (by omega)
      · rw [ob_skp_e hno] at heq
        rw [← heq] at fin
        have go := fin x τ f t3 t6 t5 (fun z => tx z)
        refine b_X9_takeNumber_42 ?_
        rw [t3, (ht.f5 f).2.1]
        by_cases hbn : b < n
        · obtain ⟨c1, c2⟩ := (ht.f5 f).2.2 b hbn
          rw [ob_cl (n := b) (by omega), c2]
          exact br_f (fun z => by rw [ob_le (by omega) (by omega)] at z; omega) ⟨ob_in (by omega) (by omega), n_in0 (a := 48) (b := 57) (by decide) (by decide) (fun z => hno ⟨hbn, (ob_Fiff c1).mp z⟩) (br_t rfl go)⟩
        · exact br_t ((ob_le (by omega) (by omega)).mpr (by omega)) go
    rw [e1]
    refine key s g2 (Nat.le_refl _) (fun i h1 h2 => by omega) rfl _ _ (f1.tr ((ob_f5.w (by omega)).tr (ob_f5.w (by omega)))) ?_ ?_ ?_ (fun _ => by rw [Nat.sub_self, ob_wI_s]; rfl)
    · rw [ob_wI_n (by decide), ob_wI_n (by decide)]; exact e1
    · rw [ob_wI_n (by decide), ob_wI_s]
    · rw [ob_wI_n (by decide), ob_wI_n (by decide), q1 19 (by decide)]
  · exact none _ (ob_skp_e (fun z => hfig z.2)) (fun z => hfig ((ob_Fiff hc).mp z))
theorem ob_wLo {σ : ob_Mem} {k : Nat} {x : Int64} : (ob_wL σ 53 k x).1 = σ.1 := rfl
theorem ob_wLs {σ : ob_Mem} {k : Nat} {x : Int64} : (ob_wL σ 53 k x).2 53 k = x := by simp [ob_wL]
theorem n_readWord {Q : ob_Mem → Prop} {a : Nat} (ht : pi_MT σ.1 T n) (ha : a ≤ n) (hsk : ob_skp ob_isB T n a = a) (h3 : σ.1 53 20 = nI a) (h : ∀ σ' : ob_Mem, ob_f5 σ σ' → σ'.1 53 19 = σ.1 53 19 → σ'.1 53 20 = nI a → σ'.1 53 22 = nI (ob_skp ob_isL T n a) → σ'.2 53 21 = lN (ob_wv 100000000000000 T a (ob_skp ob_isL T n a - a)) → Q σ') : ob_RM shp E oX9_readWord [.ref 53] σ (ob_qV Q) := by
  have hn := ht.1
  have key : ∀ (x : Int32), ∀ b, b ≤ n → a ≤ b → (∀ i, a ≤ i → i < b → ob_isL (T i) = true) → ob_skp ob_isL T n b = ob_skp ob_isL T n a → ∀ τ : ob_Mem, ob_f5 σ τ → τ.1 53 19 = σ.1 53 19 → τ.1 53 20 = nI a → τ.1 53 22 = nI b → τ.2 53 21 = lN (ob_wv 100000000000000 T a (b - a)) → ob_RT shp E oX9_readWord 18 [.ref 53, .int x] [] τ (ob_qV Q) := by
    intro x
    refine ob_ski (P := ob_isL) (T := T) (fun b hbn hp ih hab hall heq τ f t1 t2 t3 t4 => ?_) (fun b hno hb hab hall heq τ f t1 t2 t3 t4 => ?_)
    · obtain ⟨c1, c2⟩ := (ht.f5 f).2.2 b hbn
      have hin : vp_in (nI b) 500 := ob_in (by omega) (by omega)
      have hp2 := of_decide_eq_true hp
      have hall2 : ∀ i, a ≤ i → i < b + 1 → ob_isL (T i) = true := fun i h1 h2 => by
        by_cases e : i = b
        · rw [e]; exact hp
        · exact hall i h1 (by omega)
      have heq2 : ob_skp ob_isL T n (b + 1) = ob_skp ob_isL T n a := by rw [← heq, ob_skp_s hbn hp]
      have hle := ob_wv_le (X := 100000000000000) (T := T) (a := a) (b - a) (fun i hi => (of_decide_eq_true (hall (a + i) (by omega) (by omega))).2)
      have hwv : ob_wv 100000000000000 T a (b + 1 - a) = if ob_wv 100000000000000 T a (b - a) ≤ 100000000000000 then 27 * ob_wv 100000000000000 T a (b - a) + (T b - 96) else 2 * 100000000000000 := by
        rw [show b + 1 - a = (b - a) + 1 by omega]
        show (if ob_wv 100000000000000 T a (b - a) ≤ 100000000000000 then 27 * ob_wv 100000000000000 T a (b - a) + (T (a + (b - a)) - 96) else 2 * 100000000000000) = _
        rw [show a + (b - a) = b by omega]
      have ih2 := ih (by omega) hall2 heq2
      rw [hwv] at ih2
      generalize ob_wv 100000000000000 T a (b - a) = v at *
      refine b_X9_readWord_18 ?_
      rw [t3, (ht.f5 f).2.1, ob_cl (n := b) (by omega), c2]
      refine br_f (fun z => by rw [ob_le (by omega) (by omega)] at z; omega) ⟨hin, n_in1 (a := 97) (b := 122) (by decide) (by decide) ⟨(ob_le (a := 97) (by omega) (by omega)).mpr hp2.1, (ob_le (b := 122) (by omega) (by omega)).mpr hp2.2⟩ (br_f (by decide) ?_)⟩
      rw [t4, show (100000000000000 : Int64) = lN 100000000000000 from rfl]
      by_cases hc : v ≤ 100000000000000
      · rw [if_pos hc] at ih2
        refine br_t ((pk_lLE (by omega) (by omega)).mpr hc) ⟨by rw [t3]; exact hin, ?_⟩
        rw [t3, ob_cl (n := b) (by omega), c2, nI_l (by omega), show (27 : Int64) = lN 27 from rfl, lN_mul, lN_add, show (96 : Int64) = lN 96 from rfl, lN_sub (by omega), show 27 * v + T b - 96 = 27 * v + (T b - 96) by omega]
        rintro σ3 rfl
        rw [ob_wLo, t3, nI_1]
        refine ih2 _ (f.tr ⟨fun i hi => ob_wI_o hi, fun k a b c d e => ob_wI_n c⟩) ?_ ?_ ob_wI_s ?_
        · rw [ob_wI_n (by decide)]; exact t1
        · rw [ob_wI_n (by decide)]; exact t2
        · show (if 53 = 53 then (if 21 = 21 then lN (27 * v + (T b - 96)) else τ.2 53 21) else τ.2 53 21) = _
          rw [if_pos rfl, if_pos rfl]
      · rw [if_neg hc] at ih2
        refine br_f (fun z => hc ((pk_lLE (by omega) (by omega)).mp z)) ?_
        rintro σ4 rfl
        rw [ob_wLo, t3, nI_1]
        refine ih2 _ (f.tr ⟨fun i hi => ob_wI_o hi, fun k a b c d e => ob_wI_n c⟩) ?_ ?_ ob_wI_s ?_
        · rw [ob_wI_n (by decide)]; exact t1
        · rw [ob_wI_n (by decide)]; exact t2
        · show (ob_wL τ 53 21 _).2 53 21 = _
          rw [ob_wLs]
          rfl
    · rw [ob_skp_e hno] at heq
      rw [← heq] at h
      have go := h τ f t1 t2 t3 t4
      refine b_X9_readWord_18 ?_
      rw [t3, (ht.f5 f).2.1]
      by_cases hbn : b < n
      · obtain ⟨c1, c2⟩ := (ht.f5 f).2.2 b hbn
        rw [ob_cl (n := b) (by omega), c2]
        refine br_f (fun z => by rw [ob_le (by omega) (by omega)] at z; omega) ⟨ob_in (by omega) (by omega), n_in0 (a := 97) (b := 122) (by decide) (by decide) (fun z => hno ⟨hbn, decide_eq_true ⟨(ob_le (a := 97) (by omega) (by omega)).mp z.1, (ob_le (b := 122) (by omega) (by omega)).mp z.2⟩⟩) (br_t rfl go)⟩
      · exact br_t ((ob_le (by omega) (by omega)).mpr (by omega)) go
  refine m_X9_readWord (b_X9_readWord_0 (n_here ht ha h3 (fun σ1 f1 q1 e1 => ?_)))
  rw [hsk] at e1 ⊢
  have go : ∀ x : Int32, ob_RT shp E oX9_readWord 18 [.ref 53, .int x] [] (ob_wI (ob_wL σ1 53 21 (0 : Int64)) 53 22 ((ob_wL σ1 53 21 (0 : Int64)).1 53 20)) (ob_qV Q) := by
    intro x
    refine key x a ha (Nat.le_refl _) (fun i h1 h2 => by omega) rfl _ (f1.tr ⟨fun i hi => ob_wI_o hi, fun k a b c d e => ob_wI_n c⟩) ?_ ?_ ?_ ?_
    · rw [ob_wI_n (by decide)]; exact q1 19 (by decide)
    · rw [ob_wI_n (by decide)]; exact e1
    · rw [ob_wI_s]; exact e1
    · rw [Nat.sub_self]
      show (ob_wL σ1 53 21 _).2 53 21 = _
      rw [ob_wLs]
      rfl
  exact ⟨fun _ _ => go _, fun _ => go _⟩
end WM
