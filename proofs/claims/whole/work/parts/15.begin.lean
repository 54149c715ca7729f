/-! rows filled and copied; begin, tell, keep, goBack -/
theorem ob_cp_o {σ : ob_Mem} {a b n i : Nat} (h : i ≠ b) : (ob_cp σ a b n).1 i = σ.1 i := by simp [ob_cp, ob_wA, h]
theorem ob_cp_s {σ : ob_Mem} {a b n j : Nat} (h : j < n) : (ob_cp σ a b n).1 b j = σ.1 a j := by simp [ob_cp, ob_wA, va_cpy, h]
theorem ob_fl0 {σ : ob_Mem} {i : Nat} {x : Int32} : ob_wA σ i (fun j => if j < 0 then x else σ.1 i j) = σ := by
  unfold ob_wA
  refine Prod.ext ?_ rfl
  funext a
  by_cases h : a = i
  · subst h; simp
  · simp [h]
theorem ob_fls {σ : ob_Mem} {i k : Nat} {x : Int32} : ob_wI (ob_wA σ i (fun j => if j < k then x else σ.1 i j)) i k x = ob_wA σ i (fun j => if j < k + 1 then x else σ.1 i j) := by
  unfold ob_wI ob_wA
  refine Prod.ext ?_ rfl
  funext a b
  by_cases h : a = i
  · subst h
    by_cases hb : b = k
    · subst hb; simp
    · have : (b < k + 1) ↔ (b < k) := by omega
      simp [hb, this]
  · simp [h]
section FI
variable {E : ob_E} {σ : ob_Mem} {l : LdT} {s : StT}
theorem k_fill_21 {Q : ob_Mem → Prop} {x : Int32} (h : Q (ob_wA σ 21 (fun j => if j < 8 then x else σ.1 21 j))) : ob_RM shp E oJ7_fill_53178 [.ref 21, .int x] σ (ob_qV Q) := by
  refine m_J7_fill_53178_21 (b_J7_fill_53178_21_0 ?_)
  have key : ob_RT shp E oJ7_fill_53178 5 [.ref 21, .int x, .int (nI 0), .int 8] [] (ob_wA σ 21 (fun j => if j < 0 then x else σ.1 21 j)) (ob_qV Q) := by
    refine ob_loop0 (T := fun k => ob_RT shp E oJ7_fill_53178 5 [.ref 21, .int x, .int (nI k), .int 8] [] (ob_wA σ 21 (fun j => if j < k then x else σ.1 21 j)) (ob_qV Q)) (B := 8) (b_J7_fill_53178_21_5 (br_t (by decide) h)) (fun k hk ih => b_J7_fill_53178_21_5 (br_f (fun q => ?_) ⟨ob_in (by omega) (by omega), ?_⟩))
    · rw [show (8 : Int32) = nI 8 from rfl, ob_le (by omega) (by omega)] at q
      omega
    · rw [ob_cl (by omega), nI_1, ob_fls]
      exact ih
  rw [ob_fl0] at key
  exact key
theorem k_fill_22 {Q : ob_Mem → Prop} {x : Int32} (h : Q (ob_wA σ 22 (fun j => if j < 8 then x else σ.1 22 j))) : ob_RM shp E oJ7_fill_53178 [.ref 22, .int x] σ (ob_qV Q) := by
  refine m_J7_fill_53178_22 (b_J7_fill_53178_22_0 ?_)
  have key : ob_RT shp E oJ7_fill_53178 5 [.ref 22, .int x, .int (nI 0), .int 8] [] (ob_wA σ 22 (fun j => if j < 0 then x else σ.1 22 j)) (ob_qV Q) := by
    refine ob_loop0 (T := fun k => ob_RT shp E oJ7_fill_53178 5 [.ref 22, .int x, .int (nI k), .int 8] [] (ob_wA σ 22 (fun j => if j < k then x else σ.1 22 j)) (ob_qV Q)) (B := 8) (b_J7_fill_53178_22_5 (br_t (by decide) h)) (fun k hk ih => b_J7_fill_53178_22_5 (br_f (fun q => ?_) ⟨ob_in (by omega) (by omega), ?_⟩))
    · rw [show (8 : Int32) = nI 8 from rfl, ob_le (by omega) (by omega)] at q
      omega
    · rw [ob_cl (by omega), nI_1, ob_fls]
      exact ih
  rw [ob_fl0] at key
  exact key
theorem k_fill_43 {Q : ob_Mem → Prop} {x : Int32} (h : Q (ob_wA σ 43 (fun j => if j < 61 then x else σ.1 43 j))) : ob_RM shp E oJ7_fill_53178 [.ref 43, .int x] σ (ob_qV Q) := by
  refine m_J7_fill_53178_43 (b_J7_fill_53178_43_0 ?_)
  have key : ob_RT shp E oJ7_fill_53178 5 [.ref 43, .int x, .int (nI 0), .int 61] [] (ob_wA σ 43 (fun j => if j < 0 then x else σ.1 43 j)) (ob_qV Q) := by
    refine ob_loop0 (T := fun k => ob_RT shp E oJ7_fill_53178 5 [.ref 43, .int x, .int (nI k), .int 61] [] (ob_wA σ 43 (fun j => if j < k then x else σ.1 43 j)) (ob_qV Q)) (B := 61) (b_J7_fill_53178_43_5 (br_t (by decide) h)) (fun k hk ih => b_J7_fill_53178_43_5 (br_f (fun q => ?_) ⟨ob_in (by omega) (by omega), ?_⟩))
    · rw [show (61 : Int32) = nI 61 from rfl, ob_le (by omega) (by omega)] at q
      omega
    · rw [ob_cl (by omega), nI_1, ob_fls]
      exact ih
  rw [ob_fl0] at key
  exact key
theorem k_fill_9 {Q : ob_Mem → Prop} {x : Int32} (h : Q (ob_wA σ 9 (fun j => if j < 121 then x else σ.1 9 j))) : ob_RM shp E oJ7_fill_53178 [.ref 9, .int x] σ (ob_qV Q) := by
  refine m_J7_fill_53178_9 (b_J7_fill_53178_9_0 ?_)
  have key : ob_RT shp E oJ7_fill_53178 5 [.ref 9, .int x, .int (nI 0), .int 121] [] (ob_wA σ 9 (fun j => if j < 0 then x else σ.1 9 j)) (ob_qV Q) := by
    refine ob_loop0 (T := fun k => ob_RT shp E oJ7_fill_53178 5 [.ref 9, .int x, .int (nI k), .int 121] [] (ob_wA σ 9 (fun j => if j < k then x else σ.1 9 j)) (ob_qV Q)) (B := 121) (b_J7_fill_53178_9_5 (br_t (by decide) h)) (fun k hk ih => b_J7_fill_53178_9_5 (br_f (fun q => ?_) ⟨ob_in (by omega) (by omega), ?_⟩))
    · rw [show (121 : Int32) = nI 121 from rfl, ob_le (by omega) (by omega)] at q
      omega
    · rw [ob_cl (by omega), nI_1, ob_fls]
      exact ih
  rw [ob_fl0] at key
  exact key
theorem k_like_23_17 {Q : ob_Mem → Prop} (hl : ob_lok l) (hS : pi_CS σ.1 17 l s) (h : ∀ σ' : ob_Mem, (∀ i, ¬ (23 ≤ i ∧ i ≤ 28) → σ'.1 i = σ.1 i) → pi_CS σ'.1 23 l s → Q σ') : ob_RM shp E oX6_becomeLike [.ref 23, .ref 17] σ (ob_qV Q) := by
  have hP6 := hl.2.2.1
  have hB8 := hl.2.2.2.1
  refine m_X6_becomeLike_23_17 (b_X6_becomeLike_23_17_0 ?_)
  rintro σ1 rfl σ2 rfl
  refine h _ (fun i hi => ?_) ⟨?_, ?_, ?_, fun p hp => ⟨?_, ?_⟩, fun b hb => ⟨?_, ?_, ?_⟩⟩
  · rw [ob_wI_o (by omega), ob_wI_o (by omega), ob_wI_o (by omega), ob_cp_o (by omega), ob_cp_o (by omega), ob_cp_o (by omega), ob_cp_o (by omega), ob_cp_o (by omega)]
  · rw [ob_wI_n (by decide), ob_wI_n (by decide), ob_wI_s, ob_cp_o (i := 17) (by decide), ob_cp_o (i := 17) (by decide), ob_cp_o (i := 17) (by decide), ob_cp_o (i := 17) (by decide), ob_cp_o (i := 17) (by decide)]; exact hS.1
  · rw [ob_wI_n (by decide), ob_wI_s, ob_wI_o (by decide), ob_cp_o (i := 17) (by decide), ob_cp_o (i := 17) (by decide), ob_cp_o (i := 17) (by decide), ob_cp_o (i := 17) (by decide), ob_cp_o (i := 17) (by decide)]; exact hS.2.1
  · rw [ob_wI_s, ob_wI_o (by decide), ob_wI_o (by decide), ob_cp_o (i := 17) (by decide), ob_cp_o (i := 17) (by decide), ob_cp_o (i := 17) (by decide), ob_cp_o (i := 17) (by decide), ob_cp_o (i := 17) (by decide)]; exact hS.2.2.1
  · show (ob_wI (ob_wI (ob_wI _ 23 6 _) 23 7 _) 23 8 _).1 24 p = _
    rw [ob_wI_o (by decide), ob_wI_o (by decide), ob_wI_o (by decide), ob_cp_o (i := 24) (by decide), ob_cp_o (i := 24) (by decide), ob_cp_o (i := 24) (by decide), ob_cp_o (i := 24) (by decide), ob_cp_s (j := p) (by omega)]; exact (hS.2.2.2.1 p hp).1
  · show (ob_wI (ob_wI (ob_wI _ 23 6 _) 23 7 _) 23 8 _).1 25 p = _
    rw [ob_wI_o (by decide), ob_wI_o (by decide), ob_wI_o (by decide), ob_cp_o (i := 25) (by decide), ob_cp_o (i := 25) (by decide), ob_cp_o (i := 25) (by decide), ob_cp_s (j := p) (by omega), ob_cp_o (i := 19) (by decide)]; exact (hS.2.2.2.1 p hp).2
  · show (ob_wI (ob_wI (ob_wI _ 23 6 _) 23 7 _) 23 8 _).1 26 b = _
    rw [ob_wI_o (by decide), ob_wI_o (by decide), ob_wI_o (by decide), ob_cp_o (i := 26) (by decide), ob_cp_o (i := 26) (by decide), ob_cp_s (j := b) (by omega), ob_cp_o (i := 20) (by decide), ob_cp_o (i := 20) (by decide)]; exact (hS.2.2.2.2 b hb).1
  · show (ob_wI (ob_wI (ob_wI _ 23 6 _) 23 7 _) 23 8 _).1 27 b = _
    rw [ob_wI_o (by decide), ob_wI_o (by decide), ob_wI_o (by decide), ob_cp_o (i := 27) (by decide), ob_cp_s (j := b) (by omega), ob_cp_o (i := 21) (by decide), ob_cp_o (i := 21) (by decide), ob_cp_o (i := 21) (by decide)]; exact (hS.2.2.2.2 b hb).2.1
  · show (ob_wI (ob_wI (ob_wI _ 23 6 _) 23 7 _) 23 8 _).1 28 b = _
    rw [ob_wI_o (by decide), ob_wI_o (by decide), ob_wI_o (by decide), ob_cp_s (j := b) (by omega), ob_cp_o (i := 22) (by decide), ob_cp_o (i := 22) (by decide), ob_cp_o (i := 22) (by decide), ob_cp_o (i := 22) (by decide)]; exact (hS.2.2.2.2 b hb).2.2
theorem k_like_29_17 {Q : ob_Mem → Prop} (hl : ob_lok l) (hS : pi_CS σ.1 17 l s) (h : ∀ σ' : ob_Mem, (∀ i, ¬ (29 ≤ i ∧ i ≤ 34) → σ'.1 i = σ.1 i) → pi_CS σ'.1 29 l s → Q σ') : ob_RM shp E oX6_becomeLike [.ref 29, .ref 17] σ (ob_qV Q) := by
  have hP6 := hl.2.2.1
  have hB8 := hl.2.2.2.1
  refine m_X6_becomeLike_29_17 (b_X6_becomeLike_29_17_0 ?_)
  rintro σ1 rfl σ2 rfl
  refine h _ (fun i hi => ?_) ⟨?_, ?_, ?_, fun p hp => ⟨?_, ?_⟩, fun b hb => ⟨?_, ?_, ?_⟩⟩
  · rw [ob_wI_o (by omega), ob_wI_o (by omega), ob_wI_o (by omega), ob_cp_o (by omega), ob_cp_o (by omega), ob_cp_o (by omega), ob_cp_o (by omega), ob_cp_o (by omega)]
  · rw [ob_wI_n (by decide), ob_wI_n (by decide), ob_wI_s, ob_cp_o (i := 17) (by decide), ob_cp_o (i := 17) (by decide), ob_cp_o (i := 17) (by decide), ob_cp_o (i := 17) (by decide), ob_cp_o (i := 17) (by decide)]; exact hS.1
  · rw [ob_wI_n (by decide), ob_wI_s, ob_wI_o (by decide), ob_cp_o (i := 17) (by decide), ob_cp_o (i := 17) (by decide), ob_cp_o (i := 17) (by decide), ob_cp_o (i := 17) (by decide), ob_cp_o (i := 17) (by decide)]; exact hS.2.1
  · rw [ob_wI_s, ob_wI_o (by decide), ob_wI_o (by decide), ob_cp_o (i := 17) (by decide), ob_cp_o (i := 17) (by decide), ob_cp_o (i := 17) (by decide), ob_cp_o (i := 17) (by decide), ob_cp_o (i := 17) (by decide)]; exact hS.2.2.1
  · show (ob_wI (ob_wI (ob_wI _ 29 6 _) 29 7 _) 29 8 _).1 30 p = _
    rw [ob_wI_o (by decide), ob_wI_o (by decide), ob_wI_o (by decide), ob_cp_o (i := 30) (by decide), ob_cp_o (i := 30) (by decide), ob_cp_o (i := 30) (by decide), ob_cp_o (i := 30) (by decide), ob_cp_s (j := p) (by omega)]; exact (hS.2.2.2.1 p hp).1
  · show (ob_wI (ob_wI (ob_wI _ 29 6 _) 29 7 _) 29 8 _).1 31 p = _
    rw [ob_wI_o (by decide), ob_wI_o (by decide), ob_wI_o (by decide), ob_cp_o (i := 31) (by decide), ob_cp_o (i := 31) (by decide), ob_cp_o (i := 31) (by decide), ob_cp_s (j := p) (by omega), ob_cp_o (i := 19) (by decide)]; exact (hS.2.2.2.1 p hp).2
  · show (ob_wI (ob_wI (ob_wI _ 29 6 _) 29 7 _) 29 8 _).1 32 b = _
    rw [ob_wI_o (by decide), ob_wI_o (by decide), ob_wI_o (by decide), ob_cp_o (i := 32) (by decide), ob_cp_o (i := 32) (by decide), ob_cp_s (j := b) (by omega), ob_cp_o (i := 20) (by decide), ob_cp_o (i := 20) (by decide)]; exact (hS.2.2.2.2 b hb).1
  · show (ob_wI (ob_wI (ob_wI _ 29 6 _) 29 7 _) 29 8 _).1 33 b = _
    rw [ob_wI_o (by decide), ob_wI_o (by decide), ob_wI_o (by decide), ob_cp_o (i := 33) (by decide), ob_cp_s (j := b) (by omega), ob_cp_o (i := 21) (by decide), ob_cp_o (i := 21) (by decide), ob_cp_o (i := 21) (by decide)]; exact (hS.2.2.2.2 b hb).2.1
  · show (ob_wI (ob_wI (ob_wI _ 29 6 _) 29 7 _) 29 8 _).1 34 b = _
    rw [ob_wI_o (by decide), ob_wI_o (by decide), ob_wI_o (by decide), ob_cp_s (j := b) (by omega), ob_cp_o (i := 22) (by decide), ob_cp_o (i := 22) (by decide), ob_cp_o (i := 22) (by decide), ob_cp_o (i := 22) (by decide)]; exact (hS.2.2.2.2 b hb).2.2
theorem k_like_17_23 {Q : ob_Mem → Prop} (hl : ob_lok l) (hS : pi_CS σ.1 23 l s) (h : ∀ σ' : ob_Mem, (∀ i, ¬ (17 ≤ i ∧ i ≤ 22) → σ'.1 i = σ.1 i) → pi_CS σ'.1 17 l s → Q σ') : ob_RM shp E oX6_becomeLike [.ref 17, .ref 23] σ (ob_qV Q) := by
  have hP6 := hl.2.2.1
  have hB8 := hl.2.2.2.1
  refine m_X6_becomeLike_17_23 (b_X6_becomeLike_17_23_0 ?_)
  rintro σ1 rfl σ2 rfl
  refine h _ (fun i hi => ?_) ⟨?_, ?_, ?_, fun p hp => ⟨?_, ?_⟩, fun b hb => ⟨?_, ?_, ?_⟩⟩
  · rw [ob_wI_o (by omega), ob_wI_o (by omega), ob_wI_o (by omega), ob_cp_o (by omega), ob_cp_o (by omega), ob_cp_o (by omega), ob_cp_o (by omega), ob_cp_o (by omega)]
  · rw [ob_wI_n (by decide), ob_wI_n (by decide), ob_wI_s, ob_cp_o (i := 23) (by decide), ob_cp_o (i := 23) (by decide), ob_cp_o (i := 23) (by decide), ob_cp_o (i := 23) (by decide), ob_cp_o (i := 23) (by decide)]; exact hS.1
  · rw [ob_wI_n (by decide), ob_wI_s, ob_wI_o (by decide), ob_cp_o (i := 23) (by decide), ob_cp_o (i := 23) (by decide), ob_cp_o (i := 23) (by decide), ob_cp_o (i := 23) (by decide), ob_cp_o (i := 23) (by decide)]; exact hS.2.1
  · rw [ob_wI_s, ob_wI_o (by decide), ob_wI_o (by decide), ob_cp_o (i := 23) (by decide), ob_cp_o (i := 23) (by decide), ob_cp_o (i := 23) (by decide), ob_cp_o (i := 23) (by decide), ob_cp_o (i := 23) (by decide)]; exact hS.2.2.1
  · show (ob_wI (ob_wI (ob_wI _ 17 6 _) 17 7 _) 17 8 _).1 18 p = _
    rw [ob_wI_o (by decide), ob_wI_o (by decide), ob_wI_o (by decide), ob_cp_o (i := 18) (by decide), ob_cp_o (i := 18) (by decide), ob_cp_o (i := 18) (by decide), ob_cp_o (i := 18) (by decide), ob_cp_s (j := p) (by omega)]; exact (hS.2.2.2.1 p hp).1
  · show (ob_wI (ob_wI (ob_wI _ 17 6 _) 17 7 _) 17 8 _).1 19 p = _
    rw [ob_wI_o (by decide), ob_wI_o (by decide), ob_wI_o (by decide), ob_cp_o (i := 19) (by decide), ob_cp_o (i := 19) (by decide), ob_cp_o (i := 19) (by decide), ob_cp_s (j := p) (by omega), ob_cp_o (i := 25) (by decide)]; exact (hS.2.2.2.1 p hp).2
  · show (ob_wI (ob_wI (ob_wI _ 17 6 _) 17 7 _) 17 8 _).1 20 b = _
    rw [ob_wI_o (by decide), ob_wI_o (by decide), ob_wI_o (by decide), ob_cp_o (i := 20) (by decide), ob_cp_o (i := 20) (by decide), ob_cp_s (j := b) (by omega), ob_cp_o (i := 26) (by decide), ob_cp_o (i := 26) (by decide)]; exact (hS.2.2.2.2 b hb).1
  · show (ob_wI (ob_wI (ob_wI _ 17 6 _) 17 7 _) 17 8 _).1 21 b = _
    rw [ob_wI_o (by decide), ob_wI_o (by decide), ob_wI_o (by decide), ob_cp_o (i := 21) (by decide), ob_cp_s (j := b) (by omega), ob_cp_o (i := 27) (by decide), ob_cp_o (i := 27) (by decide), ob_cp_o (i := 27) (by decide)]; exact (hS.2.2.2.2 b hb).2.1
  · show (ob_wI (ob_wI (ob_wI _ 17 6 _) 17 7 _) 17 8 _).1 22 b = _
    rw [ob_wI_o (by decide), ob_wI_o (by decide), ob_wI_o (by decide), ob_cp_s (j := b) (by omega), ob_cp_o (i := 28) (by decide), ob_cp_o (i := 28) (by decide), ob_cp_o (i := 28) (by decide), ob_cp_o (i := 28) (by decide)]; exact (hS.2.2.2.2 b hb).2.2
theorem k_like_17_29 {Q : ob_Mem → Prop} (hl : ob_lok l) (hS : pi_CS σ.1 29 l s) (h : ∀ σ' : ob_Mem, (∀ i, ¬ (17 ≤ i ∧ i ≤ 22) → σ'.1 i = σ.1 i) → pi_CS σ'.1 17 l s → Q σ') : ob_RM shp E oX6_becomeLike [.ref 17, .ref 29] σ (ob_qV Q) := by
  have hP6 := hl.2.2.1
  have hB8 := hl.2.2.2.1
  refine m_X6_becomeLike_17_29 (b_X6_becomeLike_17_29_0 ?_)
  rintro σ1 rfl σ2 rfl
  refine h _ (fun i hi => ?_) ⟨?_, ?_, ?_, fun p hp => ⟨?_, ?_⟩, fun b hb => ⟨?_, ?_, ?_⟩⟩
  · rw [ob_wI_o (by omega), ob_wI_o (by omega), ob_wI_o (by omega), ob_cp_o (by omega), ob_cp_o (by omega), ob_cp_o (by omega), ob_cp_o (by omega), ob_cp_o (by omega)]
  · rw [ob_wI_n (by decide), ob_wI_n (by decide), ob_wI_s, ob_cp_o (i := 29) (by decide), ob_cp_o (i := 29) (by decide), ob_cp_o (i := 29) (by decide), ob_cp_o (i := 29) (by decide), ob_cp_o (i := 29) (by decide)]; exact hS.1
  · rw [ob_wI_n (by decide), ob_wI_s, ob_wI_o (by decide), ob_cp_o (i := 29) (by decide), ob_cp_o (i := 29) (by decide), ob_cp_o (i := 29) (by decide), ob_cp_o (i := 29) (by decide), ob_cp_o (i := 29) (by decide)]; exact hS.2.1
  · rw [ob_wI_s, ob_wI_o (by decide), ob_wI_o (by decide), ob_cp_o (i := 29) (by decide), ob_cp_o (i := 29) (by decide), ob_cp_o (i := 29) (by decide), ob_cp_o (i := 29) (by decide), ob_cp_o (i := 29) (by decide)]; exact hS.2.2.1
  · show (ob_wI (ob_wI (ob_wI _ 17 6 _) 17 7 _) 17 8 _).1 18 p = _
    rw [ob_wI_o (by decide), ob_wI_o (by decide), ob_wI_o (by decide), ob_cp_o (i := 18) (by decide), ob_cp_o (i := 18) (by decide), ob_cp_o (i := 18) (by decide), ob_cp_o (i := 18) (by decide), ob_cp_s (j := p) (by omega)]; exact (hS.2.2.2.1 p hp).1
  · show (ob_wI (ob_wI (ob_wI _ 17 6 _) 17 7 _) 17 8 _).1 19 p = _
    rw [ob_wI_o (by decide), ob_wI_o (by decide), ob_wI_o (by decide), ob_cp_o (i := 19) (by decide), ob_cp_o (i := 19) (by decide), ob_cp_o (i := 19) (by decide), ob_cp_s (j := p) (by omega), ob_cp_o (i := 31) (by decide)]; exact (hS.2.2.2.1 p hp).2
  · show (ob_wI (ob_wI (ob_wI _ 17 6 _) 17 7 _) 17 8 _).1 20 b = _
    rw [ob_wI_o (by decide), ob_wI_o (by decide), ob_wI_o (by decide), ob_cp_o (i := 20) (by decide), ob_cp_o (i := 20) (by decide), ob_cp_s (j := b) (by omega), ob_cp_o (i := 32) (by decide), ob_cp_o (i := 32) (by decide)]; exact (hS.2.2.2.2 b hb).1
  · show (ob_wI (ob_wI (ob_wI _ 17 6 _) 17 7 _) 17 8 _).1 21 b = _
    rw [ob_wI_o (by decide), ob_wI_o (by decide), ob_wI_o (by decide), ob_cp_o (i := 21) (by decide), ob_cp_s (j := b) (by omega), ob_cp_o (i := 33) (by decide), ob_cp_o (i := 33) (by decide), ob_cp_o (i := 33) (by decide)]; exact (hS.2.2.2.2 b hb).2.1
  · show (ob_wI (ob_wI (ob_wI _ 17 6 _) 17 7 _) 17 8 _).1 22 b = _
    rw [ob_wI_o (by decide), ob_wI_o (by decide), ob_wI_o (by decide), ob_cp_s (j := b) (by omega), ob_cp_o (i := 34) (by decide), ob_cp_o (i := 34) (by decide), ob_cp_o (i := 34) (by decide), ob_cp_o (i := 34) (by decide)]; exact (hS.2.2.2.2 b hb).2.2
theorem ob_all8 : ∀ P : Fin 7, ((1 : Int32) <<< (nI P.val &&& 31)) - 1 = ob_sf (fun _ => true) P.val := by decide +kernel
/-- all as it was told -/
def ob_bs (l : LdT) (s : StT) : StT := (0, st_x s, la_A l, fun p => nI (la_U l p), fun _ => true, fun b => some (la_O l b), fun _ => none, fun _ => 0)
theorem ob_bs_ok {c : Nat} (hl : ob_lok l) (hx : ¬ st_x s < 0) : ob_sok l (ob_bs l s) c := by
  refine ⟨Nat.zero_le _, hx, fun p hp => ?_, fun b hb => ⟨fun e => (by cases e), fun p e => ?_, fun q e => (by cases e)⟩⟩
  · have := hl.2.2.2.2.2.2.2 p hp
    show la_A l p ≤ 999
    omega
  · have e : some (la_O l b) = some p := e
    cases e
    exact ⟨(hl.2.2.2.2.1 b hb).2.1, rfl⟩
theorem k_startAnew {Q : ob_Mem → Prop} (hl : ob_lok l) (hL : pi_CL σ.1 10 l) (hx : σ.1 17 8 = st_x s) (h : ∀ σ' : ob_Mem, (∀ i, ¬ (17 ≤ i ∧ i ≤ 22) → σ'.1 i = σ.1 i) → pi_CS σ'.1 17 l (ob_bs l s) → Q σ') : ob_RM shp E oX6_startAnew [.ref 17] σ (ob_qV Q) := by
  have hP6 := hl.2.2.1
  have hB8 := hl.2.2.2.1
  refine m_X6_startAnew (b_X6_startAnew_0 (k_fill_21 (k_fill_22 ?_)))
  refine h _ (fun i hi => ?_) ⟨?_, ?_, ?_, fun p hp => ⟨?_, ?_⟩, fun b hb => ⟨?_, ?_, ?_⟩⟩
  · rw [ob_wI_o (by omega), ob_wI_o (by omega), ob_wA_o (by omega), ob_wA_o (by omega), ob_cp_o (by omega), ob_cp_o (by omega), ob_cp_o (by omega)]
  · rw [ob_wI_n (by decide), ob_wI_s, ob_wA_o (by decide), ob_wA_o (by decide), ob_cp_o (by decide), ob_cp_o (by decide), ob_cp_o (by decide), hL.2.1]
    exact ob_all8 ⟨la_P l, by omega⟩
  · rw [ob_wI_s]; rfl
  · rw [ob_wI_n (by decide), ob_wI_n (by decide), ob_wA_o (by decide), ob_wA_o (by decide), ob_cp_o (by decide), ob_cp_o (by decide), ob_cp_o (by decide)]; exact hx
  · show (ob_wI (ob_wI _ 17 6 _) 17 7 _).1 18 p = _
    rw [ob_wI_o (by decide), ob_wI_o (by decide), ob_wA_o (by decide), ob_wA_o (by decide), ob_cp_o (by decide), ob_cp_o (by decide), ob_cp_s (by omega)]; exact (hL.2.2.2.1 p hp).1
  · show (ob_wI (ob_wI _ 17 6 _) 17 7 _).1 19 p = _
    rw [ob_wI_o (by decide), ob_wI_o (by decide), ob_wA_o (by decide), ob_wA_o (by decide), ob_cp_o (by decide), ob_cp_s (by omega), ob_cp_o (by decide)]; exact (hL.2.2.2.1 p hp).2
  · show (ob_wI (ob_wI _ 17 6 _) 17 7 _).1 20 b = _
    rw [ob_wI_o (by decide), ob_wI_o (by decide), ob_wA_o (by decide), ob_wA_o (by decide), ob_cp_s (by omega), ob_cp_o (by decide), ob_cp_o (by decide)]; exact (hL.2.2.2.2.1 b hb).2.1
  · show (ob_wI (ob_wI _ 17 6 _) 17 7 _).1 21 b = _
    rw [ob_wI_o (by decide), ob_wI_o (by decide), ob_wA_o (by decide), ob_wA_s, if_pos (by omega)]; rfl
  · show (ob_wI (ob_wI _ 17 6 _) 17 7 _).1 22 b = _
    rw [ob_wI_o (by decide), ob_wI_o (by decide), ob_wA_s, if_pos (by omega)]; rfl
theorem n_begin {Q : Int32 → ob_Mem → Prop} (hl : ob_lok l) (hL : pi_ML σ.1 l) (hx : σ.1 53 16 = st_x s) (h : ∀ σ' : ob_Mem, (∀ i, i ≠ 53 → ¬ (60 ≤ i ∧ i ≤ 65) → σ'.1 i = σ.1 i) → (∀ k, k ≠ 9 → σ'.1 53 k = σ.1 53 k) → pi_MS σ'.1 l (ob_bs l s) → Q (σ.1 53 9) σ') : ob_RM shp E oX9_begin [.ref 53] σ (ob_qI Q) := by
  have hP6 := hl.2.2.1
  have hB8 := hl.2.2.2.1
  refine m_X9_begin (b_X9_begin_0 ?_)
  have b0 : vp_nar .boolean 0 = 0 := by decide
  have b1 : vp_nar .boolean 1 = 1 := by decide
  have two : ∀ τ : ob_Mem, (∀ i, i ≠ 53 → ¬ (60 ≤ i ∧ i ≤ 65) → τ.1 i = σ.1 i) → (∀ k, k ≠ 9 → τ.1 53 k = σ.1 53 k) → τ.1 53 9 = 0 → (∀ q, q < 6 → τ.1 60 q = σ.1 54 q ∧ τ.1 61 q = σ.1 55 q ∧ τ.1 62 q = if q < la_P l then 1 else 0) → ob_RT shp E oX9_begin 69 [.ref 53, .int (σ.1 53 9), .int (nI 0)] [] τ (ob_qI Q) := by
    intro τ r f z g
    refine ob_loop0 (T := fun i => ∀ τ : ob_Mem, (∀ i, i ≠ 53 → ¬ (60 ≤ i ∧ i ≤ 65) → τ.1 i = σ.1 i) → (∀ k, k ≠ 9 → τ.1 53 k = σ.1 53 k) → τ.1 53 9 = 0 → (∀ q, q < 6 → τ.1 60 q = σ.1 54 q ∧ τ.1 61 q = σ.1 55 q ∧ τ.1 62 q = if q < la_P l then 1 else 0) → (∀ q, q < i → τ.1 63 q = σ.1 57 q ∧ τ.1 64 q = -1 ∧ τ.1 65 q = -1) → ob_RT shp E oX9_begin 69 [.ref 53, .int (σ.1 53 9), .int (nI i)] [] τ (ob_qI Q)) (B := 8) ?_ ?_ τ r f z g (fun q hq => by omega)
    · intro τ r f z g w
      refine b_X9_begin_69 (br_t (by decide) (h τ r f ⟨?_, ?_, fun p hp => ⟨?_, ?_, ?_⟩, fun b hb => ⟨?_, ?_, ?_⟩⟩))
      · rw [z]; rfl
      · rw [f 16 (by decide)]; exact hx
      · rw [(g p (by omega)).1]; exact (hL.2.2.2.1 p hp).1
      · rw [(g p (by omega)).2.1]; exact (hL.2.2.2.1 p hp).2
      · rw [(g p (by omega)).2.2, if_pos hp]; rfl
      · rw [(w b (by omega)).1]; exact (hL.2.2.2.2.1 b hb).2.1
      · exact (w b (by omega)).2.1
      · exact (w b (by omega)).2.2
    · intro i hi ih τ r f z g w
      have hin : vp_in (nI i) 8 := ob_in (by omega) (by omega)
      refine b_X9_begin_69 (br_f (fun q => by rw [show (8 : Int32) = nI 8 from rfl, ob_le (by omega) (by omega)] at q; omega) ⟨hin, hin, hin, ?_⟩)
      rw [ob_cl (by omega)]
      rintro σ1 rfl
      refine ⟨hin, ?_⟩
      rw [nI_1]
      refine ih _ (fun j a b => ?_) (fun k a => ?_) ?_ (fun q hq => ?_) (fun q hq => ?_)
      · rw [ob_wI_o (by omega), ob_wI_o (by omega), ob_wI_o (by omega)]; exact r j a b
      · rw [ob_wI_o (by decide), ob_wI_o (by decide), ob_wI_o (by decide)]; exact f k a
      · rw [ob_wI_o (by decide), ob_wI_o (by decide), ob_wI_o (by decide)]; exact z
      · rw [ob_wI_o (by decide), ob_wI_o (by decide), ob_wI_o (by decide), ob_wI_o (i := 65) (a := 61) (by decide), ob_wI_o (i := 64) (a := 61) (by decide), ob_wI_o (i := 63) (a := 61) (by decide), ob_wI_o (i := 65) (a := 62) (by decide), ob_wI_o (i := 64) (a := 62) (by decide), ob_wI_o (i := 63) (a := 62) (by decide)]; exact g q hq
      · rw [ob_wI_o (i := 65) (a := 63) (by decide), ob_wI_o (i := 64) (a := 63) (by decide), ob_wI_o (i := 65) (a := 64) (by decide)]
        by_cases hqi : q = i
        · subst hqi
          rw [ob_wI_s, ob_wI_s, ob_wI_s]
          exact ⟨by rw [r 57 (by decide) (by decide)], rfl, rfl⟩
        · rw [ob_wI_n hqi, ob_wI_n hqi, ob_wI_n hqi, ob_wI_o (i := 63) (a := 64) (by decide), ob_wI_o (i := 64) (a := 65) (by decide), ob_wI_o (i := 63) (a := 65) (by decide)]
          exact w q (by omega)
  refine ob_loop0 (T := fun i => ∀ τ : ob_Mem, (∀ i, i ≠ 53 → ¬ (60 ≤ i ∧ i ≤ 65) → τ.1 i = σ.1 i) → (∀ k, k ≠ 9 → τ.1 53 k = σ.1 53 k) → τ.1 53 9 = 0 → (∀ q, q < i → τ.1 60 q = σ.1 54 q ∧ τ.1 61 q = σ.1 55 q ∧ τ.1 62 q = if q < la_P l then 1 else 0) → ob_RT shp E oX9_begin 12 [.ref 53, .int (σ.1 53 9), .int (nI i)] [] τ (ob_qI Q)) (B := 6) ?_ ?_ _ (fun i a b => ob_wI_o a) (fun k a => ob_wI_n a) ob_wI_s (fun q hq => by omega)
  · intro τ r f z g
    exact b_X9_begin_12 (br_t (by decide) (two τ r f z g))
  · intro i hi ih τ r f z g
    have hin : vp_in (nI i) 6 := ob_in (by omega) (by omega)
    refine b_X9_begin_12 (br_f (fun q => by rw [show (6 : Int32) = nI 6 from rfl, ob_le (by omega) (by omega)] at q; omega) ⟨hin, hin, hin, hin, ?_⟩)
    rw [ob_cl (by omega), ob_wI_o (a := 55) (by decide), r 54 (by decide) (by decide), r 55 (by decide) (by decide)]
    rintro σ1 rfl
    rw [ob_wI_o (by decide), ob_wI_o (by decide), f 1 (by decide), hL.2.1, nI_1, b0, b1]
    have fin : ∀ v : Int32, v = (if i < la_P l then 1 else 0) → ob_RT shp E oX9_begin 12 [.ref 53, .int (σ.1 53 9), .int (nI (i + 1))] [] (ob_wI (ob_wI (ob_wI τ 60 i (σ.1 54 i)) 61 i (σ.1 55 i)) 62 i v) (ob_qI Q) := by
      intro v hv
      refine ih _ (fun j a b => ?_) (fun k a => ?_) ?_ (fun q hq => ?_)
      · rw [ob_wI_o (by omega), ob_wI_o (by omega), ob_wI_o (by omega)]; exact r j a b
      · rw [ob_wI_o (by decide), ob_wI_o (by decide), ob_wI_o (by decide)]; exact f k a
      · rw [ob_wI_o (by decide), ob_wI_o (by decide), ob_wI_o (by decide)]; exact z
      · rw [ob_wI_o (i := 62) (a := 60) (by decide), ob_wI_o (i := 61) (a := 60) (by decide), ob_wI_o (i := 62) (a := 61) (by decide)]
        by_cases hqi : q = i
        · subst hqi
          rw [ob_wI_s, ob_wI_s, ob_wI_s]
          exact ⟨rfl, rfl, hv⟩
        · rw [ob_wI_n hqi, ob_wI_n hqi, ob_wI_n hqi, ob_wI_o (i := 60) (a := 61) (by decide), ob_wI_o (i := 61) (a := 62) (by decide), ob_wI_o (i := 60) (a := 62) (by decide)]
          exact g q (by omega)
    by_cases hip : la_P l ≤ i
    · exact br_t ((ob_le (by omega) (by omega)).mpr hip) ⟨hin, fin 0 (by rw [if_neg (by omega)])⟩
    · exact br_f (fun q => hip ((ob_le (by omega) (by omega)).mp q)) ⟨hin, fin 1 (by rw [if_pos (by omega)])⟩
end FI
theorem pr_begin : ob_PAIR oX8_begin oX9_begin [] := by
  intro E c σ hc hR
  have hR1 := hR.mono (Nat.le_succ c)
  obtain ⟨l, s, kp, im, tn, td, hl, hs, hCL, hML, hCS, hMS, hIM, hTD, hTX, hF⟩ := hR
  have hP6 := hl.2.2.1
  have hB8 := hl.2.2.2.1
  have ht : st_t s < 100000000 := by have := hs.1; omega
  refine m_X8_begin (b_X8_begin_0 (k_startAnew hl hCL hCS.2.2.1 (fun σ1 r1 hCS1 => ?_)))
  have hML1 : pi_ML σ1.1 l := hML.to (fun i a b => r1 i (by omega)) (fun k hk => by rw [r1 53 (by omega)])
  refine n_begin hl hML1 (s := s) (by rw [r1 53 (by omega)]; exact hMS.2.1) (fun σ2 r2 f2 hMS2 => ⟨?_, ?_⟩)
  · rw [r1 53 (by omega), hMS.1]
    exact hCS.2.1
  · have r : ∀ i, ¬ (17 ≤ i ∧ i ≤ 22) → i ≠ 53 → ¬ (60 ≤ i ∧ i ≤ 65) → σ2.1 i = σ.1 i := fun i a b c => by rw [r2 i b c, r1 i a]
    refine ob_REL.st (Nat.le_succ c) hl hCL hML hIM hTD hTX hF (ob_bs_ok hl hs.2.1) (hCS1.to (fun i a b => r2 i (by omega) (by omega)) (fun k hk => by rw [r2 17 (by decide) (by decide)])) hMS2 (fun i hi => r i (by omega) (by omega) (by omega)) (fun i k hk => ?_)
    by_cases h53 : i = 53
    · subst h53
      rw [f2 k (by omega), r1 53 (by omega)]
    · rw [r i (by omega) h53 (by omega)]
