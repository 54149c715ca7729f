/-! pairs: votes, tell, tear, seed, judge, forged -/
theorem ob_wI_o {σ : ob_Mem} {i k a : Nat} {x : Int32} (h : a ≠ i) : (ob_wI σ i k x).1 a = σ.1 a := by funext b; simp [ob_wI, h]
theorem ob_wI_s {σ : ob_Mem} {i k : Nat} {x : Int32} : (ob_wI σ i k x).1 i k = x := by simp [ob_wI]
theorem ob_wI_n {σ : ob_Mem} {i k b : Nat} {x : Int32} (h : b ≠ k) : (ob_wI σ i k x).1 i b = σ.1 i b := by simp [ob_wI, h]
theorem ob_wA_o {σ : ob_Mem} {i a : Nat} {f : Nat → Int32} (h : a ≠ i) : (ob_wA σ i f).1 a = σ.1 a := by simp [ob_wA, h]
theorem ob_wA_s {σ : ob_Mem} {i : Nat} {f : Nat → Int32} : (ob_wA σ i f).1 i = f := by simp [ob_wA]
/-- what the relation looks at -/
def ob_core (M M' : Nat → Nat → Int32) : Prop := (∀ i, (i = 2 ∨ (11 ≤ i ∧ i ≤ 16) ∨ (18 ≤ i ∧ i ≤ 22) ∨ (24 ≤ i ∧ i ≤ 28) ∨ (30 ≤ i ∧ i ≤ 34) ∨ (36 ≤ i ∧ i ≤ 38) ∨ (54 ≤ i ∧ i ≤ 66) ∨ (79 ≤ i ∧ i ≤ 83)) → M' i = M i) ∧ (∀ i k, ((i = 0 ∧ (k = 10 ∨ k = 11)) ∨ (i = 1 ∧ k = 2) ∨ ((i = 10 ∨ i = 17 ∨ i = 23 ∨ i = 29) ∧ (k = 6 ∨ k = 7 ∨ k = 8)) ∨ (i = 35 ∧ k = 3) ∨ (i = 53 ∧ (k = 0 ∨ k = 1 ∨ k = 4 ∨ k = 9 ∨ k = 16 ∨ k = 18 ∨ k = 19 ∨ k = 42))) → M' i k = M i k)
theorem pi_CL.to {M M' : Nat → Nat → Int32} {c : Nat} {l : LdT} (h : pi_CL M c l) (hr : ∀ i, c + 1 ≤ i → i ≤ c + 6 → M' i = M i) (hf : ∀ k, (k = 6 ∨ k = 7 ∨ k = 8) → M' c k = M c k) : pi_CL M' c l := by
  obtain ⟨h1, h2, h3, h4, h5, h6⟩ := h
  refine ⟨by rw [hf 6 (by omega)]; exact h1, by rw [hf 7 (by omega)]; exact h2, by rw [hf 8 (by omega)]; exact h3, fun p hp => ?_, fun b hb => ?_, fun a ha => ?_⟩
  · rw [hr (c + 1) (by omega) (by omega), hr (c + 2) (by omega) (by omega)]; exact h4 p hp
  · rw [hr (c + 3) (by omega) (by omega), hr (c + 4) (by omega) (by omega), hr (c + 5) (by omega) (by omega)]; exact h5 b hb
  · rw [hr (c + 6) (by omega) (by omega)]; exact h6 a ha
theorem pi_CS.to {M M' : Nat → Nat → Int32} {c : Nat} {l : LdT} {s : StT} (h : pi_CS M c l s) (hr : ∀ i, c + 1 ≤ i → i ≤ c + 5 → M' i = M i) (hf : ∀ k, (k = 6 ∨ k = 7 ∨ k = 8) → M' c k = M c k) : pi_CS M' c l s := by
  obtain ⟨h1, h2, h3, h4, h5⟩ := h
  refine ⟨by rw [hf 6 (by omega)]; exact h1, by rw [hf 7 (by omega)]; exact h2, by rw [hf 8 (by omega)]; exact h3, fun p hp => ?_, fun b hb => ?_⟩
  · rw [hr (c + 1) (by omega) (by omega), hr (c + 2) (by omega) (by omega)]; exact h4 p hp
  · rw [hr (c + 3) (by omega) (by omega), hr (c + 4) (by omega) (by omega), hr (c + 5) (by omega) (by omega)]; exact h5 b hb
theorem pi_ML.to {M M' : Nat → Nat → Int32} {l : LdT} (h : pi_ML M l) (hr : ∀ i, 54 ≤ i → i ≤ 59 → M' i = M i) (hf : ∀ k, (k = 0 ∨ k = 1 ∨ k = 4) → M' 53 k = M 53 k) : pi_ML M' l := by
  obtain ⟨h1, h2, h3, h4, h5, h6⟩ := h
  refine ⟨by rw [hf 0 (by omega)]; exact h1, by rw [hf 1 (by omega)]; exact h2, by rw [hf 4 (by omega)]; exact h3, fun p hp => ?_, fun b hb => ?_, fun a ha => ?_⟩
  · rw [hr 54 (by omega) (by omega), hr 55 (by omega) (by omega)]; exact h4 p hp
  · rw [hr 56 (by omega) (by omega), hr 57 (by omega) (by omega), hr 58 (by omega) (by omega)]; exact h5 b hb
  · rw [hr 59 (by omega) (by omega)]; exact h6 a ha
theorem pi_MS.to {M M' : Nat → Nat → Int32} {l : LdT} {s : StT} (h : pi_MS M l s) (hr : ∀ i, 60 ≤ i → i ≤ 65 → M' i = M i) (hf : ∀ k, (k = 9 ∨ k = 16) → M' 53 k = M 53 k) : pi_MS M' l s := by
  obtain ⟨h1, h2, h3, h4⟩ := h
  refine ⟨by rw [hf 9 (by omega)]; exact h1, by rw [hf 16 (by omega)]; exact h2, fun p hp => ?_, fun b hb => ?_⟩
  · rw [hr 60 (by omega) (by omega), hr 61 (by omega) (by omega), hr 62 (by omega) (by omega)]; exact h3 p hp
  · rw [hr 63 (by omega) (by omega), hr 64 (by omega) (by omega), hr 65 (by omega) (by omega)]; exact h4 b hb
theorem pi_IM.to {M M' : Nat → Nat → Int32} {l : LdT} {c : Nat} {kp : Nat → Bool} {im : Nat → StT} (h : pi_IM M l c kp im) (hr : ∀ i, ((24 ≤ i ∧ i ≤ 28) ∨ (30 ≤ i ∧ i ≤ 34) ∨ i = 82 ∨ i = 83) → M' i = M i) (hf : ∀ i k, ((i = 23 ∨ i = 29) ∧ (k = 6 ∨ k = 7 ∨ k = 8)) → M' i k = M i k) (h0 : M' 0 10 = M 0 10) : pi_IM M' l c kp im := by
  refine ⟨h0.trans h.1, fun i hi => ?_⟩
  obtain ⟨g1, g2⟩ := h.2 i hi
  refine ⟨by rw [hr 83 (by omega)]; exact g1, fun hk => ?_⟩
  obtain ⟨g3, g4, g5⟩ := g2 hk
  refine ⟨g3, ?_, ?_⟩
  · rcases (show i = 0 ∨ i = 1 by omega) with rfl | rfl
    · exact g4.to (fun j h1 h2 => hr j (by omega)) (fun k hk => hf 23 k ⟨Or.inl rfl, hk⟩)
    · exact g4.to (fun j h1 h2 => hr j (by omega)) (fun k hk => hf 29 k ⟨Or.inr rfl, hk⟩)
  · unfold pi_MI
    rw [hr 82 (by omega)]
    exact g5
theorem pi_TD.to {M M' : Nat → Nat → Int32} {l : LdT} {tn : Nat} {td : Nat → Nat × Nat × Int32} (h : pi_TD M l tn td) (hr : ∀ i, ((36 ≤ i ∧ i ≤ 38) ∨ (79 ≤ i ∧ i ≤ 81)) → M' i = M i) (h1 : M' 35 3 = M 35 3) (h2 : M' 53 42 = M 53 42) : pi_TD M' l tn td := by
  refine ⟨h.1, h1.trans h.2.1, h2.trans h.2.2.1, fun i hi => ?_⟩
  rw [hr 36 (by omega), hr 37 (by omega), hr 38 (by omega), hr 79 (by omega), hr 80 (by omega), hr 81 (by omega)]
  exact h.2.2.2 i hi
theorem pi_TX.to {M M' : Nat → Nat → Int32} (h : pi_TX M) (h2 : M' 2 = M 2) (h66 : M' 66 = M 66) (e1 : M' 1 2 = M 1 2) (e2 : M' 53 18 = M 53 18) : pi_TX M' := by
  obtain ⟨n, g1, g2, g3, g4⟩ := h
  refine ⟨n, g1, e1.trans g2, e2.trans g3, fun i hi => ?_⟩
  rw [h2, h66]
  exact g4 i hi
theorem ob_REL.core {c : Nat} {M M' : Nat → Nat → Int32} (h : ob_REL c M) (hc : ob_core M M') : ob_REL c M' := by
  obtain ⟨l, s, kp, im, tn, td, h1, h2, h3, h4, h5, h6, h7, h8, h9, h10⟩ := h
  obtain ⟨r, f⟩ := hc
  refine ⟨l, s, kp, im, tn, td, h1, h2, h3.to (fun i a b => r i (by omega)) (fun k hk => f 10 k (by omega)), h4.to (fun i a b => r i (by omega)) (fun k hk => f 53 k (by omega)), h5.to (fun i a b => r i (by omega)) (fun k hk => f 17 k (by omega)), h6.to (fun i a b => r i (by omega)) (fun k hk => f 53 k (by omega)), h7.to (fun i hi => r i (by omega)) (fun i k hk => f i k (by omega)) (f 0 10 (by omega)), h8.to (fun i hi => r i (by omega)) (f 35 3 (by omega)) (f 53 42 (by omega)), h9.to (r 2 (by omega)) (r 66 (by omega)) (f 1 2 (by omega)) (f 53 18 (by omega)), ?_⟩
  rw [f 0 11 (by omega), f 53 19 (by omega)]
  exact h10
/-- the first place where a test fails -/
def ob_ff (f : Nat → Bool) : Nat → Nat → Int32
  | 0, _ => -1
  | n + 1, i => if f i then ob_ff f n (i + 1) else nI i
def ob_tok (l : LdT) (s : StT) (td : Nat → Nat × Nat × Int32) (left : Option Nat) (i : Nat) : Bool := decide (nI (min 999 (st_a s (td i).1 + ob_ys l s (td i).1 (td i).2.1 left (la_B l))) = (td i).2.2)
theorem ob_ff_or (f : Nat → Bool) : ∀ (n i : Nat), n + i ≤ 1000 → ob_ff f n i = -1 ∨ ∃ j, j < 1000 ∧ ob_ff f n i = nI j
  | 0, i, _ => Or.inl rfl
  | n + 1, i, h => by
    simp only [ob_ff]
    split
    · exact ob_ff_or f n (i + 1) (by omega)
    · exact Or.inr ⟨i, by omega, rfl⟩
section WR
variable {E : ob_E} {σ : ob_Mem} {l : LdT} {s : StT}
theorem k_firstWrong {Q : Int32 → ob_Mem → Prop} {c tn : Nat} {td : Nat → Nat × Nat × Int32} {left : Option Nat} (hleft : ∀ q, left = some q → q < 1000) (hl : ob_lok l) (hs : ob_sok l s c) (hc : c ≤ 600) (hCL : pi_CL σ.1 10 l) (hCS : pi_CS σ.1 17 l s) (hTD : pi_TD σ.1 l tn td) (h : Q (ob_ff (ob_tok l s td left) tn 0) σ) : ob_RM shp E oX7_firstWrong [.ref 35, .ref 17, .int (ob_oI left)] σ (ob_qI Q) := by
  obtain ⟨h20, h1, -, ht⟩ := hTD
  refine m_X7_firstWrong (b_X7_firstWrong_0 ?_)
  refine ob_loop0 (T := fun i => Q (ob_ff (ob_tok l s td left) (tn - i) i) σ → ob_RT shp E oX7_firstWrong 2 [.ref 35, .ref 17, .int (ob_oI left), .int (nI i)] [] σ (ob_qI Q)) (B := tn) (fun h => b_X7_firstWrong_2 ?_) (fun i hi ih h => b_X7_firstWrong_2 ?_) h
  · rw [h1]
    rw [Nat.sub_self] at h
    exact br_t ((ob_le (by omega) (by omega)).mpr (Nat.le_refl _)) h
  · rw [h1]
    have hin : vp_in (nI i) 20 := ob_in (by omega) (by omega)
    obtain ⟨t1, t2, t3, -, t5, -, t7, -⟩ := ht i hi
    refine br_f (fun q => by rw [ob_le (by omega) (by omega)] at q; omega) ⟨hin, hin, ?_⟩
    rw [ob_cl (by omega), t3, t5, nI_1]
    refine k_ageBehind hleft hl hs hc t1 (by omega) hCL hCS ⟨hin, ?_⟩
    rw [t7]
    rw [show tn - i = (tn - (i + 1)) + 1 by omega] at h
    simp only [ob_ff] at h
    by_cases hq : nI (min 999 (st_a s (td i).1 + ob_ys l s (td i).1 (td i).2.1 left (la_B l))) = (td i).2.2
    · rw [if_pos (by simpa [ob_tok] using hq)] at h
      exact br_t hq (ih h)
    · rw [if_neg (by simpa [ob_tok] using hq)] at h
      exact br_f hq h
theorem n_wrongWithout {Q : Int32 → ob_Mem → Prop} {c tn : Nat} {td : Nat → Nat × Nat × Int32} {left : Option Nat} (hleft : ∀ q, left = some q → q < 1000) (hl : ob_lok l) (hs : ob_sok l s c) (hc : c ≤ 600) (hML : pi_ML σ.1 l) (hMS : pi_MS σ.1 l s) (hTD : pi_TD σ.1 l tn td) (h : Q (ob_ff (ob_tok l s td left) tn 0) σ) : ob_RM shp E oX9_wrongWithout [.ref 53, .int (ob_oI left)] σ (ob_qI Q) := by
  obtain ⟨h20, -, h1, ht⟩ := hTD
  refine m_X9_wrongWithout (b_X9_wrongWithout_0 ?_)
  refine ob_loop0 (T := fun i => Q (ob_ff (ob_tok l s td left) (tn - i) i) σ → ob_RT shp E oX9_wrongWithout 2 [.ref 53, .int (ob_oI left), .int (nI i)] [] σ (ob_qI Q)) (B := tn) (fun h => b_X9_wrongWithout_2 ?_) (fun i hi ih h => b_X9_wrongWithout_2 ?_) h
  · rw [h1]
    rw [Nat.sub_self] at h
    exact br_t ((ob_le (by omega) (by omega)).mpr (Nat.le_refl _)) h
  · rw [h1]
    have hin : vp_in (nI i) 20 := ob_in (by omega) (by omega)
    obtain ⟨t1, t2, -, t4, -, t6, -, t8⟩ := ht i hi
    refine br_f (fun q => by rw [ob_le (by omega) (by omega)] at q; omega) ⟨hin, hin, ?_⟩
    rw [ob_cl (by omega), t4, t6, nI_1]
    refine n_ageIn hleft hl hs hc t1 (by omega) hML hMS ⟨hin, ?_⟩
    rw [t8]
    rw [show tn - i = (tn - (i + 1)) + 1 by omega] at h
    simp only [ob_ff] at h
    by_cases hq : nI (min 999 (st_a s (td i).1 + ob_ys l s (td i).1 (td i).2.1 left (la_B l))) = (td i).2.2
    · rw [if_pos (by simpa [ob_tok] using hq)] at h
      exact br_t hq (ih h)
    · rw [if_neg (by simpa [ob_tok] using hq)] at h
      exact br_f hq h
end WR
theorem pr_judge : ob_PAIR oX8_judge oX9_judge [] := by
  intro E c σ hc hR
  have hR1 := hR.mono (Nat.le_succ c)
  obtain ⟨l, s, kp, im, tn, td, hl, hs, hCL, hML, hCS, hMS, hIM, hTD, hTX, hF⟩ := hR
  have hP6 := hl.2.2.1
  have hB8 := hl.2.2.2.1
  have ht : st_t s < 100000000 := by have := hs.1; omega
  exact m_X8_judge (b_X8_judge_0 (k_firstWrong (left := none) (fun q h => by cases h) hl hs (by omega) hCL hCS hTD (m_X9_judge (b_X9_judge_0 (n_wrongWithout (left := none) (fun q h => by cases h) hl hs (by omega) hML hMS hTD ⟨rfl, hR1⟩)))))
theorem pr_forged : ob_PAIR oX8_forged oX9_forged [] := by
  intro E c σ hc hR
  have hR1 := hR.mono (Nat.le_succ c)
  obtain ⟨l, s, kp, im, tn, td, hl, hs, hCL, hML, hCS, hMS, hIM, hTD, hTX, hF⟩ := hR
  have hP6 := hl.2.2.1
  have hB8 := hl.2.2.2.1
  have ht : st_t s < 100000000 := by have := hs.1; omega
  let f : Nat → Bool := fun b => decide (ob_ff (ob_tok l s td (some b)) tn 0 = -1)
  have h20 := hTD.1
  have fin : ob_RM shp E oX9_forged [.ref 53] σ (ob_qI fun r' σ2 => ob_sf f (la_B l) = r' ∧ ob_REL (c + 1) σ2.1) := by
    refine m_X9_forged (b_X9_forged_0 ?_)
    refine ob_loop0 (T := fun i => ob_RT shp E oX9_forged 4 [.ref 53, .int (ob_sf f i), .int (nI i)] [] σ (ob_qI fun r' σ2 => ob_sf f (la_B l) = r' ∧ ob_REL (c + 1) σ2.1)) (B := la_B l) (b_X9_forged_4 ?_) (fun i hi ih => b_X9_forged_4 ?_)
    · rw [hML.2.2.1]
      exact br_t ((ob_le (by omega) (by omega)).mpr (Nat.le_refl _)) ⟨rfl, hR1⟩
    · rw [hML.2.2.1, nI_1, ob_or0]
      refine br_f (fun q => by rw [ob_le (by omega) (by omega)] at q; omega) (n_wrongWithout (left := some i) (fun q h => by cases h; omega) hl hs (by omega) hML hMS hTD ?_)
      rcases ob_ff_or (ob_tok l s td (some i)) tn 0 (by omega) with e | ⟨j, hj, e⟩
      · rw [e]
        refine br_f (by decide) ?_
        rw [ob_sf_pos (f := f) (by simpa [f] using e)]
        exact ih
      · rw [e]
        refine br_t (ob_pos (by omega)) ?_
        rw [ob_sf_neg (f := f) (by simp only [f, e]; exact decide_eq_false (ob_m1 (by omega)))]
        exact ih
  refine m_X8_forged (b_X8_forged_0 ?_)
  refine ob_loop0 (T := fun i => ob_RT shp E oX8_forged 4 [.ref 0, .int (ob_sf f i), .int (nI i)] [] σ (ob_qI fun r σ1 => ob_RM shp E oX9_forged [.ref 53] σ1 (ob_qI fun r' σ2 => r = r' ∧ ob_REL (c + 1) σ2.1))) (B := la_B l) (b_X8_forged_4 ?_) (fun i hi ih => b_X8_forged_4 ?_)
  · rw [hCL.2.2.1]
    exact br_t ((ob_le (by omega) (by omega)).mpr (Nat.le_refl _)) fin
  · rw [hCL.2.2.1, nI_1]
    refine br_f (fun q => by rw [ob_le (by omega) (by omega)] at q; omega) (k_firstWrong (left := some i) (fun q h => by cases h; omega) hl hs (by omega) hCL hCS hTD ?_)
    by_cases e : ob_ff (ob_tok l s td (some i)) tn 0 = -1
    · refine ob_bf e ?_
      rw [ob_sf_pos (f := f) (by simpa [f] using e)]
      exact ih
    · refine ob_bt e ?_
      rw [ob_sf_neg (f := f) (by simpa [f] using e)]
      exact ih
theorem pr_votes (x : Int32) : ob_PAIR oX8_votes oX9_votes [.int x] := by
  intro E c σ hc hR
  have hR1 := hR.mono (Nat.le_succ c)
  obtain ⟨l, s, kp, im, tn, td, hl, hs, hCL, hML, hCS, hMS, hIM, hTD, hTX, hF⟩ := hR
  have hP6 := hl.2.2.1
  have hB8 := hl.2.2.2.1
  have ht : st_t s < 100000000 := by have := hs.1; omega
  by_cases hx : (0 : Int32) ≤ x ∧ x ≤ 999
  · obtain ⟨v, -, hv, rfl⟩ := ob_rng (m := 0) (n := 999) rfl rfl (by omega) hx
    let f : Nat → Bool := fun p => st_v s p && decide (v ≤ st_a s p)
    have fin : ob_RM shp E oX9_votes [.ref 53, .int (nI v)] σ (ob_qI fun r' σ2 => ob_sf f (la_P l) = r' ∧ ob_REL (c + 1) σ2.1) := by
      refine m_X9_votes (b_X9_votes_0 (n_in1 (a := 0) (b := 999) (by decide) (by decide) hx (ob_bt (by decide) ?_)))
      refine ob_loop0 (T := fun i => ob_RT shp E oX9_votes 19 [.ref 53, .int (nI v), .int (ob_sf f i), .int (nI i)] [] σ (ob_qI fun r' σ2 => ob_sf f (la_P l) = r' ∧ ob_REL (c + 1) σ2.1)) (B := la_P l) (b_X9_votes_19 ?_) (fun i hi ih => b_X9_votes_19 ?_)
      · rw [hML.2.1]
        exact br_t ((ob_le (by omega) (by omega)).mpr (Nat.le_refl _)) ⟨rfl, hR1⟩
      · have ha := hs.2.2.1 i hi
        have hin : vp_in (nI i) 6 := ob_in (by omega) (by omega)
        rw [hML.2.1, nI_1, ob_or0, ob_cl (by omega), (hMS.2.2.1 i hi).1, (hMS.2.2.1 i hi).2.2]
        refine br_f (fun q => by rw [ob_le (by omega) (by omega)] at q; omega) ⟨hin, ?_⟩
        cases hv2 : st_v s i with
        | false =>
          refine br_t rfl ?_
          rw [ob_sf_neg (f := f) (by simp [f, hv2])]
          exact ih
        | true =>
          refine br_f (by decide) ⟨hin, ?_⟩
          by_cases hq : st_a s i < v
          · refine br_t ((ob_lt (by omega) (by omega)).mpr hq) ?_
            rw [ob_sf_neg (f := f) (by simp [f, hv2]; omega)]
            exact ih
          · refine br_f (fun q => hq ((ob_lt (by omega) (by omega)).mp q)) ?_
            rw [ob_sf_pos (f := f) (by simp [f, hv2]; omega)]
            exact ih
    refine m_X8_votes (b_X8_votes_0 (k_out hx (br_t rfl ?_)))
    refine ob_loop0 (T := fun i => ob_RT shp E oX8_votes 18 [.ref 0, .int (nI v), .int (ob_sf f i), .int (nI i)] [] σ (ob_qI fun r σ1 => ob_RM shp E oX9_votes [.ref 53, .int (nI v)] σ1 (ob_qI fun r' σ2 => r = r' ∧ ob_REL (c + 1) σ2.1))) (B := la_P l) (b_X8_votes_18 ?_) (fun i hi ih => b_X8_votes_18 ?_)
    · rw [hCL.2.1]
      exact br_t ((ob_le (by omega) (by omega)).mpr (Nat.le_refl _)) fin
    · have ha := hs.2.2.1 i hi
      have hin : vp_in (nI i) 6 := ob_in (by omega) (by omega)
      have ea : σ.1 18 i = nI (st_a s i) := (hCS.2.2.2.1 i hi).1
      rw [hCL.2.1, nI_1]
      refine br_f (fun q => by rw [ob_le (by omega) (by omega)] at q; omega) ?_
      cases hv2 : st_v s i with
      | false =>
        refine k_lives0 hl hCL hCS hi hv2 (br_t rfl ?_)
        rw [ob_sf_neg (f := f) (by simp [f, hv2])]
        exact ih
      | true =>
        refine k_lives1 hl hCL hCS hi hv2 (br_f (by decide) ⟨hin, ?_⟩)
        rw [ob_cl (by omega), ea]
        by_cases hq : st_a s i < v
        · refine br_t ((ob_lt (by omega) (by omega)).mpr hq) ?_
          rw [ob_sf_neg (f := f) (by simp [f, hv2]; omega)]
          exact ih
        · refine br_f (fun q => hq ((ob_lt (by omega) (by omega)).mp q)) ?_
          rw [ob_sf_pos (f := f) (by simp [f, hv2]; omega)]
          exact ih
  · exact m_X8_votes (b_X8_votes_0 (k_out' hx (br_f (by decide) (m_X9_votes (b_X9_votes_0 (n_in0 (a := 0) (b := 999) (by decide) (by decide) hx (ob_bf rfl ⟨rfl, hR1⟩)))))))
theorem pr_tear : ob_PAIR oX8_tear oX9_tear [] := by
  intro E c σ hc hR
  have hR1 := hR.mono (Nat.le_succ c)
  obtain ⟨l, s, kp, im, tn, td, hl, hs, hCL, hML, hCS, hMS, hIM, hTD, hTX, hF⟩ := hR
  have hP6 := hl.2.2.1
  have hB8 := hl.2.2.2.1
  have ht : st_t s < 100000000 := by have := hs.1; omega
  refine m_X8_tear (b_X8_tear_0 (m_X9_tear (b_X9_tear_0 ⟨?_, ?_⟩)))
  · rw [ob_wI_o (by decide)]
    exact hTD.2.1.trans hTD.2.2.1.symm
  · have r : ∀ i, i ≠ 35 → i ≠ 53 → (ob_wI (ob_wI σ 35 3 0) 53 42 0).1 i = σ.1 i := fun i a b => by rw [ob_wI_o b, ob_wI_o a]
    have f : ∀ k, k ≠ 42 → (ob_wI (ob_wI σ 35 3 0) 53 42 0).1 53 k = σ.1 53 k := fun k a => by rw [ob_wI_n a, ob_wI_o (by decide)]
    refine ⟨l, s, kp, im, 0, td, hl, hs.mono (by omega), hCL.to (fun i a b => r i (by omega) (by omega)) (fun k hk => by rw [r 10 (by decide) (by decide)]), hML.to (fun i a b => r i (by omega) (by omega)) (fun k hk => f k (by omega)), hCS.to (fun i a b => r i (by omega) (by omega)) (fun k hk => by rw [r 17 (by decide) (by decide)]), hMS.to (fun i a b => r i (by omega) (by omega)) (fun k hk => f k (by omega)), (hIM.mono (by omega)).to (fun i hi => r i (by omega) (by omega)) (fun i k hk => by rw [r i (by omega) (by omega)]) (by rw [r 0 (by decide) (by decide)]), ⟨by omega, ?_, ?_, fun i hi => by omega⟩, hTX.to (r 2 (by decide) (by decide)) (r 66 (by decide) (by decide)) (by rw [r 1 (by decide) (by decide)]) (f 18 (by decide)), by rw [r 0 (by decide) (by decide), f 19 (by decide)]; exact hF⟩
    · rw [ob_wI_o (by decide), ob_wI_s]; rfl
    · rw [ob_wI_s]; rfl
theorem pr_seed (x : Int32) : ob_PAIR oX8_seed oX9_seed [.int x] := by
  intro E c σ hc hR
  have hR1 := hR.mono (Nat.le_succ c)
  obtain ⟨l, s, kp, im, tn, td, hl, hs, hCL, hML, hCS, hMS, hIM, hTD, hTX, hF⟩ := hR
  have hP6 := hl.2.2.1
  have hB8 := hl.2.2.2.1
  have ht : st_t s < 100000000 := by have := hs.1; omega
  by_cases hx : 0 ≤ x
  · refine m_X8_seed (b_X8_seed_0 (br_t hx (m_X9_seed (b_X9_seed_0 (br_t hx ⟨?_, ?_⟩)))))
    · rw [ob_wI_o (by decide), hMS.2.1]
      exact hCS.2.2.1
    · have r : ∀ i, i ≠ 17 → i ≠ 53 → (ob_wI (ob_wI σ 17 8 x) 53 16 x).1 i = σ.1 i := fun i a b => by rw [ob_wI_o b, ob_wI_o a]
      have f : ∀ k, k ≠ 16 → (ob_wI (ob_wI σ 17 8 x) 53 16 x).1 53 k = σ.1 53 k := fun k a => by rw [ob_wI_n a, ob_wI_o (by decide)]
      have g : ∀ k, k ≠ 8 → (ob_wI (ob_wI σ 17 8 x) 53 16 x).1 17 k = σ.1 17 k := fun k a => by rw [ob_wI_o (by decide), ob_wI_n a]
      have hnx : ¬ x < 0 := by rw [Int32.lt_iff_toInt_lt]; rw [Int32.le_iff_toInt_le] at hx; omega
      refine ⟨l, (st_t s, x, s.2.2), kp, im, tn, td, hl, ⟨(hs.mono (Nat.le_succ c)).1, hnx, hs.2.2⟩, hCL.to (fun i a b => r i (by omega) (by omega)) (fun k hk => by rw [r 10 (by decide) (by decide)]), hML.to (fun i a b => r i (by omega) (by omega)) (fun k hk => f k (by omega)), ⟨?_, ?_, ?_, ?_, ?_⟩, ⟨?_, ?_, ?_, ?_⟩, (hIM.mono (by omega)).to (fun i hi => r i (by omega) (by omega)) (fun i k hk => by rw [r i (by omega) (by omega)]) (by rw [r 0 (by decide) (by decide)]), hTD.to (fun i hi => r i (by omega) (by omega)) (by rw [r 35 (by decide) (by decide)]) (f 42 (by decide)), hTX.to (r 2 (by decide) (by decide)) (r 66 (by decide) (by decide)) (by rw [r 1 (by decide) (by decide)]) (f 18 (by decide)), by rw [r 0 (by decide) (by decide), f 19 (by decide)]; exact hF⟩
      · rw [g 6 (by decide)]; exact hCS.1
      · rw [g 7 (by decide)]; exact hCS.2.1
      · rw [ob_wI_o (by decide), ob_wI_s]
      · rw [r 18 (by decide) (by decide), r 19 (by decide) (by decide)]; exact hCS.2.2.2.1
      · rw [r 20 (by decide) (by decide), r 21 (by decide) (by decide), r 22 (by decide) (by decide)]; exact hCS.2.2.2.2
      · rw [f 9 (by decide)]; exact hMS.1
      · rw [ob_wI_s]
      · rw [r 60 (by decide) (by decide), r 61 (by decide) (by decide), r 62 (by decide) (by decide)]; exact hMS.2.2.1
      · rw [r 63 (by decide) (by decide), r 64 (by decide) (by decide), r 65 (by decide) (by decide)]; exact hMS.2.2.2
  · exact m_X8_seed (b_X8_seed_0 (br_f hx (m_X9_seed (b_X9_seed_0 (br_f hx ⟨rfl, hR1⟩)))))
