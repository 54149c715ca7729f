/-! the relation between calls, and the pairs that only read -/
def pi_MI (M : Nat → Nat → Int32) (a : Nat) (l : LdT) (s : StT) : Prop := M 82 (a + 42) = nI (st_t s) ∧ M 82 (a + 43) = st_x s ∧ (∀ p, p < la_P l → M 82 (a + p) = nI (st_a s p) ∧ M 82 (a + 6 + p) = st_u s p ∧ M 82 (a + 12 + p) = ob_bI (st_v s p)) ∧ ∀ b, b < la_B l → M 82 (a + 18 + b) = ob_oI (st_w s b) ∧ M 82 (a + 26 + b) = ob_oI (st_b s b) ∧ M 82 (a + 34 + b) = ob_tI (st_b s b) (st_e s b)
def pi_IM (M : Nat → Nat → Int32) (l : LdT) (c : Nat) (kp : Nat → Bool) (im : Nat → StT) : Prop := M 0 10 = ob_sf kp 2 ∧ ∀ i, i < 2 → M 83 i = ob_bI (kp i) ∧ (kp i = true → ob_sok l (im i) c ∧ pi_CS M (23 + 6 * i) l (im i) ∧ pi_MI M (50 * i) l (im i))
def pi_TD (M : Nat → Nat → Int32) (l : LdT) (tn : Nat) (td : Nat → Nat × Nat × Int32) : Prop := tn ≤ 20 ∧ M 35 3 = nI tn ∧ M 53 42 = nI tn ∧ ∀ i, i < tn → (td i).1 < la_P l ∧ (td i).2.1 ≤ 9999 ∧ M 36 i = nI (td i).1 ∧ M 79 i = nI (td i).1 ∧ M 37 i = nI (td i).2.1 ∧ M 80 i = nI (td i).2.1 ∧ M 38 i = (td i).2.2 ∧ M 81 i = (td i).2.2
def pi_TX (M : Nat → Nat → Int32) : Prop := ∃ n, n ≤ 500 ∧ M 1 2 = nI n ∧ M 53 18 = nI n ∧ ∀ i, i < n → ∃ ch, ch < 256 ∧ M 66 i = nI ch ∧ M 2 i = (nI ch).toInt8.toInt32
def ob_REL (c : Nat) (M : Nat → Nat → Int32) : Prop := ∃ (l : LdT) (s : StT) (kp : Nat → Bool) (im : Nat → StT) (tn : Nat) (td : Nat → Nat × Nat × Int32), ob_lok l ∧ ob_sok l s c ∧ pi_CL M 10 l ∧ pi_ML M l ∧ pi_CS M 17 l s ∧ pi_MS M l s ∧ pi_IM M l c kp im ∧ pi_TD M l tn td ∧ pi_TX M ∧ M 0 11 = M 53 19
theorem ob_sok.mono {l : LdT} {s : StT} {c d : Nat} (h : ob_sok l s c) (hcd : c ≤ d) : ob_sok l s d := ⟨by have := h.1; omega, h.2⟩
theorem pi_IM.mono {M : Nat → Nat → Int32} {l : LdT} {c d : Nat} {kp : Nat → Bool} {im : Nat → StT} (h : pi_IM M l c kp im) (hcd : c ≤ d) : pi_IM M l d kp im := ⟨h.1, fun i hi => ⟨(h.2 i hi).1, fun hk => ⟨((h.2 i hi).2 hk).1.mono hcd, ((h.2 i hi).2 hk).2⟩⟩⟩
theorem ob_REL.mono {c d : Nat} {M : Nat → Nat → Int32} (h : ob_REL c M) (hcd : c ≤ d) : ob_REL d M := by
  obtain ⟨l, s, kp, im, tn, td, h1, h2, h3, h4, h5, h6, h7, h8⟩ := h
  exact ⟨l, s, kp, im, tn, td, h1, h2.mono hcd, h3, h4, h5, h6, h7.mono hcd, h8⟩
/-- class and reference answer alike, and the relation holds behind both -/
def ob_PAIR (x m : ob_M) (as : List Value) : Prop := ∀ (E : ob_E) (c : Nat) (σ : ob_Mem), c < 512 → ob_REL c σ.1 → ob_RM shp E x (.ref 0 :: as) σ (ob_qI fun r σ1 => ob_RM shp E m (.ref 53 :: as) σ1 (ob_qI fun r' σ2 => r = r' ∧ ob_REL (c + 1) σ2.1))
section RD
variable {E : ob_E} {σ : ob_Mem} {l : LdT} {s : StT}
theorem k_out {Q : Int32 → ob_Mem → Prop} {x a b : Int32} (h : a ≤ x ∧ x ≤ b) (k : Q 0 σ) : ob_RM shp E oX8_isOutside [.int x, .int a, .int b] σ (ob_qI Q) := by
  have g : ¬ x < a := by have := h.1; rw [Int32.le_iff_toInt_le] at this; rw [Int32.lt_iff_toInt_lt]; omega
  exact m_X8_isOutside (b_X8_isOutside_0 (br_f g (br_t h.2 k)))
theorem k_out' {Q : Int32 → ob_Mem → Prop} {x a b : Int32} (h : ¬ (a ≤ x ∧ x ≤ b)) (k : Q 1 σ) : ob_RM shp E oX8_isOutside [.int x, .int a, .int b] σ (ob_qI Q) := by
  refine m_X8_isOutside (b_X8_isOutside_0 ⟨fun _ => k, fun c => br_f (fun c2 => h ⟨?_, c2⟩) k⟩)
  rw [Int32.lt_iff_toInt_lt] at c
  rw [Int32.le_iff_toInt_le]
  omega
theorem n_in1 {Q : Int32 → ob_Mem → Prop} {x a b : Int32} {y1 y2 : Int64} (e1 : y1 = a.toInt64) (e2 : y2 = b.toInt64) (h : a ≤ x ∧ x ≤ b) (k : Q 1 σ) : ob_RM shp E oX9_in [.long x.toInt64, .long y1, .long y2] σ (ob_qI Q) := n_in e1 e2 (fun _ _ => k) (fun c => absurd h c)
theorem n_in0 {Q : Int32 → ob_Mem → Prop} {x a b : Int32} {y1 y2 : Int64} (e1 : y1 = a.toInt64) (e2 : y2 = b.toInt64) (h : ¬ (a ≤ x ∧ x ≤ b)) (k : Q 0 σ) : ob_RM shp E oX9_in [.long x.toInt64, .long y1, .long y2] σ (ob_qI Q) := n_in e1 e2 (fun c1 c2 => absurd ⟨c1, c2⟩ h) (fun _ => k)
theorem k_hasP1 {Q : Int32 → ob_Mem → Prop} {j P : Nat} (hP : σ.1 10 7 = nI P) (hp6 : P ≤ 6) (hj : j < P) (k : Q 1 σ) : ob_RM shp E oX2_hasPerson [.ref 10, .int (nI j)] σ (ob_qI Q) := k_hasPerson hP hp6 (fun _ _ _ => k) (fun c => absurd rfl (c j hj))
theorem k_hasP0 {Q : Int32 → ob_Mem → Prop} {x : Int32} {P : Nat} (hP : σ.1 10 7 = nI P) (hp6 : P ≤ 6) (h : ¬ ∃ j, j < P ∧ x = nI j) (k : Q 0 σ) : ob_RM shp E oX2_hasPerson [.ref 10, .int x] σ (ob_qI Q) := k_hasPerson hP hp6 (fun j hj e => absurd ⟨j, hj, e⟩ h) (fun _ => k)
theorem k_hasB1 {Q : Int32 → ob_Mem → Prop} {j P : Nat} (hP : σ.1 10 8 = nI P) (hp6 : P ≤ 8) (hj : j < P) (k : Q 1 σ) : ob_RM shp E oX2_hasBirthday [.ref 10, .int (nI j)] σ (ob_qI Q) := k_hasBirthday hP hp6 (fun _ _ _ => k) (fun c => absurd rfl (c j hj))
theorem k_hasB0 {Q : Int32 → ob_Mem → Prop} {x : Int32} {P : Nat} (hP : σ.1 10 8 = nI P) (hp6 : P ≤ 8) (h : ¬ ∃ j, j < P ∧ x = nI j) (k : Q 0 σ) : ob_RM shp E oX2_hasBirthday [.ref 10, .int x] σ (ob_qI Q) := k_hasBirthday hP hp6 (fun j hj e => absurd ⟨j, hj, e⟩ h) (fun _ => k)
theorem n_isP1 {Q : Int32 → ob_Mem → Prop} {j P : Nat} (hP : σ.1 53 1 = nI P) (hp6 : P ≤ 6) (hj : j < P) (k : Q 1 σ) : ob_RM shp E oX9_isPerson [.ref 53, .int (nI j)] σ (ob_qI Q) := n_isPerson hP hp6 (fun _ _ _ => k) (fun c => absurd rfl (c j hj))
theorem n_isP0 {Q : Int32 → ob_Mem → Prop} {x : Int32} {P : Nat} (hP : σ.1 53 1 = nI P) (hp6 : P ≤ 6) (h : ¬ ∃ j, j < P ∧ x = nI j) (k : Q 0 σ) : ob_RM shp E oX9_isPerson [.ref 53, .int x] σ (ob_qI Q) := n_isPerson hP hp6 (fun j hj e => absurd ⟨j, hj, e⟩ h) (fun _ => k)
theorem n_isB1 {Q : Int32 → ob_Mem → Prop} {j P : Nat} (hP : σ.1 53 4 = nI P) (hp6 : P ≤ 8) (hj : j < P) (k : Q 1 σ) : ob_RM shp E oX9_isBirthday [.ref 53, .int (nI j)] σ (ob_qI Q) := n_isBirthday hP hp6 (fun _ _ _ => k) (fun c => absurd rfl (c j hj))
theorem n_isB0 {Q : Int32 → ob_Mem → Prop} {x : Int32} {P : Nat} (hP : σ.1 53 4 = nI P) (hp6 : P ≤ 8) (h : ¬ ∃ j, j < P ∧ x = nI j) (k : Q 0 σ) : ob_RM shp E oX9_isBirthday [.ref 53, .int x] σ (ob_qI Q) := n_isBirthday hP hp6 (fun j hj e => absurd ⟨j, hj, e⟩ h) (fun _ => k)
theorem k_lives1 {Q : Int32 → ob_Mem → Prop} {j : Nat} (hl : ob_lok l) (hL : pi_CL σ.1 10 l) (hS : pi_CS σ.1 17 l s) (hj : j < la_P l) (hv : st_v s j = true) (k : Q 1 σ) : ob_RM shp E oX6_lives [.ref 17, .int (nI j)] σ (ob_qI Q) := k_lives hl hL hS (fun _ _ _ _ => k) (fun c => by have := c j hj rfl; rw [hv] at this; cases this)
theorem k_lives0 {Q : Int32 → ob_Mem → Prop} {j : Nat} (hl : ob_lok l) (hL : pi_CL σ.1 10 l) (hS : pi_CS σ.1 17 l s) (hj : j < la_P l) (hv : st_v s j = false) (k : Q 0 σ) : ob_RM shp E oX6_lives [.ref 17, .int (nI j)] σ (ob_qI Q) := k_lives hl hL hS (fun i hi e h => by have hP := hl.2.2.1; rw [ob_eq (by omega) (by omega)] at e; subst e; rw [hv] at h; cases h) (fun _ => k)
theorem ob_rng {x a b : Int32} {m n : Nat} (ha : a = nI m) (hb : b = nI n) (hn : n < 2000000000) (h : a ≤ x ∧ x ≤ b) (hm : m < 2000000000 := by omega) : ∃ k, m ≤ k ∧ k ≤ n ∧ x = nI k := by
  subst ha
  subst hb
  obtain ⟨h1, h2⟩ := h
  rw [Int32.le_iff_toInt_le, nI_toInt (by omega)] at h1 h2
  refine ⟨x.toInt.toNat, by omega, by omega, ?_⟩
  apply Int32.toInt_inj.mp
  rw [nI_toInt (by omega)]
  omega
end RD
theorem pr_fault : ob_PAIR oX8_fault oX9_fault [] := by
  intro E c σ hc hR
  have hR1 := hR.mono (Nat.le_succ c)
  obtain ⟨l, s, kp, im, tn, td, hl, hs, hCL, hML, hCS, hMS, hIM, hTD, hTX, hF⟩ := hR
  have hP6 := hl.2.2.1
  have hB8 := hl.2.2.2.1
  have ht : st_t s < 100000000 := by have := hs.1; omega
  exact m_X8_fault (b_X8_fault_0 (m_X9_fault (b_X9_fault_0 ⟨hF, hR1⟩)))
theorem pr_told (x : Int32) : ob_PAIR oX8_told oX9_told [.int x] := by
  intro E c σ hc hR
  have hR1 := hR.mono (Nat.le_succ c)
  obtain ⟨l, s, kp, im, tn, td, hl, hs, hCL, hML, hCS, hMS, hIM, hTD, hTX, hF⟩ := hR
  have hP6 := hl.2.2.1
  have hB8 := hl.2.2.2.1
  have ht : st_t s < 100000000 := by have := hs.1; omega
  obtain ⟨n, -, g1, g2, -⟩ := id hTX
  have e3 : σ.1 1 2 = σ.1 53 18 := g1.trans g2.symm
  refine m_X8_told (b_X8_told_0 ⟨?_, ?_, ?_, ?_, ?_, ?_, ?_, ?_, ?_⟩)
  · exact fun hx => m_X9_told (b_X9_told_0 ⟨fun _ => ⟨rfl, hR1⟩, fun e => absurd hx (by rw [e]; decide), fun e => absurd hx (by rw [e]; decide), fun e => absurd hx (by rw [e]; decide), fun e => absurd hx (by rw [e]; decide), fun e => absurd hx (by rw [e]; decide), fun e => absurd hx (by rw [e]; decide), fun e => absurd hx (by rw [e]; decide), fun e => absurd hx (by rw [e]; decide)⟩)
  · exact fun e => by subst e; exact m_X9_told (b_X9_told_0 ⟨fun e => absurd e (by decide), fun _ => ⟨hCL.1.trans hML.1.symm, hR1⟩, fun e => absurd e (by decide), fun e => absurd e (by decide), fun e => absurd e (by decide), fun e => absurd e (by decide), fun e => absurd e (by decide), fun e => absurd e (by decide), fun e => absurd e (by decide)⟩)
  · exact fun e => by subst e; exact m_X9_told (b_X9_told_0 ⟨fun e => absurd e (by decide), fun e => absurd e (by decide), fun _ => ⟨hCL.2.1.trans hML.2.1.symm, hR1⟩, fun e => absurd e (by decide), fun e => absurd e (by decide), fun e => absurd e (by decide), fun e => absurd e (by decide), fun e => absurd e (by decide), fun e => absurd e (by decide)⟩)
  · exact fun e => by subst e; exact m_X9_told (b_X9_told_0 ⟨fun e => absurd e (by decide), fun e => absurd e (by decide), fun e => absurd e (by decide), fun _ => ⟨hCL.2.2.1.trans hML.2.2.1.symm, hR1⟩, fun e => absurd e (by decide), fun e => absurd e (by decide), fun e => absurd e (by decide), fun e => absurd e (by decide), fun e => absurd e (by decide)⟩)
  · exact fun e => by subst e; exact m_X9_told (b_X9_told_0 ⟨fun e => absurd e (by decide), fun e => absurd e (by decide), fun e => absurd e (by decide), fun e => absurd e (by decide), fun _ => ⟨e3, hR1⟩, fun e => absurd e (by decide), fun e => absurd e (by decide), fun e => absurd e (by decide), fun e => absurd e (by decide)⟩)
  · exact fun e => by subst e; exact m_X9_told (b_X9_told_0 ⟨fun e => absurd e (by decide), fun e => absurd e (by decide), fun e => absurd e (by decide), fun e => absurd e (by decide), fun e => absurd e (by decide), fun _ => ⟨hCS.2.1.trans hMS.1.symm, hR1⟩, fun e => absurd e (by decide), fun e => absurd e (by decide), fun e => absurd e (by decide)⟩)
  · exact fun e => by subst e; exact m_X9_told (b_X9_told_0 ⟨fun e => absurd e (by decide), fun e => absurd e (by decide), fun e => absurd e (by decide), fun e => absurd e (by decide), fun e => absurd e (by decide), fun e => absurd e (by decide), fun _ => (n_alive hl hML hMS ⟨hCS.1, hR1⟩), fun e => absurd e (by decide), fun e => absurd e (by decide)⟩)
  · exact fun e => by subst e; exact k_lentSet hl hs hCL hCS (m_X9_told (b_X9_told_0 ⟨fun e => absurd e (by decide), fun e => absurd e (by decide), fun e => absurd e (by decide), fun e => absurd e (by decide), fun e => absurd e (by decide), fun e => absurd e (by decide), fun e => absurd e (by decide), fun _ => (n_lentSet hl hs hML hMS ⟨rfl, hR1⟩), fun e => absurd e (by decide)⟩))
  · exact fun e => by subst e; exact m_X9_told (b_X9_told_0 ⟨fun e => absurd e (by decide), fun e => absurd e (by decide), fun e => absurd e (by decide), fun e => absurd e (by decide), fun e => absurd e (by decide), fun e => absurd e (by decide), fun e => absurd e (by decide), fun e => absurd e (by decide), fun _ => ⟨hTD.2.1.trans hTD.2.2.1.symm, hR1⟩⟩)
theorem pr_person (x z : Int32) : ob_PAIR oX8_person oX9_person [.int x, .int z] := by
  intro E c σ hc hR
  have hR1 := hR.mono (Nat.le_succ c)
  obtain ⟨l, s, kp, im, tn, td, hl, hs, hCL, hML, hCS, hMS, hIM, hTD, hTX, hF⟩ := hR
  have hP6 := hl.2.2.1
  have hB8 := hl.2.2.2.1
  have ht : st_t s < 100000000 := by have := hs.1; omega
  by_cases hx : ∃ j, j < la_P l ∧ x = nI j
  · obtain ⟨p, hp, rfl⟩ := hx
    have hin : vp_in (nI p) 6 := ob_in (by omega) (by omega)
    have hcl : (nI p).toNatClampNeg = p := ob_cl (by omega)
    have e0 : σ.1 18 p = σ.1 60 p := (hCS.2.2.2.1 p hp).1.trans (hMS.2.2.1 p hp).1.symm
    have e1 : σ.1 19 p = σ.1 61 p := (hCS.2.2.2.1 p hp).2.trans (hMS.2.2.1 p hp).2.1.symm
    refine m_X8_person (b_X8_person_0 (k_hasP1 hCL.2.1 hP6 hp (ob_bt (by decide) ?_)))
    rw [hcl]
    refine ⟨?_, ?_, ?_, ?_, ?_, ?_⟩
    · exact fun hx => m_X9_person (b_X9_person_0 (n_isP1 hML.2.1 hP6 hp (ob_bt (by decide) (by rw [hcl]; exact ⟨fun _ => ⟨rfl, hR1⟩, fun e => absurd hx (by rw [e]; decide), fun e => absurd hx (by rw [e]; decide), fun e => absurd hx (by rw [e]; decide), fun e => absurd hx (by rw [e]; decide), fun e => absurd hx (by rw [e]; decide)⟩))))
    · exact fun e => by subst e; exact ⟨hin, m_X9_person (b_X9_person_0 (n_isP1 hML.2.1 hP6 hp (ob_bt (by decide) (by rw [hcl]; exact ⟨fun e => absurd e (by decide), fun _ => ⟨hin, e0, hR1⟩, fun e => absurd e (by decide), fun e => absurd e (by decide), fun e => absurd e (by decide), fun e => absurd e (by decide)⟩))))⟩
    · exact fun e => by subst e; exact ⟨hin, m_X9_person (b_X9_person_0 (n_isP1 hML.2.1 hP6 hp (ob_bt (by decide) (by rw [hcl]; exact ⟨fun e => absurd e (by decide), fun e => absurd e (by decide), fun _ => ⟨hin, e1, hR1⟩, fun e => absurd e (by decide), fun e => absurd e (by decide), fun e => absurd e (by decide)⟩))))⟩
    · intro e
      subst e
      have e2 := (hMS.2.2.1 p hp).2.2
      cases hv : st_v s p with
      | true =>
        rw [hv] at e2
        exact k_lives1 hl hCL hCS hp hv (br_f (by decide) (m_X9_person (b_X9_person_0 (n_isP1 hML.2.1 hP6 hp (ob_bt (by decide) (by rw [hcl]; exact ⟨fun e => absurd e (by decide), fun e => absurd e (by decide), fun e => absurd e (by decide), fun _ => ⟨hin, by rw [e2]; exact br_f (by decide) ⟨rfl, hR1⟩⟩, fun e => absurd e (by decide), fun e => absurd e (by decide)⟩))))))
      | false =>
        rw [hv] at e2
        exact k_lives0 hl hCL hCS hp hv (br_t rfl (m_X9_person (b_X9_person_0 (n_isP1 hML.2.1 hP6 hp (ob_bt (by decide) (by rw [hcl]; exact ⟨fun e => absurd e (by decide), fun e => absurd e (by decide), fun e => absurd e (by decide), fun _ => ⟨hin, by rw [e2]; exact br_t rfl ⟨rfl, hR1⟩⟩, fun e => absurd e (by decide), fun e => absurd e (by decide)⟩))))))
    · exact fun e => by subst e; exact k_ownedSet (by omega) hl hs hCL hCS (m_X9_person (b_X9_person_0 (n_isP1 hML.2.1 hP6 hp (ob_bt (by decide) (by rw [hcl]; exact ⟨fun e => absurd e (by decide), fun e => absurd e (by decide), fun e => absurd e (by decide), fun e => absurd e (by decide), fun _ => n_ownedBy (c := 0) (by omega) hl (fun b hb => (ob_kb hs hl hb).2.1) hML (fun b hb => (hMS.2.2.2 b hb).1) ⟨rfl, hR1⟩, fun e => absurd e (by decide)⟩)))))
    · exact fun e => by subst e; exact k_usedSet (by omega) hl hs hCL hCS (m_X9_person (b_X9_person_0 (n_isP1 hML.2.1 hP6 hp (ob_bt (by decide) (by rw [hcl]; exact ⟨fun e => absurd e (by decide), fun e => absurd e (by decide), fun e => absurd e (by decide), fun e => absurd e (by decide), fun e => absurd e (by decide), fun _ => n_usedBy (by omega) hl hs hML hMS ⟨rfl, hR1⟩⟩)))))
  · exact m_X8_person (b_X8_person_0 (k_hasP0 hCL.2.1 hP6 hx (ob_bf rfl (m_X9_person (b_X9_person_0 (n_isP0 hML.2.1 hP6 hx (ob_bf rfl ⟨rfl, hR1⟩)))))))
theorem pr_birthday (x z : Int32) : ob_PAIR oX8_birthday oX9_birthday [.int x, .int z] := by
  intro E c σ hc hR
  have hR1 := hR.mono (Nat.le_succ c)
  obtain ⟨l, s, kp, im, tn, td, hl, hs, hCL, hML, hCS, hMS, hIM, hTD, hTX, hF⟩ := hR
  have hP6 := hl.2.2.1
  have hB8 := hl.2.2.2.1
  have ht : st_t s < 100000000 := by have := hs.1; omega
  by_cases hx : ∃ j, j < la_B l ∧ x = nI j
  · obtain ⟨p, hp, rfl⟩ := hx
    have hin : vp_in (nI p) 8 := ob_in (by omega) (by omega)
    have hcl : (nI p).toNatClampNeg = p := ob_cl (by omega)
    obtain ⟨a1, a2, a3⟩ := hCL.2.2.2.2.1 p hp
    obtain ⟨b1, b2, b3⟩ := hML.2.2.2.2.1 p hp
    obtain ⟨c1, c2, c3⟩ := hCS.2.2.2.2 p hp
    obtain ⟨d1, d2, d3⟩ := hMS.2.2.2 p hp
    have e0 : σ.1 13 p = σ.1 56 p := a1.trans b1.symm
    have e1 : σ.1 20 p = σ.1 63 p := c1.trans d1.symm
    have e2 : σ.1 15 p = σ.1 58 p := a3.trans b3.symm
    have e3 : σ.1 21 p = σ.1 64 p := c2.trans d2.symm
    have e4 : σ.1 22 p = σ.1 65 p := c3.trans d3.symm
    refine m_X8_birthday (b_X8_birthday_0 (k_hasB1 hCL.2.2.1 hB8 hp (ob_bt (by decide) ?_)))
    rw [hcl]
    refine ⟨?_, ?_, ?_, ?_, ?_, ?_, ?_, ?_, ?_⟩
    · exact fun hx => m_X9_birthday (b_X9_birthday_0 (n_isB1 hML.2.2.1 hB8 hp (ob_bt (by decide) (by rw [hcl]; exact ⟨fun _ => ⟨rfl, hR1⟩, fun e => absurd hx (by rw [e]; decide), fun e => absurd hx (by rw [e]; decide), fun e => absurd hx (by rw [e]; decide), fun e => absurd hx (by rw [e]; decide), fun e => absurd hx (by rw [e]; decide), fun e => absurd hx (by rw [e]; decide), fun e => absurd hx (by rw [e]; decide), fun e => absurd hx (by rw [e]; decide)⟩))))
    · exact fun e => by subst e; exact ⟨hin, m_X9_birthday (b_X9_birthday_0 (n_isB1 hML.2.2.1 hB8 hp (ob_bt (by decide) (by rw [hcl]; exact ⟨fun e => absurd e (by decide), fun _ => ⟨hin, e0, hR1⟩, fun e => absurd e (by decide), fun e => absurd e (by decide), fun e => absurd e (by decide), fun e => absurd e (by decide), fun e => absurd e (by decide), fun e => absurd e (by decide), fun e => absurd e (by decide)⟩))))⟩
    · exact fun e => by subst e; exact ⟨hin, m_X9_birthday (b_X9_birthday_0 (n_isB1 hML.2.2.1 hB8 hp (ob_bt (by decide) (by rw [hcl]; exact ⟨fun e => absurd e (by decide), fun e => absurd e (by decide), fun _ => ⟨hin, e1, hR1⟩, fun e => absurd e (by decide), fun e => absurd e (by decide), fun e => absurd e (by decide), fun e => absurd e (by decide), fun e => absurd e (by decide), fun e => absurd e (by decide)⟩))))⟩
    · exact fun e => by subst e; exact ⟨hin, m_X9_birthday (b_X9_birthday_0 (n_isB1 hML.2.2.1 hB8 hp (ob_bt (by decide) (by rw [hcl]; exact ⟨fun e => absurd e (by decide), fun e => absurd e (by decide), fun e => absurd e (by decide), fun _ => ⟨hin, e2, hR1⟩, fun e => absurd e (by decide), fun e => absurd e (by decide), fun e => absurd e (by decide), fun e => absurd e (by decide), fun e => absurd e (by decide)⟩))))⟩
    · exact fun e => by subst e; exact ⟨hin, m_X9_birthday (b_X9_birthday_0 (n_isB1 hML.2.2.1 hB8 hp (ob_bt (by decide) (by rw [hcl]; exact ⟨fun e => absurd e (by decide), fun e => absurd e (by decide), fun e => absurd e (by decide), fun e => absurd e (by decide), fun _ => ⟨hin, e3, hR1⟩, fun e => absurd e (by decide), fun e => absurd e (by decide), fun e => absurd e (by decide), fun e => absurd e (by decide)⟩))))⟩
    · exact fun e => by subst e; exact ⟨hin, m_X9_birthday (b_X9_birthday_0 (n_isB1 hML.2.2.1 hB8 hp (ob_bt (by decide) (by rw [hcl]; exact ⟨fun e => absurd e (by decide), fun e => absurd e (by decide), fun e => absurd e (by decide), fun e => absurd e (by decide), fun e => absurd e (by decide), fun _ => ⟨hin, e4, hR1⟩, fun e => absurd e (by decide), fun e => absurd e (by decide), fun e => absurd e (by decide)⟩))))⟩
    · exact fun e => by subst e; exact k_userOf hl hs hCS hp (m_X9_birthday (b_X9_birthday_0 (n_isB1 hML.2.2.1 hB8 hp (ob_bt (by decide) (by rw [hcl]; exact ⟨fun e => absurd e (by decide), fun e => absurd e (by decide), fun e => absurd e (by decide), fun e => absurd e (by decide), fun e => absurd e (by decide), fun e => absurd e (by decide), fun _ => n_userOf hl hs hMS hp ⟨rfl, hR1⟩, fun e => absurd e (by decide), fun e => absurd e (by decide)⟩)))))
    · exact fun e => by subst e; exact k_daysTill hl ht hCL hCS hp (m_X9_birthday (b_X9_birthday_0 (n_isB1 hML.2.2.1 hB8 hp (ob_bt (by decide) (by rw [hcl]; exact ⟨fun e => absurd e (by decide), fun e => absurd e (by decide), fun e => absurd e (by decide), fun e => absurd e (by decide), fun e => absurd e (by decide), fun e => absurd e (by decide), fun e => absurd e (by decide), fun _ => n_tillOf hl ht hML hMS hp ⟨rfl, hR1⟩, fun e => absurd e (by decide)⟩)))))
    · exact fun e => by subst e; exact k_seasonOf hl ht hCL hCS hp (m_X9_birthday (b_X9_birthday_0 (n_isB1 hML.2.2.1 hB8 hp (ob_bt (by decide) (by rw [hcl]; exact ⟨fun e => absurd e (by decide), fun e => absurd e (by decide), fun e => absurd e (by decide), fun e => absurd e (by decide), fun e => absurd e (by decide), fun e => absurd e (by decide), fun e => absurd e (by decide), fun e => absurd e (by decide), fun _ => n_seasonOf hl ht hML hMS hp ⟨rfl, hR1⟩⟩)))))
  · exact m_X8_birthday (b_X8_birthday_0 (k_hasB0 hCL.2.2.1 hB8 hx (ob_bf rfl (m_X9_birthday (b_X9_birthday_0 (n_isB0 hML.2.2.1 hB8 hx (ob_bf rfl ⟨rfl, hR1⟩)))))))
theorem pr_good (x : Int32) : ob_PAIR oX8_good oX9_good [.int x] := by
  intro E c σ hc hR
  have hR1 := hR.mono (Nat.le_succ c)
  obtain ⟨l, s, kp, im, tn, td, hl, hs, hCL, hML, hCS, hMS, hIM, hTD, hTX, hF⟩ := hR
  have hP6 := hl.2.2.1
  have hB8 := hl.2.2.2.1
  have ht : st_t s < 100000000 := by have := hs.1; omega
  by_cases hx : (0 : Int32) ≤ x ∧ x ≤ 999
  · obtain ⟨k, -, hk, rfl⟩ := ob_rng (m := 0) (n := 999) rfl rfl (by omega) hx
    exact m_X8_good (b_X8_good_0 (k_out hx (br_t rfl (k_goodOf (by omega) hl hCL (m_X9_good (b_X9_good_0 (n_in1 (a := 0) (b := 999) (by decide) (by decide) hx (br_f (by decide) (n_goodOf (by omega) hl hML ⟨rfl, hR1⟩)))))))))
  · exact m_X8_good (b_X8_good_0 (k_out' hx (br_f (by decide) (m_X9_good (b_X9_good_0 (n_in0 (a := 0) (b := 999) (by decide) (by decide) hx (br_t rfl ⟨rfl, hR1⟩)))))))
theorem pr_foretold (x z : Int32) : ob_PAIR oX8_foretold oX9_foretold [.int x, .int z] := by
  intro E c σ hc hR
  have hR1 := hR.mono (Nat.le_succ c)
  obtain ⟨l, s, kp, im, tn, td, hl, hs, hCL, hML, hCS, hMS, hIM, hTD, hTX, hF⟩ := hR
  have hP6 := hl.2.2.1
  have hB8 := hl.2.2.2.1
  have ht : st_t s < 100000000 := by have := hs.1; omega
  by_cases hx : ∃ j, j < la_P l ∧ x = nI j
  · obtain ⟨p, hp, rfl⟩ := hx
    refine m_X8_foretold (b_X8_foretold_0 (k_hasP1 hCL.2.1 hP6 hp (ob_bt (by decide) ?_)))
    by_cases hz : (0 : Int32) ≤ z ∧ z ≤ 99999
    · obtain ⟨k, -, hk, rfl⟩ := ob_rng (m := 0) (n := 99999) rfl rfl (by omega) hz
      refine k_out hz (br_t rfl (k_ageBehind (left := none) (fun q h => by cases h) hl hs (by omega) hp (by omega) hCL hCS (m_X9_foretold (b_X9_foretold_0 (n_isP1 hML.2.1 hP6 hp (ob_bt (by decide) (n_in1 (a := 0) (b := 99999) (by decide) (by decide) hz (br_f (by decide) (n_ageIn (left := none) (fun q h => by cases h) hl hs (by omega) hp (by omega) hML hMS ⟨rfl, hR1⟩)))))))))
    · exact k_out' hz (br_f (by decide) (m_X9_foretold (b_X9_foretold_0 (n_isP1 hML.2.1 hP6 hp (ob_bt (by decide) (n_in0 (a := 0) (b := 99999) (by decide) (by decide) hz (br_t rfl ⟨rfl, hR1⟩)))))))
  · exact m_X8_foretold (b_X8_foretold_0 (k_hasP0 hCL.2.1 hP6 hx (ob_bf rfl (m_X9_foretold (b_X9_foretold_0 (n_isP0 hML.2.1 hP6 hx (ob_bf rfl ⟨rfl, hR1⟩)))))))
