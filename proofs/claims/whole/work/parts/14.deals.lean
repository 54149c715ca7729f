/-! deals: tell, sell, lend -/
theorem ob_REL.st {c d : Nat} {M M' : Nat → Nat → Int32} {l : LdT} {s : StT} {kp : Nat → Bool} {im : Nat → StT} {tn : Nat} {td : Nat → Nat × Nat × Int32} (hcd : c ≤ d) (hl : ob_lok l) (hCL : pi_CL M 10 l) (hML : pi_ML M l) (hIM : pi_IM M l c kp im) (hTD : pi_TD M l tn td) (hTX : pi_TX M) (hF : M 0 11 = M 53 19) (hs : ob_sok l s d) (hCS : pi_CS M' 17 l s) (hMS : pi_MS M' l s)
    (r : ∀ i, (i = 2 ∨ (11 ≤ i ∧ i ≤ 16) ∨ (24 ≤ i ∧ i ≤ 28) ∨ (30 ≤ i ∧ i ≤ 34) ∨ (36 ≤ i ∧ i ≤ 38) ∨ (54 ≤ i ∧ i ≤ 59) ∨ i = 66 ∨ (79 ≤ i ∧ i ≤ 83)) → M' i = M i) (f : ∀ i k, ((i = 0 ∧ (k = 10 ∨ k = 11)) ∨ (i = 1 ∧ k = 2) ∨ ((i = 10 ∨ i = 23 ∨ i = 29) ∧ (k = 6 ∨ k = 7 ∨ k = 8)) ∨ (i = 35 ∧ k = 3) ∨ (i = 53 ∧ (k = 0 ∨ k = 1 ∨ k = 4 ∨ k = 18 ∨ k = 19 ∨ k = 42))) → M' i k = M i k) : ob_REL d M' := by
  refine ⟨l, s, kp, im, tn, td, hl, hs, hCL.to (fun i a b => r i (by omega)) (fun k hk => f 10 k (by omega)), hML.to (fun i a b => r i (by omega)) (fun k hk => f 53 k (by omega)), hCS, hMS, (hIM.mono hcd).to (fun i hi => r i (by omega)) (fun i k hk => f i k (by omega)) (f 0 10 (by omega)), hTD.to (fun i hi => r i (by omega)) (f 35 3 (by omega)) (f 53 42 (by omega)), hTX.to (r 2 (by omega)) (r 66 (by omega)) (f 1 2 (by omega)) (f 53 18 (by omega)), ?_⟩
  rw [f 0 11 (by omega), f 53 19 (by omega)]
  exact hF
def ob_MD (s : StT) (b p : Nat) (sum : Int32) (o : Nat) : Prop := st_w s b = some o ∧ o ≠ p ∧ st_b s b = none ∧ st_v s p = true ∧ ¬ st_u s p < sum
def ob_pu (s : StT) (o p : Nat) (sum : Int32) (q : Nat) : Int32 := if q = o then st_u s o + sum else if q = p then st_u s p - sum else st_u s q
section DE
variable {E : ob_E} {σ : ob_Mem} {l : LdT} {s : StT}
theorem k_mayDeal {Q : Int32 → ob_Mem → Prop} {b p c : Nat} {sum : Int32} (hl : ob_lok l) (hs : ob_sok l s c) (hCL : pi_CL σ.1 10 l) (hCS : pi_CS σ.1 17 l s) (hb : b < la_B l) (hp : p < la_P l) (h1 : ∀ o, ob_MD s b p sum o → Q 1 σ) (h0 : (∀ o, ¬ ob_MD s b p sum o) → Q 0 σ) : ob_RM shp E oX6_mayDeal [.ref 17, .int (nI b), .int (nI p), .int sum] σ (ob_qI Q) := by
  have hP6 := hl.2.2.1
  have hB8 := hl.2.2.2.1
  have hin : vp_in (nI b) 8 := ob_in (by omega) (by omega)
  have hip : vp_in (nI p) 6 := ob_in (by omega) (by omega)
  have kw := (ob_kb hs hl hb).2.1
  have e1 : σ.1 20 b = ob_oI (st_w s b) := (hCS.2.2.2.2 b hb).1
  have e2 : σ.1 19 p = st_u s p := (hCS.2.2.2.1 p hp).2
  refine m_X6_mayDeal (b_X6_mayDeal_0 ⟨hin, ?_⟩)
  rw [ob_cl (n := b) (by omega), ob_cl (n := p) (by omega), e1]
  cases hw : st_w s b with
  | none => exact br_t rfl (h0 (fun o h => by have h := h.1; rw [hw] at h; cases h))
  | some o =>
    have ho : o < 2000000000 := kw o hw
    refine br_f (ob_m1 ho) ⟨hin, ?_⟩
    by_cases hop : o = p
    · exact br_t ((ob_eq ho (by omega)).mpr hop) (h0 (fun o2 h => by obtain ⟨g1, g2, -⟩ := h; rw [hw] at g1; cases g1; exact g2 hop))
    · refine br_f (fun q => hop ((ob_eq ho (by omega)).mp q)) (k_isLent hl (ob_kb hs hl hb).1 hCS hb (fun hq => ob_bt (by decide) (h0 (fun o2 h => hq h.2.2.1))) (fun hq => ob_bf rfl ?_))
      cases hv : st_v s p with
      | false => exact k_lives0 hl hCL hCS hp hv (br_t rfl (h0 (fun o2 h => by have := h.2.2.2.1; rw [hv] at this; cases this)))
      | true =>
        refine k_lives1 hl hCL hCS hp hv (br_f (by decide) ⟨hip, ?_⟩)
        rw [e2]
        by_cases hu : st_u s p < sum
        · exact br_t hu (h0 (fun o2 h => h.2.2.2.2 hu))
        · exact br_f hu (h1 o ⟨hw, hop, hq, hv, hu⟩)
theorem n_mayDeal {Q : Int32 → ob_Mem → Prop} {b p c : Nat} {sum : Int32} (hl : ob_lok l) (hs : ob_sok l s c) (hML : pi_ML σ.1 l) (hMS : pi_MS σ.1 l s) (hb : b < la_B l) (hp : p < la_P l) (h1 : ∀ o, ob_MD s b p sum o → Q 1 σ) (h0 : (∀ o, ¬ ob_MD s b p sum o) → Q 0 σ) : ob_RM shp E oX9_mayDeal [.ref 53, .int (nI b), .int (nI p), .int sum] σ (ob_qI Q) := by
  have hP6 := hl.2.2.1
  have hB8 := hl.2.2.2.1
  have hin : vp_in (nI b) 8 := ob_in (by omega) (by omega)
  have hip : vp_in (nI p) 6 := ob_in (by omega) (by omega)
  obtain ⟨kb, kw, -⟩ := ob_kb hs hl hb
  obtain ⟨e1, e3, -⟩ := hMS.2.2.2 b hb
  obtain ⟨-, e2, e4⟩ := hMS.2.2.1 p hp
  refine m_X9_mayDeal (b_X9_mayDeal_0 ⟨hin, ?_⟩)
  rw [ob_cl (n := b) (by omega), ob_cl (n := p) (by omega), e1, e2, e3, e4]
  cases hw : st_w s b with
  | none => exact br_t (by decide) (h0 (fun o h => by have h := h.1; rw [hw] at h; cases h))
  | some o =>
    have ho : o < 2000000000 := kw o hw
    refine br_f (ob_nneg ho) ⟨hin, ?_⟩
    cases hq : st_b s b with
    | some r => exact br_t (ob_pos (kb r hq)) (h0 (fun o2 h => by have := h.2.2.1; rw [hq] at this; cases this))
    | none =>
      refine br_f (by decide) ⟨hip, ?_⟩
      cases hv : st_v s p with
      | false => exact br_t rfl (h0 (fun o2 h => by have := h.2.2.2.1; rw [hv] at this; cases this))
      | true =>
        refine br_f (by decide) ⟨hin, ?_⟩
        by_cases hop : o = p
        · exact br_t ((ob_eq ho (by omega)).mpr hop) (h0 (fun o2 h => by obtain ⟨g1, g2, -⟩ := h; rw [hw] at g1; cases g1; exact g2 hop))
        · refine br_f (fun q => hop ((ob_eq ho (by omega)).mp q)) ⟨hip, ?_⟩
          by_cases hu : st_u s p < sum
          · exact br_t hu (h0 (fun o2 h => h.2.2.2.2 hu))
          · exact br_f hu (h1 o ⟨hw, hop, hq, hv, hu⟩)
theorem ob_pay {A : Nat → Nat → Int32} {σ : ob_Mem} {i o p : Nat} {sum : Int32} (hop : o ≠ p) (q : Nat) : (ob_wI (ob_wI σ i p (σ.1 i p - sum)) i o ((ob_wI σ i p (σ.1 i p - sum)).1 i o + sum)).1 i q = if q = o then σ.1 i o + sum else if q = p then σ.1 i p - sum else σ.1 i q := by
  simp [ob_wI, hop]
theorem k_payOwner {Q : ob_Mem → Prop} {b p o : Nat} {sum : Int32} (hl : ob_lok l) (hCL : pi_CL σ.1 10 l) (hCS : pi_CS σ.1 17 l s) (hb : b < la_B l) (hp : p < la_P l) (ho : o < la_P l) (hw : st_w s b = some o) (hop : o ≠ p) (h : ∀ σ' : ob_Mem, (∀ i, i ≠ 19 → σ'.1 i = σ.1 i) → (∀ q, q < la_P l → σ'.1 19 q = ob_pu s o p sum q) → Q σ') : ob_RM shp E oX6_payOwner [.ref 17, .int (nI b), .int (nI p), .int sum] σ (ob_qV Q) := by
  have hP6 := hl.2.2.1
  have hB8 := hl.2.2.2.1
  have hin : vp_in (nI b) 8 := ob_in (by omega) (by omega)
  have hip : vp_in (nI p) 6 := ob_in (by omega) (by omega)
  have hio : vp_in (nI o) 6 := ob_in (by omega) (by omega)
  have e1 : σ.1 20 b = nI o := by rw [show σ.1 20 b = ob_oI (st_w s b) from (hCS.2.2.2.2 b hb).1, hw]; rfl
  refine m_X6_payOwner (b_X6_payOwner_0 ⟨hin, ?_⟩)
  rw [ob_cl (n := b) (by omega), e1]
  refine k_hasP1 hCL.2.1 hP6 ho (br_f (by decide) ?_)
  rw [ob_cl (n := p) (by omega), ob_wI_o (by decide), e1, ob_cl (n := o) (by omega)]
  refine ⟨hip, hip, hin, hio, hio, h _ (fun i hi => by rw [ob_wI_o hi, ob_wI_o hi]) (fun q hq => ?_)⟩
  rw [ob_pay (A := σ.1) hop]
  have e := fun q hq => (hCS.2.2.2.1 q hq).2
  unfold ob_pu
  rw [← e o ho, ← e p hp, ← e q hq]
theorem n_pay {Q : ob_Mem → Prop} {b p o : Nat} {sum : Int32} (hl : ob_lok l) (hMS : pi_MS σ.1 l s) (hb : b < la_B l) (hp : p < la_P l) (ho : o < la_P l) (hw : st_w s b = some o) (hop : o ≠ p) (h : ∀ σ' : ob_Mem, (∀ i, i ≠ 61 → σ'.1 i = σ.1 i) → (∀ q, q < la_P l → σ'.1 61 q = ob_pu s o p sum q) → Q σ') : ob_RM shp E oX9_pay [.ref 53, .int (nI b), .int (nI p), .int sum] σ (ob_qV Q) := by
  have hP6 := hl.2.2.1
  have hB8 := hl.2.2.2.1
  have hin : vp_in (nI b) 8 := ob_in (by omega) (by omega)
  have hip : vp_in (nI p) 6 := ob_in (by omega) (by omega)
  have hio : vp_in (nI o) 6 := ob_in (by omega) (by omega)
  have e1 : σ.1 63 b = nI o := by rw [(hMS.2.2.2 b hb).1, hw]; rfl
  refine m_X9_pay (b_X9_pay_0 ?_)
  rw [ob_cl (n := p) (by omega), ob_cl (n := b) (by omega), ob_wI_o (by decide), e1, ob_cl (n := o) (by omega)]
  refine ⟨hip, hip, hin, hio, hio, h _ (fun i hi => by rw [ob_wI_o hi, ob_wI_o hi]) (fun q hq => ?_)⟩
  rw [ob_pay (A := σ.1) hop]
  have e := fun q hq => (hMS.2.2.1 q hq).2.1
  unfold ob_pu
  rw [← e o ho, ← e p hp, ← e q hq]
/-- sold: b is p's now -/
def ob_ss (s : StT) (b p o : Nat) (sum : Int32) : StT := (st_t s, st_x s, st_a s, ob_pu s o p sum, st_v s, fun d => if d = b then some p else st_w s d, st_b s, st_e s)
/-- lent till the end of day e -/
def ob_ls (s : StT) (b p o e : Nat) (sum : Int32) : StT := (st_t s, st_x s, st_a s, ob_pu s o p sum, st_v s, st_w s, fun d => if d = b then some p else st_b s d, fun d => if d = b then e else st_e s d)
theorem ob_ss_ok {b p o c : Nat} {sum : Int32} (hs : ob_sok l s c) (hb : b < la_B l) (hp : p < la_P l) (h : ob_MD s b p sum o) : ob_sok l (ob_ss s b p o sum) c := by
  obtain ⟨g1, g2, g3, g4⟩ := hs
  refine ⟨g1, g2, g3, fun d hd => ?_⟩
  obtain ⟨q1, q2, q3⟩ := g4 d hd
  by_cases hdb : d = b
  · subst hdb
    refine ⟨fun e => ?_, fun q e => ?_, fun q e => ?_⟩
    · have e : (if d = d then some p else st_w s d) = none := e
      rw [if_pos rfl] at e
      cases e
    · have e : (if d = d then some p else st_w s d) = some q := e
      rw [if_pos rfl] at e
      cases e
      exact ⟨hp, h.2.2.2.1⟩
    · have e : st_b s d = some q := e
      rw [h.2.2.1] at e
      cases e
  · simp only [ob_ss, st_w, st_b, st_e, st_v, st_t, if_neg hdb]
    exact ⟨q1, q2, q3⟩
theorem ob_ls_ok {b p o n c : Nat} {sum : Int32} (hs : ob_sok l s c) (hb : b < la_B l) (hp : p < la_P l) (hn : 1 ≤ n) (hn2 : n ≤ 9999) (h : ob_MD s b p sum o) : ob_sok l (ob_ls s b p o (st_t s + n) sum) c := by
  obtain ⟨g1, g2, g3, g4⟩ := hs
  refine ⟨g1, g2, g3, fun d hd => ?_⟩
  obtain ⟨q1, q2, q3⟩ := g4 d hd
  by_cases hdb : d = b
  · subst hdb
    refine ⟨q1, q2, fun q e => ?_⟩
    have e : (if d = d then some p else st_b s d) = some q := e
    rw [if_pos rfl] at e
    cases e
    refine ⟨hp, h.2.2.2.1, ?_, ?_, ?_, ?_⟩
    · show st_w s d ≠ none
      rw [h.1]
      exact fun q => by cases q
    · show st_w s d ≠ some p
      rw [h.1]
      exact fun q => h.2.1 (by cases q; rfl)
    · show st_t s < if d = d then st_t s + n else st_e s d
      rw [if_pos rfl]
      omega
    · show (if d = d then st_t s + n else st_e s d) ≤ st_t s + 9999
      rw [if_pos rfl]
      omega
  · simp only [ob_ls, st_w, st_b, st_e, st_v, st_t, if_neg hdb]
    exact ⟨q1, q2, q3⟩
theorem k_sellTo {Q : ob_Mem → Prop} {b p o c : Nat} {sum : Int32} (hl : ob_lok l) (hs : ob_sok l s c) (hCL : pi_CL σ.1 10 l) (hCS : pi_CS σ.1 17 l s) (hb : b < la_B l) (hp : p < la_P l) (hm : ob_MD s b p sum o) (h : ∀ σ' : ob_Mem, pi_CS σ'.1 17 l (ob_ss s b p o sum) → (∀ i, i ≠ 19 → i ≠ 20 → σ'.1 i = σ.1 i) → Q σ') : ob_RM shp E oX6_sellTo [.ref 17, .int (nI b), .int (nI p), .int sum] σ (ob_qV Q) := by
  have hB8 := hl.2.2.2.1
  have ho := ((hs.2.2.2 b hb).2.1 o hm.1).1
  refine m_X6_sellTo (b_X6_sellTo_0 (k_payOwner hl hCL hCS hb hp ho hm.1 hm.2.1 (fun σ' r u => ⟨ob_in (by omega) (by omega), ?_⟩)))
  rw [ob_cl (by omega)]
  have r2 : ∀ i, i ≠ 19 → i ≠ 20 → (ob_wI σ' 20 b (nI p)).1 i = σ.1 i := fun i a1 a2 => by rw [ob_wI_o a2, r i a1]
  refine h _ ⟨?_, ?_, ?_, fun q hq => ⟨?_, ?_⟩, fun d hd => ⟨?_, ?_, ?_⟩⟩ r2
  · rw [r2 17 (by decide) (by decide)]; exact hCS.1
  · rw [r2 17 (by decide) (by decide)]; exact hCS.2.1
  · rw [r2 17 (by decide) (by decide)]; exact hCS.2.2.1
  · rw [r2 18 (by decide) (by decide)]; exact (hCS.2.2.2.1 q hq).1
  · rw [ob_wI_o (by decide)]; exact u q hq
  · show (ob_wI σ' 20 b (nI p)).1 20 d = ob_oI (if d = b then some p else st_w s d)
    by_cases hdb : d = b
    · subst hdb
      rw [ob_wI_s, if_pos rfl]
      rfl
    · rw [ob_wI_n hdb, if_neg hdb, r 20 (by decide)]
      exact (hCS.2.2.2.2 d hd).1
  · rw [r2 21 (by decide) (by decide)]; exact (hCS.2.2.2.2 d hd).2.1
  · rw [r2 22 (by decide) (by decide)]; exact (hCS.2.2.2.2 d hd).2.2
theorem k_lendTo {Q : ob_Mem → Prop} {b p o n c : Nat} {sum : Int32} (hl : ob_lok l) (hs : ob_sok l s c) (hCL : pi_CL σ.1 10 l) (hCS : pi_CS σ.1 17 l s) (hb : b < la_B l) (hp : p < la_P l) (hm : ob_MD s b p sum o) (h : ∀ σ' : ob_Mem, pi_CS σ'.1 17 l (ob_ls s b p o (st_t s + n) sum) → (∀ i, i ≠ 19 → i ≠ 21 → i ≠ 22 → σ'.1 i = σ.1 i) → Q σ') : ob_RM shp E oX6_lendTo [.ref 17, .int (nI b), .int (nI p), .int (nI n), .int sum] σ (ob_qV Q) := by
  have hB8 := hl.2.2.2.1
  have ho := ((hs.2.2.2 b hb).2.1 o hm.1).1
  have hin : vp_in (nI b) 8 := ob_in (by omega) (by omega)
  refine m_X6_lendTo (b_X6_lendTo_0 (k_payOwner hl hCL hCS hb hp ho hm.1 hm.2.1 (fun σ' r u => ⟨hin, hin, ?_⟩)))
  rw [ob_cl (by omega), ob_wI_o (by decide), r 17 (by decide), hCS.2.1, nI_add]
  have r2 : ∀ i, i ≠ 19 → i ≠ 21 → i ≠ 22 → (ob_wI (ob_wI σ' 21 b (nI p)) 22 b (nI (st_t s + n))).1 i = σ.1 i := fun i a1 a2 a3 => by rw [ob_wI_o a3, ob_wI_o a2, r i a1]
  refine h _ ⟨?_, ?_, ?_, fun q hq => ⟨?_, ?_⟩, fun d hd => ⟨?_, ?_, ?_⟩⟩ r2
  · rw [r2 17 (by decide) (by decide) (by decide)]; exact hCS.1
  · rw [r2 17 (by decide) (by decide) (by decide)]; exact hCS.2.1
  · rw [r2 17 (by decide) (by decide) (by decide)]; exact hCS.2.2.1
  · rw [r2 18 (by decide) (by decide) (by decide)]; exact (hCS.2.2.2.1 q hq).1
  · rw [ob_wI_o (by decide), ob_wI_o (by decide)]; exact u q hq
  · rw [r2 20 (by decide) (by decide) (by decide)]; exact (hCS.2.2.2.2 d hd).1
  · show (ob_wI (ob_wI σ' 21 b (nI p)) 22 b (nI (st_t s + n))).1 21 d = ob_oI (if d = b then some p else st_b s d)
    rw [ob_wI_o (by decide)]
    by_cases hdb : d = b
    · subst hdb
      rw [ob_wI_s, if_pos rfl]
      rfl
    · rw [ob_wI_n hdb, if_neg hdb, r 21 (by decide)]
      exact (hCS.2.2.2.2 d hd).2.1
  · show (ob_wI (ob_wI σ' 21 b (nI p)) 22 b (nI (st_t s + n))).1 22 d = ob_tI (if d = b then some p else st_b s d) (if d = b then st_t s + n else st_e s d)
    by_cases hdb : d = b
    · subst hdb
      rw [ob_wI_s, if_pos rfl, if_pos rfl]
      rfl
    · rw [ob_wI_n hdb, if_neg hdb, if_neg hdb, ob_wI_o (by decide), r 22 (by decide)]
      exact (hCS.2.2.2.2 d hd).2.2
/-- the reference's sale, whole -/
theorem n_sell {Q : Int32 → ob_Mem → Prop} {b p o c : Nat} {sum : Int32} (hl : ob_lok l) (hs : ob_sok l s c) (hML : pi_ML σ.1 l) (hMS : pi_MS σ.1 l s) (hb : b < la_B l) (hp : p < la_P l) (hsum : (0 : Int32) ≤ sum ∧ sum ≤ 999) (hm : ob_MD s b p sum o) (h : ∀ σ' : ob_Mem, pi_MS σ'.1 l (ob_ss s b p o sum) → (∀ i, i ≠ 61 → i ≠ 63 → σ'.1 i = σ.1 i) → Q (ob_pu s o p sum p) σ') : ob_RM shp E oX9_sell [.ref 53, .int (nI b), .int (nI p), .int sum] σ (ob_qI Q) := by
  have hP6 := hl.2.2.1
  have hB8 := hl.2.2.2.1
  have ho := ((hs.2.2.2 b hb).2.1 o hm.1).1
  have hin : vp_in (nI b) 8 := ob_in (by omega) (by omega)
  have hip : vp_in (nI p) 6 := ob_in (by omega) (by omega)
  refine m_X9_sell (b_X9_sell_0 (n_isB1 hML.2.2.1 hB8 hb (br_f (by decide) (n_isP1 hML.2.1 hP6 hp (ob_bt (by decide) (n_in1 (a := 0) (b := 999) (by decide) (by decide) hsum (ob_bt (by decide) (n_mayDeal hl hs hML hMS hb hp (fun _ _ => ob_bt (by decide) ?_) (fun q => absurd hm (q o))))))))))
  refine n_pay hl hMS hb hp ho hm.1 hm.2.1 (fun σ' r u => ⟨hin, hip, ?_⟩)
  rw [ob_cl (n := b) (by omega), ob_cl (n := p) (by omega), ob_wI_o (by decide), u p hp]
  have r2 : ∀ i, i ≠ 61 → i ≠ 63 → (ob_wI σ' 63 b (nI p)).1 i = σ.1 i := fun i a1 a2 => by rw [ob_wI_o a2, r i a1]
  refine h _ ⟨?_, ?_, fun q hq => ⟨?_, ?_, ?_⟩, fun d hd => ⟨?_, ?_, ?_⟩⟩ r2
  · rw [r2 53 (by decide) (by decide)]; exact hMS.1
  · rw [r2 53 (by decide) (by decide)]; exact hMS.2.1
  · rw [r2 60 (by decide) (by decide)]; exact (hMS.2.2.1 q hq).1
  · rw [ob_wI_o (by decide)]; exact u q hq
  · rw [r2 62 (by decide) (by decide)]; exact (hMS.2.2.1 q hq).2.2
  · show (ob_wI σ' 63 b (nI p)).1 63 d = ob_oI (if d = b then some p else st_w s d)
    by_cases hdb : d = b
    · subst hdb
      rw [ob_wI_s, if_pos rfl]
      rfl
    · rw [ob_wI_n hdb, if_neg hdb, r 63 (by decide)]
      exact (hMS.2.2.2 d hd).1
  · rw [r2 64 (by decide) (by decide)]; exact (hMS.2.2.2 d hd).2.1
  · rw [r2 65 (by decide) (by decide)]; exact (hMS.2.2.2 d hd).2.2
theorem n_sellNot {Q : Int32 → ob_Mem → Prop} {b p c : Nat} {sum : Int32} (hl : ob_lok l) (hs : ob_sok l s c) (hML : pi_ML σ.1 l) (hMS : pi_MS σ.1 l s) (hb : b < la_B l) (hp : p < la_P l) (hsum : (0 : Int32) ≤ sum ∧ sum ≤ 999) (hm : ∀ o, ¬ ob_MD s b p sum o) (h : Q (-1000000003) σ) : ob_RM shp E oX9_sell [.ref 53, .int (nI b), .int (nI p), .int sum] σ (ob_qI Q) := by
  have hP6 := hl.2.2.1
  have hB8 := hl.2.2.2.1
  exact m_X9_sell (b_X9_sell_0 (n_isB1 hML.2.2.1 hB8 hb (br_f (by decide) (n_isP1 hML.2.1 hP6 hp (ob_bt (by decide) (n_in1 (a := 0) (b := 999) (by decide) (by decide) hsum (ob_bt (by decide) (n_mayDeal hl hs hML hMS hb hp (fun o q => absurd q (hm o)) (fun _ => ob_bf rfl h)))))))))
end DE
theorem pr_sell (x z u : Int32) : ob_PAIR oX8_sell oX9_sell [.int x, .int z, .int u] := by
  intro E c σ hc hR
  have hR1 := hR.mono (Nat.le_succ c)
  obtain ⟨l, s, kp, im, tn, td, hl, hs, hCL, hML, hCS, hMS, hIM, hTD, hTX, hF⟩ := hR
  have hP6 := hl.2.2.1
  have hB8 := hl.2.2.2.1
  have ht : st_t s < 100000000 := by have := hs.1; omega
  by_cases hx : ∃ j, j < la_B l ∧ x = nI j
  · obtain ⟨b, hb, rfl⟩ := hx
    refine m_X8_sell (b_X8_sell_0 (k_hasB1 hCL.2.2.1 hB8 hb (br_f (by decide) ?_)))
    by_cases hz : ∃ j, j < la_P l ∧ z = nI j
    · obtain ⟨p, hp, rfl⟩ := hz
      have hip : vp_in (nI p) 6 := ob_in (by omega) (by omega)
      refine k_hasP1 hCL.2.1 hP6 hp (ob_bt (by decide) ?_)
      by_cases hu : (0 : Int32) ≤ u ∧ u ≤ 999
      · refine k_out hu (br_t rfl (k_mayDeal hl hs hCL hCS hb hp (fun o hm => ob_bt (by decide) ?_) (fun hm => ob_bf rfl (n_sellNot hl hs hML hMS hb hp hu hm ⟨rfl, hR1⟩))))
        refine k_sellTo hl hs hCL hCS hb hp hm (fun σ1 hCS1 r1 => ⟨hip, ?_⟩)
        rw [ob_cl (n := p) (by omega), show σ1.1 19 p = ob_pu s o p u p from (hCS1.2.2.2.1 p hp).2]
        have hML1 : pi_ML σ1.1 l := hML.to (fun i a b => r1 i (by omega) (by omega)) (fun k hk => by rw [r1 53 (by decide) (by decide)])
        have hMS1 : pi_MS σ1.1 l s := hMS.to (fun i a b => r1 i (by omega) (by omega)) (fun k hk => by rw [r1 53 (by decide) (by decide)])
        refine n_sell hl hs hML1 hMS1 hb hp hu hm (fun σ2 hMS2 r2 => ⟨rfl, ?_⟩)
        have r : ∀ i, i ≠ 19 → i ≠ 20 → i ≠ 61 → i ≠ 63 → σ2.1 i = σ.1 i := fun i a b c d => by rw [r2 i c d, r1 i a b]
        exact ob_REL.st (Nat.le_succ c) hl hCL hML hIM hTD hTX hF (ob_ss_ok (hs.mono (Nat.le_succ c)) hb hp hm) (hCS1.to (fun i a b => r2 i (by omega) (by omega)) (fun k hk => by rw [r2 17 (by decide) (by decide)])) hMS2 (fun i hi => r i (by omega) (by omega) (by omega) (by omega)) (fun i k hk => by rw [r i (by omega) (by omega) (by omega) (by omega)])
      · exact k_out' hu (br_f (by decide) (m_X9_sell (b_X9_sell_0 (n_isB1 hML.2.2.1 hB8 hb (br_f (by decide) (n_isP1 hML.2.1 hP6 hp (ob_bt (by decide) (n_in0 (a := 0) (b := 999) (by decide) (by decide) hu (ob_bf rfl ⟨rfl, hR1⟩)))))))))
    · exact k_hasP0 hCL.2.1 hP6 hz (ob_bf rfl (m_X9_sell (b_X9_sell_0 (n_isB1 hML.2.2.1 hB8 hb (br_f (by decide) (n_isP0 hML.2.1 hP6 hz (ob_bf rfl ⟨rfl, hR1⟩)))))))
  · exact m_X8_sell (b_X8_sell_0 (k_hasB0 hCL.2.2.1 hB8 hx (br_t rfl (m_X9_sell (b_X9_sell_0 (n_isB0 hML.2.2.1 hB8 hx (br_t rfl ⟨rfl, hR1⟩)))))))
theorem pr_lend (x z y u : Int32) : ob_PAIR oX8_lend oX9_lend [.int x, .int z, .int y, .int u] := by
  intro E c σ hc hR
  have hR1 := hR.mono (Nat.le_succ c)
  obtain ⟨l, s, kp, im, tn, td, hl, hs, hCL, hML, hCS, hMS, hIM, hTD, hTX, hF⟩ := hR
  have hP6 := hl.2.2.1
  have hB8 := hl.2.2.2.1
  have ht : st_t s < 100000000 := by have := hs.1; omega
  by_cases hx : ∃ j, j < la_B l ∧ x = nI j
  · obtain ⟨b, hb, rfl⟩ := hx
    refine m_X8_lend (b_X8_lend_0 (k_hasB1 hCL.2.2.1 hB8 hb (br_f (by decide) ?_)))
    by_cases hz : ∃ j, j < la_P l ∧ z = nI j
    · obtain ⟨p, hp, rfl⟩ := hz
      have hip : vp_in (nI p) 6 := ob_in (by omega) (by omega)
      have hin : vp_in (nI b) 8 := ob_in (by omega) (by omega)
      refine k_hasP1 hCL.2.1 hP6 hp (ob_bt (by decide) ?_)
      by_cases hy : (1 : Int32) ≤ y ∧ y ≤ 9999
      · obtain ⟨n, hn1, hn2, rfl⟩ := ob_rng (m := 1) (n := 9999) rfl rfl (by omega) hy
        refine k_out hy (ob_bf rfl ?_)
        by_cases hu : (0 : Int32) ≤ u ∧ u ≤ 999
        · have mo : ∀ {τ : ob_Mem} {Q : Int32 → ob_Mem → Prop}, pi_ML τ.1 l → ob_RM shp E oX9_mayDeal [.ref 53, .int (nI b), .int (nI p), .int u] τ (ob_qI fun v10 σ9 => ((¬ v10 = 0 → ob_RM shp E oX9_pay [.ref 53, .int (nI b), .int (nI p), .int u] σ9 (ob_qV fun σ11 => (vp_in (nI b) 8 ∧ (vp_in (nI b) 8 ∧ (∀ σ12, σ12 = (ob_wI (ob_wI σ11 64 (nI b).toNatClampNeg (nI p)) 65 (nI b).toNatClampNeg (((ob_wI σ11 64 (nI b).toNatClampNeg (nI p)).1 53 9) + (nI n))) → (vp_in (nI p) 6 ∧ Q (σ12.1 61 (nI p).toNatClampNeg) σ12)))))) ∧ (v10 = 0 → Q (-1000000003 : Int32) σ9))) → ob_RM shp E oX9_lend [.ref 53, .int (nI b), .int (nI p), .int (nI n), .int u] τ (ob_qI Q) := fun hML k => m_X9_lend (b_X9_lend_0 (n_isB1 hML.2.2.1 hB8 hb (br_f (by decide) (n_isP1 hML.2.1 hP6 hp (ob_bt (by decide) (n_in1 (a := 1) (b := 9999) (by decide) (by decide) hy (br_f (by decide) (n_in1 (a := 0) (b := 999) (by decide) (by decide) hu (ob_bt (by decide) k)))))))))
          refine k_out hu (br_t rfl (k_mayDeal hl hs hCL hCS hb hp (fun o hm => ob_bt (by decide) ?_) (fun hm => ob_bf rfl (mo hML (n_mayDeal hl hs hML hMS hb hp (fun o q => absurd q (hm o)) (fun _ => ob_bf rfl ⟨rfl, hR1⟩))))))
          have ho := ((hs.2.2.2 b hb).2.1 o hm.1).1
          refine k_lendTo (n := n) hl hs hCL hCS hb hp hm (fun σ1 hCS1 r1 => ⟨hip, ?_⟩)
          rw [ob_cl (n := p) (by omega), show σ1.1 19 p = ob_pu s o p u p from (hCS1.2.2.2.1 p hp).2]
          have hML1 : pi_ML σ1.1 l := hML.to (fun i a b => r1 i (by omega) (by omega) (by omega)) (fun k hk => by rw [r1 53 (by decide) (by decide) (by decide)])
          have hMS1 : pi_MS σ1.1 l s := hMS.to (fun i a b => r1 i (by omega) (by omega) (by omega)) (fun k hk => by rw [r1 53 (by decide) (by decide) (by decide)])
          refine mo hML1 (n_mayDeal hl hs hML1 hMS1 hb hp (fun _ _ => ob_bt (by decide) (n_pay hl hMS1 hb hp ho hm.1 hm.2.1 (fun σ' r' u' => ⟨hin, hin, ?_⟩))) (fun q => absurd hm (q o)))
          rw [ob_cl (n := b) (by omega), ob_cl (n := p) (by omega), ob_wI_o (by decide), r' 53 (by decide), hMS1.1, nI_add]
          rintro σ2 rfl
          have r2 : ∀ i, i ≠ 61 → i ≠ 64 → i ≠ 65 → (ob_wI (ob_wI σ' 64 b (nI p)) 65 b (nI (st_t s + n))).1 i = σ1.1 i := fun i a1 a2 a3 => by rw [ob_wI_o a3, ob_wI_o a2, r' i a1]
          refine ⟨hip, ?_, ?_⟩
          · rw [ob_wI_o (by decide), ob_wI_o (by decide)]
            exact (u' p hp).symm
          have r : ∀ i, i ≠ 19 → i ≠ 21 → i ≠ 22 → i ≠ 61 → i ≠ 64 → i ≠ 65 → (ob_wI (ob_wI σ' 64 b (nI p)) 65 b (nI (st_t s + n))).1 i = σ.1 i := fun i a b c d e f => by rw [r2 i d e f, r1 i a b c]
          refine ob_REL.st (Nat.le_succ c) hl hCL hML hIM hTD hTX hF (ob_ls_ok (hs.mono (Nat.le_succ c)) hb hp hn1 hn2 hm) (hCS1.to (fun i a b => r2 i (by omega) (by omega) (by omega)) (fun k hk => by rw [r2 17 (by decide) (by decide) (by decide)])) ⟨?_, ?_, fun q hq => ⟨?_, ?_, ?_⟩, fun d hd => ⟨?_, ?_, ?_⟩⟩ (fun i hi => r i (by omega) (by omega) (by omega) (by omega) (by omega) (by omega)) (fun i k hk => by rw [r i (by omega) (by omega) (by omega) (by omega) (by omega) (by omega)])
          · rw [r2 53 (by decide) (by decide) (by decide)]; exact hMS1.1
          · rw [r2 53 (by decide) (by decide) (by decide)]; exact hMS1.2.1
          · rw [r2 60 (by decide) (by decide) (by decide)]; exact (hMS1.2.2.1 q hq).1
          · rw [ob_wI_o (by decide), ob_wI_o (by decide)]; exact u' q hq
          · rw [r2 62 (by decide) (by decide) (by decide)]; exact (hMS1.2.2.1 q hq).2.2
          · rw [r2 63 (by decide) (by decide) (by decide)]; exact (hMS1.2.2.2 d hd).1
          · show (ob_wI (ob_wI σ' 64 b (nI p)) 65 b (nI (st_t s + n))).1 64 d = ob_oI (if d = b then some p else st_b s d)
            rw [ob_wI_o (by decide)]
            by_cases hdb : d = b
            · subst hdb
              rw [ob_wI_s, if_pos rfl]
              rfl
            · rw [ob_wI_n hdb, if_neg hdb, r' 64 (by decide)]
              exact (hMS1.2.2.2 d hd).2.1
          · show (ob_wI (ob_wI σ' 64 b (nI p)) 65 b (nI (st_t s + n))).1 65 d = ob_tI (if d = b then some p else st_b s d) (if d = b then st_t s + n else st_e s d)
            by_cases hdb : d = b
            · subst hdb
              rw [ob_wI_s, if_pos rfl, if_pos rfl]
              rfl
            · rw [ob_wI_n hdb, if_neg hdb, if_neg hdb, ob_wI_o (by decide), r' 65 (by decide)]
              exact (hMS1.2.2.2 d hd).2.2
        · exact k_out' hu (br_f (by decide) (m_X9_lend (b_X9_lend_0 (n_isB1 hML.2.2.1 hB8 hb (br_f (by decide) (n_isP1 hML.2.1 hP6 hp (ob_bt (by decide) (n_in1 (a := 1) (b := 9999) (by decide) (by decide) hy (br_f (by decide) (n_in0 (a := 0) (b := 999) (by decide) (by decide) hu (ob_bf rfl ⟨rfl, hR1⟩)))))))))))
      · exact k_out' hy (ob_bt (by decide) (m_X9_lend (b_X9_lend_0 (n_isB1 hML.2.2.1 hB8 hb (br_f (by decide) (n_isP1 hML.2.1 hP6 hp (ob_bt (by decide) (n_in0 (a := 1) (b := 9999) (by decide) (by decide) hy (br_t rfl ⟨rfl, hR1⟩)))))))))
    · exact k_hasP0 hCL.2.1 hP6 hz (ob_bf rfl (m_X9_lend (b_X9_lend_0 (n_isB1 hML.2.2.1 hB8 hb (br_f (by decide) (n_isP0 hML.2.1 hP6 hz (ob_bf rfl ⟨rfl, hR1⟩)))))))
  · exact m_X8_lend (b_X8_lend_0 (k_hasB0 hCL.2.2.1 hB8 hx (br_t rfl (m_X9_lend (b_X9_lend_0 (n_isB0 hML.2.2.1 hB8 hx (br_t rfl ⟨rfl, hR1⟩)))))))
