/-! drift -/
def ob_dv (x : Int32) (n : Nat) : Nat := x.toNatClampNeg / 65536 % n
theorem ob_landN {n : Nat} (h : n < 2 ^ 63) : lN n &&& (2147483647 : Int64) = lN (n % 2147483648) := by
  apply Int64.toBitVec_inj.mp
  apply BitVec.eq_of_toNat_eq
  rw [Int64.toBitVec_and, BitVec.toNat_and, show (2147483647 : Int64).toBitVec.toNat = 2 ^ 31 - 1 from by decide, Nat.and_two_pow_sub_one_eq_mod]
  show (BitVec.ofNat 64 n).toNat % 2 ^ 31 = (BitVec.ofNat 64 (n % 2147483648)).toNat
  rw [BitVec.toNat_ofNat, BitVec.toNat_ofNat]
  omega
theorem ob_nx_c {x : Int32} (hx : ¬ x < 0) : (((x.toInt64 * (1103515245 : Int64)) + (12345 : Int64)) &&& (2147483647 : Int64)).toInt32 = nI ((x.toNatClampNeg * 1103515245 + 12345) % 2147483648) := by
  obtain ⟨m, hm, rfl⟩ := nI_of hx
  rw [nI_clamp hm, nI_l hm, show (1103515245 : Int64) = lN 1103515245 from rfl, lN_mul, show (12345 : Int64) = lN 12345 from rfl, lN_add, ob_landN (by omega), lN_i]
theorem ob_nx_m {x : Int32} (hx : ¬ x < 0) : (ob_remL ((x.toInt64 * (1103515245 : Int64)) + (12345 : Int64)) (2147483648 : Int64)).toInt32 = nI ((x.toNatClampNeg * 1103515245 + 12345) % 2147483648) := by
  obtain ⟨m, hm, rfl⟩ := nI_of hx
  rw [nI_clamp hm, nI_l hm, show (1103515245 : Int64) = lN 1103515245 from rfl, lN_mul, show (12345 : Int64) = lN 12345 from rfl, lN_add]
  show (lN _ - lN _ / (2147483648 : Int64) * (2147483648 : Int64)).toInt32 = _
  rw [show (2147483648 : Int64) = lN 2147483648 from rfl, pk_lRem (by omega) (by omega) (by omega), lN_i]
/-- what the next seed is -/
def ob_NX (nx : Int32 → Int32) : Prop := (∀ x, ¬ nx x < 0) ∧ ∀ x : Int32, ¬ x < 0 → (((x.toInt64 * (1103515245 : Int64)) + (12345 : Int64)) &&& (2147483647 : Int64)).toInt32 = nx x ∧ (ob_remL ((x.toInt64 * (1103515245 : Int64)) + (12345 : Int64)) (2147483648 : Int64)).toInt32 = nx x
theorem ob_nx_ex : ∃ nx, ob_NX nx := ⟨fun x => nI ((x.toNatClampNeg * 1103515245 + 12345) % 2147483648), fun x => nI_pos (Nat.mod_lt _ (by decide)), fun x hx => ⟨ob_nx_c hx, ob_nx_m hx⟩⟩
theorem ob_dv_eq {x : Int32} {n : Nat} (hx : ¬ x < 0) (h0 : 0 < n) (hn : n < 1000) : ob_rem (x / (65536 : Int32)) (nI n) = nI (ob_dv x n) := by
  obtain ⟨m, hm, rfl⟩ := nI_of hx
  unfold ob_dv
  rw [nI_clamp hm, show (65536 : Int32) = nI 65536 from rfl, pk_div hm (by omega) (by omega), ob_mod (by omega) h0 (by omega)]
def ob_sx (s : StT) (x : Int32) : StT := (st_t s, x, st_a s, st_u s, st_v s, st_w s, st_b s, st_e s)
/-- a sale for the price of the season, where it may be -/
def ob_slx (l : LdT) (S : StT) (b p : Nat) : StT := match st_w S b with
  | none => S
  | some o => if o ≠ p ∧ st_b S b = none ∧ st_v S p = true ∧ ¬ st_u S p < nI (ob_sea l S b) then ob_ss S b p o (nI (ob_sea l S b)) else S
def ob_dd (nx : Int32 → Int32) (l : LdT) (S : StT) : StT := if la_B l = 0 then S else if ob_dv (nx (st_x S)) 4 = 0 then ob_slx l (ob_sx S (nx (nx (nx (st_x S))))) (ob_dv (nx (nx (st_x S))) (la_B l)) (ob_dv (nx (nx (nx (st_x S)))) (la_P l)) else ob_sx S (nx (st_x S))
def ob_dr (nx : Int32 → Int32) (l : LdT) (S : StT) : Nat → StT
  | 0 => ob_ps l S 0
  | n + 1 => ob_ps l (ob_dd nx l (ob_dr nx l S n)) 1
section DT
variable {E : ob_E} {σ : ob_Mem} {l : LdT} {s : StT} {nx : Int32 → Int32}
theorem ob_sx_ok {c : Nat} {x : Int32} (hs : ob_sok l s c) (hx : ¬ x < 0) : ob_sok l (ob_sx s x) c := ⟨hs.1, hx, hs.2.2⟩
theorem ob_slx_y {b p o : Nat} (h : ob_MD s b p (nI (ob_sea l s b)) o) : ob_slx l s b p = ob_ss s b p o (nI (ob_sea l s b)) := by
  unfold ob_slx
  rw [h.1]
  dsimp only
  rw [if_pos h.2]
theorem ob_slx_n {b p : Nat} (h : ∀ o, ¬ ob_MD s b p (nI (ob_sea l s b)) o) : ob_slx l s b p = s := by
  unfold ob_slx
  cases hw : st_w s b with
  | none => rfl
  | some o =>
    dsimp only
    rw [if_neg (fun z => h o ⟨hw, z⟩)]
theorem ob_slx_ok {b p c : Nat} (hs : ob_sok l s c) (hb : b < la_B l) (hp : p < la_P l) : ob_sok l (ob_slx l s b p) c ∧ st_t (ob_slx l s b p) = st_t s := by
  by_cases h : ∃ o, ob_MD s b p (nI (ob_sea l s b)) o
  · obtain ⟨o, h⟩ := h
    rw [ob_slx_y h]
    exact ⟨ob_ss_ok hs hb hp h, rfl⟩
  · rw [ob_slx_n (fun o z => h ⟨o, z⟩)]
    exact ⟨hs, rfl⟩
theorem ob_dvl {x : Int32} {n : Nat} (h : 0 < n) : ob_dv x n < n := Nat.mod_lt _ h
theorem ob_dd_ok {c : Nat} (hnx : ob_NX nx) (hs : ob_sok l s c) (hP : 0 < la_P l) : ob_sok l (ob_dd nx l s) c ∧ st_t (ob_dd nx l s) = st_t s := by
  unfold ob_dd
  by_cases hB : la_B l = 0
  · rw [if_pos hB]; exact ⟨hs, rfl⟩
  · rw [if_neg hB]
    split
    · exact ob_slx_ok (ob_sx_ok hs (hnx.1 _)) (ob_dvl (by omega)) (ob_dvl hP)
    · exact ⟨ob_sx_ok hs (hnx.1 _), rfl⟩
theorem ob_dr_ok {c : Nat} (hnx : ob_NX nx) (hs : ob_sok l s c) (hP : 0 < la_P l) : ∀ i, i ≤ 9999 → ob_sok l (ob_dr nx l s i) (c + 1) ∧ st_t (ob_dr nx l s i) = st_t s + i
  | 0, _ => ⟨ob_ps_ok hs (by have := hs.1; omega), rfl⟩
  | i + 1, h => by
    obtain ⟨h1, h2⟩ := ob_dr_ok hnx hs hP i (by omega)
    obtain ⟨h3, h4⟩ := ob_dd_ok hnx h1 hP
    have e : st_t (ob_dr nx l s (i + 1)) = st_t s + (i + 1) := by
      show st_t (ob_dd nx l (ob_dr nx l s i)) + 1 = _
      rw [h4, h2]
      rfl
    exact ⟨ob_ps_ok h3 (by rw [h4, h2]; have := hs.1; omega), e⟩
theorem ob_ys_x {x : Int32} {p k : Nat} {lf : Option Nat} : ∀ n, ob_ys l (ob_sx s x) p k lf n = ob_ys l s p k lf n
  | 0 => rfl
  | n + 1 => by
    show ob_ys l (ob_sx s x) p k lf n + (if lf = some n then 0 else ob_yf l s n p k) = ob_ys l s p k lf n + (if lf = some n then 0 else ob_yf l s n p k)
    rw [ob_ys_x n]
theorem ob_ps_x {x : Int32} {k : Nat} : ob_ps l (ob_sx s x) k = ob_sx (ob_ps l s k) x := by
  have e : (fun p => min 999 (st_a s p + ob_ys l (ob_sx s x) p k none (la_B l))) = fun p => min 999 (st_a s p + ob_ys l s p k none (la_B l)) := by
    funext p
    rw [ob_ys_x]
  show (st_t s + k, x, (fun p => min 999 (st_a s p + ob_ys l (ob_sx s x) p k none (la_B l))), st_u s, st_v s, st_w s, (fun b => if st_e s b ≤ st_t s + k then none else st_b s b), st_e s) = _
  rw [e]
  rfl
theorem k_draw {Q : Int32 → ob_Mem → Prop} {n : Nat} (hnx : ob_NX nx) (hx : ¬ st_x s < 0) (h0 : 0 < n) (hn : n < 1000) (hCS : pi_CS σ.1 17 l s) (h : ∀ σ' : ob_Mem, (∀ i, i ≠ 17 → σ'.1 i = σ.1 i) → pi_CS σ'.1 17 l (ob_sx s (nx (st_x s))) → Q (nI (ob_dv (nx (st_x s)) n)) σ') : ob_RM shp E oX6_draw [.ref 17, .int (nI n)] σ (ob_qI Q) := by
  refine m_X6_draw (b_X6_draw_0 (br_t ?_ ?_))
  · rw [show (1 : Int32) = nI 1 from rfl, ob_le (by omega) (by omega)]; omega
  · rintro σ1 rfl
    refine ⟨nI_ne0 h0 (by omega), ?_⟩
    rw [hCS.2.2.1, (hnx.2 _ hx).1, ob_wI_s, ob_dv_eq (hnx.1 _) h0 hn]
    refine h _ (fun i a => ob_wI_o a) ⟨?_, ?_, ob_wI_s, ?_, ?_⟩
    · rw [ob_wI_n (by decide)]; exact hCS.1
    · rw [ob_wI_n (by decide)]; exact hCS.2.1
    · rw [ob_wI_o (by decide), ob_wI_o (by decide)]; exact hCS.2.2.2.1
    · rw [ob_wI_o (by decide), ob_wI_o (by decide), ob_wI_o (by decide)]; exact hCS.2.2.2.2
theorem n_draw {Q : Int32 → ob_Mem → Prop} {n : Nat} (hnx : ob_NX nx) (hx : ¬ st_x s < 0) (h0 : 0 < n) (hn : n < 1000) (hMS : pi_MS σ.1 l s) (h : ∀ σ' : ob_Mem, (∀ i, i ≠ 53 → σ'.1 i = σ.1 i) → (∀ k, k ≠ 16 → σ'.1 53 k = σ.1 53 k) → pi_MS σ'.1 l (ob_sx s (nx (st_x s))) → Q (nI (ob_dv (nx (st_x s)) n)) σ') : ob_RM shp E oX9_draw [.ref 53, .int (nI n)] σ (ob_qI Q) := by
  refine m_X9_draw (b_X9_draw_0 ?_)
  rintro σ1 rfl
  refine ⟨nI_ne0 h0 (by omega), ?_⟩
  rw [hMS.2.1, (hnx.2 _ hx).2, ob_wI_s, ob_dv_eq (hnx.1 _) h0 hn]
  refine h _ (fun i a => ob_wI_o a) (fun k hk => ob_wI_n hk) ⟨?_, ob_wI_s, ?_, ?_⟩
  · rw [ob_wI_n (by decide)]; exact hMS.1
  · rw [ob_wI_o (by decide), ob_wI_o (by decide), ob_wI_o (by decide)]; exact hMS.2.2.1
  · rw [ob_wI_o (by decide), ob_wI_o (by decide), ob_wI_o (by decide)]; exact hMS.2.2.2
theorem ob_sea_le (hl : ob_lok l) {b : Nat} (hb : b < la_B l) : ob_sea l s b ≤ 999 := by
  have hN := hl.1
  have hC := (hl.2.2.2.2.1 b hb).2.2.2
  unfold ob_sea
  have h1 : la_C l b * (la_N l - ob_tl (la_N l) (st_t s) (la_D l b)) ≤ la_C l b * la_N l := Nat.mul_le_mul (Nat.le_refl _) (by omega)
  have h2 := Nat.div_le_div_right (c := la_N l) h1
  rw [Nat.mul_div_cancel _ (by omega)] at h2
  omega
theorem k_sellByDraws {Q : ob_Mem → Prop} {c : Nat} (hnx : ob_NX nx) (hl : ob_lok l) (hs : ob_sok l s c) (hc : c ≤ 600) (hP : 0 < la_P l) (hB : 0 < la_B l) (hCL : pi_CL σ.1 10 l) (hCS : pi_CS σ.1 17 l s) (h : ∀ σ' : ob_Mem, (∀ i, ¬ (17 ≤ i ∧ i ≤ 22) → σ'.1 i = σ.1 i) → pi_CS σ'.1 17 l (ob_slx l (ob_sx s (nx (nx (st_x s)))) (ob_dv (nx (st_x s)) (la_B l)) (ob_dv (nx (nx (st_x s))) (la_P l))) → Q σ') : ob_RM shp E oX6_sellByDraws [.ref 17] σ (ob_qV Q) := by
  have hP6 := hl.2.2.1
  have hB8 := hl.2.2.2.1
  have ht : st_t s < 100000000 := by have := hs.1; omega
  refine m_X6_sellByDraws (b_X6_sellByDraws_0 ?_)
  rw [hCL.2.2.1]
  refine k_draw hnx hs.2.1 hB (by omega) hCS (fun σ1 r1 w1 => ?_)
  rw [r1 10 (by decide), hCL.2.1]
  refine k_draw (s := ob_sx s (nx (st_x s))) hnx (hnx.1 _) hP (by omega) w1 (fun σ2 r2 w2 => ?_)
  have w2 : pi_CS σ2.1 17 l (ob_sx s (nx (nx (st_x s)))) := w2
  have ok2 := ob_sx_ok (x := nx (nx (st_x s))) hs (hnx.1 _)
  have hbl : ob_dv (nx (st_x s)) (la_B l) < la_B l := ob_dvl hB
  have hpl : ob_dv (nx (nx (st_x s))) (la_P l) < la_P l := ob_dvl hP
  show ob_RM shp E oX6_seasonOf [.ref 17, .int (nI (ob_dv (nx (st_x s)) (la_B l)))] σ2 (ob_qI fun v6 σ5 => ob_RM shp E oX6_mayDeal [.ref 17, .int (nI (ob_dv (nx (st_x s)) (la_B l))), .int (nI (ob_dv (nx (nx (st_x s))) (la_P l))), .int v6] σ5 (ob_qI fun v8 σ7 => ((v8 = 0 → Q σ7) ∧ (¬ v8 = 0 → ob_RM shp E oX6_sellTo [.ref 17, .int (nI (ob_dv (nx (st_x s)) (la_B l))), .int (nI (ob_dv (nx (nx (st_x s))) (la_P l))), .int v6] σ7 (ob_qV fun σ9 => Q σ9)))))
  generalize ob_dv (nx (st_x s)) (la_B l) = b at hbl h ⊢
  generalize ob_dv (nx (nx (st_x s))) (la_P l) = p at hpl h ⊢
  generalize hS : ob_sx s (nx (nx (st_x s))) = S at w2 ok2 h
  have hCL2 : pi_CL σ2.1 10 l := hCL.to (fun j a b => by rw [r2 j (by omega), r1 j (by omega)]) (fun j _ => by rw [r2 10 (by decide), r1 10 (by decide)])
  have htS : st_t S < 100000000 := by rw [← hS]; exact ht
  refine k_seasonOf hl htS hCL2 w2 hbl (k_mayDeal hl ok2 hCL2 w2 hbl hpl (fun o hm => br_f (by decide) ?_) (fun hm => br_t rfl ?_))
  · refine k_sellTo hl ok2 hCL2 w2 hbl hpl hm (fun σ3 w3 r3 => h σ3 (fun i hi => by rw [r3 i (by omega) (by omega), r2 i (by omega), r1 i (by omega)]) ?_)
    rw [ob_slx_y hm]
    exact w3
  · refine h σ2 (fun i hi => by rw [r2 i (by omega), r1 i (by omega)]) ?_
    rw [ob_slx_n hm]
    exact w2
theorem k_drift {Q : ob_Mem → Prop} {n c : Nat} (hnx : ob_NX nx) (hl : ob_lok l) (hs : ob_sok l s c) (hc : c ≤ 512) (hn : n ≤ 999) (hP : 0 < la_P l) (hCL : pi_CL σ.1 10 l) (hCS : pi_CS σ.1 17 l s) (h : ∀ σ' : ob_Mem, (∀ i, ¬ (17 ≤ i ∧ i ≤ 22) → σ'.1 i = σ.1 i) → pi_CS σ'.1 17 l (ob_dr nx l s n) → Q σ') : ob_RM shp E oX6_passDaysByDraws [.ref 17, .int (nI n)] σ (ob_qV Q) := by
  have hB8 := hl.2.2.2.1
  refine m_X6_passDaysByDraws (b_X6_passDaysByDraws_0 ?_)
  refine ob_loop0 (T := fun i => ∀ (w : Nat) (S : StT) (τ : ob_Mem), w ≤ i → (∀ j, ¬ (17 ≤ j ∧ j ≤ 22) → τ.1 j = σ.1 j) → ob_sok l S (c + 1) → pi_CS τ.1 17 l S → ob_ps l S w = ob_dr nx l s i → ob_RT shp E oX6_passDaysByDraws 4 [.ref 17, .int (nI n), .int (nI w), .int (nI i)] [] τ (ob_qV Q)) (B := n) ?_ ?_ 0 s σ (Nat.le_refl _) (fun _ _ => rfl) (hs.mono (by omega)) hCS rfl
  · intro w S τ hw r ok q e
    have hCLt : pi_CL τ.1 10 l := hCL.to (fun j a b => r j (by omega)) (fun j _ => by rw [r 10 (by decide)])
    refine b_X6_passDaysByDraws_4 (br_t ((ob_le (by omega) (by omega)).mpr (Nat.le_refl _)) (k_passDays hl ok (by omega) (by omega) hCLt q (fun σ1 r1 w1 => h σ1 (fun i hi => by rw [r1 i hi, r i hi]) ?_)))
    rw [e] at w1
    exact w1
  · intro i hi ih w S τ hw r ok q e
    have hCLt : pi_CL τ.1 10 l := hCL.to (fun j a b => r j (by omega)) (fun j _ => by rw [r 10 (by decide)])
    refine b_X6_passDaysByDraws_4 (br_f (fun z => by rw [ob_le (by omega) (by omega)] at z; omega) ?_)
    rw [hCLt.2.2.1, nI_1, nI_1]
    by_cases hB : la_B l = 0
    · refine br_t (by rw [hB]; decide) (ih (w + 1) S τ (by omega) r ok q ?_)
      show _ = ob_ps l (ob_dd nx l (ob_dr nx l s i)) 1
      unfold ob_dd
      rw [if_pos hB, ← e, ob_ps_s hl ok]
    · refine br_f (nI_nle (by omega) (by omega)) (k_draw (n := 4) hnx ok.2.1 (by decide) (by decide) q (fun τ1 r1 q1 => ?_))
      have ok1 := ob_sx_ok (x := nx (st_x S)) ok (hnx.1 _)
      have ex : st_x (ob_dr nx l s i) = st_x S := by rw [← e]; rfl
      have hCL1 : pi_CL τ1.1 10 l := hCLt.to (fun j a b => r1 j (by omega)) (fun j _ => by rw [r1 10 (by decide)])
      by_cases hd : ob_dv (nx (st_x S)) 4 = 0
      · refine ob_bf (by rw [hd]; rfl) (k_passDays hl ok1 (by omega) (by omega) hCL1 q1 (fun τ2 r2 q2 => ?_))
        have hCL2 : pi_CL τ2.1 10 l := hCL1.to (fun j a b => r2 j (by omega)) (fun j _ => by rw [r2 10 (by decide)])
        rw [ob_ps_x, e] at q2
        obtain ⟨d1, d2⟩ := ob_dr_ok hnx hs hP i (by omega)
        have hdd : ob_dd nx l (ob_dr nx l s i) = ob_slx l (ob_sx (ob_dr nx l s i) (nx (nx (nx (st_x S))))) (ob_dv (nx (nx (st_x S))) (la_B l)) (ob_dv (nx (nx (nx (st_x S)))) (la_P l)) := by
          unfold ob_dd
          rw [if_neg hB, ex, if_pos hd]
        refine k_sellByDraws (s := ob_sx (ob_dr nx l s i) (nx (st_x S))) (c := c + 1) hnx hl (ob_sx_ok d1 (hnx.1 _)) (by omega) hP (by omega) hCL2 q2 (fun τ3 r3 q3 => ih 1 (ob_dd nx l (ob_dr nx l s i)) τ3 (by omega) (fun j hj => by rw [r3 j hj, r2 j hj, r1 j (by omega), r j hj]) (ob_dd_ok hnx d1 hP).1 ?_ rfl)
        rw [hdd]
        exact q3
      · refine ob_bt (fun z => hd ((ob_eq (b := 0) (by have := ob_dvl (x := nx (st_x S)) (n := 4) (by decide); omega) (by omega)).mp z)) (ih (w + 1) (ob_sx S (nx (st_x S))) τ1 (by omega) (fun j hj => by rw [r1 j (by omega), r j hj]) ok1 q1 ?_)
        show _ = ob_ps l (ob_dd nx l (ob_dr nx l s i)) 1
        unfold ob_dd
        rw [if_neg hB, ex, if_neg hd, ← ob_ps_s hl ok1, ob_ps_x, e]
end DT
theorem pr_drift (x : Int32) : ob_PAIR oX8_drift oX9_drift [.int x] := by
  intro E c σ hc hR
  have hR1 := hR.mono (Nat.le_succ c)
  obtain ⟨l, s, kp, im, tn, td, hl, hs, hCL, hML, hCS, hMS, hIM, hTD, hTX, hF⟩ := hR
  have hP6 := hl.2.2.1
  have hB8 := hl.2.2.2.1
  have ht : st_t s < 100000000 := by have := hs.1; omega
  obtain ⟨nx, hnx⟩ := ob_nx_ex
  by_cases hx : (1 : Int32) ≤ x ∧ x ≤ 999
  · refine m_X8_drift (b_X8_drift_0 (k_out hx (br_t rfl ?_)))
    rw [hCL.2.1]
    by_cases hP : la_P l = 0
    · refine ob_bf (by rw [hP]; rfl) (m_X9_drift (b_X9_drift_0 (n_in1 (a := 1) (b := 999) (by decide) (by decide) hx (ob_bt (by decide) ?_))))
      rw [hML.2.1]
      exact ob_bf (by rw [hP]; rfl) ⟨rfl, hR1⟩
    · have hne : ¬ nI (la_P l) = 0 := nI_ne0 (by omega) (by omega)
      obtain ⟨n, hn1, hn2, rfl⟩ := ob_rng (m := 1) (n := 999) rfl rfl (by omega) hx
      have hP0 : 0 < la_P l := by omega
      refine ob_bt hne (k_drift hnx hl hs (by omega) hn2 hP0 hCL hCS (fun σ1 r1 hCS1 => ?_))
      have hok := fun i hi => ob_dr_ok (i := i) hnx hs hP0 hi
      rw [show σ1.1 17 7 = nI (st_t (ob_dr nx l s n)) from hCS1.2.1]
      have hML1 : pi_ML σ1.1 l := hML.to (fun i a b => r1 i (by omega)) (fun k hk => by rw [r1 53 (by omega)])
      have hMS1 : pi_MS σ1.1 l s := hMS.to (fun i a b => r1 i (by omega)) (fun k hk => by rw [r1 53 (by omega)])
      refine m_X9_drift (b_X9_drift_0 (n_in1 (a := 1) (b := 999) (by decide) (by decide) hx (ob_bt (by decide) ?_)))
      rw [hML1.2.1]
      refine ob_bt hne ?_
      refine ob_loop0 (T := fun i => ∀ τ : ob_Mem, (∀ j, j ≠ 53 → j ≠ 60 → j ≠ 61 → j ≠ 63 → j ≠ 64 → j ≠ 65 → τ.1 j = σ1.1 j) → (∀ k, k ≠ 9 → k ≠ 16 → τ.1 53 k = σ1.1 53 k) → pi_MS τ.1 l (ob_dr nx l s i) → ob_RT shp E oX9_drift 28 [.ref 53, .int (nI n), .int (nI i), .null, .null, .null] [] τ (ob_qI fun r' σ2 => nI (st_t (ob_dr nx l s n)) = r' ∧ ob_REL (c + 1) σ2.1)) (B := n) ?_ ?_ σ1 (fun _ _ _ _ _ _ _ => rfl) (fun _ _ _ => rfl) (ob_ps0M hl hs hMS1)
      · intro τ r f w
        refine b_X9_drift_28 (br_t ((ob_le (by omega) (by omega)).mpr (Nat.le_refl _)) ⟨w.1.symm, ?_⟩)
        refine ob_REL.st (Nat.le_succ c) hl hCL hML hIM hTD hTX hF (hok n (by omega)).1 (hCS1.to (fun i a b => r i (by omega) (by omega) (by omega) (by omega) (by omega) (by omega)) (fun k hk => by rw [r 17 (by decide) (by decide) (by decide) (by decide) (by decide) (by decide)])) w (fun i hi => by rw [r i (by omega) (by omega) (by omega) (by omega) (by omega) (by omega), r1 i (by omega)]) (fun i k hk => ?_)
        by_cases h53 : i = 53
        · subst h53
          rw [f k (by omega) (by omega), r1 53 (by decide)]
        · rw [r i (by omega) (by omega) (by omega) (by omega) (by omega) (by omega), r1 i (by omega)]
      · intro i hi ih τ r f w
        obtain ⟨d1, d2⟩ := hok i (by omega)
        have htS : st_t (ob_dr nx l s i) < 100000000 := by have := hs.1; omega
        have hMLt : pi_ML τ.1 l := hML1.to (fun j a b => r j (by omega) (by omega) (by omega) (by omega) (by omega) (by omega)) (fun k hk => f k (by omega) (by omega))
        -- the day behind the deal
        have day : ∀ κ : ob_Mem, (∀ j, j ≠ 53 → j ≠ 60 → j ≠ 61 → j ≠ 63 → j ≠ 64 → j ≠ 65 → κ.1 j = τ.1 j) → (∀ k, k ≠ 9 → k ≠ 16 → κ.1 53 k = τ.1 53 k) → pi_MS κ.1 l (ob_dd nx l (ob_dr nx l s i)) → ob_RM shp E oX9_dayNow [.ref 53] κ (ob_qV fun σ13 => ob_RT shp E oX9_drift 28 [.ref 53, .int (nI n), .int (nI (i + 1)), .null, .null, .null] [] σ13 (ob_qI fun r' σ2 => nI (st_t (ob_dr nx l s n)) = r' ∧ ob_REL (c + 1) σ2.1)) := by
          intro κ k1 k2 k3
          have hMLk : pi_ML κ.1 l := hMLt.to (fun j a b => k1 j (by omega) (by omega) (by omega) (by omega) (by omega) (by omega)) (fun k hk => k2 k (by omega) (by omega))
          refine n_dayNow hl (ob_dd_ok hnx d1 hP0).1 (by omega) hMLk k3 (fun τ2 r2 f2 w2 => ih τ2 (fun j a b c d e g => by rw [r2 j a b e g, k1 j a b c d e g]; exact r j a b c d e g) (fun k h1 h2 => by rw [f2 k h1, k2 k h1 h2]; exact f k h1 h2) w2)
        refine b_X9_drift_28 (br_f (fun z => by rw [ob_le (by omega) (by omega)] at z; omega) ?_)
        rw [hMLt.2.2.1, nI_1]
        by_cases hB : la_B l = 0
        · refine br_t (by rw [hB]; decide) (day τ (fun _ _ _ _ _ _ _ => rfl) (fun _ _ _ => rfl) ?_)
          unfold ob_dd
          rw [if_pos hB]
          exact w
        · refine br_f (nI_nle (by omega) (by omega)) (n_draw (n := 4) hnx d1.2.1 (by decide) (by decide) w (fun τ1 r1 f1 w1 => ?_))
          by_cases hd : ob_dv (nx (st_x (ob_dr nx l s i))) 4 = 0
          · refine ob_bf (by rw [hd]; rfl) ?_
            rw [f1 4 (by decide), hMLt.2.2.1]
            refine n_draw (s := ob_sx (ob_dr nx l s i) (nx (st_x (ob_dr nx l s i)))) hnx (hnx.1 _) (by omega) (by omega) w1 (fun τ2 r2 f2 w2 => ?_)
            rw [f2 1 (by decide), f1 1 (by decide), hMLt.2.1]
            refine n_draw (s := ob_sx (ob_dr nx l s i) (nx (nx (st_x (ob_dr nx l s i))))) hnx (hnx.1 _) hP0 (by omega) w2 (fun τ3 r3 f3 w3 => ?_)
            have w3 : pi_MS τ3.1 l (ob_sx (ob_dr nx l s i) (nx (nx (nx (st_x (ob_dr nx l s i)))))) := w3
            have hdd : ob_dd nx l (ob_dr nx l s i) = ob_slx l (ob_sx (ob_dr nx l s i) (nx (nx (nx (st_x (ob_dr nx l s i)))))) (ob_dv (nx (nx (st_x (ob_dr nx l s i)))) (la_B l)) (ob_dv (nx (nx (nx (st_x (ob_dr nx l s i))))) (la_P l)) := by
              unfold ob_dd
              rw [if_neg hB, if_pos hd]
            have ok3 := ob_sx_ok (x := nx (nx (nx (st_x (ob_dr nx l s i))))) d1 (hnx.1 _)
            have rr : ∀ j, j ≠ 53 → τ3.1 j = τ.1 j := fun j a => by rw [r3 j a, r2 j a, r1 j a]
            have ff : ∀ k, k ≠ 16 → τ3.1 53 k = τ.1 53 k := fun k a => by rw [f3 k a, f2 k a, f1 k a]
            have hML3 : pi_ML τ3.1 l := hMLt.to (fun j a b => rr j (by omega)) (fun k hk => ff k (by omega))
            have hbl : ob_dv (nx (nx (st_x (ob_dr nx l s i)))) (la_B l) < la_B l := ob_dvl (by omega)
            have hpl : ob_dv (nx (nx (nx (st_x (ob_dr nx l s i))))) (la_P l) < la_P l := ob_dvl hP0
            have hsea := ob_sea_le (s := ob_sx (ob_dr nx l s i) (nx (nx (nx (st_x (ob_dr nx l s i)))))) hl hbl
            have hsum : (0 : Int32) ≤ nI (ob_sea l (ob_sx (ob_dr nx l s i) (nx (nx (nx (st_x (ob_dr nx l s i)))))) (ob_dv (nx (nx (st_x (ob_dr nx l s i)))) (la_B l))) ∧ nI (ob_sea l (ob_sx (ob_dr nx l s i) (nx (nx (nx (st_x (ob_dr nx l s i)))))) (ob_dv (nx (nx (st_x (ob_dr nx l s i)))) (la_B l))) ≤ 999 := ⟨ob_pos (by omega), (ob_le (b := 999) (by omega) (by omega)).mpr hsea⟩
            refine n_seasonOf (s := ob_sx (ob_dr nx l s i) (nx (nx (nx (st_x (ob_dr nx l s i)))))) hl htS hML3 w3 hbl ?_
            by_cases hm : ∃ o, ob_MD (ob_sx (ob_dr nx l s i) (nx (nx (nx (st_x (ob_dr nx l s i)))))) (ob_dv (nx (nx (st_x (ob_dr nx l s i)))) (la_B l)) (ob_dv (nx (nx (nx (st_x (ob_dr nx l s i))))) (la_P l)) (nI (ob_sea l (ob_sx (ob_dr nx l s i) (nx (nx (nx (st_x (ob_dr nx l s i)))))) (ob_dv (nx (nx (st_x (ob_dr nx l s i)))) (la_B l)))) o
            · obtain ⟨w0, hm⟩ := hm
              refine n_sell hl ok3 hML3 w3 hbl hpl hsum hm (fun τ4 w4 r4 => day τ4 (fun j a b c d e g => by rw [r4 j c d, rr j a]) (fun k h1 h2 => by rw [r4 53 (by decide) (by decide), ff k h2]) ?_)
              rw [hdd, ob_slx_y hm]
              exact w4
            · refine n_sellNot hl ok3 hML3 w3 hbl hpl hsum (fun z y => hm ⟨z, y⟩) (day τ3 (fun j a b c d e g => rr j a) (fun k h1 h2 => ff k h2) ?_)
              rw [hdd, ob_slx_n (fun z y => hm ⟨z, y⟩)]
              exact w3
          · refine ob_bt (fun z => hd ((ob_eq (b := 0) (by have := ob_dvl (x := nx (st_x (ob_dr nx l s i))) (n := 4) (by decide); omega) (by omega)).mp z)) (day τ1 (fun j a b c d e g => r1 j a) (fun k h1 h2 => f1 k h2) ?_)
            unfold ob_dd
            rw [if_neg hB, if_neg hd]
            exact w1
  · exact m_X8_drift (b_X8_drift_0 (k_out' hx (br_f (by decide) (m_X9_drift (b_X9_drift_0 (n_in0 (a := 1) (b := 999) (by decide) (by decide) hx (ob_bf rfl ⟨rfl, hR1⟩)))))))
