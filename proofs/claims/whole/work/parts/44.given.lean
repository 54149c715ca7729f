/-! given -/
theorem ob_ns_0 {f : Nat → Nat} : ∀ {n : Nat}, (∀ i, i < n → f i = 0) → ob_ns f n = 0
  | 0, _ => rfl
  | n + 1, h => by
    simp only [ob_ns]
    rw [h n (by omega), ob_ns_0 (n := n) (fun i hi => h i (by omega))]
theorem ob_sf_0 {f : Nat → Bool} : ∀ {n : Nat}, (∀ i, i < n → f i = false) → ob_sf f n = 0
  | 0, _ => rfl
  | n + 1, h => by
    simp only [ob_sf]
    rw [h n (by omega), if_neg (by decide), ob_sf_0 (n := n) (fun i hi => h i (by omega))]
section KS
variable {E : ob_E} {σ : ob_Mem} {l : LdT} {s : StT} {k v n X U c0 : Nat}
/-- somebody lives, so each birthday has a user that lives -/
theorem gv_users (hs : ob_sok l s c0) (hz : ¬ ob_sf (st_v s) (la_P l) = 0) : (∀ b, b < la_B l → ob_us s b = some (ob_uu s b)) ∧ gv_va (st_v s) (la_P l) (la_B l) (ob_uu s) := by
  have key : ∀ b, b < la_B l → ∃ p, ob_us s b = some p ∧ p < la_P l ∧ st_v s p = true := by
    intro b hb
    obtain ⟨h1, h2, h3⟩ := hs.2.2.2 b hb
    unfold ob_us
    cases hq : st_b s b with
    | some q => exact ⟨q, rfl, (h3 q hq).1, (h3 q hq).2.1⟩
    | none =>
      cases hw : st_w s b with
      | none => exact absurd (ob_sf_0 (h1 hw)) hz
      | some p => exact ⟨p, rfl, (h2 p hw).1, (h2 p hw).2⟩
  refine ⟨fun b hb => ?_, fun b hb => ?_⟩
  · obtain ⟨p, e, -⟩ := key b hb
    unfold ob_uu
    rw [e]
    rfl
  · obtain ⟨p, e, h1, h2⟩ := key b hb
    unfold ob_uu
    rw [e]
    exact ⟨h1, h2⟩
theorem k_search {Q : Int32 → ob_Mem → Prop} (hU : (9223372036854775807 : Int64) = lN U) (hU63 : U < 2 ^ 63) (hU40 : 2 ^ 40 < U) (hX : X = 6 ^ 8) (hl : ob_lok l) (hs : ob_sok l s c0) (hc0 : c0 ≤ 600) (hCL : pi_CL σ.1 10 l) (hCS : pi_CS σ.1 17 l s) (hk : k ≤ 6) (hv : v ≤ 999) (hn : n ≤ 9999) (hus : ∀ b, b < la_B l → ob_us s b = some (ob_uu s b)) (huv : gv_va (st_v s) (la_P l) (la_B l) (ob_uu s)) (h1 : ∀ (r : Nat) (σ' : ob_Mem), (∀ i, ¬ (45 ≤ i ∧ i ≤ 49) → σ'.1 i = σ.1 i) → gv_OPT X (ob_uu s) (la_C l) (ob_tm l s n) (st_a s) (st_v s) v (la_P l) (la_B l) k r → r < 2 ^ 40 → σ'.2 45 6 = lN r → Q 1 σ') (h0 : (∀ g, ¬ gv_F l s k v n g) → ∀ σ' : ob_Mem, (∀ i, ¬ (45 ≤ i ∧ i ≤ 49) → σ'.1 i = σ.1 i) → Q 0 σ') : ob_RM shp E oX1_search [.ref 45, .ref 17, .int (nI k), .int (nI v), .int (nI n)] σ (ob_qI Q) := by
  have hP6 := hl.2.2.1
  have hB8 := hl.2.2.2.1
  have h256 := ob_p256 hB8
  have ht : st_t s < 100000000 := by have := hs.1; omega
  have hXv : X = 1679616 := by rw [hX]
  have hX1 : 1399680 < X := by omega
  have hC1 : ∀ b, b < la_B l → 1 ≤ la_C l b := fun b hb => (hl.2.2.2.2.1 b hb).2.2.1
  have hu6 : ∀ b, b < la_B l → ob_uu s b < 6 := fun b hb => by have := (huv b hb).1; omega
  have hrk : ∀ b p, b < la_B l → p < 6 → gv_rk X (ob_uu s) (la_C l) b p ≤ 167681664 := fun b p hb hp => by
    have := gv_rk_bd (X := X) (u := ob_uu s) (hl.2.2.2.2.1 b hb).2.2.2 hp
    omega
  have hde : ∀ b p, b < la_B l → p < 6 → gv_de X (ob_uu s) (la_C l) b p ≤ 167681664 := fun b p hb hp => by
    have := hrk b p hb hp
    unfold gv_de
    omega
  have hR0 : gv_R X (ob_uu s) (la_C l) (la_B l) (ob_uu s) ≤ 1341453312 := by
    have := ob_ns_le (f := fun b => gv_rk X (ob_uu s) (la_C l) b (ob_uu s b)) (M := 167681664) (n := la_B l) (fun b hb => hrk b _ hb (hu6 b hb))
    unfold gv_R
    omega
  have hUs : ∀ g, gv_va (st_v s) (la_P l) (la_B l) g → ob_ns (fun b => gv_de X (ob_uu s) (la_C l) b (g b)) (la_B l) < U := fun g hg => by
    have := ob_ns_le (f := fun b => gv_de X (ob_uu s) (la_C l) b (g b)) (M := 167681664) (n := la_B l) (fun b hb => hde b _ hb (by have := (hg b hb).1; omega))
    omega
  have htm : ∀ b, b < la_B l → ob_tm l s n b ≤ 9999 := fun b hb => by
    have := ob_cm_le (N := la_N l) (t := st_t s) (D := la_D l b) (k := n) (by have := hl.1; omega)
    unfold ob_tm
    omega
  have hYb : ∀ S, ob_tt (ob_tm l s n) S (la_B l) ≤ 100000 := fun S => by
    have := ob_tt_le2 (S := S) htm (la_B l) (Nat.le_refl _)
    omega
  have hold : gv_old (st_v s) (st_a s) v (la_P l) ≤ 6 := by
    have := ob_ns_le (f := fun p => if st_v s p = true ∧ v ≤ st_a s p then 1 else 0) (M := 1) (n := la_P l) (fun i hi => by
      show (if st_v s i = true ∧ v ≤ st_a s i then 1 else 0) ≤ 1
      split <;> omega)
    unfold gv_old
    omega
  refine m_X1_search (b_X1_search_0 (k_countOld hl hs hCL hCS hv (k_rankLeft hX hl hs hCL hCS hus huv ?_)))
  by_cases hlk : gv_old (st_v s) (st_a s) v (la_P l) < k
  · rw [ob_sub (by omega)]
    refine br_t (by rw [show (0 : Int32) = nI 0 from rfl, ob_lt (by omega) (by omega)]; omega) ?_
    obtain ⟨L, hL⟩ : ∃ L, L = k - gv_old (st_v s) (st_a s) v (la_P l) := ⟨_, rfl⟩
    rw [← hL]
    have hkL : k = L + gv_old (st_v s) (st_a s) v (la_P l) := by omega
    have hL6 : L ≤ 6 := by omega
    have hL1 : 1 ≤ L := by omega
    clear hL
    rw [ob_wL_1, hCL.2.2.1, ob_shN hB8]
    rintro σ5 rfl
    have s1 : ∀ i, ¬ (45 ≤ i ∧ i ≤ 49) → (ob_wI (ob_wL σ 45 6 (lN (gv_R X (ob_uu s) (la_C l) (la_B l) (ob_uu s)))) 45 4 (nI (2 ^ la_B l))).1 i = σ.1 i := fun i hi => by rw [ob_wI_o (by omega), ob_wL_1]
    have s2 : (ob_wI (ob_wL σ 45 6 (lN (gv_R X (ob_uu s) (la_C l) (la_B l) (ob_uu s)))) 45 4 (nI (2 ^ la_B l))).1 45 4 = nI (2 ^ la_B l) := ob_wI_s
    have s3 : (ob_wI (ob_wL σ 45 6 (lN (gv_R X (ob_uu s) (la_C l) (la_B l) (ob_uu s)))) 45 4 (nI (2 ^ la_B l))).2 45 6 = lN (gv_R X (ob_uu s) (la_C l) (la_B l) (ob_uu s)) := by rw [ob_wI_2, ob_wL_s]
    generalize ob_wI (ob_wL σ 45 6 (lN (gv_R X (ob_uu s) (la_C l) (la_B l) (ob_uu s)))) 45 4 (nI (2 ^ la_B l)) = σ5 at *
    generalize hR0e : gv_R X (ob_uu s) (la_C l) (la_B l) (ob_uu s) = R0 at *
    have toL : ∀ κ : ob_Mem, (∀ i, ¬ (45 ≤ i ∧ i ≤ 49) → κ.1 i = σ.1 i) → pi_CL κ.1 10 l ∧ pi_CS κ.1 17 l s := fun κ q => ⟨hCL.to (fun j a b => q j (by omega)) (fun j _ => by rw [q 10 (by decide)]), hCS.to (fun j a b => q j (by omega)) (fun j _ => by rw [q 17 (by decide)])⟩
    refine k_addUpYears hl hs hc0 hn (toL σ5 s1).1 (toL σ5 s1).2 (fun σ6 a1 a2 a3 => k_fillB (fun σ7 b1 b2 b3 => ?_))
    rw [show ((0 : Int32)).toNatClampNeg = 0 from by decide]
    refine ob_loop0 (T := fun q => ∀ (τ : ob_Mem) (β : Nat → Nat → Nat), (∀ i, ¬ (45 ≤ i ∧ i ≤ 49) → τ.1 i = σ.1 i) → τ.1 45 4 = nI (2 ^ la_B l) → (∀ S, S < 2 ^ la_B l → τ.1 46 S = nI (ob_tt (ob_tm l s n) S (la_B l))) → τ.2 45 6 = lN R0 → pi_GB τ.2 β → (∀ c t, β c t ≤ U) → (∀ c t, c ≤ 6 → t < 2 ^ la_B l → β c t = U ∨ gv_W X (ob_uu s) (la_C l) (ob_tm l s n) (st_a s) (st_v s) v (la_B l) q c t (β c t)) → gv_C X (ob_uu s) (la_C l) (ob_tm l s n) (st_a s) (st_v s) v (la_P l) (la_B l) L q β → ob_RT shp E oX1_search 64 [.ref 45, .ref 17, .int (nI k), .int (nI v), .int (nI n), .int (nI L), .int (nI q), .null] [] τ (ob_qI Q)) (B := la_P l) (fun τ β r1 r2 r3 r4 g w1 w2 w3 => b_X1_search_64 ?_) (fun q hq ih τ β r1 r2 r3 r4 g w1 w2 w3 => b_X1_search_64 ?_) (ob_wL σ7 49 0 0) (fun c t => if c = 0 ∧ t = 0 then 0 else U) (fun i hi => ?_) ?_ (fun S hS => ?_) ?_ (fun c t hc htt => ?_) (fun c t => ?_) (fun c t hc htt => ?_) (gv_C_0 (if_pos ⟨rfl, rfl⟩))
    · rw [r1 10 (by decide), hCL.2.1]
      refine br_t ((ob_le (by omega) (by omega)).mpr (Nat.le_refl _)) (k_leastOf hU hU63 hB8 hL6 r2 g w1 (fun r ru rl rx => ?_))
      rw [hU, pk_lEQ (by omega) hU63]
      by_cases hru : r = U
      · refine ob_bf hru (h0 (fun x hx => ?_) τ r1)
        exact gv_none hUs w3 hkL (fun t htt => by rw [← hru]; exact rl t htt) hx.1 hx.2
      · refine ob_bt hru (h1 (R0 + r) _ (fun i hi => r1 i hi) ?_ ?_ (by rw [ob_wL_s, r4, lN_add]))
        · rw [← hR0e]
          exact gv_opt hX1 hC1 hu6 huv w3 hkL (fun t htt => w2 L t hL6 htt) rl rx hru
        · rcases rx with z | ⟨t, t1, t2⟩
          · exact absurd z hru
          · rcases w2 L t hL6 t1 with z | z
            · exact absurd (t2.symm.trans z) hru
            · have := gv_W_bd z (fun b p hb hp => hde b p hb (by omega))
              omega
    · rw [r1 10 (by decide), hCL.2.1, nI_1 q]
      obtain ⟨hCL1, hCS1⟩ := toL τ r1
      have ha := hs.2.2.1 q hq
      have iq : vp_in (nI q) 6 := ob_in (by omega) (by omega)
      have skip : ¬ (st_v s q = true ∧ st_a s q < v) → ob_RT shp E oX1_search 64 [.ref 45, .ref 17, .int (nI k), .int (nI v), .int (nI n), .int (nI L), .int (nI (q + 1)), .null] [] τ (ob_qI Q) := fun hno => ih τ β r1 r2 r3 r4 g w1 (fun c t hc htt => (w2 c t hc htt).imp id gv_W_mono) (gv_C_step hB8 hUs w3 (fun _ _ _ _ => Nat.le_refl _) (fun z1 z2 => absurd ⟨z1, z2⟩ hno))
      refine br_f (fun z => by rw [ob_le (by omega) (by omega)] at z; omega) ?_
      cases hlv : st_v s q with
      | false => exact k_lives0 hl hCL1 hCS1 hq hlv (br_t rfl (skip (fun z => by rw [hlv] at z; exact absurd z.1 (by decide))))
      | true =>
        refine k_lives1 hl hCL1 hCS1 hq hlv (br_f (by decide) ⟨iq, ?_⟩)
        rw [ob_cl (n := q) (by omega), show τ.1 18 q = nI (st_a s q) from (hCS1.2.2.2.1 q hq).1, ob_le (by omega) (by omega)]
        by_cases hav : v ≤ st_a s q
        · exact br_t hav (skip (fun z => by have := z.2; omega))
        · refine br_f hav (k_addUpRanks hX hl hs hCL1 hCS1 hus huv (by omega) (fun σ8 d1 d2 d3 => ⟨iq, ?_⟩))
          rw [d1, show τ.1 18 q = nI (st_a s q) from (hCS1.2.2.2.1 q hq).1, ob_sub (by omega)]
          refine k_findEnough (σ := σ8) (tm := ob_tm l s n) (age := st_a s) (q := q) hB8 (by rw [d1]; exact r2) (fun S hS => by rw [d1]; exact r3 S hS) hYb hv (by omega) (fun σ9 e cnt e1 e2 e3 e4 e5 e6 e7 => ?_)
          have hmob : ∀ S, ob_tt (fun b => gv_de X (ob_uu s) (la_C l) b q) S (la_B l) ≤ 1000000000000 := fun S => by
            have := ob_tt_le2 (f := fun b => gv_de X (ob_uu s) (la_C l) b q) (S := S) (fun b hb => hde b q hb (by omega)) (la_B l) (Nat.le_refl _)
            omega
          refine k_tryPerson (σ := σ9) (X := X) (u := ob_uu s) (C := la_C l) (tm := ob_tm l s n) (age := st_a s) (live := st_v s) (v := v) (B := la_B l) (q := q) (e := e) (mo := fun S => ob_tt (fun b => gv_de X (ob_uu s) (la_C l) b q) S (la_B l)) (β := β) hU hU63 hB8 hL1 hL6 (by rw [e2 4 (by decide), d1]; exact r2) (fun c t hc htt => by rw [e3, d2 49 (by decide)]; exact g c t hc htt) w1 e4 e5 e6 e7 (fun S hS => by rw [e3]; exact ⟨d3 S hS, hmob S, rfl⟩) hlv (by omega) (fun c t hc htt => (w2 c t hc htt).imp id (fun z => ⟨z, by have := gv_W_bd z (fun b p hb hp => hde b p hb (by omega)); omega⟩)) (fun σ10 β' f1 f2 f3 f4 f5 f6 => ?_)
          refine ih σ10 β' (fun i hi => by rw [f1, e1 i (by omega) (by omega), d1, r1 i hi]) (by rw [f1, e2 4 (by decide), d1]; exact r2) (fun S hS => by rw [f1, e1 46 (by decide) (by decide), d1]; exact r3 S hS) (by rw [f2 45 (by decide), e3, d2 45 (by decide)]; exact r4) f3 (fun c t => Nat.le_trans (f4 c t) (w1 c t)) f5 (gv_C_step hB8 hUs w3 (fun c t _ _ => f4 c t) (fun z1 z2 c t S y1 y2 y3 y4 y5 y6 => f6 c t S y1 y2 y3 y4 y5 (ob_and0.mpr (fun i hi => ?_))))
          by_cases hiB : i < la_B l
          · exact y6 i hiB hi
          · rw [Nat.testBit_lt_two_pow (Nat.lt_of_lt_of_le y3 (Nat.pow_le_pow_right (by decide) (by omega)))] at hi
            cases hi
    · rw [ob_wL_1, b1, a1 i (by omega)]; exact s1 i hi
    · rw [ob_wL_1, b1, a1 45 (by decide)]; exact s2
    · rw [ob_wL_1, b1]; exact a3 S hS
    · rw [ob_wL_o (by decide), b2 45 (by decide), a2]; exact s3
    · show _ = lN (if c = 0 ∧ t = 0 then 0 else U)
      by_cases e : c = 0 ∧ t = 0
      · rw [if_pos e, e.1, e.2]
        exact ob_wL_s
      · rw [if_neg e, ob_wL_n (by omega), b3 _ (by omega), hU]
    · show (if c = 0 ∧ t = 0 then 0 else U) ≤ U
      split <;> omega
    · show (if c = 0 ∧ t = 0 then 0 else U) = U ∨ _
      by_cases e : c = 0 ∧ t = 0
      · right
        show gv_W X (ob_uu s) (la_C l) (ob_tm l s n) (st_a s) (st_v s) v (la_B l) 0 c t (if c = 0 ∧ t = 0 then 0 else U)
        rw [if_pos e, e.1, e.2]
        exact ⟨fun _ => none, fun b hb => by rw [Nat.zero_testBit]; rfl, fun b p hb z => (by cases z), Nat.zero_le _, (ob_ns_0 (fun b hb => rfl)).symm⟩
      · exact Or.inl (if_neg e)
  · refine br_f (fun z => ?_) (h1 _ _ (fun i hi => by rw [ob_wL_1]) (gv_opt0 hX1 hC1 hu6 huv (by omega)) (by omega) ob_wL_s)
    rw [Int32.lt_iff_toInt_lt, pk_sub_toInt (by omega) (by omega)] at z
    have : (0 : Int32).toInt = 0 := by decide
    omega
end KS
theorem pr_given (x z y u : Int32) : ob_PAIR oX8_given oX9_given [.int x, .int z, .int y, .int u] := by
  intro E c σ hc hR
  have hR1 := hR.mono (Nat.le_succ c)
  obtain ⟨l, s, kp, im, tn, td, hl, hs, hCL, hML, hCS, hMS, hIM, hTD, hTX, hF⟩ := hR
  have hP6 := hl.2.2.1
  have hB8 := hl.2.2.2.1
  by_cases hu : u = -1 ∨ ∃ j, j < la_B l ∧ u = nI j
  · have ent : ∀ (σ1 : ob_Mem) (Q : Int32 → ob_Mem → Prop), σ1.1 53 4 = nI (la_B l) → ob_RT shp E oX9_given 18 [.ref 53, .int x, .int z, .int y, .int u, .null] [] σ1 (ob_qI Q) → ob_RM shp E oX9_given [.ref 53, .int x, .int z, .int y, .int u] σ1 (ob_qI Q) := by
      intro σ1 Q fr kk
      refine m_X9_given (b_X9_given_0 ⟨fun _ => kk, fun hne => n_isBirthday fr hB8 (fun j hj e => ob_bt (by decide) kk) (fun hno => ?_)⟩)
      rcases hu with h | ⟨j, hj, h⟩
      · exact absurd h hne
      · exact absurd h (hno j hj)
    have cls : ∀ Q : Int32 → ob_Mem → Prop, ob_RT shp E oX8_given 21 [.ref 0, .int x, .int z, .int y, .int u] [] σ (ob_qI Q) → ob_RM shp E oX8_given [.ref 0, .int x, .int z, .int y, .int u] σ (ob_qI Q) := by
      intro Q kk
      refine m_X8_given (b_X8_given_0 ⟨fun _ => kk, fun hne => k_hasBirthday hCL.2.2.1 hB8 (fun j hj e => ob_bt (by decide) kk) (fun hno => ?_)⟩)
      rcases hu with h | ⟨j, hj, h⟩
      · exact absurd h hne
      · exact absurd h (hno j hj)
    refine cls _ (b_X8_given_21 ?_)
    by_cases hx : (0 : Int32) ≤ x ∧ x ≤ 6
    · refine k_out hx (ob_bf rfl ?_)
      by_cases hz : (0 : Int32) ≤ z ∧ z ≤ 999
      · refine k_out hz (ob_bf rfl ?_)
        by_cases hy : (1 : Int32) ≤ y ∧ y ≤ 9999
        · refine k_out hy (br_t rfl ?_)
          rw [show σ.1 17 6 = ob_sf (st_v s) (la_P l) from hCS.1]
          by_cases hlv : ob_sf (st_v s) (la_P l) = 0
          · refine ob_bf hlv (ent σ _ hML.2.2.1 (b_X9_given_18 (n_in1 (a := 0) (b := 6) (by decide) (by decide) hx (br_f (by decide) (n_in1 (a := 0) (b := 999) (by decide) (by decide) hz (br_f (by decide) (n_in1 (a := 1) (b := 9999) (by decide) (by decide) hy (ob_bt (by decide) (n_alive hl hML hMS (ob_bf hlv ⟨rfl, hR1⟩))))))))))
          · obtain ⟨hus, huv⟩ := gv_users hs hlv
            obtain ⟨k, -, hk, rfl⟩ := ob_rng (m := 0) (n := 6) rfl rfl (by omega) hx
            obtain ⟨v, -, hv, rfl⟩ := ob_rng (m := 0) (n := 999) rfl rfl (by omega) hz
            obtain ⟨n, -, hn, rfl⟩ := ob_rng (m := 1) (n := 9999) rfl rfl (by omega) hy
            obtain ⟨X, hX⟩ : ∃ X, X = 6 ^ 8 := ⟨_, rfl⟩
            obtain ⟨U, hUe⟩ : ∃ U, U = 9223372036854775807 := ⟨_, rfl⟩
            have hU : (9223372036854775807 : Int64) = lN U := by rw [hUe]; decide +kernel
            have hXL : (1679616 : Int64) = lN X := by rw [hX]; decide +kernel
            have hXv : X = 1679616 := by rw [hX]
            have back : ∀ (σ1 : ob_Mem) (Q : Int32 → ob_Mem → Prop), (∀ i, ¬ (45 ≤ i ∧ i ≤ 49) → σ1.1 i = σ.1 i) → ob_RM shp E oX9_findGiven [.ref 53, .int (nI k), .int (nI v), .int (nI n)] σ1 (ob_qI fun v10 σ9 => ((v10 < 0 → Q v10 σ9) ∧ (¬ v10 < 0 → ((¬ u = (-1 : Int32) → (vp_in u 8 ∧ Q (σ9.1 77 (u).toNatClampNeg) σ9)) ∧ (u = (-1 : Int32) → Q v10 σ9))))) → ob_RM shp E oX9_given [.ref 53, .int (nI k), .int (nI v), .int (nI n), .int u] σ1 (ob_qI Q) := by
              intro σ1 Q fr kk
              have hML1 : pi_ML σ1.1 l := hML.to (fun i a b => fr i (by omega)) (fun k hk => by rw [fr 53 (by decide)])
              have hMS1 : pi_MS σ1.1 l s := hMS.to (fun i a b => fr i (by omega)) (fun k hk => by rw [fr 53 (by decide)])
              exact ent σ1 _ hML1.2.2.1 (b_X9_given_18 (n_in1 (a := 0) (b := 6) (by decide) (by decide) hx (br_f (by decide) (n_in1 (a := 0) (b := 999) (by decide) (by decide) hz (br_f (by decide) (n_in1 (a := 1) (b := 9999) (by decide) (by decide) hy (ob_bt (by decide) (n_alive hl hML1 hMS1 (ob_bt hlv kk)))))))))
            have fin : ∀ σ1 σ2 : ob_Mem, (∀ i, ¬ (45 ≤ i ∧ i ≤ 49) → σ1.1 i = σ.1 i) → (∀ i, ¬ (74 ≤ i ∧ i ≤ 77) → σ2.1 i = σ1.1 i) → ob_REL (c + 1) σ2.1 := fun σ1 σ2 q1 q2 => hR1.core ⟨fun i hi => by rw [q2 i (by omega), q1 i (by omega)], fun i k hk => by rw [q2 i (by omega), q1 i (by omega)]⟩
            have toM : ∀ κ : ob_Mem, (∀ i, ¬ (45 ≤ i ∧ i ≤ 49) → κ.1 i = σ.1 i) → pi_ML κ.1 l ∧ pi_MS κ.1 l s := fun κ fr => ⟨hML.to (fun i a b => fr i (by omega)) (fun k hk => by rw [fr 53 (by decide)]), hMS.to (fun i a b => fr i (by omega)) (fun k hk => by rw [fr 53 (by decide)])⟩
            refine ob_bt hlv (k_search hU (by rw [hUe]; decide) (by rw [hUe]; decide) hX hl hs (by omega) hCL hCS hk hv hn hus huv (fun r σ7 fr7 hopt hr hr6 => ob_bt (by decide) ?_) (fun hno σ7 fr7 => ob_bf rfl ?_))
            · obtain ⟨⟨g0, g1, g2, g3⟩, hmin⟩ := hopt
              have main : ∀ a : Int32, (∀ g, (∀ i, i < la_B l → g i < 6) → gv_S (ob_uu s) (la_C l) g (la_B l) * X + gv_H g (la_B l) * 6 ^ (8 - la_B l) = r → (u = -1 → a = nI (gv_S (ob_uu s) (la_C l) g (la_B l))) ∧ ∀ j, j < la_B l → u = nI j → a = nI (g j)) → ob_RM shp E oX9_given [.ref 53, .int (nI k), .int (nI v), .int (nI n), .int u] σ7 (ob_qI fun r' σ2 => a = r' ∧ ob_REL (c + 1) σ2.1) := by
                intro a ha
                refine back σ7 _ fr7 (n_findGiven hX hl hs (by omega) (toM σ7 fr7).1 (toM σ7 fr7).2 hk hv hn hus (fun hno => absurd ⟨g1, g2⟩ (hno g0)) (fun g gF gm σ9 r9 w9 => ?_))
                have hg6 := gv_F6 hl gF
                have hRr : gv_R X (ob_uu s) (la_C l) (la_B l) g = r := by
                  have q1 := gm g0 ⟨g1, g2⟩
                  have q2 := hmin g gF.1 gF.2
                  omega
                rw [gv_R_eq hB8] at hRr
                obtain ⟨ha1, ha2⟩ := ha g hg6 hRr
                have hSb := gv_S_bd hl (u := ob_uu s) (g := g) (m := la_B l) (Nat.le_refl _)
                refine br_f (ob_nneg (by omega)) ⟨fun hne => ?_, fun he => ⟨ha1 he, fin σ7 σ9 fr7 r9⟩⟩
                rcases hu with h | ⟨j, hj, h⟩
                · exact absurd h hne
                · have := ha2 j hj h
                  rw [h, ob_cl (n := j) (by omega), w9 j hj]
                  exact ⟨ob_in (by omega) (by omega), this, fin σ7 σ9 fr7 r9⟩
              refine ⟨fun hne => ?_, fun he => ?_⟩
              · obtain ⟨j, hj, h⟩ := hu.resolve_left hne
                rw [h]
                refine m_X1_receiverOf (b_X1_receiverOf_0 (br_f (ob_nneg (by omega)) (br_t ((ob_lt (b := 8) (by omega) (by omega)).mpr (by omega)) ⟨ob_in (by omega) (by omega), ?_⟩)))
                rw [ob_cl (n := j) (by omega)]
                obtain ⟨f1, f2, f3⟩ := ob_figF ⟨j, by omega⟩
                refine br_t f2 ⟨f3, ?_⟩
                have f1 : (ob_fig j).toInt64 = lN (6 ^ (7 - j)) := f1
                have hp1 : 6 ^ (7 - j) ≤ 279936 := gv_pow
                have hp0 : 0 < 6 ^ (7 - j) := Nat.pow_pos (by decide)
                rw [f1, hr6, hXL, show (6 : Int64) = lN 6 from rfl]
                unfold ob_remL
                rw [pk_lRem (by omega) (by omega) (by omega), pk_lDiv (by have := Nat.mod_lt r (show 0 < X by omega); omega) hp0 (by omega)]
                have hdv : r % X / 6 ^ (7 - j) < 2 ^ 63 := by
                  have h1 := Nat.div_le_self (r % X) (6 ^ (7 - j))
                  have h2 := Nat.mod_lt r (show 0 < X by omega)
                  omega
                rw [pk_lRem hdv (by decide) (by decide), lN_i, ← h]
                refine main _ (fun g g6 gr => ⟨fun e => absurd e hne, fun j' hj' e => ?_⟩)
                rw [h, ob_eq (by omega) (by omega)] at e
                subst e
                have hN := gv_N_lt hX hB8 g6
                have hd := gv_dig2 hB8 hj g6
                generalize gv_H g (la_B l) * 6 ^ (8 - la_B l) = N at *
                rw [← gr, Nat.mul_comm, Nat.mul_add_mod, Nat.mod_eq_of_lt hN, hd]
              · refine m_X1_leastSum (b_X1_leastSum_0 ?_)
                rw [hr6, hXL, pk_lDiv (by omega) (by omega) (by omega), lN_i]
                refine main _ (fun g g6 gr => ⟨fun _ => ?_, fun j hj e => absurd (he.symm.trans e) (fun z => ob_m1 (by omega) z.symm)⟩)
                have hN := gv_N_lt hX hB8 g6
                generalize gv_H g (la_B l) * 6 ^ (8 - la_B l) = N at *
                rw [← gr, Nat.mul_comm, Nat.mul_add_div (by omega), Nat.div_eq_of_lt hN, Nat.add_zero]
            · exact back σ7 _ fr7 (n_findGiven hX hl hs (by omega) (toM σ7 fr7).1 (toM σ7 fr7).2 hk hv hn hus (fun _ σ9 r9 => br_t (by decide) ⟨rfl, fin σ7 σ9 fr7 r9⟩) (fun g gF => absurd gF (hno g)))
        · exact k_out' hy (br_f (by decide) (ent σ _ hML.2.2.1 (b_X9_given_18 (n_in1 (a := 0) (b := 6) (by decide) (by decide) hx (br_f (by decide) (n_in1 (a := 0) (b := 999) (by decide) (by decide) hz (br_f (by decide) (n_in0 (a := 1) (b := 9999) (by decide) (by decide) hy (ob_bf rfl ⟨rfl, hR1⟩)))))))))
      · exact k_out' hz (ob_bt (by decide) (ent σ _ hML.2.2.1 (b_X9_given_18 (n_in1 (a := 0) (b := 6) (by decide) (by decide) hx (br_f (by decide) (n_in0 (a := 0) (b := 999) (by decide) (by decide) hz (br_t rfl ⟨rfl, hR1⟩)))))))
    · exact k_out' hx (ob_bt (by decide) (ent σ _ hML.2.2.1 (b_X9_given_18 (n_in0 (a := 0) (b := 6) (by decide) (by decide) hx (br_t rfl ⟨rfl, hR1⟩)))))
  · have h1 : ¬ u = -1 := fun e => hu (Or.inl e)
    have h2 : ¬ ∃ j, j < la_B l ∧ u = nI j := fun e => hu (Or.inr e)
    exact m_X8_given (b_X8_given_0 (br_f h1 (k_hasB0 hCL.2.2.1 hB8 h2 (ob_bf rfl (m_X9_given (b_X9_given_0 (br_f h1 (n_isB0 hML.2.2.1 hB8 h2 (ob_bf rfl ⟨rfl, hR1⟩)))))))))
