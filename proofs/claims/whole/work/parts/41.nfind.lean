/-! GIVEN in the reference -/
def ob_uu (s : StT) (b : Nat) : Nat := (ob_us s b).getD 0
def gv_F (l : LdT) (s : StT) (k v n : Nat) (g : Nat → Nat) : Prop := gv_va (st_v s) (la_P l) (la_B l) g ∧ k ≤ gv_en (st_v s) (st_a s) (ob_tm l s n) v (la_P l) (la_B l) g
theorem gv_yr_le {tm : Nat → Nat} {B p M : Nat} {g : Nat → Nat} (h : ∀ b, b < B → tm b ≤ M) {n : Nat} (hn : n ≤ B) : ob_ns (fun b => if g b = p then tm b else 0) n ≤ n * M := ob_ns_le (fun b hb => by
  have := h b (by omega)
  show (if g b = p then tm b else 0) ≤ M
  split <;> omega)
section NF
variable {E : ob_E} {σ : ob_Mem} {l : LdT} {s : StT} {k v n X : Nat}
theorem n_areEnough {Q : Int32 → ob_Mem → Prop} {tm g : Nat → Nat} (hl : ob_lok l) (hage : ∀ p, p < la_P l → st_a s p ≤ 999) (hML : pi_ML σ.1 l) (hMS : pi_MS σ.1 l s) (h74 : ∀ b, b < la_B l → σ.1 74 b = nI (g b)) (h75 : ∀ b, b < la_B l → σ.1 75 b = nI (tm b)) (hg : ∀ b, b < la_B l → g b < 6) (htm : ∀ b, b < la_B l → tm b ≤ 9999) (hk : k ≤ 6) (hv : v ≤ 999) (h1 : k ≤ gv_en (st_v s) (st_a s) tm v (la_P l) (la_B l) g → Q 1 σ) (h0 : ¬ k ≤ gv_en (st_v s) (st_a s) tm v (la_P l) (la_B l) g → Q 0 σ) : ob_RM shp E oX9_areEnough [.ref 53, .int (nI k), .int (nI v)] σ (ob_qI Q) := by
  have hP6 := hl.2.2.1
  have hB8 := hl.2.2.2.1
  refine m_X9_areEnough (b_X9_areEnough_0 ?_)
  have cle : ∀ p, p ≤ la_P l → ob_ns (fun p => if st_v s p = true ∧ v ≤ st_a s p + gv_yr tm (la_B l) g p then 1 else 0) p ≤ 6 := by
    intro p hp
    have := ob_ns_le (f := fun p => if st_v s p = true ∧ v ≤ st_a s p + gv_yr tm (la_B l) g p then 1 else 0) (M := 1) (n := p) (fun i hi => by
      show (if st_v s i = true ∧ v ≤ st_a s i + gv_yr tm (la_B l) g i then 1 else 0) ≤ 1
      split <;> omega)
    omega
  refine ob_loop0 (T := fun p => ob_RT shp E oX9_areEnough 5 [.ref 53, .int (nI k), .int (nI v), .int (nI (ob_ns (fun p => if st_v s p = true ∧ v ≤ st_a s p + gv_yr tm (la_B l) g p then 1 else 0) p)), .int (nI p), .null, .null] [] σ (ob_qI Q)) (B := la_P l) (b_X9_areEnough_5 ?_) (fun p hp ih => b_X9_areEnough_5 ?_)
  · rw [hML.2.1]
    refine br_t ((ob_le (by omega) (by omega)).mpr (Nat.le_refl _)) ?_
    have := cle (la_P l) (Nat.le_refl _)
    unfold gv_en at h1 h0
    rw [ob_lt (by omega) (by omega)]
    refine ⟨fun z => h0 (by omega), fun z => h1 (by omega)⟩
  · rw [hML.2.1]
    have hip : vp_in (nI p) 6 := ob_in (by omega) (by omega)
    refine br_f (fun z => by rw [ob_le (by omega) (by omega)] at z; omega) ⟨hip, ?_⟩
    rw [ob_cl (n := p) (by omega), (hMS.2.2.1 p hp).1]
    have ha := hage p hp
    have yle : ∀ b, b ≤ la_B l → ob_ns (fun b => if g b = p then tm b else 0) b ≤ 79992 := fun b hb => by
      have := gv_yr_le (g := g) (p := p) htm hb
      have : b * 9999 ≤ 8 * 9999 := Nat.mul_le_mul_right _ (by omega)
      omega
    refine ob_loop0 (T := fun b => ob_RT shp E oX9_areEnough 26 [.ref 53, .int (nI k), .int (nI v), .int (nI (ob_ns (fun p => if st_v s p = true ∧ v ≤ st_a s p + gv_yr tm (la_B l) g p then 1 else 0) p)), .int (nI p), .int (nI (st_a s p + ob_ns (fun b => if g b = p then tm b else 0) b)), .int (nI b)] [] σ (ob_qI Q)) (B := la_B l) (b_X9_areEnough_26 ?_) (fun b hb ihb => b_X9_areEnough_26 ?_)
    · rw [hML.2.2.1]
      refine br_t ((ob_le (by omega) (by omega)).mpr (Nat.le_refl _)) ⟨hip, ?_⟩
      rw [ob_cl (n := p) (by omega), (hMS.2.2.1 p hp).2.2, ob_bI0, nI_1, nI_1, Int32.add_zero]
      have yb := yle (la_B l) (Nat.le_refl _)
      have ih : ∀ x, x = ob_ns (fun p => if st_v s p = true ∧ v ≤ st_a s p + gv_yr tm (la_B l) g p then 1 else 0) p + (if st_v s p = true ∧ v ≤ st_a s p + gv_yr tm (la_B l) g p then 1 else 0) → ob_RT shp E oX9_areEnough 5 [.ref 53, .int (nI k), .int (nI v), .int (nI x), .int (nI (p + 1)), .null, .null] [] σ (ob_qI Q) := by
        rintro x rfl
        exact ih
      refine ⟨fun hz => ih _ (by rw [if_neg (fun z => by rw [hz] at z; exact absurd z.1 (by decide)), Nat.add_zero]), fun hz => ?_⟩
      have hz : st_v s p = true := by
        cases hq : st_v s p with
        | true => rfl
        | false => exact absurd hq hz
      rw [ob_lt (by omega) (by omega)]
      refine ⟨fun z => ih _ ?_, fun z => ih _ ?_⟩
      · rw [if_neg (fun y => by have := y.2; unfold gv_yr at this; omega), Nat.add_zero]
      · rw [if_pos ⟨hz, by unfold gv_yr; omega⟩]
    · rw [hML.2.2.1]
      have hib : vp_in (nI b) 8 := ob_in (by omega) (by omega)
      have yb := yle b (by omega)
      refine br_f (fun z => by rw [ob_le (by omega) (by omega)] at z; omega) ⟨hib, ?_⟩
      have hgb := hg b hb
      rw [ob_cl (n := b) (by omega), h74 b hb, h75 b hb, nI_1, nI_add, ob_eq (by omega) (by omega), Int32.add_zero]
      have ihb : ∀ x, x = st_a s p + (ob_ns (fun b => if g b = p then tm b else 0) b + (if g b = p then tm b else 0)) → ob_RT shp E oX9_areEnough 26 [.ref 53, .int (nI k), .int (nI v), .int (nI (ob_ns (fun p => if st_v s p = true ∧ v ≤ st_a s p + gv_yr tm (la_B l) g p then 1 else 0) p)), .int (nI p), .int (nI x), .int (nI (b + 1))] [] σ (ob_qI Q) := by
        rintro x rfl
        exact ihb
      refine ⟨fun z => ihb _ (by rw [if_neg z]; omega), fun z => ⟨hib, ihb _ (by rw [if_pos z]; omega)⟩⟩
/-- the state of the search: level b, the next person c -/
def gd_M (l : LdT) (s : StT) (k v n X : Nat) (σ : ob_Mem) (b c best : Nat) (g bg : Nat → Nat) (τ : ob_Mem) : Prop := (∀ i, i ≠ 74 → i ≠ 76 → i ≠ 77 → τ.1 i = σ.1 i) ∧ (∀ i, i < b → τ.1 74 i = nI (g i)) ∧ τ.1 74 b = nI c - 1 ∧ (∀ i, i ≤ b → τ.1 76 i = nI (gv_S (ob_uu s) (la_C l) g i)) ∧ (best < 1000000 → ∀ i, i < la_B l → τ.1 77 i = nI (bg i)) ∧ (∀ i, i < b → g i < la_P l ∧ st_v s (g i) = true) ∧ gd_I (gv_F l s k v n) (gv_R X (ob_uu s) (la_C l) (la_B l)) (fun g => gv_S (ob_uu s) (la_C l) g (la_B l)) g b c best bg
theorem gd_I.le {F : (Nat → Nat) → Prop} {Rk Sk : (Nat → Nat) → Nat} {g bg : Nat → Nat} {b c best : Nat} (h : gd_I F Rk Sk g b c best bg) : best ≤ 1000000 := by
  rcases h with h | h
  · omega
  · omega
theorem gv_F6 (hl : ob_lok l) {x : Nat → Nat} (hx : gv_F l s k v n x) : ∀ i, i < la_B l → x i < 6 := fun i hi => Nat.lt_of_lt_of_le (hx.1 i hi).1 hl.2.2.1
theorem gv_F_congr {x y : Nat → Nat} (h : ∀ i, i < la_B l → x i = y i) (hx : gv_F l s k v n x) : gv_F l s k v n y := by
  refine ⟨fun b hb => by rw [← h b hb]; exact hx.1 b hb, Nat.le_trans hx.2 (Nat.le_of_eq (ob_ns_congr (fun p hp => ?_)))⟩
  have e : gv_yr (ob_tm l s n) (la_B l) x p = gv_yr (ob_tm l s n) (la_B l) y p := ob_ns_congr (fun b hb => by rw [h b hb])
  rw [e]
theorem gv_S_bd (hl : ob_lok l) {u g : Nat → Nat} {m : Nat} (hm : m ≤ la_B l) : gv_S u (la_C l) g m ≤ 792 := by
  have hB8 := hl.2.2.2.1
  have := ob_ns_le (f := fun b => if g b = u b then 0 else la_C l b) (M := 99) (n := m) (fun b hb => by
    have := (hl.2.2.2.2.1 b (by omega)).2.2.2
    show (if g b = u b then 0 else la_C l b) ≤ 99
    split <;> omega)
  unfold gv_S
  omega
theorem nI_m1 {c : Nat} : nI (c + 1) - 1 = nI c := by
  rw [show (1 : Int32) = nI 1 from rfl, ob_sub (by omega), Nat.add_sub_cancel]
theorem n_step {Q : Int32 → ob_Mem → Prop} {x1 x2 x3 : Int32} {c0 b c best : Nat} {g bg : Nat → Nat} {τ : ob_Mem} (hx1 : x1 = nI k) (hx2 : x2 = nI v) (hX : X = 6 ^ 8) (hl : ob_lok l) (hs : ob_sok l s c0) (hML : pi_ML σ.1 l) (hMS : pi_MS σ.1 l s) (h75 : ∀ b, b < la_B l → σ.1 75 b = nI (ob_tm l s n b)) (htm : ∀ b, b < la_B l → ob_tm l s n b ≤ 9999) (hk : k ≤ 6) (hv : v ≤ 999) (hus : ∀ b, b < la_B l → ob_us s b = some (ob_uu s b)) (hb : b < la_B l) (hc : c < la_P l)
    (hnext : ∀ (best' : Nat) (bg' : Nat → Nat) (τ' : ob_Mem), gd_M l s k v n X σ b (c + 1) best' g bg' τ' → ob_RT shp E oX9_findGiven 76 [.ref 53, .int x1, .int x2, .int x3, .int (nI best'), .int (nI b), .null, .null] [] τ' (ob_qI Q))
    (hdown : b + 1 < la_B l → ∀ τ' : ob_Mem, gd_M l s k v n X σ (b + 1) 0 best (ob_u1 g b c) bg τ' → ob_RT shp E oX9_findGiven 76 [.ref 53, .int x1, .int x2, .int x3, .int (nI best), .int (nI (b + 1)), .null, .null] [] τ' (ob_qI Q))
    (hM : gd_M l s k v n X σ b c best g bg τ) : ob_RT shp E oX9_findGiven 76 [.ref 53, .int x1, .int x2, .int x3, .int (nI best), .int (nI b), .null, .null] [] τ (ob_qI Q) := by
  have hP6 := hl.2.2.1
  have hB8 := hl.2.2.2.1
  obtain ⟨fr, m74, m74b, m76, m77, mg, mI⟩ := hM
  have hbest := mI.le
  have i8 : vp_in (nI b) 8 := ob_in (by omega) (by omega)
  have i9 : vp_in (nI b) 9 := ob_in (by omega) (by omega)
  have yag : ∀ i, i < b → ob_u1 g b c i = g i := fun i hi => ob_u1n (by omega)
  refine b_X9_findGiven_76 (br_f (ob_nneg (by omega)) ⟨i8, i8, ?_⟩)
  rw [ob_cl (n := b) (by omega), m74b, Int32.sub_add_cancel]
  rintro σ1 rfl
  have fr1 : ∀ i, i ≠ 74 → i ≠ 76 → i ≠ 77 → (ob_wI τ 74 b (nI c)).1 i = σ.1 i := fun i a1 a2 a3 => by rw [ob_wI_o a1]; exact fr i a1 a2 a3
  have n74 : ∀ i, i < b → (ob_wI τ 74 b (nI c)).1 74 i = nI (g i) := fun i hi => by rw [ob_wI_n (by omega)]; exact m74 i hi
  have n74b : (ob_wI τ 74 b (nI c)).1 74 b = nI c := ob_wI_s
  have n76 : ∀ i, i ≤ b → (ob_wI τ 74 b (nI c)).1 76 i = nI (gv_S (ob_uu s) (la_C l) g i) := fun i hi => by rw [ob_wI_o (by decide)]; exact m76 i hi
  have n77 : best < 1000000 → ∀ i, i < la_B l → (ob_wI τ 74 b (nI c)).1 77 i = nI (bg i) := fun z i hi => by rw [ob_wI_o (by decide)]; exact m77 z i hi
  generalize ob_wI τ 74 b (nI c) = σ1 at *
  have hML1 : pi_ML σ1.1 l := hML.to (fun i a b => fr1 i (by omega) (by omega) (by omega)) (fun k hk => by rw [fr1 53 (by decide) (by decide) (by decide)])
  have hMS1 : pi_MS σ1.1 l s := hMS.to (fun i a b => fr1 i (by omega) (by omega) (by omega)) (fun k hk => by rw [fr1 53 (by decide) (by decide) (by decide)])
  have skip : (∀ x, gv_F l s k v n x → (∀ i, i < b → x i = g i) → x b = c → best < 1000000 ∧ (gv_F l s k v n bg → gv_S (ob_uu s) (la_C l) bg (la_B l) = best → gd_bef g b c bg → gv_R X (ob_uu s) (la_C l) (la_B l) bg ≤ gv_R X (ob_uu s) (la_C l) (la_B l) x)) → ob_RT shp E oX9_findGiven 76 [.ref 53, .int x1, .int x2, .int x3, .int (nI best), .int (nI b), .null, .null] [] σ1 (ob_qI Q) := fun h => hnext best bg σ1 ⟨fr1, n74, by rw [n74b, nI_m1], n76, n77, mg, gd_next mI h⟩
  refine ⟨i8, ?_⟩
  rw [n74b, hML1.2.1, ob_cl (n := c) (by omega), n76 b (Nat.le_refl _)]
  refine br_t ((ob_lt (by omega) (by omega)).mpr hc) ⟨i8, ob_in (by omega) (by omega), ?_⟩
  rw [(hMS1.2.2.1 c hc).2.2, ob_bI0]
  cases hlv : st_v s c with
  | false =>
    refine br_t rfl (skip (fun x hx hag hxc => ?_))
    have := (hx.1 b hb).2
    rw [hxc, hlv] at this
    cases this
  | true =>
    refine br_f (by decide) ⟨i9, i8, n_userOf hl hs hMS1 hb ?_⟩
    rw [hus b hb]
    have hub := (ob_kb hs hl hb).2.2 _ (hus b hb)
    have go : ∀ s0 : Nat, s0 = (if c = ob_uu s b then 0 else la_C l b) → ob_RT shp E oX9_findGiven 161 [.ref 53, .int x1, .int x2, .int x3, .int (nI best), .int (nI b), .null, .null] [.int (nI s0), .int (nI (gv_S (ob_uu s) (la_C l) g b))] σ1 (ob_qI Q) := by
      rintro s0 hs0
      have hsum : gv_S (ob_uu s) (la_C l) g b + s0 = gv_S (ob_uu s) (la_C l) (ob_u1 g b c) (b + 1) := by
        show _ = gv_S (ob_uu s) (la_C l) (ob_u1 g b c) b + (if ob_u1 g b c b = ob_uu s b then 0 else la_C l b)
        rw [gv_S_congr yag, ob_u1s, hs0]
      have hbd := gv_S_bd hl (u := ob_uu s) (g := ob_u1 g b c) (m := b + 1) (by omega)
      rw [← hsum] at hbd
      refine b_X9_findGiven_161 ?_
      rw [nI_add]
      by_cases hp : best ≤ gv_S (ob_uu s) (la_C l) g b + s0
      · have hle : nI best ≤ nI (gv_S (ob_uu s) (la_C l) g b + s0) := (ob_le (by omega) (by omega)).mpr hp
        refine br_t hle (b_X9_findGiven_230 (br_t hle (skip (fun x hx hag hxc => ⟨by omega, fun hF hS hbf => ?_⟩))))
        exact gd_prune (P := 0) hX hB8 (fun x hx => gv_F6 hl hx) hb hx hag hxc (by rw [← hs0]; exact hp) hF hS hbf
      · have hnle : ¬ nI best ≤ nI (gv_S (ob_uu s) (la_C l) g b + s0) := fun z => hp ((ob_le (by omega) (by omega)).mp z)
        refine br_f hnle ?_
        rw [hML1.2.2.1, show (1 : Int32) = nI 1 from rfl, ob_sub (by omega), ob_eq (by omega) (by omega)]
        by_cases hbl : b + 1 < la_B l
        · refine ob_bt (by omega) (b_X9_findGiven_230 (br_f hnle ?_))
          rw [nI_1, ob_cl (n := b + 1) (by omega)]
          refine ⟨ob_in (by omega) (by omega), ob_in (by omega) (by omega), ?_⟩
          rintro σ2 rfl
          refine hdown hbl _ ⟨fun i a1 a2 a3 => by rw [ob_wI_o a1, ob_wI_o a2]; exact fr1 i a1 a2 a3, fun i hi => ?_, ?_, fun i hi => ?_, fun z i hi => ?_, fun i hi => ?_, gd_down mI yag ob_u1s⟩
          · rw [ob_wI_n (by omega), ob_wI_o (by decide)]
            by_cases e : i = b
            · rw [e, ob_u1s]; exact n74b
            · rw [ob_u1n e]; exact n74 i (by omega)
          · rw [ob_wI_s]; rfl
          · rw [ob_wI_o (by decide)]
            by_cases e : i = b + 1
            · rw [e, ob_wI_s, hsum]
            · rw [ob_wI_n e, n76 i (by omega), gv_S_congr (fun j hj => (yag j (by omega)).symm)]
          · rw [ob_wI_o (by decide), ob_wI_o (by decide)]; exact n77 z i hi
          · by_cases e : i = b
            · rw [e, ob_u1s]; exact ⟨hc, hlv⟩
            · rw [ob_u1n e]; exact mg i (by omega)
        · have hbB : b + 1 = la_B l := by omega
          have hyv : gv_va (st_v s) (la_P l) (la_B l) (ob_u1 g b c) := fun i hi => by
            by_cases e : i = b
            · rw [e, ob_u1s]; exact ⟨hc, hlv⟩
            · rw [ob_u1n e]; exact mg i (by omega)
          have same : ∀ x : Nat → Nat, (∀ i, i < b → x i = g i) → x b = c → ∀ i, i < la_B l → x i = ob_u1 g b c i := fun x hag hxc i hi => by
            by_cases e : i = b
            · rw [e, ob_u1s]; exact hxc
            · rw [ob_u1n e]; exact hag i (by omega)
          refine ob_bf (by omega) ?_
          rw [hx1, hx2]
          refine n_areEnough (g := ob_u1 g b c) (tm := ob_tm l s n) hl hs.2.2.1 hML1 hMS1 (fun i hi => ?_) (fun i hi => by rw [fr1 75 (by decide) (by decide) (by decide)]; exact h75 i hi) (fun i hi => by have := (hyv i hi).1; omega) htm hk hv (fun he => br_f (by decide) ?_) (fun he => br_t rfl ?_)
          · by_cases e : i = b
            · rw [e, ob_u1s]; exact n74b
            · rw [ob_u1n e]; exact n74 i (by omega)
          · rw [← hx1, ← hx2]
            have hF : gv_F l s k v n (ob_u1 g b c) := ⟨hyv, he⟩
            have hI := gd_leaf (y := ob_u1 g b c) (sum := gv_S (ob_uu s) (la_C l) g b + s0) mI yag ob_u1s hF (by show gv_S (ob_uu s) (la_C l) (ob_u1 g b c) (la_B l) = _; rw [← hbB, hsum]) (by omega) (by omega) (fun x hx hag hxc => Nat.le_of_eq (gv_R_congr (fun i hi => (same x hag hxc i hi).symm))) (fun x hx hlt => Nat.le_of_lt (gv_R_lt hX hB8 (gv_F6 hl hF) (by rw [← hbB, ← hsum, hbB]; exact hlt))) (fun x z hx hz hle => gv_R_S hX hB8 (gv_F6 hl hz) hle)
            refine ob_loop0 (T := fun i => ∀ τ2 : ob_Mem, (∀ j, j ≠ 77 → τ2.1 j = σ1.1 j) → (∀ j, j < i → τ2.1 77 j = nI (ob_u1 g b c j)) → ob_RT shp E oX9_findGiven 198 [.ref 53, .int x1, .int x2, .int x3, .int (nI (gv_S (ob_uu s) (la_C l) g b + s0)), .int (nI b), .int (nI (gv_S (ob_uu s) (la_C l) g b + s0)), .int (nI i)] [] τ2 (ob_qI Q)) (B := la_B l) (fun τ2 r2 w2 => b_X9_findGiven_198 ?_) (fun i hi ih τ2 r2 w2 => b_X9_findGiven_198 ?_) σ1 (fun _ _ => rfl) (fun j hj => by omega)
            · rw [r2 53 (by decide), hML1.2.2.1]
              refine br_t ((ob_le (by omega) (by omega)).mpr (Nat.le_refl _)) (hnext _ (ob_u1 g b c) τ2 ⟨fun i a1 a2 a3 => by rw [r2 i a3]; exact fr1 i a1 a2 a3, fun i hi => by rw [r2 74 (by decide)]; exact n74 i hi, by rw [r2 74 (by decide), n74b, nI_m1], fun i hi => by rw [r2 76 (by decide)]; exact n76 i hi, fun _ i hi => w2 i hi, mg, hI⟩)
            · rw [r2 53 (by decide), hML1.2.2.1]
              have ii : vp_in (nI i) 8 := ob_in (by omega) (by omega)
              refine br_f (fun z => by rw [ob_le (by omega) (by omega)] at z; omega) ⟨ii, ii, ?_⟩
              rw [nI_1, ob_cl (n := i) (by omega), r2 74 (by decide)]
              refine ih _ (fun j hj => by rw [ob_wI_o hj]; exact r2 j hj) (fun j hj => ?_)
              by_cases e : j = i
              · rw [e, ob_wI_s]
                by_cases e2 : i = b
                · rw [e2, ob_u1s]; exact n74b
                · rw [ob_u1n e2]; exact n74 i (by omega)
              · rw [ob_wI_n e]; exact w2 j (by omega)
          · rw [← hx1, ← hx2]
            exact skip (fun x hx hag hxc => absurd (gv_F_congr (same x hag hxc) hx).2 he)
    have e58 : σ1.1 58 b = nI (la_C l b) := (hML1.2.2.2.2.1 b hb).2.2
    rw [e58]
    show (¬ nI c = nI (ob_uu s b) → _) ∧ (nI c = nI (ob_uu s b) → _)
    rw [ob_eq (by omega) (by omega)]
    exact ⟨fun z => ⟨i8, go _ (by rw [if_neg z])⟩, fun z => go 0 (by rw [if_pos z])⟩
/-- a level is done -/
theorem n_upto {Q : Int32 → ob_Mem → Prop} {x1 x2 x3 : Int32} {b best : Nat} {g bg : Nat → Nat} {τ : ob_Mem} (hl : ob_lok l) (hML : pi_ML σ.1 l) (hb : b < la_B l) (hM : gd_M l s k v n X σ b (la_P l) best g bg τ) (h : ∀ τ' : ob_Mem, (∀ i, i ≠ 74 → τ'.1 i = τ.1 i) → (∀ i, i < b → τ'.1 74 i = τ.1 74 i) → ob_RT shp E oX9_findGiven 76 [.ref 53, .int x1, .int x2, .int x3, .int (nI best), .int (nI b + (-1 : Int32)), .null, .null] [] τ' (ob_qI Q)) : ob_RT shp E oX9_findGiven 76 [.ref 53, .int x1, .int x2, .int x3, .int (nI best), .int (nI b), .null, .null] [] τ (ob_qI Q) := by
  have hP6 := hl.2.2.1
  have hB8 := hl.2.2.2.1
  obtain ⟨fr, m74, m74b, m76, m77, mg, mI⟩ := hM
  have i8 : vp_in (nI b) 8 := ob_in (by omega) (by omega)
  refine b_X9_findGiven_76 (br_f (ob_nneg (by omega)) ⟨i8, i8, ?_⟩)
  rw [ob_cl (n := b) (by omega), m74b, Int32.sub_add_cancel]
  rintro σ1 rfl
  refine ⟨i8, ?_⟩
  rw [ob_wI_s, ob_wI_o (by decide), fr 53 (by decide) (by decide) (by decide), hML.2.1]
  exact br_f (fun z => by rw [ob_lt (by omega) (by omega)] at z; omega) (h _ (fun i a => ob_wI_o a) (fun i a => ob_wI_n (by omega)))
theorem n_lev {Q : Int32 → ob_Mem → Prop} {x1 x2 x3 : Int32} {c0 : Nat} (hx1 : x1 = nI k) (hx2 : x2 = nI v) (hX : X = 6 ^ 8) (hl : ob_lok l) (hs : ob_sok l s c0) (hML : pi_ML σ.1 l) (hMS : pi_MS σ.1 l s) (h75 : ∀ b, b < la_B l → σ.1 75 b = nI (ob_tm l s n b)) (htm : ∀ b, b < la_B l → ob_tm l s n b ≤ 9999) (hk : k ≤ 6) (hv : v ≤ 999) (hus : ∀ b, b < la_B l → ob_us s b = some (ob_uu s b)) : ∀ (m b : Nat), b + m + 1 = la_B l → ∀ g : Nat → Nat, (∀ (best : Nat) (bg : Nat → Nat) (τ : ob_Mem), gd_M l s k v n X σ b (la_P l) best g bg τ → ob_RT shp E oX9_findGiven 76 [.ref 53, .int x1, .int x2, .int x3, .int (nI best), .int (nI b), .null, .null] [] τ (ob_qI Q)) → ∀ c, c ≤ la_P l → ∀ (best : Nat) (bg : Nat → Nat) (τ : ob_Mem), gd_M l s k v n X σ b c best g bg τ → ob_RT shp E oX9_findGiven 76 [.ref 53, .int x1, .int x2, .int x3, .int (nI best), .int (nI b), .null, .null] [] τ (ob_qI Q) := by
  intro m
  induction m with
  | zero =>
    intro b hb g hend
    exact ob_loop hend (fun c hc ih best bg τ hM => n_step hx1 hx2 hX hl hs hML hMS h75 htm hk hv hus (by omega) hc ih (fun z => by omega) hM)
  | succ m ihm =>
    intro b hb g hend
    refine ob_loop hend (fun c hc ih best bg τ hM => n_step hx1 hx2 hX hl hs hML hMS h75 htm hk hv hus (by omega) hc ih (fun z τ' hM' => ?_) hM)
    refine ihm (b + 1) (by omega) (ob_u1 g b c) (fun best2 bg2 τ2 hM2 => ?_) 0 (Nat.zero_le _) best bg τ' hM'
    refine n_upto hl hML (by omega) hM2 (fun τ3 r3 w3 => ?_)
    obtain ⟨fr, m74, m74b, m76, m77, mg, mI⟩ := hM2
    have yag : ∀ i, i < b → ob_u1 g b c i = g i := fun i hi => ob_u1n (by omega)
    have hI := gd_up mI (fun x hx => (hx.1 (b + 1) z).1)
    rw [ob_u1s] at hI
    rw [show nI (b + 1) + (-1 : Int32) = nI b from by rw [← nI_m1 (c := b), Int32.sub_eq_add_neg]]
    refine ih best2 bg2 τ3 ⟨fun i a1 a2 a3 => by rw [r3 i a1]; exact fr i a1 a2 a3, fun i hi => by rw [w3 i (by omega), m74 i (by omega), yag i hi], by rw [w3 b (by omega), m74 b (by omega), ob_u1s, nI_m1], fun i hi => by rw [r3 76 (by decide), m76 i (by omega), gv_S_congr (fun j hj => yag j (by omega))], fun y i hi => by rw [r3 77 (by decide)]; exact m77 y i hi, fun i hi => by have := mg i (by omega); rw [yag i hi] at this; exact this, gd_congr hI (fun i hi => (yag i hi).symm)⟩
theorem n_findGiven {Q : Int32 → ob_Mem → Prop} {c0 : Nat} (hX : X = 6 ^ 8) (hl : ob_lok l) (hs : ob_sok l s c0) (hc0 : c0 ≤ 600) (hML : pi_ML σ.1 l) (hMS : pi_MS σ.1 l s) (hk : k ≤ 6) (hv : v ≤ 999) (hn : n ≤ 9999) (hus : ∀ b, b < la_B l → ob_us s b = some (ob_uu s b)) (h0 : (∀ x, ¬ gv_F l s k v n x) → ∀ σ' : ob_Mem, (∀ i, ¬ (74 ≤ i ∧ i ≤ 77) → σ'.1 i = σ.1 i) → Q (-1) σ') (h1 : ∀ g, gv_F l s k v n g → (∀ x, gv_F l s k v n x → gv_R X (ob_uu s) (la_C l) (la_B l) g ≤ gv_R X (ob_uu s) (la_C l) (la_B l) x) → ∀ σ' : ob_Mem, (∀ i, ¬ (74 ≤ i ∧ i ≤ 77) → σ'.1 i = σ.1 i) → (∀ b, b < la_B l → σ'.1 77 b = nI (g b)) → Q (nI (gv_S (ob_uu s) (la_C l) g (la_B l))) σ') : ob_RM shp E oX9_findGiven [.ref 53, .int (nI k), .int (nI v), .int (nI n)] σ (ob_qI Q) := by
  have hP6 := hl.2.2.1
  have hB8 := hl.2.2.2.1
  have ht : st_t s < 100000000 := by have := hs.1; omega
  have htm : ∀ b, b < la_B l → ob_tm l s n b ≤ 9999 := fun b hb => by
    have := ob_cm_le (N := la_N l) (t := st_t s) (D := la_D l b) (k := n) (by have := hl.1; omega)
    unfold ob_tm
    omega
  refine m_X9_findGiven (b_X9_findGiven_0 ?_)
  refine ob_loop0 (T := fun i => ∀ τ : ob_Mem, (∀ j, j ≠ 75 → τ.1 j = σ.1 j) → (∀ b, b < i → τ.1 75 b = nI (ob_tm l s n b)) → ob_RT shp E oX9_findGiven 8 [.ref 53, .int (nI k), .int (nI v), .int (nI n), .int (1000000 : Int32), .int (nI i), .null, .null] [] τ (ob_qI Q)) (B := la_B l) (fun τ r w => b_X9_findGiven_8 ?_) (fun i hi ih τ r w => b_X9_findGiven_8 ?_) σ (fun _ _ => rfl) (fun b hb => by omega)
  · have hML1 : pi_ML τ.1 l := hML.to (fun i a b => r i (by omega)) (fun k hk => by rw [r 53 (by decide)])
    have hMS1 : pi_MS τ.1 l s := hMS.to (fun i a b => r i (by omega)) (fun k hk => by rw [r 53 (by decide)])
    rw [hML1.2.2.1]
    refine br_t ((ob_le (by omega) (by omega)).mpr (Nat.le_refl _)) ?_
    by_cases hB0 : la_B l = 0
    · refine ob_bf (by rw [hB0]; rfl) (n_areEnough (g := fun _ => 0) (tm := ob_tm l s n) hl hs.2.2.1 hML1 hMS1 (fun i hi => by omega) (fun i hi => by omega) (fun i hi => by omega) htm hk hv (fun he => br_f (by decide) ?_) (fun he => br_t rfl ?_))
      · have hR : ∀ x : Nat → Nat, gv_R X (ob_uu s) (la_C l) (la_B l) x = 0 := fun x => by rw [hB0]; rfl
        have := h1 (fun _ => 0) ⟨fun b hb => by omega, he⟩ (fun x hx => by rw [hR, hR]; exact Nat.le_refl _) τ (fun i a => r i (by omega)) (fun b hb => by omega)
        rw [show gv_S (ob_uu s) (la_C l) (fun _ => 0) (la_B l) = 0 from by rw [hB0]; rfl] at this
        exact this
      · exact h0 (fun x hx => he (gv_F_congr (y := fun _ => 0) (fun i hi => by omega) hx).2) τ (fun i a => r i (by omega))
    · refine ob_bt (fun z => hB0 (by have := (ob_eq (b := 0) (by omega) (by omega)).mp z; omega)) ?_
      rw [show ((0 : Int32)).toNatClampNeg = 0 from by decide]
      have hM0 : gd_M l s k v n X τ 0 0 1000000 (fun _ => 0) (fun _ => 0) (ob_wI (ob_wI τ 74 0 (-1 : Int32)) 76 0 (0 : Int32)) := by
        refine ⟨fun i a1 a2 a3 => by rw [ob_wI_o a2, ob_wI_o a1], fun i hi => by omega, ?_, fun i hi => ?_, fun z => by omega, fun i hi => by omega, Or.inl ⟨rfl, fun x hx => ⟨0, Nat.le_refl _, fun i hi => by omega, fun z => by omega, fun _ => Nat.zero_le _⟩⟩⟩
        · rw [ob_wI_o (by decide), ob_wI_s]; rfl
        · rw [show i = 0 by omega, ob_wI_s]; rfl
      refine n_lev (x1 := nI k) (x2 := nI v) (x3 := nI n) rfl rfl hX hl hs hML1 hMS1 w htm hk hv hus (la_B l - 1) 0 (by omega) (fun _ => 0) (fun best bg τ2 hM2 => ?_) 0 (Nat.zero_le _) 1000000 (fun _ => 0) _ hM0
      refine n_upto hl hML1 (by omega) hM2 (fun τ3 r3 w3 => b_X9_findGiven_76 (br_t (by decide) ?_))
      obtain ⟨fr, m74, m74b, m76, m77, mg, mI⟩ := hM2
      have fin : ∀ i, ¬ (74 ≤ i ∧ i ≤ 77) → τ3.1 i = σ.1 i := fun i a => by rw [r3 i (by omega), fr i (by omega) (by omega) (by omega), r i (by omega)]
      rcases gd_end mI (fun x hx => (hx.1 0 (by omega)).1) with ⟨e1, e2⟩ | ⟨e1, e2, e3, e4⟩
      · exact ob_bf (by rw [e1]; rfl) (h0 e2 τ3 fin)
      · refine ob_bt (fun z => by have := (ob_eq (b := 1000000) (by omega) (by omega)).mp z; omega) ?_
        have := h1 bg e2 e4 τ3 fin (fun b hb => by rw [r3 77 (by decide)]; exact m77 e1 b hb)
        have e3 : gv_S (ob_uu s) (la_C l) bg (la_B l) = best := e3
        rw [e3] at this
        exact this
  · have hML1 : pi_ML τ.1 l := hML.to (fun i a b => r i (by omega)) (fun k hk => by rw [r 53 (by decide)])
    have hMS1 : pi_MS τ.1 l s := hMS.to (fun i a b => r i (by omega)) (fun k hk => by rw [r 53 (by decide)])
    rw [hML1.2.2.1]
    refine br_f (fun z => by rw [ob_le (by omega) (by omega)] at z; omega) (n_timesIn hl ht (by omega) hML1 hMS1 hi ⟨ob_in (by omega) (by omega), ?_⟩)
    rw [nI_1, ob_cl (n := i) (by omega)]
    refine ih _ (fun j hj => by rw [ob_wI_o hj]; exact r j hj) (fun b hb => ?_)
    by_cases e : b = i
    · rw [e, ob_wI_s]; rfl
    · rw [ob_wI_n e]; exact w b (by omega)
end NF
