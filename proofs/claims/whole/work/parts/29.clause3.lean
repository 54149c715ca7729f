/-! the class's clauses: birthdays, goods -/
section CF
variable {E : ob_E} {σ : ob_Mem} {T : Nat → Nat} {n : Nat} {d : DrT}
theorem k_readBirthday {Q : ob_Mem → Prop} {a e : Nat} (ht : pi_CT σ.1 T n) (hd : pi_CD σ.1 d) (hok : ob_dok d) (hen : e ≤ n) (h3 : σ.1 1 3 = nI e) (h4 : σ.1 1 4 = 0) (hf : ∀ c p, ob_clB T n d a e = .inl (c, p) → ∀ σ' : ob_Mem, ob_f9 σ σ' → 0 < c → c ≤ 4 → σ'.1 1 4 = nI c → σ'.1 1 5 = nI p → (∃ q, q ≤ n ∧ σ'.1 1 3 = nI q) → Q σ') (hv : ∀ d' e', ob_clB T n d a e = .inr (d', e') → ob_dok d' → ∀ σ' : ob_Mem, ob_f9 σ σ' → pi_CD σ'.1 d' → σ'.1 1 3 = nI e' → e' ≤ n → e < e' → σ'.1 1 4 = 0 → σ'.1 1 5 = σ.1 1 5 → Q σ') : ob_RM shp E oX3_readBirthday [.ref 1, .int (nI a)] σ (ob_qV Q) := by
  unfold ob_clB at hf hv
  refine m_X3_readBirthday (b_X3_readBirthday_0 ?_)
  rw [hd.2.2.2.1, show (8 : Int32) = nI 8 from rfl]
  have hB := hok.2.2.1
  have hP := hok.2.1
  have hN : dr_N d ≤ 60 := by
    unfold dr_N
    have := hok.1
    split <;> omega
  by_cases h8 : dr_B d = 8
  · rw [if_pos h8] at hf
    refine br_f (fun z => by rw [ob_lt (by omega) (by omega)] at z; omega) (k_setFault0 h4 (fun σ1 f1 a4 a5 ay => ?_))
    have ne : ¬ σ1.1 1 4 = 0 := by rw [a4]; decide
    exact k_birthdayX ne (hf 3 a rfl σ1 f1.n (by omega) (by omega) a4 a5 ⟨e, hen, ay.trans h3⟩)
  · rw [if_neg h8] at hf hv
    refine br_t ((ob_lt (by omega) (by omega)).mpr (by omega)) (b_X3_readBirthday_18 ?_)
    rw [hd.1]
    refine k_number (lo := 0) (hi := dr_N d) ht hen h3 h4 (by omega) (by omega) rfl (fun c p hn v σ1 f1 a4 a5 ax => ?_) (fun x p e1 hn σ1 f1 a3 ae a4 a5 a6 => ?_)
    · rw [hn] at hf
      have hc := ob_nm_c hn
      have ne : ¬ σ1.1 1 4 = 0 := by rw [a4]; exact ob_nc (by omega) (by omega)
      exact k_numberX ne (k_numberX ne (k_endX ne (ob_bt ne (hf c p rfl σ1 f1.n (by omega) (by omega) a4 a5 ax))))
    · have v1 := ob_nm_v hn
      have l1 := ob_nm_e hn hen
      rw [hn] at hf hv
      dsimp only [ob_aft] at hf hv
      rw [(hd.f1 f1).2.2.1]
      refine k_number (lo := 0) (hi := dr_P d) (ht.f1 f1) ae a3 a4 (by omega) (by omega) rfl (fun c p hn2 v σ2 f2 b4 b5 bx => ?_) (fun y p2 e2 hn2 σ2 f2 b3 be b4 b5 b6 => ?_)
      · rw [hn2] at hf
        have hc := ob_nm_c hn2
        have ne : ¬ σ2.1 1 4 = 0 := by rw [b4]; exact ob_nc (by omega) (by omega)
        exact k_numberX ne (k_endX ne (ob_bt ne (hf c p rfl σ2 (f1.tr f2).n (by omega) (by omega) b4 b5 bx)))
      · have v2 := ob_nm_v hn2
        have l2 := ob_nm_e hn2 ae
        rw [hn2] at hf hv
        dsimp only at hf hv
        refine k_number (lo := 1) (hi := 100) ((ht.f1 f1).f1 f2) be b3 b4 (by omega) (by omega) (by decide) (fun c p hn3 v σ3 f3 c4 c5 cx => ?_) (fun z p3 e3 hn3 σ3 f3 c3 ce c4 c5 c6 => ?_)
        · rw [hn3] at hf
          have hc := ob_nm_c hn3
          have ne : ¬ σ3.1 1 4 = 0 := by rw [c4]; exact ob_nc (by omega) (by omega)
          exact k_endX ne (ob_bt ne (hf c p rfl σ3 ((f1.tr f2).tr f3).n (by omega) (by omega) c4 c5 cx))
        · have v3 := ob_nm_v hn3
          have l3 := ob_nm_e hn3 be
          rw [hn3] at hf hv
          dsimp only [ob_fin] at hf hv
          refine k_end (((ht.f1 f1).f1 f2).f1 f3) ce c3 c4 (fun c p he σ4 f4 d4 d5 dx => ?_) (fun e4 he σ4 f4 d3 de dl d4 d5 => ?_)
          · rw [he] at hf
            have hc := ob_en_c he
            have ne : ¬ σ4.1 1 4 = 0 := by rw [d4]; exact ob_nc (by omega) (by omega)
            exact ob_bt ne (hf c p rfl σ4 (((f1.tr f2).tr f3).tr f4).n (by omega) (by omega) d4 d5 dx)
          · rw [he] at hv
            refine ob_bf d4 (k_addBirthday ((((hd.f1 f1).f1 f2).f1 f3).f1 f4) (by omega) (fun σ5 r5 hd5 => hv _ _ rfl ?_ σ5 ?_ hd5 ?_ de (by omega) ?_ ?_))
            · obtain ⟨o0, o1, o2, o3, o4, o5, o6⟩ := hok
              refine ⟨o0, o1, by show dr_B d + 1 ≤ 8; omega, o3, o4, fun b hb => ?_, o6⟩
              have hb : b < dr_B d + 1 := hb
              show ob_u1 (dr_D d) (dr_B d) x b < dr_N d ∧ ob_u1 (dr_O d) (dr_B d) y b < dr_P d ∧ 1 ≤ ob_u1 (dr_C d) (dr_B d) z b ∧ ob_u1 (dr_C d) (dr_B d) z b ≤ 99
              by_cases eq : b = dr_B d
              · rw [eq, ob_u1s, ob_u1s, ob_u1s]; omega
              · rw [ob_u1n eq, ob_u1n eq, ob_u1n eq]; exact o5 b (by omega)
            · exact (((f1.tr f2).tr f3).tr f4).n.tr ⟨fun i x y => r5 i (by omega) (by omega) (by omega) (by omega), by rw [r5 1 (by decide) (by decide) (by decide) (by decide)]⟩
            · rw [r5 1 (by decide) (by decide) (by decide) (by decide)]; exact d3
            · rw [r5 1 (by decide) (by decide) (by decide) (by decide)]; exact d4
            · rw [r5 1 (by decide) (by decide) (by decide) (by decide), d5, c5, b5, a5]
theorem k_tellsGood {Q : Int32 → ob_Mem → Prop} {x : Nat} (hd : pi_CD σ.1 d) (hok : ob_dok d) (hx : x ≤ 120) (h1 : dr_g d x ≠ none → Q 1 σ) (h0 : dr_g d x = none → Q 0 σ) : ob_RM shp E oX2_tellsGoodOf [.ref 3, .int (nI x)] σ (ob_qI Q) := by
  refine m_X2_tellsGoodOf_3 (b_X2_tellsGoodOf_3_0 (br_f (ob_nneg (by omega)) (br_f (fun z => by rw [show (120 : Int32) = nI 120 from rfl, ob_lt (by omega) (by omega)] at z; omega) ⟨ob_in (by omega) (by omega), ?_⟩)))
  rw [ob_cl (n := x) (by omega), hd.2.2.2.2.2.2.2 x hx]
  cases hg : dr_g d x with
  | none => exact br_t rfl (h0 hg)
  | some g => exact br_f (ob_m1 (by have := hok.2.2.2.2.2.2 x g hg; omega)) (h1 (by rw [hg]; intro z; cases z))
theorem k_readGood {Q : ob_Mem → Prop} {a e : Nat} (ht : pi_CT σ.1 T n) (hd : pi_CD σ.1 d) (hok : ob_dok d) (hen : e ≤ n) (h3 : σ.1 1 3 = nI e) (h4 : σ.1 1 4 = 0) (hf : ∀ c p, ob_clG T n d a e = .inl (c, p) → ∀ σ' : ob_Mem, ob_f9 σ σ' → 0 < c → c ≤ 4 → σ'.1 1 4 = nI c → σ'.1 1 5 = nI p → (∃ q, q ≤ n ∧ σ'.1 1 3 = nI q) → Q σ') (hv : ∀ d' e', ob_clG T n d a e = .inr (d', e') → ob_dok d' → ∀ σ' : ob_Mem, ob_f9 σ σ' → pi_CD σ'.1 d' → σ'.1 1 3 = nI e' → e' ≤ n → e < e' → σ'.1 1 4 = 0 → σ'.1 1 5 = σ.1 1 5 → Q σ') : ob_RM shp E oX3_readGood [.ref 1, .int (nI a)] σ (ob_qV Q) := by
  unfold ob_clG at hf hv
  refine m_X3_readGood (b_X3_readGood_0 ?_)
  rw [hd.2.2.2.2.1, show (10 : Int32) = nI 10 from rfl]
  have hG := hok.2.2.2.1
  by_cases h10 : dr_G d = 10
  · rw [if_pos h10] at hf
    refine br_f (fun z => by rw [ob_lt (by omega) (by omega)] at z; omega) (k_setFault0 h4 (fun σ1 f1 a4 a5 ay => ?_))
    have ne : ¬ σ1.1 1 4 = 0 := by rw [a4]; decide
    exact k_goodX ne (hf 3 a rfl σ1 f1.n (by omega) (by omega) a4 a5 ⟨e, hen, ay.trans h3⟩)
  · rw [if_neg h10] at hf hv
    refine br_t ((ob_lt (by omega) (by omega)).mpr (by omega)) (b_X3_readGood_18 (k_number (lo := 0) (hi := 121) ht hen h3 h4 (by omega) (by omega) (by decide) (fun c p hn v σ1 f1 a4 a5 ax => ?_) (fun x p e1 hn σ1 f1 a3 ae a4 a5 a6 => ?_)))
    · rw [hn] at hf
      have hc := ob_nm_c hn
      have ne : ¬ σ1.1 1 4 = 0 := by rw [a4]; exact ob_nc (by omega) (by omega)
      exact ob_bt ne (k_goodX2 ne (hf c p rfl σ1 f1.n (by omega) (by omega) a4 a5 ax))
    · have v1 := ob_nm_v hn
      have l1 := ob_nm_e hn hen
      rw [hn] at hf hv
      dsimp only [ob_aft] at hf hv
      refine ob_bf a4 (k_tellsGood (hd.f1 f1) hok (by omega) (fun hg => br_f (by decide) ?_) (fun hg => br_t rfl (b_X3_readGood_53 ?_)))
      · rw [if_pos hg] at hf
        rw [a6]
        refine k_setFault0 a4 (fun σ2 f2 b4 b5 bY => ?_)
        have ne : ¬ σ2.1 1 4 = 0 := by rw [b4]; decide
        exact k_goodX2 ne (hf 4 p rfl σ2 (f1.tr f2).n (by omega) (by omega) b4 b5 ⟨e1, ae, bY.trans a3⟩)
      · rw [if_neg (fun z => z hg)] at hf hv
        refine k_number (lo := 0) (hi := 100) (ht.f1 f1) ae a3 a4 (by omega) (by omega) (by decide) (fun c p hn2 v σ2 f2 b4 b5 bx => ?_) (fun u p2 e2 hn2 σ2 f2 b3 be b4 b5 b6 => ?_)
        · rw [hn2] at hf
          have hc := ob_nm_c hn2
          have ne : ¬ σ2.1 1 4 = 0 := by rw [b4]; exact ob_nc (by omega) (by omega)
          exact k_endX ne (ob_bt ne (hf c p rfl σ2 (f1.tr f2).n (by omega) (by omega) b4 b5 bx))
        · have v2 := ob_nm_v hn2
          have l2 := ob_nm_e hn2 ae
          rw [hn2] at hf hv
          dsimp only [ob_fin] at hf hv
          refine k_end ((ht.f1 f1).f1 f2) be b3 b4 (fun c p he σ3 f3 c4 c5 cx => ?_) (fun e3 he σ3 f3 c3 ce cl c4 c5 => ?_)
          · rw [he] at hf
            have hc := ob_en_c he
            have ne : ¬ σ3.1 1 4 = 0 := by rw [c4]; exact ob_nc (by omega) (by omega)
            exact ob_bt ne (hf c p rfl σ3 ((f1.tr f2).tr f3).n (by omega) (by omega) c4 c5 cx)
          · rw [he] at hv
            refine ob_bf c4 (k_addGood (((hd.f1 f1).f1 f2).f1 f3) (by omega) (fun σ4 r4 hd4 => hv _ _ rfl ?_ σ4 ?_ hd4 ?_ ce (by omega) ?_ ?_))
            · obtain ⟨o0, o1, o2, o3, o4, o5, o6⟩ := hok
              refine ⟨o0, o1, o2, by show dr_G d + 1 ≤ 10; omega, o4, o5, fun q g hq => ?_⟩
              have hq : (if q = x then some u else dr_g d q) = some g := hq
              split at hq
              · cases hq; omega
              · exact o6 q g hq
            · exact ((f1.tr f2).tr f3).n.tr ⟨fun i x y => r4 i (by omega) (by omega), by rw [r4 1 (by decide) (by decide)]⟩
            · rw [r4 1 (by decide) (by decide)]; exact c3
            · rw [r4 1 (by decide) (by decide)]; exact c4
            · rw [r4 1 (by decide) (by decide), c5, b5, a5]
end CF
