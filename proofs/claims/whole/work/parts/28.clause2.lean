/-! the class's clauses: persons, birthdays, goods -/
theorem ob_u1s {f : Nat → Nat} {i x : Nat} : ob_u1 f i x i = x := if_pos rfl
theorem ob_u1n {f : Nat → Nat} {i x j : Nat} (h : j ≠ i) : ob_u1 f i x j = f j := if_neg h
section CE
variable {E : ob_E} {σ : ob_Mem} {T : Nat → Nat} {n : Nat} {d : DrT}
theorem k_addPerson {Q : ob_Mem → Prop} {a u : Nat} (hd : pi_CD σ.1 d) (hP : dr_P d < 6) (h : ∀ σ' : ob_Mem, (∀ i, i ≠ 3 → i ≠ 4 → i ≠ 5 → σ'.1 i = σ.1 i) → pi_CD σ'.1 (dr_addP d a u) → Q σ') : ob_RM shp E oX2_addPerson [.ref 3, .int (nI a), .int (nI u)] σ (ob_qV Q) := by
  have hin : vp_in (nI (dr_P d)) 6 := ob_in hP (by omega)
  refine m_X2_addPerson (b_X2_addPerson_0 ?_)
  rw [ob_wI_o (i := 4) (a := 3) (by decide), hd.2.2.1]
  refine br_f (fun z => by rw [show (6 : Int32) = nI 6 from rfl, ob_le (by omega) (by omega)] at z; omega) ⟨hin, hin, ?_⟩
  rw [ob_cl (n := dr_P d) (by omega)]
  rintro σ1 rfl
  rw [ob_wI_o (i := 5) (a := 3) (by decide), ob_wI_o (i := 4) (a := 3) (by decide), hd.2.2.1, nI_1]
  refine h _ (fun i x y z => by rw [ob_wI_o x, ob_wI_o z, ob_wI_o y]) ⟨?_, ?_, ob_wI_s, ?_, ?_, fun p hp => ?_, fun b hb => ?_, fun g hg => ?_⟩
  · rw [ob_wI_n (by decide), ob_wI_o (by decide), ob_wI_o (by decide)]; exact hd.1
  · rw [ob_wI_o (by decide), ob_wI_o (by decide), ob_wI_o (by decide)]; exact hd.2.1
  · rw [ob_wI_n (by decide), ob_wI_o (by decide), ob_wI_o (by decide)]; exact hd.2.2.2.1
  · rw [ob_wI_n (by decide), ob_wI_o (by decide), ob_wI_o (by decide)]; exact hd.2.2.2.2.1
  · rw [ob_wI_o (i := 3) (a := 4) (by decide), ob_wI_o (i := 3) (a := 5) (by decide), ob_wI_o (i := 5) (a := 4) (by decide)]
    have hp : p < dr_P d + 1 := hp
    show _ = nI (ob_u1 (dr_A d) (dr_P d) a p) ∧ _ = nI (ob_u1 (dr_U d) (dr_P d) u p)
    by_cases e : p = dr_P d
    · rw [e, ob_u1s, ob_u1s, ob_wI_s, ob_wI_s]; exact ⟨rfl, rfl⟩
    · rw [ob_u1n e, ob_u1n e, ob_wI_n e, ob_wI_n e, ob_wI_o (by decide)]; exact hd.2.2.2.2.2.1 p (by omega)
  · rw [ob_wI_o (by decide), ob_wI_o (by decide), ob_wI_o (by decide), ob_wI_o (by decide), ob_wI_o (by decide), ob_wI_o (by decide), ob_wI_o (by decide), ob_wI_o (by decide), ob_wI_o (by decide)]; exact hd.2.2.2.2.2.2.1 b hb
  · rw [ob_wI_o (by decide), ob_wI_o (by decide), ob_wI_o (by decide)]; exact hd.2.2.2.2.2.2.2 g hg
theorem k_addBirthday {Q : ob_Mem → Prop} {x y z : Nat} (hd : pi_CD σ.1 d) (hB : dr_B d < 8) (h : ∀ σ' : ob_Mem, (∀ i, i ≠ 3 → i ≠ 6 → i ≠ 7 → i ≠ 8 → σ'.1 i = σ.1 i) → pi_CD σ'.1 (dr_addB d x y z) → Q σ') : ob_RM shp E oX2_addBirthday [.ref 3, .int (nI x), .int (nI y), .int (nI z)] σ (ob_qV Q) := by
  have hin : vp_in (nI (dr_B d)) 8 := ob_in hB (by omega)
  refine m_X2_addBirthday (b_X2_addBirthday_0 ?_)
  rw [ob_wI_o (i := 6) (a := 3) (by decide), hd.2.2.2.1]
  refine br_f (fun z => by rw [show (8 : Int32) = nI 8 from rfl, ob_le (by omega) (by omega)] at z; omega) ⟨hin, hin, ?_⟩
  rw [ob_cl (n := dr_B d) (by omega)]
  rintro σ1 rfl
  have e8 : (ob_wI (ob_wI σ 6 (dr_B d) (nI x)) 7 (dr_B d) (nI y)).1 3 8 = nI (dr_B d) := by rw [ob_wI_o (by decide), ob_wI_o (by decide)]; exact hd.2.2.2.1
  rw [e8, ob_wI_o (i := 8) (a := 3) (by decide), e8, nI_1, ob_cl (n := dr_B d) (by omega)]
  refine ⟨hin, h _ (fun i p q r s => by rw [ob_wI_o p, ob_wI_o s, ob_wI_o r, ob_wI_o q]) ⟨?_, ?_, ?_, ob_wI_s, ?_, fun p hp => ?_, fun b hb => ?_, fun g hg => ?_⟩⟩
  · rw [ob_wI_n (by decide), ob_wI_o (by decide), ob_wI_o (by decide), ob_wI_o (by decide)]; exact hd.1
  · rw [ob_wI_o (by decide), ob_wI_o (by decide), ob_wI_o (by decide), ob_wI_o (by decide)]; exact hd.2.1
  · rw [ob_wI_n (by decide), ob_wI_o (by decide), ob_wI_o (by decide), ob_wI_o (by decide)]; exact hd.2.2.1
  · rw [ob_wI_n (by decide), ob_wI_o (by decide), ob_wI_o (by decide), ob_wI_o (by decide)]; exact hd.2.2.2.2.1
  · rw [ob_wI_o (i := 3) (a := 4) (by decide), ob_wI_o (i := 8) (a := 4) (by decide), ob_wI_o (i := 7) (a := 4) (by decide), ob_wI_o (i := 6) (a := 4) (by decide), ob_wI_o (i := 3) (a := 5) (by decide), ob_wI_o (i := 8) (a := 5) (by decide), ob_wI_o (i := 7) (a := 5) (by decide), ob_wI_o (i := 6) (a := 5) (by decide)]; exact hd.2.2.2.2.2.1 p hp
  · have hb : b < dr_B d + 1 := hb
    rw [ob_wI_o (i := 3) (a := 6) (by decide), ob_wI_o (i := 8) (a := 6) (by decide), ob_wI_o (i := 7) (a := 6) (by decide), ob_wI_o (i := 3) (a := 7) (by decide), ob_wI_o (i := 8) (a := 7) (by decide), ob_wI_o (i := 3) (a := 8) (by decide)]
    show _ = nI (ob_u1 (dr_D d) (dr_B d) x b) ∧ _ = nI (ob_u1 (dr_O d) (dr_B d) y b) ∧ _ = nI (ob_u1 (dr_C d) (dr_B d) z b)
    by_cases e : b = dr_B d
    · rw [e, ob_u1s, ob_u1s, ob_u1s, ob_wI_s, ob_wI_s, ob_wI_s]; exact ⟨rfl, rfl, rfl⟩
    · rw [ob_u1n e, ob_u1n e, ob_u1n e, ob_wI_n e, ob_wI_n e, ob_wI_n e, ob_wI_o (i := 6) (a := 7) (by decide), ob_wI_o (i := 7) (a := 8) (by decide), ob_wI_o (i := 6) (a := 8) (by decide)]; exact hd.2.2.2.2.2.2.1 b (by omega)
  · rw [ob_wI_o (by decide), ob_wI_o (by decide), ob_wI_o (by decide), ob_wI_o (by decide)]; exact hd.2.2.2.2.2.2.2 g hg
theorem k_addGood {Q : ob_Mem → Prop} {x y : Nat} (hd : pi_CD σ.1 d) (hx : x ≤ 120) (h : ∀ σ' : ob_Mem, (∀ i, i ≠ 3 → i ≠ 9 → σ'.1 i = σ.1 i) → pi_CD σ'.1 (dr_addG d x y) → Q σ') : ob_RM shp E oX2_addGood [.ref 3, .int (nI x), .int (nI y)] σ (ob_qV Q) := by
  refine m_X2_addGood (b_X2_addGood_0 (br_f (ob_nneg (by omega)) (br_f (fun z => by rw [show (120 : Int32) = nI 120 from rfl, ob_lt (by omega) (by omega)] at z; omega) ⟨ob_in (by omega) (by omega), ?_⟩)))
  rw [ob_cl (n := x) (by omega), ob_wI_o (i := 9) (a := 3) (by decide), hd.2.2.2.2.1, nI_1]
  refine h _ (fun i p q => by rw [ob_wI_o p, ob_wI_o q]) ⟨?_, ?_, ?_, ?_, ob_wI_s, fun p hp => ?_, fun b hb => ?_, fun g hg => ?_⟩
  · rw [ob_wI_n (by decide), ob_wI_o (by decide)]; exact hd.1
  · rw [ob_wI_o (by decide), ob_wI_o (by decide)]; exact hd.2.1
  · rw [ob_wI_n (by decide), ob_wI_o (by decide)]; exact hd.2.2.1
  · rw [ob_wI_n (by decide), ob_wI_o (by decide)]; exact hd.2.2.2.1
  · rw [ob_wI_o (by decide), ob_wI_o (by decide), ob_wI_o (by decide), ob_wI_o (by decide)]; exact hd.2.2.2.2.2.1 p hp
  · rw [ob_wI_o (by decide), ob_wI_o (by decide), ob_wI_o (by decide), ob_wI_o (by decide), ob_wI_o (by decide), ob_wI_o (by decide)]; exact hd.2.2.2.2.2.2.1 b hb
  · rw [ob_wI_o (by decide)]
    show _ = ob_oI (if g = x then some y else dr_g d g)
    by_cases e : g = x
    · rw [e, ob_wI_s, if_pos rfl]; rfl
    · rw [ob_wI_n e, if_neg e]; exact hd.2.2.2.2.2.2.2 g hg
theorem k_readPerson {Q : ob_Mem → Prop} {a e : Nat} (ht : pi_CT σ.1 T n) (hd : pi_CD σ.1 d) (hok : ob_dok d) (hen : e ≤ n) (h3 : σ.1 1 3 = nI e) (h4 : σ.1 1 4 = 0) (hf : ∀ c p, ob_clP T n d a e = .inl (c, p) → ∀ σ' : ob_Mem, ob_f9 σ σ' → 0 < c → c ≤ 4 → σ'.1 1 4 = nI c → σ'.1 1 5 = nI p → (∃ q, q ≤ n ∧ σ'.1 1 3 = nI q) → Q σ') (hv : ∀ d' e', ob_clP T n d a e = .inr (d', e') → ob_dok d' → ∀ σ' : ob_Mem, ob_f9 σ σ' → pi_CD σ'.1 d' → σ'.1 1 3 = nI e' → e' ≤ n → e < e' → σ'.1 1 4 = 0 → σ'.1 1 5 = σ.1 1 5 → Q σ') : ob_RM shp E oX3_readPerson [.ref 1, .int (nI a)] σ (ob_qV Q) := by
  unfold ob_clP at hf hv
  refine m_X3_readPerson (b_X3_readPerson_0 ?_)
  rw [hd.2.2.1, show (6 : Int32) = nI 6 from rfl]
  have hP := hok.2.1
  by_cases h6 : dr_P d = 6
  · rw [if_pos h6] at hf
    refine br_f (fun z => by rw [ob_lt (by omega) (by omega)] at z; omega) (k_setFault0 h4 (fun σ1 f1 a4 a5 ay => ?_))
    have ne : ¬ σ1.1 1 4 = 0 := by rw [a4]; decide
    exact k_personX ne (hf 3 a rfl σ1 f1.n (by omega) (by omega) a4 a5 ⟨e, hen, ay.trans h3⟩)
  · rw [if_neg h6] at hf hv
    refine br_t ((ob_lt (by omega) (by omega)).mpr (by omega)) (b_X3_readPerson_18 (k_number (lo := 0) (hi := 121) ht hen h3 h4 (by omega) (by omega) (by decide) (fun c p hn v σ1 f1 a4 a5 ax => ?_) (fun v p e1 hn σ1 f1 a3 ae a4 a5 a6 => ?_)))
    · rw [hn] at hf
      have hc := ob_nm_c hn
      have ne : ¬ σ1.1 1 4 = 0 := by rw [a4]; exact ob_nc (by omega) (by omega)
      exact k_numberX ne (k_endX ne (ob_bt ne (hf c p rfl σ1 f1.n (by omega) (by omega) a4 a5 ax)))
    · have v1 := ob_nm_v hn
      have l1 := ob_nm_e hn hen
      rw [hn] at hf hv
      dsimp only [ob_aft] at hf hv
      refine k_number (lo := 0) (hi := 1000) (ht.f1 f1) ae a3 a4 (by omega) (by omega) (by decide) (fun c p hn2 v σ2 f2 b4 b5 bx => ?_) (fun u p2 e2 hn2 σ2 f2 b3 be b4 b5 b6 => ?_)
      · rw [hn2] at hf
        have hc := ob_nm_c hn2
        have ne : ¬ σ2.1 1 4 = 0 := by rw [b4]; exact ob_nc (by omega) (by omega)
        exact k_endX ne (ob_bt ne (hf c p rfl σ2 (f1.tr f2).n (by omega) (by omega) b4 b5 bx))
      · have v2 := ob_nm_v hn2
        have l2 := ob_nm_e hn2 ae
        rw [hn2] at hf hv
        dsimp only [ob_fin] at hf hv
        refine k_end ((ht.f1 f1).f1 f2) be b3 b4 (fun c p he σ3 f3 c4 c5 cx => ?_) (fun e3 he σ3 f3 c3 ce cl c4 c5 => ?_)
        · rw [he] at hf
          have hc := ob_en_c he
          have ne : ¬ σ3.1 1 4 = 0 := by rw [c4]; exact ob_nc (by omega) (by omega)
          exact ob_bt ne (hf c p rfl σ3 ((f1.tr f2).tr f3).n (by omega) (by omega) c4 c5 cx)
        · rw [he] at hv
          refine ob_bf c4 (k_addPerson (((hd.f1 f1).f1 f2).f1 f3) (by omega) (fun σ4 r4 hd4 => hv _ _ rfl ?_ σ4 ?_ hd4 ?_ ce (by omega) ?_ ?_))
          · obtain ⟨o0, o1, o2, o3, o4, o5, o6⟩ := hok
            refine ⟨o0, by show dr_P d + 1 ≤ 6; omega, o2, o3, fun q hq => ?_, fun b hb => ⟨(o5 b hb).1, Nat.lt_succ_of_lt (o5 b hb).2.1, (o5 b hb).2.2⟩, o6⟩
            have hq : q < dr_P d + 1 := hq
            show ob_u1 (dr_A d) (dr_P d) v q ≤ 120 ∧ ob_u1 (dr_U d) (dr_P d) u q ≤ 999
            by_cases eq : q = dr_P d
            · rw [eq, ob_u1s, ob_u1s]; omega
            · rw [ob_u1n eq, ob_u1n eq]; exact o4 q (by omega)
          · exact ((f1.tr f2).tr f3).n.tr ⟨fun i x y => r4 i (by omega) (by omega) (by omega), by rw [r4 1 (by decide) (by decide) (by decide)]⟩
          · rw [r4 1 (by decide) (by decide) (by decide)]; exact c3
          · rw [r4 1 (by decide) (by decide) (by decide)]; exact c4
          · rw [r4 1 (by decide) (by decide) (by decide), c5, b5, a5]
end CE
