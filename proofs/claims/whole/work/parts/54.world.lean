/-! the memory of two new objects -/
def lw_m0 : ob_Mem := (fun a b => if a = 0 then (if b = 11 then -1 else 0) else if a = 1 then (if b = 5 then -1 else 0) else if a = 3 then (if b = 6 then 12 else 0) else if a = 9 then (if b < 121 then -1 else 0) else if a = 10 then (if b = 6 then 12 else 0) else if a = 16 then (if b < 121 then -1 else 0) else if a = 53 then (if b = 0 then 12 else if b = 19 then -1 else 0) else 0, fun _ _ => 0)
theorem lw_rel0 : ob_REL 0 lw_m0.1 := by
  refine ⟨((12, 0, 0), fun _ => 0, fun _ => 0, fun _ => 0, fun _ => 0, fun _ => 0, fun _ => 0), (0, 0, fun _ => 0, fun _ => 0, fun _ => false, fun _ => none, fun _ => none, fun _ => 0), fun _ => false, fun _ => (0, 0, fun _ => 0, fun _ => 0, fun _ => false, fun _ => none, fun _ => none, fun _ => 0), 0, fun _ => (0, 0, 0), ⟨by decide, by decide, by decide, by decide, fun b hb => absurd hb (Nat.not_lt_zero _), fun _ => Nat.zero_le _, fun _ _ => rfl, fun _ _ => Nat.zero_le _⟩, ⟨Nat.zero_le _, by decide, fun _ _ => Nat.zero_le _, fun b hb => absurd hb (Nat.not_lt_zero _)⟩, ⟨rfl, rfl, rfl, fun p hp => absurd hp (Nat.not_lt_zero _), fun b hb => absurd hb (Nat.not_lt_zero _), fun a ha => Or.inl ⟨?_, rfl⟩⟩, ⟨rfl, rfl, rfl, fun p hp => absurd hp (Nat.not_lt_zero _), fun b hb => absurd hb (Nat.not_lt_zero _), fun a ha => rfl⟩, ⟨rfl, rfl, rfl, fun p hp => absurd hp (Nat.not_lt_zero _), fun b hb => absurd hb (Nat.not_lt_zero _)⟩, ⟨rfl, rfl, fun p hp => absurd hp (Nat.not_lt_zero _), fun b hb => absurd hb (Nat.not_lt_zero _)⟩, ⟨rfl, fun i hi => ⟨rfl, fun z => (by cases z)⟩⟩, ⟨Nat.zero_le _, rfl, rfl, fun i hi => absurd hi (Nat.not_lt_zero _)⟩, ⟨0, Nat.zero_le _, rfl, rfl, fun i hi => absurd hi (Nat.not_lt_zero _)⟩, rfl⟩
  show (if a < 121 then (-1 : Int32) else 0) = -1
  exact if_pos (by omega)
def lw_adr (ws : List Nat) (tF tS b : Nat) (adK adV : Nat → Nat) (i : Nat) : Nat := if i < 84 then ws.getD i 0 else if i = 100 then tF else if i < 110 then 0 else if i < 114 then adK (i - 110) else if i < 120 then 0 else if i < 124 then adV (i - 120) else if i = 130 then tS else b
def lw_E (l : Launch) (D : va_G) (k0 k1 k2 k3 : ClassId) (ws : List Nat) (tF tS b : Nat) (adK adV : Nat → Nat) : ob_E := (l, D, (fun i => if i = 0 then k0 else if i = 1 then k1 else if i = 2 then k2 else k3), lw_adr ws tF tS b adK adV)
theorem lw_adrK {ws : List Nat} {tF tS b : Nat} {adK adV : Nat → Nat} {i : Nat} (hi : i < 4) : lw_adr ws tF tS b adK adV (110 + i) = adK i := by
  unfold lw_adr
  rw [if_neg (by omega), if_neg (by omega), if_neg (by omega), if_pos (by omega), show 110 + i - 110 = i by omega]
theorem lw_adrV {ws : List Nat} {tF tS b : Nat} {adK adV : Nat → Nat} {i : Nat} (hi : i < 4) : lw_adr ws tF tS b adK adV (120 + i) = adV i := by
  unfold lw_adr
  rw [if_neg (by omega), if_neg (by omega), if_neg (by omega), if_neg (by omega), if_neg (by omega), if_pos (by omega), show 120 + i - 120 = i by omega]
abbrev lw_ws (q0 : Nat) (u : List Nat) (q1 : Nat) (v : List Nat) : List Nat := [q0, u.getD 0 0, u.getD 1 0, u.getD 2 0, u.getD 3 0, u.getD 4 0, u.getD 5 0, u.getD 6 0, u.getD 7 0, u.getD 8 0, u.getD 9 0, u.getD 10 0, u.getD 11 0, u.getD 12 0, u.getD 13 0, u.getD 14 0, u.getD 15 0, u.getD 16 0, u.getD 17 0, u.getD 18 0, u.getD 19 0, u.getD 20 0, u.getD 21 0, u.getD 22 0, u.getD 23 0, u.getD 24 0, u.getD 25 0, u.getD 26 0, u.getD 27 0, u.getD 28 0, u.getD 29 0, u.getD 30 0, u.getD 31 0, u.getD 32 0, u.getD 33 0, u.getD 34 0, u.getD 35 0, u.getD 36 0, u.getD 37 0, u.getD 38 0, u.getD 39 0, u.getD 40 0, u.getD 41 0, u.getD 42 0, u.getD 43 0, u.getD 44 0, u.getD 45 0, u.getD 46 0, u.getD 47 0, u.getD 48 0, u.getD 49 0, u.getD 50 0, u.getD 51 0, q1, v.getD 0 0, v.getD 1 0, v.getD 2 0, v.getD 3 0, v.getD 4 0, v.getD 5 0, v.getD 6 0, v.getD 7 0, v.getD 8 0, v.getD 9 0, v.getD 10 0, v.getD 11 0, v.getD 12 0, v.getD 13 0, v.getD 14 0, v.getD 15 0, v.getD 16 0, v.getD 17 0, v.getD 18 0, v.getD 19 0, v.getD 20 0, v.getD 21 0, v.getD 22 0, v.getD 23 0, v.getD 24 0, v.getD 25 0, v.getD 26 0, v.getD 27 0, v.getD 28 0, v.getD 29 0]
theorem lw_f53 {l : Launch} {D : va_G} {k0 k1 k2 k3 : ClassId} {q0 q1 tF tS b : Nat} {u v : List Nat} {adK adV : Nat → Nat} : ob_fs (lw_E l D k0 k1 k2 k3 (lw_ws q0 u q1 v) tF tS b adK adV) lw_m0 53 9 [0, 0, 54, 55, 0, 56, 57, 58, 59, 0, 60, 61, 62, 63, 64, 65, 0, 66, 0, 0, 0, 0, 0, 0, 0, 0, 0, 0, 67, 68, 0, 69, 70, 71, 0, 72, 73, 74, 75, 76, 77, 78, 0, 79, 80, 81, 82, 83] = [.int 12, .int 0, .ref (v.getD 0 0), .ref (v.getD 1 0), .int 0, .ref (v.getD 2 0), .ref (v.getD 3 0), .ref (v.getD 4 0), .ref (v.getD 5 0), .int 0, .ref (v.getD 6 0), .ref (v.getD 7 0), .ref (v.getD 8 0), .ref (v.getD 9 0), .ref (v.getD 10 0), .ref (v.getD 11 0), .int 0, .ref (v.getD 12 0), .int 0, .int (-1), .int 0, .long 0, .int 0, .int 0, .int 0, .int 0, .int 0, .int 0, .ref (v.getD 13 0), .ref (v.getD 14 0), .int 0, .ref (v.getD 15 0), .ref (v.getD 16 0), .ref (v.getD 17 0), .int 0, .ref (v.getD 18 0), .ref (v.getD 19 0), .ref (v.getD 20 0), .ref (v.getD 21 0), .ref (v.getD 22 0), .ref (v.getD 23 0), .ref (v.getD 24 0), .int 0, .ref (v.getD 25 0), .ref (v.getD 26 0), .ref (v.getD 27 0), .ref (v.getD 28 0), .ref (v.getD 29 0)] := by
  apply List.ext_getElem?
  intro k
  unfold ob_fs
  rw [List.getElem?_mapIdx]
  match k with
  | 0 => rfl
  | 1 => rfl
  | 2 => rfl
  | 3 => rfl
  | 4 => rfl
  | 5 => rfl
  | 6 => rfl
  | 7 => rfl
  | 8 => rfl
  | 9 => rfl
  | 10 => rfl
  | 11 => rfl
  | 12 => rfl
  | 13 => rfl
  | 14 => rfl
  | 15 => rfl
  | 16 => rfl
  | 17 => rfl
  | 18 => rfl
  | 19 => rfl
  | 20 => rfl
  | 21 => rfl
  | 22 => rfl
  | 23 => rfl
  | 24 => rfl
  | 25 => rfl
  | 26 => rfl
  | 27 => rfl
  | 28 => rfl
  | 29 => rfl
  | 30 => rfl
  | 31 => rfl
  | 32 => rfl
  | 33 => rfl
  | 34 => rfl
  | 35 => rfl
  | 36 => rfl
  | 37 => rfl
  | 38 => rfl
  | 39 => rfl
  | 40 => rfl
  | 41 => rfl
  | 42 => rfl
  | 43 => rfl
  | 44 => rfl
  | 45 => rfl
  | 46 => rfl
  | 47 => rfl
  | k + 48 => rfl
theorem lw_c53 {l : Launch} {D : va_G} {k0 k1 k2 k3 : ClassId} {q0 q1 tF tS b : Nat} {u v : List Nat} {adK adV : Nat → Nat} : ob_ce (lw_E l D k0 k1 k2 k3 (lw_ws q0 u q1 v) tF tS b adK adV) lw_m0 53 (.inr (9, [0, 0, 54, 55, 0, 56, 57, 58, 59, 0, 60, 61, 62, 63, 64, 65, 0, 66, 0, 0, 0, 0, 0, 0, 0, 0, 0, 0, 67, 68, 0, 69, 70, 71, 0, 72, 73, 74, 75, 76, 77, 78, 0, 79, 80, 81, 82, 83])) = .inr (9, [.int 12, .int 0, .ref (v.getD 0 0), .ref (v.getD 1 0), .int 0, .ref (v.getD 2 0), .ref (v.getD 3 0), .ref (v.getD 4 0), .ref (v.getD 5 0), .int 0, .ref (v.getD 6 0), .ref (v.getD 7 0), .ref (v.getD 8 0), .ref (v.getD 9 0), .ref (v.getD 10 0), .ref (v.getD 11 0), .int 0, .ref (v.getD 12 0), .int 0, .int (-1), .int 0, .long 0, .int 0, .int 0, .int 0, .int 0, .int 0, .int 0, .ref (v.getD 13 0), .ref (v.getD 14 0), .int 0, .ref (v.getD 15 0), .ref (v.getD 16 0), .ref (v.getD 17 0), .int 0, .ref (v.getD 18 0), .ref (v.getD 19 0), .ref (v.getD 20 0), .ref (v.getD 21 0), .ref (v.getD 22 0), .ref (v.getD 23 0), .ref (v.getD 24 0), .int 0, .ref (v.getD 25 0), .ref (v.getD 26 0), .ref (v.getD 27 0), .ref (v.getD 28 0), .ref (v.getD 29 0)]) := congrArg (fun z => Sum.inr (9, z)) lw_f53
theorem lw_key {l : Launch} {D : va_G} {k0 k1 k2 k3 : ClassId} {q0 q1 tF tS b : Nat} {u v : List Nat} {adK adV : Nat → Nat} : ∀ i, i < 84 → ∃ x, shp[i]? = some x ∧ (w_X8_init k0 k1 k2 k3 q0 u ++ w_X9_init k0 k1 k2 k3 q1 v)[i]? = some ((lw_E l D k0 k1 k2 k3 (lw_ws q0 u q1 v) tF tS b adK adV).2.2.2 i, ob_ce (lw_E l D k0 k1 k2 k3 (lw_ws q0 u q1 v) tF tS b adK adV) lw_m0 i x) := by
  intro i hi
  match i, hi with
  | 0, _ => exact ⟨_, sh_0, rfl⟩
  | 1, _ => exact ⟨_, sh_1, rfl⟩
  | 2, _ => exact ⟨_, sh_2, rfl⟩
  | 3, _ => exact ⟨_, sh_3, rfl⟩
  | 4, _ => exact ⟨_, sh_4, rfl⟩
  | 5, _ => exact ⟨_, sh_5, rfl⟩
  | 6, _ => exact ⟨_, sh_6, rfl⟩
  | 7, _ => exact ⟨_, sh_7, rfl⟩
  | 8, _ => exact ⟨_, sh_8, rfl⟩
  | 9, _ => exact ⟨_, sh_9, rfl⟩
  | 10, _ => exact ⟨_, sh_10, rfl⟩
  | 11, _ => exact ⟨_, sh_11, rfl⟩
  | 12, _ => exact ⟨_, sh_12, rfl⟩
  | 13, _ => exact ⟨_, sh_13, rfl⟩
  | 14, _ => exact ⟨_, sh_14, rfl⟩
  | 15, _ => exact ⟨_, sh_15, rfl⟩
  | 16, _ => exact ⟨_, sh_16, rfl⟩
  | 17, _ => exact ⟨_, sh_17, rfl⟩
  | 18, _ => exact ⟨_, sh_18, rfl⟩
  | 19, _ => exact ⟨_, sh_19, rfl⟩
  | 20, _ => exact ⟨_, sh_20, rfl⟩
  | 21, _ => exact ⟨_, sh_21, rfl⟩
  | 22, _ => exact ⟨_, sh_22, rfl⟩
  | 23, _ => exact ⟨_, sh_23, rfl⟩
  | 24, _ => exact ⟨_, sh_24, rfl⟩
  | 25, _ => exact ⟨_, sh_25, rfl⟩
  | 26, _ => exact ⟨_, sh_26, rfl⟩
  | 27, _ => exact ⟨_, sh_27, rfl⟩
  | 28, _ => exact ⟨_, sh_28, rfl⟩
  | 29, _ => exact ⟨_, sh_29, rfl⟩
  | 30, _ => exact ⟨_, sh_30, rfl⟩
  | 31, _ => exact ⟨_, sh_31, rfl⟩
  | 32, _ => exact ⟨_, sh_32, rfl⟩
  | 33, _ => exact ⟨_, sh_33, rfl⟩
  | 34, _ => exact ⟨_, sh_34, rfl⟩
  | 35, _ => exact ⟨_, sh_35, rfl⟩
  | 36, _ => exact ⟨_, sh_36, rfl⟩
  | 37, _ => exact ⟨_, sh_37, rfl⟩
  | 38, _ => exact ⟨_, sh_38, rfl⟩
  | 39, _ => exact ⟨_, sh_39, rfl⟩
  | 40, _ => exact ⟨_, sh_40, rfl⟩
  | 41, _ => exact ⟨_, sh_41, rfl⟩
  | 42, _ => exact ⟨_, sh_42, rfl⟩
  | 43, _ => exact ⟨_, sh_43, rfl⟩
  | 44, _ => exact ⟨_, sh_44, rfl⟩
  | 45, _ => exact ⟨_, sh_45, rfl⟩
  | 46, _ => exact ⟨_, sh_46, rfl⟩
  | 47, _ => exact ⟨_, sh_47, rfl⟩
  | 48, _ => exact ⟨_, sh_48, rfl⟩
  | 49, _ => exact ⟨_, sh_49, rfl⟩
  | 50, _ => exact ⟨_, sh_50, rfl⟩
  | 51, _ => exact ⟨_, sh_51, rfl⟩
  | 52, _ => exact ⟨_, sh_52, rfl⟩
  | 53, _ => exact ⟨_, sh_53, by rw [lw_c53]; rfl⟩
  | 54, _ => exact ⟨_, sh_54, rfl⟩
  | 55, _ => exact ⟨_, sh_55, rfl⟩
  | 56, _ => exact ⟨_, sh_56, rfl⟩
  | 57, _ => exact ⟨_, sh_57, rfl⟩
  | 58, _ => exact ⟨_, sh_58, rfl⟩
  | 59, _ => exact ⟨_, sh_59, rfl⟩
  | 60, _ => exact ⟨_, sh_60, rfl⟩
  | 61, _ => exact ⟨_, sh_61, rfl⟩
  | 62, _ => exact ⟨_, sh_62, rfl⟩
  | 63, _ => exact ⟨_, sh_63, rfl⟩
  | 64, _ => exact ⟨_, sh_64, rfl⟩
  | 65, _ => exact ⟨_, sh_65, rfl⟩
  | 66, _ => exact ⟨_, sh_66, rfl⟩
  | 67, _ => exact ⟨_, sh_67, rfl⟩
  | 68, _ => exact ⟨_, sh_68, rfl⟩
  | 69, _ => exact ⟨_, sh_69, rfl⟩
  | 70, _ => exact ⟨_, sh_70, rfl⟩
  | 71, _ => exact ⟨_, sh_71, rfl⟩
  | 72, _ => exact ⟨_, sh_72, rfl⟩
  | 73, _ => exact ⟨_, sh_73, rfl⟩
  | 74, _ => exact ⟨_, sh_74, rfl⟩
  | 75, _ => exact ⟨_, sh_75, rfl⟩
  | 76, _ => exact ⟨_, sh_76, rfl⟩
  | 77, _ => exact ⟨_, sh_77, rfl⟩
  | 78, _ => exact ⟨_, sh_78, rfl⟩
  | 79, _ => exact ⟨_, sh_79, rfl⟩
  | 80, _ => exact ⟨_, sh_80, rfl⟩
  | 81, _ => exact ⟨_, sh_81, rfl⟩
  | 82, _ => exact ⟨_, sh_82, rfl⟩
  | 83, _ => exact ⟨_, sh_83, rfl⟩
  | k + 84, h => exact absurd h (by omega)
theorem lw_world {l : Launch} {D : va_G} {k0 k1 k2 k3 : ClassId} {q0 q1 tF tS b : Nat} {u v : List Nat} {adK adV : Nat → Nat} {s : State} {H : Heap} (hRO : lw_RO (fun q : Nat => s.heap.size ≤ q) s tF tS adK adV) (hP : va_P D vwCl (w_X8_init k0 k1 k2 k3 q0 u ++ w_X9_init k0 k1 k2 k3 q1 v) H) (hD : va_D (fun q : Nat => s.heap.size ≤ q) (w_X8_init k0 k1 k2 k3 q0 u ++ w_X9_init k0 k1 k2 k3 q1 v)) : va_P D vwCl (ob_ws shp (lw_E l D k0 k1 k2 k3 (lw_ws q0 u q1 v) tF tS b adK adV) lw_m0) H ∧ ob_inj shp (lw_E l D k0 k1 k2 k3 (lw_ws q0 u q1 v) tF tS b adK adV) ∧ (∀ i, i < shp.length → s.heap.size ≤ (lw_E l D k0 k1 k2 k3 (lw_ws q0 u q1 v) tF tS b adK adV).2.2.2 i) ∧ ob_RO shp (lw_E l D k0 k1 k2 k3 (lw_ws q0 u q1 v) tF tS b adK adV) s s.heap := by
  have key := lw_key (l := l) (D := D) (k0 := k0) (k1 := k1) (k2 := k2) (k3 := k3) (q0 := q0) (q1 := q1) (tF := tF) (tS := tS) (b := b) (u := u) (v := v) (adK := adK) (adV := adV)
  have hl : shp.length = 84 := rfl
  have hnew : ∀ i, i < shp.length → s.heap.size ≤ (lw_E l D k0 k1 k2 k3 (lw_ws q0 u q1 v) tF tS b adK adV).2.2.2 i := by
    intro i hi
    obtain ⟨x, h1, h2⟩ := key i (by omega)
    exact hD.2 i _ h2
  refine ⟨fun k q hk => ?_, fun i j hi hj e => ?_, hnew, ?_⟩
  · have hk84 : k < 84 := by
      have := (List.getElem?_eq_some_iff.mp hk).1
      simpa [ob_ws, hl] using this
    obtain ⟨x, h1, h2⟩ := key k hk84
    rw [ob_ws_at h1] at hk
    cases hk
    exact hP k _ h2
  · obtain ⟨x, h1, h2⟩ := key i (by omega)
    obtain ⟨y, g1, g2⟩ := key j (by omega)
    exact hD.1 i j _ _ h2 g2 e
  · have hF : ∀ q, ob_F shp (lw_E l D k0 k1 k2 k3 (lw_ws q0 u q1 v) tF tS b adK adV) q → s.heap.size ≤ q := by
      rintro q ⟨i, hi, rfl⟩
      exact hnew i hi
    obtain ⟨r1, r2, r3, r4, r5, r6, r7⟩ := hRO
    refine ⟨r1.narrow hF, r2.narrow hF, fun i hi => ?_, ⟨fun i hi => ?_, fun i j hi hj e => ?_⟩, r5.narrow hF, r6.imp (fun z => z.narrow hF) (fun z => z.narrow hF), r7⟩
    · show vk_R _ _ _ (lw_adr _ _ _ _ _ _ (110 + i)) s
      rw [lw_adrK hi]
      exact r3 i hi
    · have h := (r4.narrow hF).1 i hi
      show va_O _ (lw_adr _ _ _ _ _ _ (110 + i)) _ _ _ ∧ va_OF _ _ _ _ (lw_adr _ _ _ _ _ _ (110 + i)) _ _ _ ∧ va_OF _ _ _ (.ref (lw_adr _ _ _ _ _ _ (120 + i))) (lw_adr _ _ _ _ _ _ (110 + i)) _ _ _ ∧ va_T _ (lw_adr _ _ _ _ _ _ (120 + i)) _ _ _ _ _
      rw [lw_adrK hi, lw_adrV hi]
      exact h
    · refine r4.2 i j hi hj ?_
      have e : lw_adr (lw_ws q0 u q1 v) tF tS b adK adV (110 + i) = lw_adr (lw_ws q0 u q1 v) tF tS b adK adV (110 + j) := e
      rw [lw_adrK hi, lw_adrK hj] at e
      exact e
