/-! the start: what the Statement gives, both objects made, the law entered -/
theorem it_8 : Cond.instantiable RX8 12 ∈ ob_good := (ob_mem 82 (by decide +kernel) (by decide +kernel))
theorem ii_8 : Cond.initialized RX8 ∈ ob_good := (ob_mem 63 (by decide +kernel) (by decide +kernel))
theorem im_X8_init : Cond.instanceMethod yX8_init ∈ ob_good := (ob_mem 84 (by decide +kernel) (by decide +kernel))
theorem cc_X8_init : Cond.code oX8_init.1 oX8_init.2.1 oX8_init.2.2.1 oX8_init.2.2.2.1 ∈ ob_good := (ob_mem 85 (by decide +kernel) (by decide +kernel))
theorem it_9 : Cond.instantiable RX9 48 ∈ ob_good := (ob_mem 916 (by decide +kernel) (by decide +kernel))
theorem ii_9 : Cond.initialized RX9 ∈ ob_good := (ob_mem 73 (by decide +kernel) (by decide +kernel))
theorem im_X9_init : Cond.instanceMethod yX9_init ∈ ob_good := (ob_mem 918 (by decide +kernel) (by decide +kernel))
theorem cc_X9_init : Cond.code oX9_init.1 oX9_init.2.1 oX9_init.2.2.1 oX9_init.2.2.2.1 ∈ ob_good := (ob_mem 919 (by decide +kernel) (by decide +kernel))
theorem ck_law_7 : Cond.classLink R_law 7 RX8 ∈ ob_good := (ob_mem 81 (by decide +kernel) (by decide +kernel))
theorem ck_law_10 : Cond.classLink R_law 10 RX9 ∈ ob_good := (ob_mem 915 (by decide +kernel) (by decide +kernel))
theorem lk9_law_9 : Cond.methodLink R_law 9 yX8_init ∈ ob_good := (ob_mem 83 (by decide +kernel) (by decide +kernel))
theorem lk9_law_12 : Cond.methodLink R_law 12 yX9_init ∈ ob_good := (ob_mem 917 (by decide +kernel) (by decide +kernel))
abbrev lw_gn : Jvm.Cond := Jvm.Cond.and given_1 narrow_1
theorem rf_el : ∀ j : Fin 8, Cond.eq (.elem (.static RX1 "FIGURE" "[I") (.int (Int32.ofNat j.val))) (.int (ob_fig j.val)) ∈ flatC lw_gn := by decide +kernel
theorem rs_ex : ∀ i : Fin 4, Cond.exactly (.string RX3 (ob_sk.getD i.val (0, "")).1) "java/lang/String" ∈ flatC lw_gn := by decide +kernel
theorem rs_co : ∀ i : Fin 4, Cond.eq (.field (.string RX3 (ob_sk.getD i.val (0, "")).1) "java/lang/String" "coder" "B") (.int 0) ∈ flatC lw_gn := by decide +kernel
theorem rs_ar : ∀ i : Fin 4, Cond.arrayOf (.field (.string RX3 (ob_sk.getD i.val (0, "")).1) "java/lang/String" "value" "[B") .byte ∈ flatC lw_gn := by decide +kernel
theorem rs_le : ∀ i : Fin 4, Cond.eq (.length (.field (.string RX3 (ob_sk.getD i.val (0, "")).1) "java/lang/String" "value" "[B")) (.int (Int32.ofNat (ob_sl.getD i.val 0))) ∈ flatC lw_gn := by decide +kernel
theorem rs_el : ∀ (i : Fin 4) (j : Fin 8), j.val < ob_sl.getD i.val 0 → Cond.eq (.elem (.field (.string RX3 (ob_sk.getD i.val (0, "")).1) "java/lang/String" "value" "[B") (.int (Int32.ofNat j.val))) (.int ((ob_sb.getD i.val []).getD j.val 0)) ∈ flatC lw_gn := by decide +kernel
theorem rs_ne : ∀ i j : Fin 4, i.val < j.val → Cond.not (Cond.eq (.string RX3 (ob_sk.getD i.val (0, "")).1) (.string RX3 (ob_sk.getD j.val (0, "")).1)) ∈ flatC lw_gn := by decide +kernel
theorem rs_8 : ∀ i : Fin 4, ob_sl.getD i.val 0 ≤ 8 := by decide +kernel
def lw_RO (A : Nat → Prop) (s : State) (tF tS : Nat) (adK adV : Nat → Nat) : Prop :=
  va_Z RX1 "FIGURE" "[I" (.ref tF) A s s.heap ∧ va_T .int tF 8 (fun j => .int (ob_fig j)) A s s.heap ∧
  (∀ i, i < 4 → vk_R RX3 (ob_sk.getD i (0, "")).1 (ob_sk.getD i (0, "")).2 (adK i) s) ∧ vk_S 4 ob_sl ob_sb adK adV A s s.heap ∧
  va_Z RJ0 "COMPACT_STRINGS" "Z" (.int 1) A s s.heap ∧ (va_Z RJ3 "SIOOBE_FORMATTER" "Ljava/util/function/BiFunction;" .null A s s.heap ∨ va_Z RJ3 "SIOOBE_FORMATTER" "Ljava/util/function/BiFunction;" (.ref tS) A s s.heap) ∧ va_Nw (.methodLinkNest RX3 123 yX8_isOutside RX8) s
theorem lw_given {b : Nat} {s : State} {A : Nat → Prop} (hts : ∀ w ∈ lw_tbl, w.before #[Value.ref b] s = true) (hgv : lw_gn.before #[Value.ref b] s = true) (hA : ∀ a : Nat, a < s.heap.size → ¬ A a) : ∃ (tF tS : Nat) (adK adV : Nat → Nat), lw_RO A s tF tS adK adV := by
  have hs := flat_of_before _ hgv
  obtain ⟨tF, e1, hT⟩ := va_Tof (tm := .static RX1 "FIGURE" "[I") (ty := .int) (N := 8) (f := fun j => .int (ob_fig j)) (A := A) (by decide) (hs (Cond.arrayOf (.static RX1 "FIGURE" "[I") .int) (by decide +kernel)) (va_eqt (hs (Cond.eq (.length (.static RX1 "FIGURE" "[I")) (.int (Int32.ofNat 8))) (by decide +kernel))) (fun j hj => va_eqt (hs _ (rf_el ⟨j, hj⟩))) hA
  obtain ⟨adK, adV, hS, e2⟩ := vk_Sof (args := #[Value.ref b]) (s := s) (N := 4) (tm := fun i => .string RX3 (ob_sk.getD i (0, "")).1) (len := ob_sl) (byt := ob_sb) (A := A) (fun i hi => Nat.lt_of_le_of_lt (rs_8 ⟨i, hi⟩) (by decide)) (fun i hi => hs _ (rs_ex ⟨i, hi⟩)) (fun i hi => hs _ (rs_co ⟨i, hi⟩)) (fun i hi => hs _ (rs_ar ⟨i, hi⟩)) (fun i hi => hs _ (rs_le ⟨i, hi⟩)) (fun i hi j hj => hs _ (rs_el ⟨i, hi⟩ ⟨j, Nat.lt_of_lt_of_le hj (rs_8 ⟨i, hi⟩)⟩ hj)) (fun i j hi hj hij => by
    rcases Nat.lt_or_gt_of_ne hij with h | h
    · exact Or.inl (hs _ (rs_ne ⟨i, hi⟩ ⟨j, hj⟩ h))
    · exact Or.inr (hs _ (rs_ne ⟨j, hj⟩ ⟨i, hi⟩ h))) hA
  have hR : ∀ i, i < 4 → vk_R RX3 (ob_sk.getD i (0, "")).1 (ob_sk.getD i (0, "")).2 (adK i) s := by
    intro i hi
    refine vk_R.of (A := #[Value.ref b]) ?_ (e2 i hi)
    match i, hi with
    | 0, _ => exact (hts (.stringRef RX3 51 "year") (List.mem_of_getElem? (i := 420) (by decide +kernel)))
    | 1, _ => exact (hts (.stringRef RX3 61 "person") (List.mem_of_getElem? (i := 497) (by decide +kernel)))
    | 2, _ => exact (hts (.stringRef RX3 66 "birthday") (List.mem_of_getElem? (i := 506) (by decide +kernel)))
    | 3, _ => exact (hts (.stringRef RX3 71 "good") (List.mem_of_getElem? (i := 515) (by decide +kernel)))
    | k + 4, h => exact absurd h (by omega)
  have hN : va_Nw (.methodLinkNest RX3 123 yX8_isOutside RX8) s := va_Nw.of rfl (hts (.methodLinkNest RX3 123 yX8_isOutside RX8) (List.mem_of_getElem? (i := 492) (by decide +kernel)))
  have hC := va_Zof (A := A) (hts (.laysStatic RJ0 "COMPACT_STRINGS" "Z") (List.mem_of_getElem? (i := 434) (by decide +kernel))) (hts (.initialized RJ0) (List.mem_of_getElem? (i := 74) (by decide +kernel))) (va_eqi (hs (Cond.eq (.static RJ0 "COMPACT_STRINGS" "Z") (.int 1)) (by decide +kernel))) hA
  have hF := va_Zref (A := A) (hts (.laysStatic RX1 "FIGURE" "[I") (List.mem_of_getElem? (i := 769) (by decide +kernel))) (hts (.initialized RX1) (List.mem_of_getElem? (i := 71) (by decide +kernel))) e1 hA
  rcases va_Zqof (A := A) (hts (.laysStatic RJ3 "SIOOBE_FORMATTER" "Ljava/util/function/BiFunction;") (List.mem_of_getElem? (i := 450) (by decide +kernel))) (hts (.initialized RJ3) (List.mem_of_getElem? (i := 76) (by decide +kernel))) (hs (Cond.isRef (.static RJ3 "SIOOBE_FORMATTER" "Ljava/util/function/BiFunction;")) (by decide +kernel)) hA with z | ⟨tS, z⟩
  · exact ⟨tF, 0, adK, adV, hF, hT, hR, hS, hC, Or.inl z, hN⟩
  · exact ⟨tF, tS, adK, adV, hF, hT, hR, hS, hC, Or.inr z, hN⟩
theorem kt_arr {args : Array Value} {s : State} {ty : FieldType} (h : (Cond.arrayClass ty).before args s = true) : ∃ cA : ClassId, ArrOfT s cA ty ∧ s.vm.findClass ("[" ++ ty.toString) = some cA := by
  obtain ⟨cA, kA, comp, h1, h2, h3⟩ := Cond.arrayClass_spec (args := args) (first := s) (o := none) (s := s) (idx := []) h
  exact ⟨cA, fun n z => ⟨fun k h => (by cases h), kA, h2, comp, h3⟩, h1⟩
theorem lw_known {args : Array Value} {s : State} (hts : ∀ w ∈ lw_tbl, w.before args s = true) : ∃ (D : va_G) (k0 k1 k2 k3 : ClassId), va_K D vwCl (kt_tys k0 k1 k2 k3) s := by
  have tb : ∀ w, w ∈ ob_good → w.before args s = true := fun w hw => hts w (List.mem_filter.mp hw).1
  obtain ⟨c0, i0, hn0⟩ := u_known (C := RX0) (T := TX0) (N := 4) (n := 4) hts (fun w hw => (List.mem_filter.mp (in_0 w hw)).1) (tb _ it_0)
  obtain ⟨c1, i1, hn1⟩ := u_known (C := RX1) (T := TX1) (N := 7) (n := 7) hts (fun w hw => (List.mem_filter.mp (in_1 w hw)).1) (tb _ it_1)
  obtain ⟨c2, i2, hn2⟩ := u_known (C := RX2) (T := TX2) (N := 10) (n := 10) hts (fun w hw => (List.mem_filter.mp (in_2 w hw)).1) (tb _ it_2)
  obtain ⟨c3, i3, hn3⟩ := u_known (C := RX3) (T := TX3) (N := 8) (n := 8) hts (fun w hw => (List.mem_filter.mp (in_3 w hw)).1) (tb _ it_3)
  obtain ⟨c4, i4, hn4⟩ := u_known (C := RX4) (T := TX4) (N := 2) (n := 2) hts (fun w hw => (List.mem_filter.mp (in_4 w hw)).1) (tb _ it_4)
  obtain ⟨c5, i5, hn5⟩ := u_known (C := RX5) (T := TX5) (N := 3) (n := 3) hts (fun w hw => (List.mem_filter.mp (in_5 w hw)).1) (tb _ it_5)
  obtain ⟨c6, i6, hn6⟩ := u_known (C := RX6) (T := TX6) (N := 9) (n := 9) hts (fun w hw => (List.mem_filter.mp (in_6 w hw)).1) (tb _ it_6)
  obtain ⟨c7, i7, hn7⟩ := u_known (C := RX7) (T := TX7) (N := 4) (n := 4) hts (fun w hw => (List.mem_filter.mp (in_7 w hw)).1) (tb _ it_7)
  obtain ⟨c8, i8, hn8⟩ := u_known (C := RX8) (T := TX8) (N := 12) (n := 12) hts (fun w hw => (List.mem_filter.mp (in_8 w hw)).1) (tb _ it_8)
  obtain ⟨c9, i9, hn9⟩ := u_known (C := RX9) (T := TX9) (N := 48) (n := 48) hts (fun w hw => (List.mem_filter.mp (in_9 w hw)).1) (tb _ it_9)
  have h0 : ∀ k : Nat, ∃ x : ClassId × (Nat → Nat), ∀ q : vw_C, vwCl[k]? = some q → u_Kn s q.1 q.2.1 q.2.2 x.1 x.2 := by
    intro k
    match k with
    | 0 => exact ⟨(c0, i0), fun q hq => by cases hq; exact hn0⟩
    | 1 => exact ⟨(c1, i1), fun q hq => by cases hq; exact hn1⟩
    | 2 => exact ⟨(c2, i2), fun q hq => by cases hq; exact hn2⟩
    | 3 => exact ⟨(c3, i3), fun q hq => by cases hq; exact hn3⟩
    | 4 => exact ⟨(c4, i4), fun q hq => by cases hq; exact hn4⟩
    | 5 => exact ⟨(c5, i5), fun q hq => by cases hq; exact hn5⟩
    | 6 => exact ⟨(c6, i6), fun q hq => by cases hq; exact hn6⟩
    | 7 => exact ⟨(c7, i7), fun q hq => by cases hq; exact hn7⟩
    | 8 => exact ⟨(c8, i8), fun q hq => by cases hq; exact hn8⟩
    | 9 => exact ⟨(c9, i9), fun q hq => by cases hq; exact hn9⟩
    | k + 10 => exact ⟨(c0, i0), fun q hq => by simp [vwCl] at hq⟩
  obtain ⟨f, hf⟩ := Classical.axiomOfChoice h0
  obtain ⟨k0, a0, b0⟩ := kt_arr (tb _ ac_int)
  obtain ⟨k1, a1, b1⟩ := kt_arr (tb _ ac_byte)
  obtain ⟨k2, a2, b2⟩ := kt_arr (tb _ ac_boolean)
  obtain ⟨k3, a3, b3⟩ := kt_arr (tb _ ac_long)
  refine ⟨(fun k => (f k).1, fun k => (f k).2), k0, k1, k2, k3, fun k q hq => hf k q hq, fun k q hq => ?_⟩
  match k, hq with
  | 0, hq => cases hq; exact ⟨a0, b0⟩
  | 1, hq => cases hq; exact ⟨a1, b1⟩
  | 2, hq => cases hq; exact ⟨a2, b2⟩
  | 3, hq => cases hq; exact ⟨a3, b3⟩
  | k + 4, hq => simp at hq
