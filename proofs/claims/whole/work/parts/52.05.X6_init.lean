/-! what is made: X6_init -/
theorem dk_X6_init_0 : decode cX6_init 0 = .ok (.aload_n 0, 1) := by decide +kernel
theorem dk_X6_init_1 : decode cX6_init 1 = .ok (.invokespecial 3, 3) := by decide +kernel
theorem dk_X6_init_4 : decode cX6_init 4 = .ok (.aload_n 0, 1) := by decide +kernel
theorem dk_X6_init_5 : decode cX6_init 5 = .ok (.aload_n 1, 1) := by decide +kernel
theorem dk_X6_init_6 : decode cX6_init 6 = .ok (.putfield 9, 3) := by decide +kernel
theorem dk_X6_init_9 : decode cX6_init 9 = .ok (.aload_n 0, 1) := by decide +kernel
theorem dk_X6_init_10 : decode cX6_init 10 = .ok (.bipush 6, 2) := by decide +kernel
theorem dk_X6_init_12 : decode cX6_init 12 = .ok (.newarray .int, 2) := by decide +kernel
theorem dk_X6_init_14 : decode cX6_init 14 = .ok (.putfield 15, 3) := by decide +kernel
theorem dk_X6_init_17 : decode cX6_init 17 = .ok (.aload_n 0, 1) := by decide +kernel
theorem dk_X6_init_18 : decode cX6_init 18 = .ok (.bipush 6, 2) := by decide +kernel
theorem dk_X6_init_20 : decode cX6_init 20 = .ok (.newarray .int, 2) := by decide +kernel
theorem dk_X6_init_22 : decode cX6_init 22 = .ok (.putfield 19, 3) := by decide +kernel
theorem dk_X6_init_25 : decode cX6_init 25 = .ok (.aload_n 0, 1) := by decide +kernel
theorem dk_X6_init_26 : decode cX6_init 26 = .ok (.bipush 8, 2) := by decide +kernel
theorem dk_X6_init_28 : decode cX6_init 28 = .ok (.newarray .int, 2) := by decide +kernel
theorem dk_X6_init_30 : decode cX6_init 30 = .ok (.putfield 22, 3) := by decide +kernel
theorem dk_X6_init_33 : decode cX6_init 33 = .ok (.aload_n 0, 1) := by decide +kernel
theorem dk_X6_init_34 : decode cX6_init 34 = .ok (.bipush 8, 2) := by decide +kernel
theorem dk_X6_init_36 : decode cX6_init 36 = .ok (.newarray .int, 2) := by decide +kernel
theorem dk_X6_init_38 : decode cX6_init 38 = .ok (.putfield 25, 3) := by decide +kernel
theorem dk_X6_init_41 : decode cX6_init 41 = .ok (.aload_n 0, 1) := by decide +kernel
theorem dk_X6_init_42 : decode cX6_init 42 = .ok (.bipush 8, 2) := by decide +kernel
theorem dk_X6_init_44 : decode cX6_init 44 = .ok (.newarray .int, 2) := by decide +kernel
theorem dk_X6_init_46 : decode cX6_init 46 = .ok (.putfield 28, 3) := by decide +kernel
theorem dk_X6_init_49 : decode cX6_init 49 = .ok (.return_, 1) := by decide +kernel
def oX6_init : ob_M := (yX6_init, cX6_init, 2, none, 1, 12)
theorem cc_X6_init : Cond.code oX6_init.1 oX6_init.2.1 oX6_init.2.2.1 oX6_init.2.2.2.1 ∈ ob_good := (ob_mem 198 (by decide +kernel) (by decide +kernel))
abbrev w_X6_init (k0 k1 k2 k3 : ClassId) (h0 : Nat) (hland : Nat) (u : List Nat) : va_W := [(h0, .inr (6, [.ref hland, .ref (u.getD 0 0), .ref (u.getD 1 0), .ref (u.getD 2 0), .ref (u.getD 3 0), .ref (u.getD 4 0), .int 0, .int 0, .int 0])), ((u.getD 0 0), .inl (k0, 6, .inl (fun _ => 0))), ((u.getD 1 0), .inl (k0, 6, .inl (fun _ => 0))), ((u.getD 2 0), .inl (k0, 8, .inl (fun _ => 0))), ((u.getD 3 0), .inl (k0, 8, .inl (fun _ => 0))), ((u.getD 4 0), .inl (k0, 8, .inl (fun _ => 0)))]
set_option maxHeartbeats 4000000 in
set_option maxRecDepth 100000 in
theorem c_X6_init (l : Launch) (D : va_G) (k0 k1 k2 k3 : ClassId) (h0 sz : Nat) (hland : Nat) : Met l yX6_init (ob_w oX6_init) { frames := 1, cells := 5, slots := 36, locals := 12 } (va_Pc [.ref h0, .ref hland] (fun U => U.heap.size = sz ∧ va_P D vwCl [(h0, .inr (6, [.null, .null, .null, .null, .null, .null, .int 0, .int 0, .int 0]))] U.heap ∧ va_K D vwCl (kt_tys k0 k1 k2 k3) U ∧ va_D (fun _ => True) [(h0, .inr (6, [.null, .null, .null, .null, .null, .null, .int 0, .int 0, .int 0]))])) (va_Qv (fun _ : List Nat => True) (fun u t => va_P D vwCl (w_X6_init k0 k1 k2 k3 h0 hland u) t.heap ∧ va_K D vwCl (kt_tys k0 k1 k2 k3) t ∧ va_D (va_A [(h0, .inr (6, [.null, .null, .null, .null, .null, .null, .int 0, .int 0, .int 0]))] sz) (w_X6_init k0 k1 k2 k3 h0 hland u)) (va_A [(h0, .inr (6, [.null, .null, .null, .null, .null, .null, .int 0, .int 0, .int 0]))] sz)) 5 36 (va_A [(h0, .inr (6, [.null, .null, .null, .null, .null, .null, .int 0, .int 0, .int 0]))] sz) := by
  refine Met.ofW (cc := cX6_init) (maxL := 2) (ret := none) (by decide) rfl ?_
  intro p e s m args below meth c s₁ B hml hv
  obtain ⟨rfl, hsz, hP, hK, hD0⟩ := hv
  have hx := B.exec
  have hb := B.bytes
  have hr := B.returns
  have hts := atoms_spec (ws := ob_w oX6_init) B.pre
  have tb : ∀ w, w ∈ ob_good → w.before (([.ref h0, .ref hland] : List Value).toArray) s = true := fun w hw => hts w (List.mem_cons_of_mem _ hw)
  have hown : s.vm.findClass RX6 = some m.cls := findClass_of_methodNamed B.named
  have hin : meth.name = "<init>" := (name_of_methodNamed B.named B.method).1
  subst hsz
  have hD := hD0.self (sz := s.heap.size)
  generalize hAe : va_A [(h0, .inr (6, [.null, .null, .null, .null, .null, .null, .int 0, .int 0, .int 0]))] s.heap.size = A at hD ⊢
  have hA : ∀ q : Nat, s.heap.size ≤ q → A q := fun q h => by rw [← hAe]; exact Or.inr h
  have hS : va_S A s.heap s.heap [] := va_S.rf
  have hl := lv_entry ([.ref h0, .ref hland]) (n := 2) (Nat.le_of_ble_eq_true rfl)
  rw [lg_entry_eq]
  generalize (lg_sl ([.ref h0, .ref hland]) ++ List.replicate (2 - (lg_sl ([.ref h0, .ref hland])).length) Slot.unset).toArray = ls at hl ⊢
  have hl : lv_has ls 2 [(0, .ref h0), (1, .ref hland)] := hl
  refine lv_aload_n hx hb dk_X6_init_0 rfl (lv_at hl 0 rfl) ?_
  refine W.objInit hx hb hown (tb _ oi_X6) (tb _ oi_in) (tb _ oi_cd) rfl (by rw [hml]; exact hl.1) rfl dk_X6_init_1 (Nat.le_of_ble_eq_true rfl) (Nat.le_of_ble_eq_true rfl) ?_
  refine W.eq (g2 := F0 m 4 ls []) rfl ?_
  refine lv_aload_n hx hb dk_X6_init_4 rfl (lv_at hl 0 rfl) ?_
  refine lv_aload_n hx hb dk_X6_init_5 rfl (lv_at hl 1 rfl) ?_
  refine va_putF (D := D) (ci := 6) (v := .ref hland) (ty := .object "OwnBirthdays$Land") (C := RX6) (T := TX6) (N := 9) hx hb hts (fun w hw => List.mem_cons_of_mem _ (in_6 w hw)) tyX6 tyX6_ok nmX6 hown hK hP hD hS 0 rfl rfl 0 (by decide) (tb _ fk_X6_9) (fun _ h9 => h9) rfl hin rfl (tyX6_ok 0 (by decide)) rfl rfl (Nat.le_of_ble_eq_true rfl) dk_X6_init_6 (fun H locs hP hD hS => ?_)
  have hP : va_P D vwCl [(h0, .inr (6, [.ref hland, .null, .null, .null, .null, .null, .int 0, .int 0, .int 0]))] H := hP
  have hD : va_D A [(h0, .inr (6, [.ref hland, .null, .null, .null, .null, .null, .int 0, .int 0, .int 0]))] := hD
  refine lv_aload_n hx hb dk_X6_init_9 rfl (lv_at hl 0 rfl) ?_
  refine lv_bipush (v := 6) hx hb dk_X6_init_10 (by decide) ?_
  refine kt_newa (atype := .int) (ty := .int) (N' := 6) (a0 := (6, .inl (fun _ => 0))) (j := 0) (cA0 := k0) hx hb (tb (.arrayClass .int) ac_int) rfl hK rfl (fun c1 c2 e1 e2 => Option.some.inj ((va_nm_int e1).symm.trans (va_nm_int e2))) hP hD hS hA (fun _ => rfl) (by decide) (by decide) (Nat.le_of_ble_eq_true rfl) (Nat.le_of_ble_eq_true rfl) (Nat.le_of_ble_eq_true rfl) dk_X6_init_12 (fun q1 H hP hD hS => ?_)
  have hP : va_P D vwCl [(h0, .inr (6, [.ref hland, .null, .null, .null, .null, .null, .int 0, .int 0, .int 0])), (q1, .inl (k0, 6, .inl (fun _ => 0)))] H := hP
  have hD : va_D A [(h0, .inr (6, [.ref hland, .null, .null, .null, .null, .null, .int 0, .int 0, .int 0])), (q1, .inl (k0, 6, .inl (fun _ => 0)))] := hD
  refine W.widen (k := 1) (n := 6) (Nat.le_of_ble_eq_true rfl) (Nat.le_of_ble_eq_true rfl) ?_
  refine va_putF (D := D) (ci := 6) (v := .ref q1) (ty := .array .int) (C := RX6) (T := TX6) (N := 9) hx hb hts (fun w hw => List.mem_cons_of_mem _ (in_6 w hw)) tyX6 tyX6_ok nmX6 hown hK hP hD hS 0 rfl rfl 1 (by decide) (tb _ fk_X6_15) (fun _ h9 => h9) rfl hin rfl (tyX6_ok 1 (by decide)) rfl rfl (Nat.le_of_ble_eq_true rfl) dk_X6_init_14 (fun H locs hP hD hS => ?_)
  have hP : va_P D vwCl [(h0, .inr (6, [.ref hland, .ref q1, .null, .null, .null, .null, .int 0, .int 0, .int 0])), (q1, .inl (k0, 6, .inl (fun _ => 0)))] H := hP
  have hD : va_D A [(h0, .inr (6, [.ref hland, .ref q1, .null, .null, .null, .null, .int 0, .int 0, .int 0])), (q1, .inl (k0, 6, .inl (fun _ => 0)))] := hD
  refine lv_aload_n hx hb dk_X6_init_17 rfl (lv_at hl 0 rfl) ?_
  refine lv_bipush (v := 6) hx hb dk_X6_init_18 (by decide) ?_
  refine kt_newa (atype := .int) (ty := .int) (N' := 6) (a0 := (6, .inl (fun _ => 0))) (j := 0) (cA0 := k0) hx hb (tb (.arrayClass .int) ac_int) rfl hK rfl (fun c1 c2 e1 e2 => Option.some.inj ((va_nm_int e1).symm.trans (va_nm_int e2))) hP hD hS hA (fun _ => rfl) (by decide) (by decide) (Nat.le_of_ble_eq_true rfl) (Nat.le_of_ble_eq_true rfl) (Nat.le_of_ble_eq_true rfl) dk_X6_init_20 (fun q2 H hP hD hS => ?_)
  have hP : va_P D vwCl [(h0, .inr (6, [.ref hland, .ref q1, .null, .null, .null, .null, .int 0, .int 0, .int 0])), (q1, .inl (k0, 6, .inl (fun _ => 0))), (q2, .inl (k0, 6, .inl (fun _ => 0)))] H := hP
  have hD : va_D A [(h0, .inr (6, [.ref hland, .ref q1, .null, .null, .null, .null, .int 0, .int 0, .int 0])), (q1, .inl (k0, 6, .inl (fun _ => 0))), (q2, .inl (k0, 6, .inl (fun _ => 0)))] := hD
  refine W.widen (k := 2) (n := 12) (Nat.le_of_ble_eq_true rfl) (Nat.le_of_ble_eq_true rfl) ?_
  refine va_putF (D := D) (ci := 6) (v := .ref q2) (ty := .array .int) (C := RX6) (T := TX6) (N := 9) hx hb hts (fun w hw => List.mem_cons_of_mem _ (in_6 w hw)) tyX6 tyX6_ok nmX6 hown hK hP hD hS 0 rfl rfl 2 (by decide) (tb _ fk_X6_19) (fun _ h9 => h9) rfl hin rfl (tyX6_ok 2 (by decide)) rfl rfl (Nat.le_of_ble_eq_true rfl) dk_X6_init_22 (fun H locs hP hD hS => ?_)
  have hP : va_P D vwCl [(h0, .inr (6, [.ref hland, .ref q1, .ref q2, .null, .null, .null, .int 0, .int 0, .int 0])), (q1, .inl (k0, 6, .inl (fun _ => 0))), (q2, .inl (k0, 6, .inl (fun _ => 0)))] H := hP
  have hD : va_D A [(h0, .inr (6, [.ref hland, .ref q1, .ref q2, .null, .null, .null, .int 0, .int 0, .int 0])), (q1, .inl (k0, 6, .inl (fun _ => 0))), (q2, .inl (k0, 6, .inl (fun _ => 0)))] := hD
  refine lv_aload_n hx hb dk_X6_init_25 rfl (lv_at hl 0 rfl) ?_
  refine lv_bipush (v := 8) hx hb dk_X6_init_26 (by decide) ?_
  refine kt_newa (atype := .int) (ty := .int) (N' := 8) (a0 := (8, .inl (fun _ => 0))) (j := 0) (cA0 := k0) hx hb (tb (.arrayClass .int) ac_int) rfl hK rfl (fun c1 c2 e1 e2 => Option.some.inj ((va_nm_int e1).symm.trans (va_nm_int e2))) hP hD hS hA (fun _ => rfl) (by decide) (by decide) (Nat.le_of_ble_eq_true rfl) (Nat.le_of_ble_eq_true rfl) (Nat.le_of_ble_eq_true rfl) dk_X6_init_28 (fun q3 H hP hD hS => ?_)
  have hP : va_P D vwCl [(h0, .inr (6, [.ref hland, .ref q1, .ref q2, .null, .null, .null, .int 0, .int 0, .int 0])), (q1, .inl (k0, 6, .inl (fun _ => 0))), (q2, .inl (k0, 6, .inl (fun _ => 0))), (q3, .inl (k0, 8, .inl (fun _ => 0)))] H := hP
  have hD : va_D A [(h0, .inr (6, [.ref hland, .ref q1, .ref q2, .null, .null, .null, .int 0, .int 0, .int 0])), (q1, .inl (k0, 6, .inl (fun _ => 0))), (q2, .inl (k0, 6, .inl (fun _ => 0))), (q3, .inl (k0, 8, .inl (fun _ => 0)))] := hD
  refine W.widen (k := 3) (n := 20) (Nat.le_of_ble_eq_true rfl) (Nat.le_of_ble_eq_true rfl) ?_
  refine va_putF (D := D) (ci := 6) (v := .ref q3) (ty := .array .int) (C := RX6) (T := TX6) (N := 9) hx hb hts (fun w hw => List.mem_cons_of_mem _ (in_6 w hw)) tyX6 tyX6_ok nmX6 hown hK hP hD hS 0 rfl rfl 3 (by decide) (tb _ fk_X6_22) (fun _ h9 => h9) rfl hin rfl (tyX6_ok 3 (by decide)) rfl rfl (Nat.le_of_ble_eq_true rfl) dk_X6_init_30 (fun H locs hP hD hS => ?_)
  have hP : va_P D vwCl [(h0, .inr (6, [.ref hland, .ref q1, .ref q2, .ref q3, .null, .null, .int 0, .int 0, .int 0])), (q1, .inl (k0, 6, .inl (fun _ => 0))), (q2, .inl (k0, 6, .inl (fun _ => 0))), (q3, .inl (k0, 8, .inl (fun _ => 0)))] H := hP
  have hD : va_D A [(h0, .inr (6, [.ref hland, .ref q1, .ref q2, .ref q3, .null, .null, .int 0, .int 0, .int 0])), (q1, .inl (k0, 6, .inl (fun _ => 0))), (q2, .inl (k0, 6, .inl (fun _ => 0))), (q3, .inl (k0, 8, .inl (fun _ => 0)))] := hD
  refine lv_aload_n hx hb dk_X6_init_33 rfl (lv_at hl 0 rfl) ?_
  refine lv_bipush (v := 8) hx hb dk_X6_init_34 (by decide) ?_
  refine kt_newa (atype := .int) (ty := .int) (N' := 8) (a0 := (8, .inl (fun _ => 0))) (j := 0) (cA0 := k0) hx hb (tb (.arrayClass .int) ac_int) rfl hK rfl (fun c1 c2 e1 e2 => Option.some.inj ((va_nm_int e1).symm.trans (va_nm_int e2))) hP hD hS hA (fun _ => rfl) (by decide) (by decide) (Nat.le_of_ble_eq_true rfl) (Nat.le_of_ble_eq_true rfl) (Nat.le_of_ble_eq_true rfl) dk_X6_init_36 (fun q4 H hP hD hS => ?_)
  have hP : va_P D vwCl [(h0, .inr (6, [.ref hland, .ref q1, .ref q2, .ref q3, .null, .null, .int 0, .int 0, .int 0])), (q1, .inl (k0, 6, .inl (fun _ => 0))), (q2, .inl (k0, 6, .inl (fun _ => 0))), (q3, .inl (k0, 8, .inl (fun _ => 0))), (q4, .inl (k0, 8, .inl (fun _ => 0)))] H := hP
  have hD : va_D A [(h0, .inr (6, [.ref hland, .ref q1, .ref q2, .ref q3, .null, .null, .int 0, .int 0, .int 0])), (q1, .inl (k0, 6, .inl (fun _ => 0))), (q2, .inl (k0, 6, .inl (fun _ => 0))), (q3, .inl (k0, 8, .inl (fun _ => 0))), (q4, .inl (k0, 8, .inl (fun _ => 0)))] := hD
  refine W.widen (k := 4) (n := 28) (Nat.le_of_ble_eq_true rfl) (Nat.le_of_ble_eq_true rfl) ?_
  refine va_putF (D := D) (ci := 6) (v := .ref q4) (ty := .array .int) (C := RX6) (T := TX6) (N := 9) hx hb hts (fun w hw => List.mem_cons_of_mem _ (in_6 w hw)) tyX6 tyX6_ok nmX6 hown hK hP hD hS 0 rfl rfl 4 (by decide) (tb _ fk_X6_25) (fun _ h9 => h9) rfl hin rfl (tyX6_ok 4 (by decide)) rfl rfl (Nat.le_of_ble_eq_true rfl) dk_X6_init_38 (fun H locs hP hD hS => ?_)
  have hP : va_P D vwCl [(h0, .inr (6, [.ref hland, .ref q1, .ref q2, .ref q3, .ref q4, .null, .int 0, .int 0, .int 0])), (q1, .inl (k0, 6, .inl (fun _ => 0))), (q2, .inl (k0, 6, .inl (fun _ => 0))), (q3, .inl (k0, 8, .inl (fun _ => 0))), (q4, .inl (k0, 8, .inl (fun _ => 0)))] H := hP
  have hD : va_D A [(h0, .inr (6, [.ref hland, .ref q1, .ref q2, .ref q3, .ref q4, .null, .int 0, .int 0, .int 0])), (q1, .inl (k0, 6, .inl (fun _ => 0))), (q2, .inl (k0, 6, .inl (fun _ => 0))), (q3, .inl (k0, 8, .inl (fun _ => 0))), (q4, .inl (k0, 8, .inl (fun _ => 0)))] := hD
  refine lv_aload_n hx hb dk_X6_init_41 rfl (lv_at hl 0 rfl) ?_
  refine lv_bipush (v := 8) hx hb dk_X6_init_42 (by decide) ?_
  refine kt_newa (atype := .int) (ty := .int) (N' := 8) (a0 := (8, .inl (fun _ => 0))) (j := 0) (cA0 := k0) hx hb (tb (.arrayClass .int) ac_int) rfl hK rfl (fun c1 c2 e1 e2 => Option.some.inj ((va_nm_int e1).symm.trans (va_nm_int e2))) hP hD hS hA (fun _ => rfl) (by decide) (by decide) (Nat.le_of_ble_eq_true rfl) (Nat.le_of_ble_eq_true rfl) (Nat.le_of_ble_eq_true rfl) dk_X6_init_44 (fun q5 H hP hD hS => ?_)
  have hP : va_P D vwCl [(h0, .inr (6, [.ref hland, .ref q1, .ref q2, .ref q3, .ref q4, .null, .int 0, .int 0, .int 0])), (q1, .inl (k0, 6, .inl (fun _ => 0))), (q2, .inl (k0, 6, .inl (fun _ => 0))), (q3, .inl (k0, 8, .inl (fun _ => 0))), (q4, .inl (k0, 8, .inl (fun _ => 0))), (q5, .inl (k0, 8, .inl (fun _ => 0)))] H := hP
  have hD : va_D A [(h0, .inr (6, [.ref hland, .ref q1, .ref q2, .ref q3, .ref q4, .null, .int 0, .int 0, .int 0])), (q1, .inl (k0, 6, .inl (fun _ => 0))), (q2, .inl (k0, 6, .inl (fun _ => 0))), (q3, .inl (k0, 8, .inl (fun _ => 0))), (q4, .inl (k0, 8, .inl (fun _ => 0))), (q5, .inl (k0, 8, .inl (fun _ => 0)))] := hD
  refine W.widen (k := 5) (n := 36) (Nat.le_of_ble_eq_true rfl) (Nat.le_of_ble_eq_true rfl) ?_
  refine va_putF (D := D) (ci := 6) (v := .ref q5) (ty := .array .int) (C := RX6) (T := TX6) (N := 9) hx hb hts (fun w hw => List.mem_cons_of_mem _ (in_6 w hw)) tyX6 tyX6_ok nmX6 hown hK hP hD hS 0 rfl rfl 5 (by decide) (tb _ fk_X6_28) (fun _ h9 => h9) rfl hin rfl (tyX6_ok 5 (by decide)) rfl rfl (Nat.le_of_ble_eq_true rfl) dk_X6_init_46 (fun H locs hP hD hS => ?_)
  have hP : va_P D vwCl [(h0, .inr (6, [.ref hland, .ref q1, .ref q2, .ref q3, .ref q4, .ref q5, .int 0, .int 0, .int 0])), (q1, .inl (k0, 6, .inl (fun _ => 0))), (q2, .inl (k0, 6, .inl (fun _ => 0))), (q3, .inl (k0, 8, .inl (fun _ => 0))), (q4, .inl (k0, 8, .inl (fun _ => 0))), (q5, .inl (k0, 8, .inl (fun _ => 0)))] H := hP
  have hD : va_D A [(h0, .inr (6, [.ref hland, .ref q1, .ref q2, .ref q3, .ref q4, .ref q5, .int 0, .int 0, .int 0])), (q1, .inl (k0, 6, .inl (fun _ => 0))), (q2, .inl (k0, 6, .inl (fun _ => 0))), (q3, .inl (k0, 8, .inl (fun _ => 0))), (q4, .inl (k0, 8, .inl (fun _ => 0))), (q5, .inl (k0, 8, .inl (fun _ => 0)))] := hD
  exact W.vret hx hb hr (fun t ht hW => ⟨⟨[q1, q2, q3, q4, q5], rfl, trivial, by rw [ht]; exact hP, va_K.moved hW.alike hK, hD⟩, hS.F ht⟩) hS.2.2 dk_X6_init_49
