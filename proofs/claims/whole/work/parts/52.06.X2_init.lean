/-! what is made: X2_init -/
theorem dk_X2_init_0 : decode cX2_init 0 = .ok (.aload_n 0, 1) := by decide +kernel
theorem dk_X2_init_1 : decode cX2_init 1 = .ok (.invokespecial 3, 3) := by decide +kernel
theorem dk_X2_init_4 : decode cX2_init 4 = .ok (.aload_n 0, 1) := by decide +kernel
theorem dk_X2_init_5 : decode cX2_init 5 = .ok (.bipush 6, 2) := by decide +kernel
theorem dk_X2_init_7 : decode cX2_init 7 = .ok (.newarray .int, 2) := by decide +kernel
theorem dk_X2_init_9 : decode cX2_init 9 = .ok (.putfield 9, 3) := by decide +kernel
theorem dk_X2_init_12 : decode cX2_init 12 = .ok (.aload_n 0, 1) := by decide +kernel
theorem dk_X2_init_13 : decode cX2_init 13 = .ok (.bipush 6, 2) := by decide +kernel
theorem dk_X2_init_15 : decode cX2_init 15 = .ok (.newarray .int, 2) := by decide +kernel
theorem dk_X2_init_17 : decode cX2_init 17 = .ok (.putfield 15, 3) := by decide +kernel
theorem dk_X2_init_20 : decode cX2_init 20 = .ok (.aload_n 0, 1) := by decide +kernel
theorem dk_X2_init_21 : decode cX2_init 21 = .ok (.bipush 8, 2) := by decide +kernel
theorem dk_X2_init_23 : decode cX2_init 23 = .ok (.newarray .int, 2) := by decide +kernel
theorem dk_X2_init_25 : decode cX2_init 25 = .ok (.putfield 18, 3) := by decide +kernel
theorem dk_X2_init_28 : decode cX2_init 28 = .ok (.aload_n 0, 1) := by decide +kernel
theorem dk_X2_init_29 : decode cX2_init 29 = .ok (.bipush 8, 2) := by decide +kernel
theorem dk_X2_init_31 : decode cX2_init 31 = .ok (.newarray .int, 2) := by decide +kernel
theorem dk_X2_init_33 : decode cX2_init 33 = .ok (.putfield 21, 3) := by decide +kernel
theorem dk_X2_init_36 : decode cX2_init 36 = .ok (.aload_n 0, 1) := by decide +kernel
theorem dk_X2_init_37 : decode cX2_init 37 = .ok (.bipush 8, 2) := by decide +kernel
theorem dk_X2_init_39 : decode cX2_init 39 = .ok (.newarray .int, 2) := by decide +kernel
theorem dk_X2_init_41 : decode cX2_init 41 = .ok (.putfield 24, 3) := by decide +kernel
theorem dk_X2_init_44 : decode cX2_init 44 = .ok (.aload_n 0, 1) := by decide +kernel
theorem dk_X2_init_45 : decode cX2_init 45 = .ok (.bipush 121, 2) := by decide +kernel
theorem dk_X2_init_47 : decode cX2_init 47 = .ok (.newarray .int, 2) := by decide +kernel
theorem dk_X2_init_49 : decode cX2_init 49 = .ok (.putfield 27, 3) := by decide +kernel
theorem dk_X2_init_52 : decode cX2_init 52 = .ok (.aload_n 0, 1) := by decide +kernel
theorem dk_X2_init_53 : decode cX2_init 53 = .ok (.invokevirtual 30, 3) := by decide +kernel
theorem dk_X2_init_56 : decode cX2_init 56 = .ok (.return_, 1) := by decide +kernel
def oX2_init : ob_M := (yX2_init, cX2_init, 1, none, 2, 43)
theorem cc_X2_init : Cond.code oX2_init.1 oX2_init.2.1 oX2_init.2.2.1 oX2_init.2.2.2.1 ∈ ob_good := (ob_mem 99 (by decide +kernel) (by decide +kernel))
abbrev w_X2_init (k0 k1 k2 k3 : ClassId) (h0 : Nat) (u : List Nat) : va_W := [(h0, .inr (2, [.ref (u.getD 0 0), .ref (u.getD 1 0), .ref (u.getD 2 0), .ref (u.getD 3 0), .ref (u.getD 4 0), .ref (u.getD 5 0), .int 12, .int 0, .int 0, .int 0])), ((u.getD 0 0), .inl (k0, 6, .inl (fun _ => 0))), ((u.getD 1 0), .inl (k0, 6, .inl (fun _ => 0))), ((u.getD 2 0), .inl (k0, 8, .inl (fun _ => 0))), ((u.getD 3 0), .inl (k0, 8, .inl (fun _ => 0))), ((u.getD 4 0), .inl (k0, 8, .inl (fun _ => 0))), ((u.getD 5 0), .inl (k0, 121, .inl (fun j => if j < 121 then -1 else 0)))]
set_option maxHeartbeats 4000000 in
set_option maxRecDepth 100000 in
theorem c_X2_init (l : Launch) (D : va_G) (k0 k1 k2 k3 : ClassId) (h0 sz : Nat) : Met l yX2_init (ob_w oX2_init) { frames := 2, cells := 6, slots := 157, locals := 43 } (va_Pc [.ref h0] (fun U => U.heap.size = sz ∧ va_P D vwCl [(h0, .inr (2, [.null, .null, .null, .null, .null, .null, .int 0, .int 0, .int 0, .int 0]))] U.heap ∧ va_K D vwCl (kt_tys k0 k1 k2 k3) U ∧ va_D (fun _ => True) [(h0, .inr (2, [.null, .null, .null, .null, .null, .null, .int 0, .int 0, .int 0, .int 0]))])) (va_Qv (fun _ : List Nat => True) (fun u t => va_P D vwCl (w_X2_init k0 k1 k2 k3 h0 u) t.heap ∧ va_K D vwCl (kt_tys k0 k1 k2 k3) t ∧ va_D (va_A [(h0, .inr (2, [.null, .null, .null, .null, .null, .null, .int 0, .int 0, .int 0, .int 0]))] sz) (w_X2_init k0 k1 k2 k3 h0 u)) (va_A [(h0, .inr (2, [.null, .null, .null, .null, .null, .null, .int 0, .int 0, .int 0, .int 0]))] sz)) 6 157 (va_A [(h0, .inr (2, [.null, .null, .null, .null, .null, .null, .int 0, .int 0, .int 0, .int 0]))] sz) := by
  refine Met.ofW (cc := cX2_init) (maxL := 1) (ret := none) (by decide) rfl ?_
  intro p e s m args below meth c s₁ B hml hv
  obtain ⟨rfl, hsz, hP, hK, hD0⟩ := hv
  have hx := B.exec
  have hb := B.bytes
  have hr := B.returns
  have hts := atoms_spec (ws := ob_w oX2_init) B.pre
  have tb : ∀ w, w ∈ ob_good → w.before (([.ref h0] : List Value).toArray) s = true := fun w hw => hts w (List.mem_cons_of_mem _ hw)
  have hown : s.vm.findClass RX2 = some m.cls := findClass_of_methodNamed B.named
  have hin : meth.name = "<init>" := (name_of_methodNamed B.named B.method).1
  subst hsz
  have hD := hD0.self (sz := s.heap.size)
  generalize hAe : va_A [(h0, .inr (2, [.null, .null, .null, .null, .null, .null, .int 0, .int 0, .int 0, .int 0]))] s.heap.size = A at hD ⊢
  have hA : ∀ q : Nat, s.heap.size ≤ q → A q := fun q h => by rw [← hAe]; exact Or.inr h
  have hS : va_S A s.heap s.heap [] := va_S.rf
  have hl := lv_entry ([.ref h0]) (n := 1) (Nat.le_of_ble_eq_true rfl)
  rw [lg_entry_eq]
  generalize (lg_sl ([.ref h0]) ++ List.replicate (1 - (lg_sl ([.ref h0])).length) Slot.unset).toArray = ls at hl ⊢
  have hl : lv_has ls 1 [(0, .ref h0)] := hl
  refine lv_aload_n hx hb dk_X2_init_0 rfl (lv_at hl 0 rfl) ?_
  refine W.objInit hx hb hown (tb _ oi_X2) (tb _ oi_in) (tb _ oi_cd) rfl (by rw [hml]; exact hl.1) rfl dk_X2_init_1 (Nat.le_of_ble_eq_true rfl) (Nat.le_of_ble_eq_true rfl) ?_
  refine W.eq (g2 := F0 m 4 ls []) rfl ?_
  refine lv_aload_n hx hb dk_X2_init_4 rfl (lv_at hl 0 rfl) ?_
  refine lv_bipush (v := 6) hx hb dk_X2_init_5 (by decide) ?_
  refine kt_newa (atype := .int) (ty := .int) (N' := 6) (a0 := (6, .inl (fun _ => 0))) (j := 0) (cA0 := k0) hx hb (tb (.arrayClass .int) ac_int) rfl hK rfl (fun c1 c2 e1 e2 => Option.some.inj ((va_nm_int e1).symm.trans (va_nm_int e2))) hP hD hS hA (fun _ => rfl) (by decide) (by decide) (Nat.le_of_ble_eq_true rfl) (Nat.le_of_ble_eq_true rfl) (Nat.le_of_ble_eq_true rfl) dk_X2_init_7 (fun q1 H hP hD hS => ?_)
  have hP : va_P D vwCl [(h0, .inr (2, [.null, .null, .null, .null, .null, .null, .int 0, .int 0, .int 0, .int 0])), (q1, .inl (k0, 6, .inl (fun _ => 0)))] H := hP
  have hD : va_D A [(h0, .inr (2, [.null, .null, .null, .null, .null, .null, .int 0, .int 0, .int 0, .int 0])), (q1, .inl (k0, 6, .inl (fun _ => 0)))] := hD
  refine W.widen (k := 1) (n := 6) (Nat.le_of_ble_eq_true rfl) (Nat.le_of_ble_eq_true rfl) ?_
  refine va_putF (D := D) (ci := 2) (v := .ref q1) (ty := .array .int) (C := RX2) (T := TX2) (N := 10) hx hb hts (fun w hw => List.mem_cons_of_mem _ (in_2 w hw)) tyX2 tyX2_ok nmX2 hown hK hP hD hS 0 rfl rfl 0 (by decide) (tb _ fk_X2_9) (fun _ h9 => h9) rfl hin rfl (tyX2_ok 0 (by decide)) rfl rfl (Nat.le_of_ble_eq_true rfl) dk_X2_init_9 (fun H locs hP hD hS => ?_)
  have hP : va_P D vwCl [(h0, .inr (2, [.ref q1, .null, .null, .null, .null, .null, .int 0, .int 0, .int 0, .int 0])), (q1, .inl (k0, 6, .inl (fun _ => 0)))] H := hP
  have hD : va_D A [(h0, .inr (2, [.ref q1, .null, .null, .null, .null, .null, .int 0, .int 0, .int 0, .int 0])), (q1, .inl (k0, 6, .inl (fun _ => 0)))] := hD
  refine lv_aload_n hx hb dk_X2_init_12 rfl (lv_at hl 0 rfl) ?_
  refine lv_bipush (v := 6) hx hb dk_X2_init_13 (by decide) ?_
  refine kt_newa (atype := .int) (ty := .int) (N' := 6) (a0 := (6, .inl (fun _ => 0))) (j := 0) (cA0 := k0) hx hb (tb (.arrayClass .int) ac_int) rfl hK rfl (fun c1 c2 e1 e2 => Option.some.inj ((va_nm_int e1).symm.trans (va_nm_int e2))) hP hD hS hA (fun _ => rfl) (by decide) (by decide) (Nat.le_of_ble_eq_true rfl) (Nat.le_of_ble_eq_true rfl) (Nat.le_of_ble_eq_true rfl) dk_X2_init_15 (fun q2 H hP hD hS => ?_)
  have hP : va_P D vwCl [(h0, .inr (2, [.ref q1, .null, .null, .null, .null, .null, .int 0, .int 0, .int 0, .int 0])), (q1, .inl (k0, 6, .inl (fun _ => 0))), (q2, .inl (k0, 6, .inl (fun _ => 0)))] H := hP
  have hD : va_D A [(h0, .inr (2, [.ref q1, .null, .null, .null, .null, .null, .int 0, .int 0, .int 0, .int 0])), (q1, .inl (k0, 6, .inl (fun _ => 0))), (q2, .inl (k0, 6, .inl (fun _ => 0)))] := hD
  refine W.widen (k := 2) (n := 12) (Nat.le_of_ble_eq_true rfl) (Nat.le_of_ble_eq_true rfl) ?_
  refine va_putF (D := D) (ci := 2) (v := .ref q2) (ty := .array .int) (C := RX2) (T := TX2) (N := 10) hx hb hts (fun w hw => List.mem_cons_of_mem _ (in_2 w hw)) tyX2 tyX2_ok nmX2 hown hK hP hD hS 0 rfl rfl 1 (by decide) (tb _ fk_X2_15) (fun _ h9 => h9) rfl hin rfl (tyX2_ok 1 (by decide)) rfl rfl (Nat.le_of_ble_eq_true rfl) dk_X2_init_17 (fun H locs hP hD hS => ?_)
  have hP : va_P D vwCl [(h0, .inr (2, [.ref q1, .ref q2, .null, .null, .null, .null, .int 0, .int 0, .int 0, .int 0])), (q1, .inl (k0, 6, .inl (fun _ => 0))), (q2, .inl (k0, 6, .inl (fun _ => 0)))] H := hP
  have hD : va_D A [(h0, .inr (2, [.ref q1, .ref q2, .null, .null, .null, .null, .int 0, .int 0, .int 0, .int 0])), (q1, .inl (k0, 6, .inl (fun _ => 0))), (q2, .inl (k0, 6, .inl (fun _ => 0)))] := hD
  refine lv_aload_n hx hb dk_X2_init_20 rfl (lv_at hl 0 rfl) ?_
  refine lv_bipush (v := 8) hx hb dk_X2_init_21 (by decide) ?_
  refine kt_newa (atype := .int) (ty := .int) (N' := 8) (a0 := (8, .inl (fun _ => 0))) (j := 0) (cA0 := k0) hx hb (tb (.arrayClass .int) ac_int) rfl hK rfl (fun c1 c2 e1 e2 => Option.some.inj ((va_nm_int e1).symm.trans (va_nm_int e2))) hP hD hS hA (fun _ => rfl) (by decide) (by decide) (Nat.le_of_ble_eq_true rfl) (Nat.le_of_ble_eq_true rfl) (Nat.le_of_ble_eq_true rfl) dk_X2_init_23 (fun q3 H hP hD hS => ?_)
  have hP : va_P D vwCl [(h0, .inr (2, [.ref q1, .ref q2, .null, .null, .null, .null, .int 0, .int 0, .int 0, .int 0])), (q1, .inl (k0, 6, .inl (fun _ => 0))), (q2, .inl (k0, 6, .inl (fun _ => 0))), (q3, .inl (k0, 8, .inl (fun _ => 0)))] H := hP
  have hD : va_D A [(h0, .inr (2, [.ref q1, .ref q2, .null, .null, .null, .null, .int 0, .int 0, .int 0, .int 0])), (q1, .inl (k0, 6, .inl (fun _ => 0))), (q2, .inl (k0, 6, .inl (fun _ => 0))), (q3, .inl (k0, 8, .inl (fun _ => 0)))] := hD
  refine W.widen (k := 3) (n := 20) (Nat.le_of_ble_eq_true rfl) (Nat.le_of_ble_eq_true rfl) ?_
  refine va_putF (D := D) (ci := 2) (v := .ref q3) (ty := .array .int) (C := RX2) (T := TX2) (N := 10) hx hb hts (fun w hw => List.mem_cons_of_mem _ (in_2 w hw)) tyX2 tyX2_ok nmX2 hown hK hP hD hS 0 rfl rfl 2 (by decide) (tb _ fk_X2_18) (fun _ h9 => h9) rfl hin rfl (tyX2_ok 2 (by decide)) rfl rfl (Nat.le_of_ble_eq_true rfl) dk_X2_init_25 (fun H locs hP hD hS => ?_)
  have hP : va_P D vwCl [(h0, .inr (2, [.ref q1, .ref q2, .ref q3, .null, .null, .null, .int 0, .int 0, .int 0, .int 0])), (q1, .inl (k0, 6, .inl (fun _ => 0))), (q2, .inl (k0, 6, .inl (fun _ => 0))), (q3, .inl (k0, 8, .inl (fun _ => 0)))] H := hP
  have hD : va_D A [(h0, .inr (2, [.ref q1, .ref q2, .ref q3, .null, .null, .null, .int 0, .int 0, .int 0, .int 0])), (q1, .inl (k0, 6, .inl (fun _ => 0))), (q2, .inl (k0, 6, .inl (fun _ => 0))), (q3, .inl (k0, 8, .inl (fun _ => 0)))] := hD
  refine lv_aload_n hx hb dk_X2_init_28 rfl (lv_at hl 0 rfl) ?_
  refine lv_bipush (v := 8) hx hb dk_X2_init_29 (by decide) ?_
  refine kt_newa (atype := .int) (ty := .int) (N' := 8) (a0 := (8, .inl (fun _ => 0))) (j := 0) (cA0 := k0) hx hb (tb (.arrayClass .int) ac_int) rfl hK rfl (fun c1 c2 e1 e2 => Option.some.inj ((va_nm_int e1).symm.trans (va_nm_int e2))) hP hD hS hA (fun _ => rfl) (by decide) (by decide) (Nat.le_of_ble_eq_true rfl) (Nat.le_of_ble_eq_true rfl) (Nat.le_of_ble_eq_true rfl) dk_X2_init_31 (fun q4 H hP hD hS => ?_)
  have hP : va_P D vwCl [(h0, .inr (2, [.ref q1, .ref q2, .ref q3, .null, .null, .null, .int 0, .int 0, .int 0, .int 0])), (q1, .inl (k0, 6, .inl (fun _ => 0))), (q2, .inl (k0, 6, .inl (fun _ => 0))), (q3, .inl (k0, 8, .inl (fun _ => 0))), (q4, .inl (k0, 8, .inl (fun _ => 0)))] H := hP
  have hD : va_D A [(h0, .inr (2, [.ref q1, .ref q2, .ref q3, .null, .null, .null, .int 0, .int 0, .int 0, .int 0])), (q1, .inl (k0, 6, .inl (fun _ => 0))), (q2, .inl (k0, 6, .inl (fun _ => 0))), (q3, .inl (k0, 8, .inl (fun _ => 0))), (q4, .inl (k0, 8, .inl (fun _ => 0)))] := hD
  refine W.widen (k := 4) (n := 28) (Nat.le_of_ble_eq_true rfl) (Nat.le_of_ble_eq_true rfl) ?_
  refine va_putF (D := D) (ci := 2) (v := .ref q4) (ty := .array .int) (C := RX2) (T := TX2) (N := 10) hx hb hts (fun w hw => List.mem_cons_of_mem _ (in_2 w hw)) tyX2 tyX2_ok nmX2 hown hK hP hD hS 0 rfl rfl 3 (by decide) (tb _ fk_X2_21) (fun _ h9 => h9) rfl hin rfl (tyX2_ok 3 (by decide)) rfl rfl (Nat.le_of_ble_eq_true rfl) dk_X2_init_33 (fun H locs hP hD hS => ?_)
  have hP : va_P D vwCl [(h0, .inr (2, [.ref q1, .ref q2, .ref q3, .ref q4, .null, .null, .int 0, .int 0, .int 0, .int 0])), (q1, .inl (k0, 6, .inl (fun _ => 0))), (q2, .inl (k0, 6, .inl (fun _ => 0))), (q3, .inl (k0, 8, .inl (fun _ => 0))), (q4, .inl (k0, 8, .inl (fun _ => 0)))] H := hP
  have hD : va_D A [(h0, .inr (2, [.ref q1, .ref q2, .ref q3, .ref q4, .null, .null, .int 0, .int 0, .int 0, .int 0])), (q1, .inl (k0, 6, .inl (fun _ => 0))), (q2, .inl (k0, 6, .inl (fun _ => 0))), (q3, .inl (k0, 8, .inl (fun _ => 0))), (q4, .inl (k0, 8, .inl (fun _ => 0)))] := hD
  refine lv_aload_n hx hb dk_X2_init_36 rfl (lv_at hl 0 rfl) ?_
  refine lv_bipush (v := 8) hx hb dk_X2_init_37 (by decide) ?_
  refine kt_newa (atype := .int) (ty := .int) (N' := 8) (a0 := (8, .inl (fun _ => 0))) (j := 0) (cA0 := k0) hx hb (tb (.arrayClass .int) ac_int) rfl hK rfl (fun c1 c2 e1 e2 => Option.some.inj ((va_nm_int e1).symm.trans (va_nm_int e2))) hP hD hS hA (fun _ => rfl) (by decide) (by decide) (Nat.le_of_ble_eq_true rfl) (Nat.le_of_ble_eq_true rfl) (Nat.le_of_ble_eq_true rfl) dk_X2_init_39 (fun q5 H hP hD hS => ?_)
  have hP : va_P D vwCl [(h0, .inr (2, [.ref q1, .ref q2, .ref q3, .ref q4, .null, .null, .int 0, .int 0, .int 0, .int 0])), (q1, .inl (k0, 6, .inl (fun _ => 0))), (q2, .inl (k0, 6, .inl (fun _ => 0))), (q3, .inl (k0, 8, .inl (fun _ => 0))), (q4, .inl (k0, 8, .inl (fun _ => 0))), (q5, .inl (k0, 8, .inl (fun _ => 0)))] H := hP
  have hD : va_D A [(h0, .inr (2, [.ref q1, .ref q2, .ref q3, .ref q4, .null, .null, .int 0, .int 0, .int 0, .int 0])), (q1, .inl (k0, 6, .inl (fun _ => 0))), (q2, .inl (k0, 6, .inl (fun _ => 0))), (q3, .inl (k0, 8, .inl (fun _ => 0))), (q4, .inl (k0, 8, .inl (fun _ => 0))), (q5, .inl (k0, 8, .inl (fun _ => 0)))] := hD
  refine W.widen (k := 5) (n := 36) (Nat.le_of_ble_eq_true rfl) (Nat.le_of_ble_eq_true rfl) ?_
  refine va_putF (D := D) (ci := 2) (v := .ref q5) (ty := .array .int) (C := RX2) (T := TX2) (N := 10) hx hb hts (fun w hw => List.mem_cons_of_mem _ (in_2 w hw)) tyX2 tyX2_ok nmX2 hown hK hP hD hS 0 rfl rfl 4 (by decide) (tb _ fk_X2_24) (fun _ h9 => h9) rfl hin rfl (tyX2_ok 4 (by decide)) rfl rfl (Nat.le_of_ble_eq_true rfl) dk_X2_init_41 (fun H locs hP hD hS => ?_)
  have hP : va_P D vwCl [(h0, .inr (2, [.ref q1, .ref q2, .ref q3, .ref q4, .ref q5, .null, .int 0, .int 0, .int 0, .int 0])), (q1, .inl (k0, 6, .inl (fun _ => 0))), (q2, .inl (k0, 6, .inl (fun _ => 0))), (q3, .inl (k0, 8, .inl (fun _ => 0))), (q4, .inl (k0, 8, .inl (fun _ => 0))), (q5, .inl (k0, 8, .inl (fun _ => 0)))] H := hP
  have hD : va_D A [(h0, .inr (2, [.ref q1, .ref q2, .ref q3, .ref q4, .ref q5, .null, .int 0, .int 0, .int 0, .int 0])), (q1, .inl (k0, 6, .inl (fun _ => 0))), (q2, .inl (k0, 6, .inl (fun _ => 0))), (q3, .inl (k0, 8, .inl (fun _ => 0))), (q4, .inl (k0, 8, .inl (fun _ => 0))), (q5, .inl (k0, 8, .inl (fun _ => 0)))] := hD
  refine lv_aload_n hx hb dk_X2_init_44 rfl (lv_at hl 0 rfl) ?_
  refine lv_bipush (v := 121) hx hb dk_X2_init_45 (by decide) ?_
  refine kt_newa (atype := .int) (ty := .int) (N' := 121) (a0 := (121, .inl (fun _ => 0))) (j := 0) (cA0 := k0) hx hb (tb (.arrayClass .int) ac_int) rfl hK rfl (fun c1 c2 e1 e2 => Option.some.inj ((va_nm_int e1).symm.trans (va_nm_int e2))) hP hD hS hA (fun _ => rfl) (by decide) (by decide) (Nat.le_of_ble_eq_true rfl) (Nat.le_of_ble_eq_true rfl) (Nat.le_of_ble_eq_true rfl) dk_X2_init_47 (fun q6 H hP hD hS => ?_)
  have hP : va_P D vwCl [(h0, .inr (2, [.ref q1, .ref q2, .ref q3, .ref q4, .ref q5, .null, .int 0, .int 0, .int 0, .int 0])), (q1, .inl (k0, 6, .inl (fun _ => 0))), (q2, .inl (k0, 6, .inl (fun _ => 0))), (q3, .inl (k0, 8, .inl (fun _ => 0))), (q4, .inl (k0, 8, .inl (fun _ => 0))), (q5, .inl (k0, 8, .inl (fun _ => 0))), (q6, .inl (k0, 121, .inl (fun _ => 0)))] H := hP
  have hD : va_D A [(h0, .inr (2, [.ref q1, .ref q2, .ref q3, .ref q4, .ref q5, .null, .int 0, .int 0, .int 0, .int 0])), (q1, .inl (k0, 6, .inl (fun _ => 0))), (q2, .inl (k0, 6, .inl (fun _ => 0))), (q3, .inl (k0, 8, .inl (fun _ => 0))), (q4, .inl (k0, 8, .inl (fun _ => 0))), (q5, .inl (k0, 8, .inl (fun _ => 0))), (q6, .inl (k0, 121, .inl (fun _ => 0)))] := hD
  refine W.widen (k := 6) (n := 157) (Nat.le_of_ble_eq_true rfl) (Nat.le_of_ble_eq_true rfl) ?_
  refine va_putF (D := D) (ci := 2) (v := .ref q6) (ty := .array .int) (C := RX2) (T := TX2) (N := 10) hx hb hts (fun w hw => List.mem_cons_of_mem _ (in_2 w hw)) tyX2 tyX2_ok nmX2 hown hK hP hD hS 0 rfl rfl 5 (by decide) (tb _ fk_X2_27) (fun _ h9 => h9) rfl hin rfl (tyX2_ok 5 (by decide)) rfl rfl (Nat.le_of_ble_eq_true rfl) dk_X2_init_49 (fun H locs hP hD hS => ?_)
  have hP : va_P D vwCl [(h0, .inr (2, [.ref q1, .ref q2, .ref q3, .ref q4, .ref q5, .ref q6, .int 0, .int 0, .int 0, .int 0])), (q1, .inl (k0, 6, .inl (fun _ => 0))), (q2, .inl (k0, 6, .inl (fun _ => 0))), (q3, .inl (k0, 8, .inl (fun _ => 0))), (q4, .inl (k0, 8, .inl (fun _ => 0))), (q5, .inl (k0, 8, .inl (fun _ => 0))), (q6, .inl (k0, 121, .inl (fun _ => 0)))] H := hP
  have hD : va_D A [(h0, .inr (2, [.ref q1, .ref q2, .ref q3, .ref q4, .ref q5, .ref q6, .int 0, .int 0, .int 0, .int 0])), (q1, .inl (k0, 6, .inl (fun _ => 0))), (q2, .inl (k0, 6, .inl (fun _ => 0))), (q3, .inl (k0, 8, .inl (fun _ => 0))), (q4, .inl (k0, 8, .inl (fun _ => 0))), (q5, .inl (k0, 8, .inl (fun _ => 0))), (q6, .inl (k0, 121, .inl (fun _ => 0)))] := hD
  refine lv_aload_n hx hb dk_X2_init_52 rfl (lv_at hl 0 rfl) ?_
  have hPc := hP.sub (ws' := [(h0, .inr (2, [.ref q1, .ref q2, .ref q3, .ref q4, .ref q5, .ref q6, .int 0, .int 0, .int 0, .int 0])), (q6, .inl (k0, 121, .inl (fun _ => 0)))]) [0, 6] rfl
  have hDc := hD.sub (ws' := [(h0, .inr (2, [.ref q1, .ref q2, .ref q3, .ref q4, .ref q5, .ref q6, .int 0, .int 0, .int 0, .int 0])), (q6, .inl (k0, 121, .inl (fun _ => 0)))]) [0, 6] (by decide) rfl
  have hFc := va_free (wc := [(h0, .inr (2, [.ref q1, .ref q2, .ref q3, .ref q4, .ref q5, .ref q6, .int 0, .int 0, .int 0, .int 0])), (q6, .inl (k0, 121, .inl (fun _ => 0)))]) hD hS hA [0, 6] rfl
  obtain ⟨z1, z2, z3, z4, z5, z6, z7⟩ := mv_X2_clearAll
  refine va_callv (va_runV (C := RX2) (b := h0) (bytes := cX2_clearAll) (maxL := 1) (ret := none) (n := 0) (As := []) (rest := []) ⟨hx, hb, hml, hown, hts⟩ (c_clearAll l D k0 k1 k2 k3 h0 q1 q2 q3 q4 q5 q6 H.size) ⟨callB_of 0 hts (ob_goodIn (y := oX2_init) (z := oX2_clearAll) z4) rfl rfl rfl (tb _ z3) (tb _ lk9_X2_30) ⟨z5, z6, z7⟩ ⟨Nat.le_of_ble_eq_true rfl, Nat.le_of_ble_eq_true rfl⟩, (tb _ z1), (tb _ z2)⟩ ⟨fun a U g mk q => by obtain ⟨q0, q1, qP, qK, qD⟩ := q; exact ⟨q0, q1, qP, va_K.moved (u := U) (U := U.calling g mk a) (Vm.Alike.refl U.vm) qK, qD⟩, va_recv hK hP (ci := 2) (q0 := 0) rfl rfl, fun U hU hW => ⟨rfl, by rw [hU], by rw [hU]; exact hPc, va_K.moved hW.alike hK, hDc.weaken (fun _ _ _ _ => trivial)⟩⟩ rfl rfl hl.1 rfl (lv_room (Nat.le_of_ble_eq_true rfl)) dk_X2_init_53 ⟨Nat.le_of_ble_eq_true rfl, Nat.le_of_ble_eq_true rfl⟩) hS (fun q _ h => hFc q h) hFc (fun u t H1 locs ht hvm hw hB hz1 hk1 hS => ?_)
  obtain ⟨hP1, hK1, hD1⟩ := hB
  rw [ht] at hP1
  obtain ⟨hP, hD⟩ := va_join (wr := [(q1, .inl (k0, 6, .inl (fun _ => 0))), (q2, .inl (k0, 6, .inl (fun _ => 0))), (q3, .inl (k0, 8, .inl (fun _ => 0))), (q4, .inl (k0, 8, .inl (fun _ => 0))), (q5, .inl (k0, 8, .inl (fun _ => 0)))]) (w1 := [(h0, .inr (2, [.ref q1, .ref q2, .ref q3, .ref q4, .ref q5, .ref q6, .int 12, .int 0, .int 0, .int 0])), (q6, .inl (k0, 121, .inl (fun j => if j < 121 then -1 else 0)))]) hP hD [0, 6] [1, 2, 3, 4, 5] rfl rfl (by decide) (by decide) hk1 hFc hP1 hD1
  generalize H1 = H at hP hS ⊢
  have hP : va_P D vwCl [(h0, .inr (2, [.ref q1, .ref q2, .ref q3, .ref q4, .ref q5, .ref q6, .int 12, .int 0, .int 0, .int 0])), (q1, .inl (k0, 6, .inl (fun _ => 0))), (q2, .inl (k0, 6, .inl (fun _ => 0))), (q3, .inl (k0, 8, .inl (fun _ => 0))), (q4, .inl (k0, 8, .inl (fun _ => 0))), (q5, .inl (k0, 8, .inl (fun _ => 0))), (q6, .inl (k0, 121, .inl (fun j => if j < 121 then -1 else 0)))] H := hP.sub [5, 0, 1, 2, 3, 4, 6] rfl
  have hD : va_D A [(h0, .inr (2, [.ref q1, .ref q2, .ref q3, .ref q4, .ref q5, .ref q6, .int 12, .int 0, .int 0, .int 0])), (q1, .inl (k0, 6, .inl (fun _ => 0))), (q2, .inl (k0, 6, .inl (fun _ => 0))), (q3, .inl (k0, 8, .inl (fun _ => 0))), (q4, .inl (k0, 8, .inl (fun _ => 0))), (q5, .inl (k0, 8, .inl (fun _ => 0))), (q6, .inl (k0, 121, .inl (fun j => if j < 121 then -1 else 0)))] := hD.sub [5, 0, 1, 2, 3, 4, 6] (by decide) rfl
  exact W.vret hx hb hr (fun t ht hW => ⟨⟨[q1, q2, q3, q4, q5, q6], rfl, trivial, by rw [ht]; exact hP, va_K.moved hW.alike hK, hD⟩, hS.F ht⟩) hS.2.2 dk_X2_init_56
