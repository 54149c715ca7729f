/-! what is made: X1_init -/
theorem dk_X1_init_0 : decode cX1_init 0 = .ok (.aload_n 0, 1) := by decide +kernel
theorem dk_X1_init_1 : decode cX1_init 1 = .ok (.invokespecial 5, 3) := by decide +kernel
theorem dk_X1_init_4 : decode cX1_init 4 = .ok (.aload_n 0, 1) := by decide +kernel
theorem dk_X1_init_5 : decode cX1_init 5 = .ok (.sipush 256, 3) := by decide +kernel
theorem dk_X1_init_8 : decode cX1_init 8 = .ok (.newarray .int, 2) := by decide +kernel
theorem dk_X1_init_10 : decode cX1_init 10 = .ok (.putfield 11, 3) := by decide +kernel
theorem dk_X1_init_13 : decode cX1_init 13 = .ok (.aload_n 0, 1) := by decide +kernel
theorem dk_X1_init_14 : decode cX1_init 14 = .ok (.sipush 256, 3) := by decide +kernel
theorem dk_X1_init_17 : decode cX1_init 17 = .ok (.newarray .long, 2) := by decide +kernel
theorem dk_X1_init_19 : decode cX1_init 19 = .ok (.putfield 17, 3) := by decide +kernel
theorem dk_X1_init_22 : decode cX1_init 22 = .ok (.aload_n 0, 1) := by decide +kernel
theorem dk_X1_init_23 : decode cX1_init 23 = .ok (.sipush 256, 3) := by decide +kernel
theorem dk_X1_init_26 : decode cX1_init 26 = .ok (.newarray .int, 2) := by decide +kernel
theorem dk_X1_init_28 : decode cX1_init 28 = .ok (.putfield 21, 3) := by decide +kernel
theorem dk_X1_init_31 : decode cX1_init 31 = .ok (.aload_n 0, 1) := by decide +kernel
theorem dk_X1_init_32 : decode cX1_init 32 = .ok (.sipush 1792, 3) := by decide +kernel
theorem dk_X1_init_35 : decode cX1_init 35 = .ok (.newarray .long, 2) := by decide +kernel
theorem dk_X1_init_37 : decode cX1_init 37 = .ok (.putfield 24, 3) := by decide +kernel
theorem dk_X1_init_40 : decode cX1_init 40 = .ok (.return_, 1) := by decide +kernel
def oX1_init : ob_M := (yX1_init, cX1_init, 1, none, 1, 12)
theorem cc_X1_init : Cond.code oX1_init.1 oX1_init.2.1 oX1_init.2.2.1 oX1_init.2.2.2.1 ∈ ob_good := (ob_mem 303 (by decide +kernel) (by decide +kernel))
abbrev w_X1_init (k0 k1 k2 k3 : ClassId) (h0 : Nat) (u : List Nat) : va_W := [(h0, .inr (1, [.ref (u.getD 0 0), .ref (u.getD 1 0), .ref (u.getD 2 0), .ref (u.getD 3 0), .int 0, .int 0, .long 0])), ((u.getD 0 0), .inl (k0, 256, .inl (fun _ => 0))), ((u.getD 1 0), .inl (k3, 256, .inr (.inl (fun _ => 0)))), ((u.getD 2 0), .inl (k0, 256, .inl (fun _ => 0))), ((u.getD 3 0), .inl (k3, 1792, .inr (.inl (fun _ => 0))))]
set_option maxHeartbeats 4000000 in
set_option maxRecDepth 100000 in
theorem c_X1_init (l : Launch) (D : va_G) (k0 k1 k2 k3 : ClassId) (h0 sz : Nat) : Met l yX1_init (ob_w oX1_init) { frames := 1, cells := 4, slots := 2560, locals := 12 } (va_Pc [.ref h0] (fun U => U.heap.size = sz ∧ va_P D vwCl [(h0, .inr (1, [.null, .null, .null, .null, .int 0, .int 0, .long 0]))] U.heap ∧ va_K D vwCl (kt_tys k0 k1 k2 k3) U ∧ va_D (fun _ => True) [(h0, .inr (1, [.null, .null, .null, .null, .int 0, .int 0, .long 0]))])) (va_Qv (fun _ : List Nat => True) (fun u t => va_P D vwCl (w_X1_init k0 k1 k2 k3 h0 u) t.heap ∧ va_K D vwCl (kt_tys k0 k1 k2 k3) t ∧ va_D (va_A [(h0, .inr (1, [.null, .null, .null, .null, .int 0, .int 0, .long 0]))] sz) (w_X1_init k0 k1 k2 k3 h0 u)) (va_A [(h0, .inr (1, [.null, .null, .null, .null, .int 0, .int 0, .long 0]))] sz)) 4 2560 (va_A [(h0, .inr (1, [.null, .null, .null, .null, .int 0, .int 0, .long 0]))] sz) := by
  refine Met.ofW (cc := cX1_init) (maxL := 1) (ret := none) (by decide) rfl ?_
  intro p e s m args below meth c s₁ B hml hv
  obtain ⟨rfl, hsz, hP, hK, hD0⟩ := hv
  have hx := B.exec
  have hb := B.bytes
  have hr := B.returns
  have hts := atoms_spec (ws := ob_w oX1_init) B.pre
  have tb : ∀ w, w ∈ ob_good → w.before (([.ref h0] : List Value).toArray) s = true := fun w hw => hts w (List.mem_cons_of_mem _ hw)
  have hown : s.vm.findClass RX1 = some m.cls := findClass_of_methodNamed B.named
  have hin : meth.name = "<init>" := (name_of_methodNamed B.named B.method).1
  subst hsz
  have hD := hD0.self (sz := s.heap.size)
  generalize hAe : va_A [(h0, .inr (1, [.null, .null, .null, .null, .int 0, .int 0, .long 0]))] s.heap.size = A at hD ⊢
  have hA : ∀ q : Nat, s.heap.size ≤ q → A q := fun q h => by rw [← hAe]; exact Or.inr h
  have hS : va_S A s.heap s.heap [] := va_S.rf
  have hl := lv_entry ([.ref h0]) (n := 1) (Nat.le_of_ble_eq_true rfl)
  rw [lg_entry_eq]
  generalize (lg_sl ([.ref h0]) ++ List.replicate (1 - (lg_sl ([.ref h0])).length) Slot.unset).toArray = ls at hl ⊢
  have hl : lv_has ls 1 [(0, .ref h0)] := hl
  refine lv_aload_n hx hb dk_X1_init_0 rfl (lv_at hl 0 rfl) ?_
  refine W.objInit hx hb hown (tb _ oi_X1) (tb _ oi_in) (tb _ oi_cd) rfl (by rw [hml]; exact hl.1) rfl dk_X1_init_1 (Nat.le_of_ble_eq_true rfl) (Nat.le_of_ble_eq_true rfl) ?_
  refine W.eq (g2 := F0 m 4 ls []) rfl ?_
  refine lv_aload_n hx hb dk_X1_init_4 rfl (lv_at hl 0 rfl) ?_
  refine lv_sipush (v := 256) hx hb dk_X1_init_5 (by decide) ?_
  refine kt_newa (atype := .int) (ty := .int) (N' := 256) (a0 := (256, .inl (fun _ => 0))) (j := 0) (cA0 := k0) hx hb (tb (.arrayClass .int) ac_int) rfl hK rfl (fun c1 c2 e1 e2 => Option.some.inj ((va_nm_int e1).symm.trans (va_nm_int e2))) hP hD hS hA (fun _ => rfl) (by decide) (by decide) (Nat.le_of_ble_eq_true rfl) (Nat.le_of_ble_eq_true rfl) (Nat.le_of_ble_eq_true rfl) dk_X1_init_8 (fun q1 H hP hD hS => ?_)
  have hP : va_P D vwCl [(h0, .inr (1, [.null, .null, .null, .null, .int 0, .int 0, .long 0])), (q1, .inl (k0, 256, .inl (fun _ => 0)))] H := hP
  have hD : va_D A [(h0, .inr (1, [.null, .null, .null, .null, .int 0, .int 0, .long 0])), (q1, .inl (k0, 256, .inl (fun _ => 0)))] := hD
  refine W.widen (k := 1) (n := 256) (Nat.le_of_ble_eq_true rfl) (Nat.le_of_ble_eq_true rfl) ?_
  refine va_putF (D := D) (ci := 1) (v := .ref q1) (ty := .array .int) (C := RX1) (T := TX1) (N := 7) hx hb hts (fun w hw => List.mem_cons_of_mem _ (in_1 w hw)) tyX1 tyX1_ok nmX1 hown hK hP hD hS 0 rfl rfl 0 (by decide) (tb _ fk_X1_11) (fun _ h9 => h9) rfl hin rfl (tyX1_ok 0 (by decide)) rfl rfl (Nat.le_of_ble_eq_true rfl) dk_X1_init_10 (fun H locs hP hD hS => ?_)
  have hP : va_P D vwCl [(h0, .inr (1, [.ref q1, .null, .null, .null, .int 0, .int 0, .long 0])), (q1, .inl (k0, 256, .inl (fun _ => 0)))] H := hP
  have hD : va_D A [(h0, .inr (1, [.ref q1, .null, .null, .null, .int 0, .int 0, .long 0])), (q1, .inl (k0, 256, .inl (fun _ => 0)))] := hD
  refine lv_aload_n hx hb dk_X1_init_13 rfl (lv_at hl 0 rfl) ?_
  refine lv_sipush (v := 256) hx hb dk_X1_init_14 (by decide) ?_
  refine kt_newa (atype := .long) (ty := .long) (N' := 256) (a0 := (256, .inr (.inl (fun _ => 0)))) (j := 3) (cA0 := k3) hx hb (tb (.arrayClass .long) ac_long) rfl hK rfl (fun c1 c2 e1 e2 => Option.some.inj ((va_nm_long e1).symm.trans (va_nm_long e2))) hP hD hS hA (fun _ => rfl) (by decide) (by decide) (Nat.le_of_ble_eq_true rfl) (Nat.le_of_ble_eq_true rfl) (Nat.le_of_ble_eq_true rfl) dk_X1_init_17 (fun q2 H hP hD hS => ?_)
  have hP : va_P D vwCl [(h0, .inr (1, [.ref q1, .null, .null, .null, .int 0, .int 0, .long 0])), (q1, .inl (k0, 256, .inl (fun _ => 0))), (q2, .inl (k3, 256, .inr (.inl (fun _ => 0))))] H := hP
  have hD : va_D A [(h0, .inr (1, [.ref q1, .null, .null, .null, .int 0, .int 0, .long 0])), (q1, .inl (k0, 256, .inl (fun _ => 0))), (q2, .inl (k3, 256, .inr (.inl (fun _ => 0))))] := hD
  refine W.widen (k := 2) (n := 512) (Nat.le_of_ble_eq_true rfl) (Nat.le_of_ble_eq_true rfl) ?_
  refine va_putF (D := D) (ci := 1) (v := .ref q2) (ty := .array .long) (C := RX1) (T := TX1) (N := 7) hx hb hts (fun w hw => List.mem_cons_of_mem _ (in_1 w hw)) tyX1 tyX1_ok nmX1 hown hK hP hD hS 0 rfl rfl 1 (by decide) (tb _ fk_X1_17) (fun _ h9 => h9) rfl hin rfl (tyX1_ok 1 (by decide)) rfl rfl (Nat.le_of_ble_eq_true rfl) dk_X1_init_19 (fun H locs hP hD hS => ?_)
  have hP : va_P D vwCl [(h0, .inr (1, [.ref q1, .ref q2, .null, .null, .int 0, .int 0, .long 0])), (q1, .inl (k0, 256, .inl (fun _ => 0))), (q2, .inl (k3, 256, .inr (.inl (fun _ => 0))))] H := hP
  have hD : va_D A [(h0, .inr (1, [.ref q1, .ref q2, .null, .null, .int 0, .int 0, .long 0])), (q1, .inl (k0, 256, .inl (fun _ => 0))), (q2, .inl (k3, 256, .inr (.inl (fun _ => 0))))] := hD
  refine lv_aload_n hx hb dk_X1_init_22 rfl (lv_at hl 0 rfl) ?_
  refine lv_sipush (v := 256) hx hb dk_X1_init_23 (by decide) ?_
  refine kt_newa (atype := .int) (ty := .int) (N' := 256) (a0 := (256, .inl (fun _ => 0))) (j := 0) (cA0 := k0) hx hb (tb (.arrayClass .int) ac_int) rfl hK rfl (fun c1 c2 e1 e2 => Option.some.inj ((va_nm_int e1).symm.trans (va_nm_int e2))) hP hD hS hA (fun _ => rfl) (by decide) (by decide) (Nat.le_of_ble_eq_true rfl) (Nat.le_of_ble_eq_true rfl) (Nat.le_of_ble_eq_true rfl) dk_X1_init_26 (fun q3 H hP hD hS => ?_)
  have hP : va_P D vwCl [(h0, .inr (1, [.ref q1, .ref q2, .null, .null, .int 0, .int 0, .long 0])), (q1, .inl (k0, 256, .inl (fun _ => 0))), (q2, .inl (k3, 256, .inr (.inl (fun _ => 0)))), (q3, .inl (k0, 256, .inl (fun _ => 0)))] H := hP
  have hD : va_D A [(h0, .inr (1, [.ref q1, .ref q2, .null, .null, .int 0, .int 0, .long 0])), (q1, .inl (k0, 256, .inl (fun _ => 0))), (q2, .inl (k3, 256, .inr (.inl (fun _ => 0)))), (q3, .inl (k0, 256, .inl (fun _ => 0)))] := hD
  refine W.widen (k := 3) (n := 768) (Nat.le_of_ble_eq_true rfl) (Nat.le_of_ble_eq_true rfl) ?_
  refine va_putF (D := D) (ci := 1) (v := .ref q3) (ty := .array .int) (C := RX1) (T := TX1) (N := 7) hx hb hts (fun w hw => List.mem_cons_of_mem _ (in_1 w hw)) tyX1 tyX1_ok nmX1 hown hK hP hD hS 0 rfl rfl 2 (by decide) (tb _ fk_X1_21) (fun _ h9 => h9) rfl hin rfl (tyX1_ok 2 (by decide)) rfl rfl (Nat.le_of_ble_eq_true rfl) dk_X1_init_28 (fun H locs hP hD hS => ?_)
  have hP : va_P D vwCl [(h0, .inr (1, [.ref q1, .ref q2, .ref q3, .null, .int 0, .int 0, .long 0])), (q1, .inl (k0, 256, .inl (fun _ => 0))), (q2, .inl (k3, 256, .inr (.inl (fun _ => 0)))), (q3, .inl (k0, 256, .inl (fun _ => 0)))] H := hP
  have hD : va_D A [(h0, .inr (1, [.ref q1, .ref q2, .ref q3, .null, .int 0, .int 0, .long 0])), (q1, .inl (k0, 256, .inl (fun _ => 0))), (q2, .inl (k3, 256, .inr (.inl (fun _ => 0)))), (q3, .inl (k0, 256, .inl (fun _ => 0)))] := hD
  refine lv_aload_n hx hb dk_X1_init_31 rfl (lv_at hl 0 rfl) ?_
  refine lv_sipush (v := 1792) hx hb dk_X1_init_32 (by decide) ?_
  refine kt_newa (atype := .long) (ty := .long) (N' := 1792) (a0 := (1792, .inr (.inl (fun _ => 0)))) (j := 3) (cA0 := k3) hx hb (tb (.arrayClass .long) ac_long) rfl hK rfl (fun c1 c2 e1 e2 => Option.some.inj ((va_nm_long e1).symm.trans (va_nm_long e2))) hP hD hS hA (fun _ => rfl) (by decide) (by decide) (Nat.le_of_ble_eq_true rfl) (Nat.le_of_ble_eq_true rfl) (Nat.le_of_ble_eq_true rfl) dk_X1_init_35 (fun q4 H hP hD hS => ?_)
  have hP : va_P D vwCl [(h0, .inr (1, [.ref q1, .ref q2, .ref q3, .null, .int 0, .int 0, .long 0])), (q1, .inl (k0, 256, .inl (fun _ => 0))), (q2, .inl (k3, 256, .inr (.inl (fun _ => 0)))), (q3, .inl (k0, 256, .inl (fun _ => 0))), (q4, .inl (k3, 1792, .inr (.inl (fun _ => 0))))] H := hP
  have hD : va_D A [(h0, .inr (1, [.ref q1, .ref q2, .ref q3, .null, .int 0, .int 0, .long 0])), (q1, .inl (k0, 256, .inl (fun _ => 0))), (q2, .inl (k3, 256, .inr (.inl (fun _ => 0)))), (q3, .inl (k0, 256, .inl (fun _ => 0))), (q4, .inl (k3, 1792, .inr (.inl (fun _ => 0))))] := hD
  refine W.widen (k := 4) (n := 2560) (Nat.le_of_ble_eq_true rfl) (Nat.le_of_ble_eq_true rfl) ?_
  refine va_putF (D := D) (ci := 1) (v := .ref q4) (ty := .array .long) (C := RX1) (T := TX1) (N := 7) hx hb hts (fun w hw => List.mem_cons_of_mem _ (in_1 w hw)) tyX1 tyX1_ok nmX1 hown hK hP hD hS 0 rfl rfl 3 (by decide) (tb _ fk_X1_24) (fun _ h9 => h9) rfl hin rfl (tyX1_ok 3 (by decide)) rfl rfl (Nat.le_of_ble_eq_true rfl) dk_X1_init_37 (fun H locs hP hD hS => ?_)
  have hP : va_P D vwCl [(h0, .inr (1, [.ref q1, .ref q2, .ref q3, .ref q4, .int 0, .int 0, .long 0])), (q1, .inl (k0, 256, .inl (fun _ => 0))), (q2, .inl (k3, 256, .inr (.inl (fun _ => 0)))), (q3, .inl (k0, 256, .inl (fun _ => 0))), (q4, .inl (k3, 1792, .inr (.inl (fun _ => 0))))] H := hP
  have hD : va_D A [(h0, .inr (1, [.ref q1, .ref q2, .ref q3, .ref q4, .int 0, .int 0, .long 0])), (q1, .inl (k0, 256, .inl (fun _ => 0))), (q2, .inl (k3, 256, .inr (.inl (fun _ => 0)))), (q3, .inl (k0, 256, .inl (fun _ => 0))), (q4, .inl (k3, 1792, .inr (.inl (fun _ => 0))))] := hD
  exact W.vret hx hb hr (fun t ht hW => ⟨⟨[q1, q2, q3, q4], rfl, trivial, by rw [ht]; exact hP, va_K.moved hW.alike hK, hD⟩, hS.F ht⟩) hS.2.2 dk_X1_init_40
