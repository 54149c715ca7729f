/-! what is made: X5_init -/
theorem dk_X5_init_0 : decode cX5_init 0 = .ok (.aload_n 0, 1) := by decide +kernel
theorem dk_X5_init_1 : decode cX5_init 1 = .ok (.invokespecial 3, 3) := by decide +kernel
theorem dk_X5_init_4 : decode cX5_init 4 = .ok (.aload_n 0, 1) := by decide +kernel
theorem dk_X5_init_5 : decode cX5_init 5 = .ok (.bipush 8, 2) := by decide +kernel
theorem dk_X5_init_7 : decode cX5_init 7 = .ok (.newarray .int, 2) := by decide +kernel
theorem dk_X5_init_9 : decode cX5_init 9 = .ok (.putfield 9, 3) := by decide +kernel
theorem dk_X5_init_12 : decode cX5_init 12 = .ok (.aload_n 0, 1) := by decide +kernel
theorem dk_X5_init_13 : decode cX5_init 13 = .ok (.bipush 6, 2) := by decide +kernel
theorem dk_X5_init_15 : decode cX5_init 15 = .ok (.newarray .int, 2) := by decide +kernel
theorem dk_X5_init_17 : decode cX5_init 17 = .ok (.putfield 15, 3) := by decide +kernel
theorem dk_X5_init_20 : decode cX5_init 20 = .ok (.return_, 1) := by decide +kernel
def oX5_init : ob_M := (yX5_init, cX5_init, 1, none, 1, 12)
theorem cc_X5_init : Cond.code oX5_init.1 oX5_init.2.1 oX5_init.2.2.1 oX5_init.2.2.2.1 ∈ ob_good := (ob_mem 331 (by decide +kernel) (by decide +kernel))
abbrev w_X5_init (k0 k1 k2 k3 : ClassId) (h0 : Nat) (u : List Nat) : va_W := [(h0, .inr (5, [.ref (u.getD 0 0), .ref (u.getD 1 0), .int 0])), ((u.getD 0 0), .inl (k0, 8, .inl (fun _ => 0))), ((u.getD 1 0), .inl (k0, 6, .inl (fun _ => 0)))]
set_option maxHeartbeats 4000000 in
set_option maxRecDepth 100000 in
theorem c_X5_init (l : Launch) (D : va_G) (k0 k1 k2 k3 : ClassId) (h0 sz : Nat) : Met l yX5_init (ob_w oX5_init) { frames := 1, cells := 2, slots := 14, locals := 12 } (va_Pc [.ref h0] (fun U => U.heap.size = sz ∧ va_P D vwCl [(h0, .inr (5, [.null, .null, .int 0]))] U.heap ∧ va_K D vwCl (kt_tys k0 k1 k2 k3) U ∧ va_D (fun _ => True) [(h0, .inr (5, [.null, .null, .int 0]))])) (va_Qv (fun _ : List Nat => True) (fun u t => va_P D vwCl (w_X5_init k0 k1 k2 k3 h0 u) t.heap ∧ va_K D vwCl (kt_tys k0 k1 k2 k3) t ∧ va_D (va_A [(h0, .inr (5, [.null, .null, .int 0]))] sz) (w_X5_init k0 k1 k2 k3 h0 u)) (va_A [(h0, .inr (5, [.null, .null, .int 0]))] sz)) 2 14 (va_A [(h0, .inr (5, [.null, .null, .int 0]))] sz) := by
  refine Met.ofW (cc := cX5_init) (maxL := 1) (ret := none) (by decide) rfl ?_
  intro p e s m args below meth c s₁ B hml hv
  obtain ⟨rfl, hsz, hP, hK, hD0⟩ := hv
  have hx := B.exec
  have hb := B.bytes
  have hr := B.returns
  have hts := atoms_spec (ws := ob_w oX5_init) B.pre
  have tb : ∀ w, w ∈ ob_good → w.before (([.ref h0] : List Value).toArray) s = true := fun w hw => hts w (List.mem_cons_of_mem _ hw)
  have hown : s.vm.findClass RX5 = some m.cls := findClass_of_methodNamed B.named
  have hin : meth.name = "<init>" := (name_of_methodNamed B.named B.method).1
  subst hsz
  have hD := hD0.self (sz := s.heap.size)
  generalize hAe : va_A [(h0, .inr (5, [.null, .null, .int 0]))] s.heap.size = A at hD ⊢
  have hA : ∀ q : Nat, s.heap.size ≤ q → A q := fun q h => by rw [← hAe]; exact Or.inr h
  have hS : va_S A s.heap s.heap [] := va_S.rf
  have hl := lv_entry ([.ref h0]) (n := 1) (Nat.le_of_ble_eq_true rfl)
  rw [lg_entry_eq]
  generalize (lg_sl ([.ref h0]) ++ List.replicate (1 - (lg_sl ([.ref h0])).length) Slot.unset).toArray = ls at hl ⊢
  have hl : lv_has ls 1 [(0, .ref h0)] := hl
  refine lv_aload_n hx hb dk_X5_init_0 rfl (lv_at hl 0 rfl) ?_
  refine W.objInit hx hb hown (tb _ oi_X5) (tb _ oi_in) (tb _ oi_cd) rfl (by rw [hml]; exact hl.1) rfl dk_X5_init_1 (Nat.le_of_ble_eq_true rfl) (Nat.le_of_ble_eq_true rfl) ?_
  refine W.eq (g2 := F0 m 4 ls []) rfl ?_
  refine lv_aload_n hx hb dk_X5_init_4 rfl (lv_at hl 0 rfl) ?_
  refine lv_bipush (v := 8) hx hb dk_X5_init_5 (by decide) ?_
  refine kt_newa (atype := .int) (ty := .int) (N' := 8) (a0 := (8, .inl (fun _ => 0))) (j := 0) (cA0 := k0) hx hb (tb (.arrayClass .int) ac_int) rfl hK rfl (fun c1 c2 e1 e2 => Option.some.inj ((va_nm_int e1).symm.trans (va_nm_int e2))) hP hD hS hA (fun _ => rfl) (by decide) (by decide) (Nat.le_of_ble_eq_true rfl) (Nat.le_of_ble_eq_true rfl) (Nat.le_of_ble_eq_true rfl) dk_X5_init_7 (fun q1 H hP hD hS => ?_)
  have hP : va_P D vwCl [(h0, .inr (5, [.null, .null, .int 0])), (q1, .inl (k0, 8, .inl (fun _ => 0)))] H := hP
  have hD : va_D A [(h0, .inr (5, [.null, .null, .int 0])), (q1, .inl (k0, 8, .inl (fun _ => 0)))] := hD
  refine W.widen (k := 1) (n := 8) (Nat.le_of_ble_eq_true rfl) (Nat.le_of_ble_eq_true rfl) ?_
  refine va_putF (D := D) (ci := 5) (v := .ref q1) (ty := .array .int) (C := RX5) (T := TX5) (N := 3) hx hb hts (fun w hw => List.mem_cons_of_mem _ (in_5 w hw)) tyX5 tyX5_ok nmX5 hown hK hP hD hS 0 rfl rfl 0 (by decide) (tb _ fk_X5_9) (fun _ h9 => h9) rfl hin rfl (tyX5_ok 0 (by decide)) rfl rfl (Nat.le_of_ble_eq_true rfl) dk_X5_init_9 (fun H locs hP hD hS => ?_)
  have hP : va_P D vwCl [(h0, .inr (5, [.ref q1, .null, .int 0])), (q1, .inl (k0, 8, .inl (fun _ => 0)))] H := hP
  have hD : va_D A [(h0, .inr (5, [.ref q1, .null, .int 0])), (q1, .inl (k0, 8, .inl (fun _ => 0)))] := hD
  refine lv_aload_n hx hb dk_X5_init_12 rfl (lv_at hl 0 rfl) ?_
  refine lv_bipush (v := 6) hx hb dk_X5_init_13 (by decide) ?_
  refine kt_newa (atype := .int) (ty := .int) (N' := 6) (a0 := (6, .inl (fun _ => 0))) (j := 0) (cA0 := k0) hx hb (tb (.arrayClass .int) ac_int) rfl hK rfl (fun c1 c2 e1 e2 => Option.some.inj ((va_nm_int e1).symm.trans (va_nm_int e2))) hP hD hS hA (fun _ => rfl) (by decide) (by decide) (Nat.le_of_ble_eq_true rfl) (Nat.le_of_ble_eq_true rfl) (Nat.le_of_ble_eq_true rfl) dk_X5_init_15 (fun q2 H hP hD hS => ?_)
  have hP : va_P D vwCl [(h0, .inr (5, [.ref q1, .null, .int 0])), (q1, .inl (k0, 8, .inl (fun _ => 0))), (q2, .inl (k0, 6, .inl (fun _ => 0)))] H := hP
  have hD : va_D A [(h0, .inr (5, [.ref q1, .null, .int 0])), (q1, .inl (k0, 8, .inl (fun _ => 0))), (q2, .inl (k0, 6, .inl (fun _ => 0)))] := hD
  refine W.widen (k := 2) (n := 14) (Nat.le_of_ble_eq_true rfl) (Nat.le_of_ble_eq_true rfl) ?_
  refine va_putF (D := D) (ci := 5) (v := .ref q2) (ty := .array .int) (C := RX5) (T := TX5) (N := 3) hx hb hts (fun w hw => List.mem_cons_of_mem _ (in_5 w hw)) tyX5 tyX5_ok nmX5 hown hK hP hD hS 0 rfl rfl 1 (by decide) (tb _ fk_X5_15) (fun _ h9 => h9) rfl hin rfl (tyX5_ok 1 (by decide)) rfl rfl (Nat.le_of_ble_eq_true rfl) dk_X5_init_17 (fun H locs hP hD hS => ?_)
  have hP : va_P D vwCl [(h0, .inr (5, [.ref q1, .ref q2, .int 0])), (q1, .inl (k0, 8, .inl (fun _ => 0))), (q2, .inl (k0, 6, .inl (fun _ => 0)))] H := hP
  have hD : va_D A [(h0, .inr (5, [.ref q1, .ref q2, .int 0])), (q1, .inl (k0, 8, .inl (fun _ => 0))), (q2, .inl (k0, 6, .inl (fun _ => 0)))] := hD
  exact W.vret hx hb hr (fun t ht hW => ⟨⟨[q1, q2], rfl, trivial, by rw [ht]; exact hP, va_K.moved hW.alike hK, hD⟩, hS.F ht⟩) hS.2.2 dk_X5_init_20
