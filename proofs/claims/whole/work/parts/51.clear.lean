/-! clearAll -/
set_option maxHeartbeats 4000000 in
set_option maxRecDepth 100000 in
theorem c_clearAll (l : Launch) (D : va_G) (k0 k1 k2 k3 : ClassId) (h0 r0 r1 r2 r3 r4 a sz : Nat) : Met l yX2_clearAll (ob_w oX2_clearAll) { frames := 1, cells := 0, slots := 0, locals := 23 } (va_Pc [.ref h0] (fun U => U.heap.size = sz ∧ va_P D vwCl [(h0, .inr (2, [.ref r0, .ref r1, .ref r2, .ref r3, .ref r4, .ref a, .int 0, .int 0, .int 0, .int 0])), (a, .inl (k0, 121, .inl (fun _ => 0)))] U.heap ∧ va_K D vwCl (kt_tys k0 k1 k2 k3) U ∧ va_D (fun _ => True) [(h0, .inr (2, [.ref r0, .ref r1, .ref r2, .ref r3, .ref r4, .ref a, .int 0, .int 0, .int 0, .int 0])), (a, .inl (k0, 121, .inl (fun _ => 0)))])) (va_Qv (fun _ : Unit => True) (fun _ t => va_P D vwCl [(h0, .inr (2, [.ref r0, .ref r1, .ref r2, .ref r3, .ref r4, .ref a, .int 12, .int 0, .int 0, .int 0])), (a, .inl (k0, 121, .inl (fun j => if j < 121 then -1 else 0)))] t.heap ∧ va_K D vwCl (kt_tys k0 k1 k2 k3) t ∧ va_D (va_A [(h0, .inr (2, [.ref r0, .ref r1, .ref r2, .ref r3, .ref r4, .ref a, .int 0, .int 0, .int 0, .int 0])), (a, .inl (k0, 121, .inl (fun _ => 0)))] sz) [(h0, .inr (2, [.ref r0, .ref r1, .ref r2, .ref r3, .ref r4, .ref a, .int 12, .int 0, .int 0, .int 0])), (a, .inl (k0, 121, .inl (fun j => if j < 121 then -1 else 0)))]) (va_A [(h0, .inr (2, [.ref r0, .ref r1, .ref r2, .ref r3, .ref r4, .ref a, .int 0, .int 0, .int 0, .int 0])), (a, .inl (k0, 121, .inl (fun _ => 0)))] sz)) 0 0 (va_A [(h0, .inr (2, [.ref r0, .ref r1, .ref r2, .ref r3, .ref r4, .ref a, .int 0, .int 0, .int 0, .int 0])), (a, .inl (k0, 121, .inl (fun _ => 0)))] sz) := by
  refine Met.ofW (cc := cX2_clearAll) (maxL := 1) (ret := none) (by decide) rfl ?_
  intro p e s m args below meth c s₁ B hml hv
  obtain ⟨rfl, hsz, hP, hK, hD0⟩ := hv
  have hx := B.exec
  have hb := B.bytes
  have hr := B.returns
  have hts := atoms_spec (ws := ob_w oX2_clearAll) B.pre
  have tb : ∀ w, w ∈ ob_good → w.before (([.ref h0] : List Value).toArray) s = true := fun w hw => hts w (List.mem_cons_of_mem _ hw)
  have hown : s.vm.findClass RX2 = some m.cls := findClass_of_methodNamed B.named
  subst hsz
  have hD := hD0.self (sz := s.heap.size)
  generalize hAe : va_A [(h0, .inr (2, [.ref r0, .ref r1, .ref r2, .ref r3, .ref r4, .ref a, .int 0, .int 0, .int 0, .int 0])), (a, .inl (k0, 121, .inl (fun _ => 0)))] s.heap.size = A at hD ⊢
  have hA : ∀ q : Nat, s.heap.size ≤ q → A q := fun q h => by rw [← hAe]; exact Or.inr h
  have hS : va_S A s.heap s.heap [] := va_S.rf
  have hl := lv_entry ([.ref h0]) (n := 1) (Nat.le_of_ble_eq_true rfl)
  rw [lg_entry_eq]
  generalize (lg_sl ([.ref h0]) ++ List.replicate (1 - (lg_sl ([.ref h0])).length) Slot.unset).toArray = ls at hl ⊢
  have hl : lv_has ls 1 [(0, .ref h0)] := hl
  refine lv_aload_n hx hb dk_clearAll_0 rfl (lv_at hl 0 rfl) ?_
  refine lv_bipush (v := 12) hx hb dk_clearAll_1 (by decide) ?_
  refine va_put (D := D) (ci := 2) (v := .int 12) (ty := .int) (C := RX2) (T := TX2) (N := 10) hx hb hts (fun w hw => List.mem_cons_of_mem _ (in_2 w hw)) tyX2 tyX2_ok nmX2 hown hK hP hD hS 0 rfl rfl 6 (by decide) (tb _ fk_X2_33) (fun _ h9 => h9) rfl (tyX2_ok 6 (by decide)) rfl rfl (Nat.le_of_ble_eq_true rfl) dk_clearAll_3 (fun H locs hP hD hS => ?_)
  have hP : va_P D vwCl [(h0, .inr (2, [.ref r0, .ref r1, .ref r2, .ref r3, .ref r4, .ref a, .int 12, .int 0, .int 0, .int 0])), (a, .inl (k0, 121, .inl (fun _ => 0)))] H := hP
  have hD : va_D A [(h0, .inr (2, [.ref r0, .ref r1, .ref r2, .ref r3, .ref r4, .ref a, .int 12, .int 0, .int 0, .int 0])), (a, .inl (k0, 121, .inl (fun _ => 0)))] := hD
  refine lv_aload_n hx hb dk_clearAll_6 rfl (lv_at hl 0 rfl) ?_
  refine lv_iconst (v := 0) hx hb dk_clearAll_7 (by decide) ?_
  refine va_put (D := D) (ci := 2) (v := .int 0) (ty := .int) (C := RX2) (T := TX2) (N := 10) hx hb hts (fun w hw => List.mem_cons_of_mem _ (in_2 w hw)) tyX2 tyX2_ok nmX2 hown hK hP hD hS 0 rfl rfl 7 (by decide) (tb _ fk_X2_37) (fun _ h9 => h9) rfl (tyX2_ok 7 (by decide)) rfl rfl (Nat.le_of_ble_eq_true rfl) dk_clearAll_8 (fun H locs hP hD hS => ?_)
  have hP : va_P D vwCl [(h0, .inr (2, [.ref r0, .ref r1, .ref r2, .ref r3, .ref r4, .ref a, .int 12, .int 0, .int 0, .int 0])), (a, .inl (k0, 121, .inl (fun _ => 0)))] H := hP
  have hD : va_D A [(h0, .inr (2, [.ref r0, .ref r1, .ref r2, .ref r3, .ref r4, .ref a, .int 12, .int 0, .int 0, .int 0])), (a, .inl (k0, 121, .inl (fun _ => 0)))] := hD
  refine lv_aload_n hx hb dk_clearAll_11 rfl (lv_at hl 0 rfl) ?_
  refine lv_iconst (v := 0) hx hb dk_clearAll_12 (by decide) ?_
  refine va_put (D := D) (ci := 2) (v := .int 0) (ty := .int) (C := RX2) (T := TX2) (N := 10) hx hb hts (fun w hw => List.mem_cons_of_mem _ (in_2 w hw)) tyX2 tyX2_ok nmX2 hown hK hP hD hS 0 rfl rfl 8 (by decide) (tb _ fk_X2_40) (fun _ h9 => h9) rfl (tyX2_ok 8 (by decide)) rfl rfl (Nat.le_of_ble_eq_true rfl) dk_clearAll_13 (fun H locs hP hD hS => ?_)
  have hP : va_P D vwCl [(h0, .inr (2, [.ref r0, .ref r1, .ref r2, .ref r3, .ref r4, .ref a, .int 12, .int 0, .int 0, .int 0])), (a, .inl (k0, 121, .inl (fun _ => 0)))] H := hP
  have hD : va_D A [(h0, .inr (2, [.ref r0, .ref r1, .ref r2, .ref r3, .ref r4, .ref a, .int 12, .int 0, .int 0, .int 0])), (a, .inl (k0, 121, .inl (fun _ => 0)))] := hD
  refine lv_aload_n hx hb dk_clearAll_16 rfl (lv_at hl 0 rfl) ?_
  refine lv_iconst (v := 0) hx hb dk_clearAll_17 (by decide) ?_
  refine va_put (D := D) (ci := 2) (v := .int 0) (ty := .int) (C := RX2) (T := TX2) (N := 10) hx hb hts (fun w hw => List.mem_cons_of_mem _ (in_2 w hw)) tyX2 tyX2_ok nmX2 hown hK hP hD hS 0 rfl rfl 9 (by decide) (tb _ fk_X2_43) (fun _ h9 => h9) rfl (tyX2_ok 9 (by decide)) rfl rfl (Nat.le_of_ble_eq_true rfl) dk_clearAll_18 (fun H locs hP hD hS => ?_)
  have hP : va_P D vwCl [(h0, .inr (2, [.ref r0, .ref r1, .ref r2, .ref r3, .ref r4, .ref a, .int 12, .int 0, .int 0, .int 0])), (a, .inl (k0, 121, .inl (fun _ => 0)))] H := hP
  have hD : va_D A [(h0, .inr (2, [.ref r0, .ref r1, .ref r2, .ref r3, .ref r4, .ref a, .int 12, .int 0, .int 0, .int 0])), (a, .inl (k0, 121, .inl (fun _ => 0)))] := hD
  refine lv_aload_n hx hb dk_clearAll_21 rfl (lv_at hl 0 rfl) ?_
  refine va_get (D := D) (ci := 2) (v := .ref a) (C := RX2) (T := TX2) (N := 10) hx hb hts (fun w hw => List.mem_cons_of_mem _ (in_2 w hw)) hown hK hP 0 rfl rfl 5 (by decide) (tb _ fk_X2_27) (fun _ h9 => h9) rfl dk_clearAll_22 ?_
  refine lv_iconst (v := -1) hx hb dk_clearAll_25 (by decide) ?_
  have hPc := hP.sub (ws' := [(a, .inl (k0, 121, .inl (fun _ => 0)))]) [1] rfl
  have hDc := hD.sub (ws' := [(a, .inl (k0, 121, .inl (fun _ => 0)))]) [1] (by decide) rfl
  have hFc := va_free (wc := [(a, .inl (k0, 121, .inl (fun _ => 0)))]) hD hS hA [1] rfl
  obtain ⟨z1, z3, z4, z5, z6, z7⟩ := ms_J7_fill_53178
  refine va_callv (va_runS (bytes := cJ7_fill_53178) (maxL := 4) (ret := none) (n := 2) (As := [.ref a, .int (-1)]) (rest := []) ⟨hx, hb, hml, hown, hts⟩ (c_fill l D k0 k1 k2 k3 a H.size (fun _ => 0) (-1)) ⟨callB_of 2 hts (ob_goodIn (y := oX2_clearAll) (z := oJ7_fill_53178) z4) rfl rfl rfl (tb _ z3) (tb _ lk9_X2_46) ⟨z5, z6, z7⟩ ⟨Nat.le_of_ble_eq_true rfl, Nat.le_of_ble_eq_true rfl⟩, (tb _ z1)⟩ ⟨fun a U g mk q => by obtain ⟨q0, q1, qP, qK, qD⟩ := q; exact ⟨q0, q1, qP, va_K.moved (u := U) (U := U.calling g mk a) (Vm.Alike.refl U.vm) qK, qD⟩, fun U hU hW => ⟨rfl, by rw [hU], by rw [hU]; exact hPc, va_K.moved hW.alike hK, hDc.weaken (fun _ _ _ _ => trivial)⟩⟩ rfl rfl hl.1 rfl (lv_room (Nat.le_of_ble_eq_true rfl)) dk_clearAll_26 ⟨Nat.le_of_ble_eq_true rfl, Nat.le_of_ble_eq_true rfl⟩) hS (fun q _ h => hFc q h) hFc (fun u t H1 locs ht hvm hw hB hz1 hk1 hS => ?_)
  obtain ⟨hP1, hK1, hD1⟩ := hB
  rw [ht] at hP1
  obtain ⟨hP, hD⟩ := va_join (wr := [(h0, .inr (2, [.ref r0, .ref r1, .ref r2, .ref r3, .ref r4, .ref a, .int 12, .int 0, .int 0, .int 0]))]) (w1 := [(a, .inl (k0, 121, .inl (fun j => if j < 121 then -1 else 0)))]) hP hD [1] [0] rfl rfl (by decide) (by decide) hk1 hFc hP1 hD1
  generalize H1 = H at hP hS ⊢
  have hP : va_P D vwCl [(h0, .inr (2, [.ref r0, .ref r1, .ref r2, .ref r3, .ref r4, .ref a, .int 12, .int 0, .int 0, .int 0])), (a, .inl (k0, 121, .inl (fun j => if j < 121 then -1 else 0)))] H := hP
  have hD : va_D A [(h0, .inr (2, [.ref r0, .ref r1, .ref r2, .ref r3, .ref r4, .ref a, .int 12, .int 0, .int 0, .int 0])), (a, .inl (k0, 121, .inl (fun j => if j < 121 then -1 else 0)))] := hD
  exact W.vret hx hb hr (fun t ht hW => ⟨⟨(), rfl, trivial, by rw [ht]; exact hP, va_K.moved hW.alike hK, hD⟩, hS.F ht⟩) hS.2.2 dk_clearAll_29
