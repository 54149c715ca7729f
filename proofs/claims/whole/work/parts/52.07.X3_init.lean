/-! what is made: X3_init -/
theorem dk_X3_init_0 : decode cX3_init 0 = .ok (.aload_n 0, 1) := by decide +kernel
theorem dk_X3_init_1 : decode cX3_init 1 = .ok (.invokespecial 3, 3) := by decide +kernel
theorem dk_X3_init_4 : decode cX3_init 4 = .ok (.aload_n 0, 1) := by decide +kernel
theorem dk_X3_init_5 : decode cX3_init 5 = .ok (.sipush 500, 3) := by decide +kernel
theorem dk_X3_init_8 : decode cX3_init 8 = .ok (.newarray .byte, 2) := by decide +kernel
theorem dk_X3_init_10 : decode cX3_init 10 = .ok (.putfield 9, 3) := by decide +kernel
theorem dk_X3_init_13 : decode cX3_init 13 = .ok (.aload_n 0, 1) := by decide +kernel
theorem dk_X3_init_14 : decode cX3_init 14 = .ok (.new 15, 3) := by decide +kernel
theorem dk_X3_init_17 : decode cX3_init 17 = .ok (.dup, 1) := by decide +kernel
theorem dk_X3_init_18 : decode cX3_init 18 = .ok (.invokespecial 17, 3) := by decide +kernel
theorem dk_X3_init_21 : decode cX3_init 21 = .ok (.putfield 18, 3) := by decide +kernel
theorem dk_X3_init_24 : decode cX3_init 24 = .ok (.aload_n 0, 1) := by decide +kernel
theorem dk_X3_init_25 : decode cX3_init 25 = .ok (.iconst (-1), 1) := by decide +kernel
theorem dk_X3_init_26 : decode cX3_init 26 = .ok (.putfield 22, 3) := by decide +kernel
theorem dk_X3_init_29 : decode cX3_init 29 = .ok (.return_, 1) := by decide +kernel
def oX3_init : ob_M := (yX3_init, cX3_init, 1, none, 3, 63)
theorem cc_X3_init : Cond.code oX3_init.1 oX3_init.2.1 oX3_init.2.2.1 oX3_init.2.2.2.1 ∈ ob_good := (ob_mem 93 (by decide +kernel) (by decide +kernel))
abbrev w_X3_init (k0 k1 k2 k3 : ClassId) (h0 : Nat) (u : List Nat) : va_W := [(h0, .inr (3, [.ref (u.getD 0 0), .ref (u.getD 1 0), .int 0, .int 0, .int 0, .int (-1), .int 0, .int 0])), ((u.getD 0 0), .inl (k1, 500, .inl (fun _ => 0))), ((u.getD 1 0), .inr (2, [.ref (u.getD 2 0), .ref (u.getD 3 0), .ref (u.getD 4 0), .ref (u.getD 5 0), .ref (u.getD 6 0), .ref (u.getD 7 0), .int 12, .int 0, .int 0, .int 0])), ((u.getD 2 0), .inl (k0, 6, .inl (fun _ => 0))), ((u.getD 3 0), .inl (k0, 6, .inl (fun _ => 0))), ((u.getD 4 0), .inl (k0, 8, .inl (fun _ => 0))), ((u.getD 5 0), .inl (k0, 8, .inl (fun _ => 0))), ((u.getD 6 0), .inl (k0, 8, .inl (fun _ => 0))), ((u.getD 7 0), .inl (k0, 121, .inl (fun j => if j < 121 then -1 else 0)))]
set_option maxHeartbeats 4000000 in
set_option maxRecDepth 100000 in
theorem c_X3_init (l : Launch) (D : va_G) (k0 k1 k2 k3 : ClassId) (h0 sz : Nat) : Met l yX3_init (ob_w oX3_init) { frames := 3, cells := 8, slots := 667, locals := 63 } (va_Pc [.ref h0] (fun U => U.heap.size = sz ∧ va_P D vwCl [(h0, .inr (3, [.null, .null, .int 0, .int 0, .int 0, .int 0, .int 0, .int 0]))] U.heap ∧ va_K D vwCl (kt_tys k0 k1 k2 k3) U ∧ va_D (fun _ => True) [(h0, .inr (3, [.null, .null, .int 0, .int 0, .int 0, .int 0, .int 0, .int 0]))])) (va_Qv (fun _ : List Nat => True) (fun u t => va_P D vwCl (w_X3_init k0 k1 k2 k3 h0 u) t.heap ∧ va_K D vwCl (kt_tys k0 k1 k2 k3) t ∧ va_D (va_A [(h0, .inr (3, [.null, .null, .int 0, .int 0, .int 0, .int 0, .int 0, .int 0]))] sz) (w_X3_init k0 k1 k2 k3 h0 u)) (va_A [(h0, .inr (3, [.null, .null, .int 0, .int 0, .int 0, .int 0, .int 0, .int 0]))] sz)) 8 667 (va_A [(h0, .inr (3, [.null, .null, .int 0, .int 0, .int 0, .int 0, .int 0, .int 0]))] sz) := by
  refine Met.ofW (cc := cX3_init) (maxL := 1) (ret := none) (by decide) rfl ?_
  intro p e s m args below meth c s₁ B hml hv
  obtain ⟨rfl, hsz, hP, hK, hD0⟩ := hv
  have hx := B.exec
  have hb := B.bytes
  have hr := B.returns
  have hts := atoms_spec (ws := ob_w oX3_init) B.pre
  have tb : ∀ w, w ∈ ob_good → w.before (([.ref h0] : List Value).toArray) s = true := fun w hw => hts w (List.mem_cons_of_mem _ hw)
  have hown : s.vm.findClass RX3 = some m.cls := findClass_of_methodNamed B.named
  have hin : meth.name = "<init>" := (name_of_methodNamed B.named B.method).1
  subst hsz
  have hD := hD0.self (sz := s.heap.size)
  generalize hAe : va_A [(h0, .inr (3, [.null, .null, .int 0, .int 0, .int 0, .int 0, .int 0, .int 0]))] s.heap.size = A at hD ⊢
  have hA : ∀ q : Nat, s.heap.size ≤ q → A q := fun q h => by rw [← hAe]; exact Or.inr h
  have hS : va_S A s.heap s.heap [] := va_S.rf
  have hl := lv_entry ([.ref h0]) (n := 1) (Nat.le_of_ble_eq_true rfl)
  rw [lg_entry_eq]
  generalize (lg_sl ([.ref h0]) ++ List.replicate (1 - (lg_sl ([.ref h0])).length) Slot.unset).toArray = ls at hl ⊢
  have hl : lv_has ls 1 [(0, .ref h0)] := hl
  refine lv_aload_n hx hb dk_X3_init_0 rfl (lv_at hl 0 rfl) ?_
  refine W.objInit hx hb hown (tb _ oi_X3) (tb _ oi_in) (tb _ oi_cd) rfl (by rw [hml]; exact hl.1) rfl dk_X3_init_1 (Nat.le_of_ble_eq_true rfl) (Nat.le_of_ble_eq_true rfl) ?_
  refine W.eq (g2 := F0 m 4 ls []) rfl ?_
  refine lv_aload_n hx hb dk_X3_init_4 rfl (lv_at hl 0 rfl) ?_
  refine lv_sipush (v := 500) hx hb dk_X3_init_5 (by decide) ?_
  refine kt_newa (atype := .byte) (ty := .byte) (N' := 500) (a0 := (500, .inl (fun _ => 0))) (j := 1) (cA0 := k1) hx hb (tb (.arrayClass .byte) ac_byte) rfl hK rfl (fun c1 c2 e1 e2 => Option.some.inj ((va_nm_byte e1).symm.trans (va_nm_byte e2))) hP hD hS hA (fun _ => rfl) (by decide) (by decide) (Nat.le_of_ble_eq_true rfl) (Nat.le_of_ble_eq_true rfl) (Nat.le_of_ble_eq_true rfl) dk_X3_init_8 (fun q1 H hP hD hS => ?_)
  have hP : va_P D vwCl [(h0, .inr (3, [.null, .null, .int 0, .int 0, .int 0, .int 0, .int 0, .int 0])), (q1, .inl (k1, 500, .inl (fun _ => 0)))] H := hP
  have hD : va_D A [(h0, .inr (3, [.null, .null, .int 0, .int 0, .int 0, .int 0, .int 0, .int 0])), (q1, .inl (k1, 500, .inl (fun _ => 0)))] := hD
  refine W.widen (k := 1) (n := 500) (Nat.le_of_ble_eq_true rfl) (Nat.le_of_ble_eq_true rfl) ?_
  refine va_putF (D := D) (ci := 3) (v := .ref q1) (ty := .array .byte) (C := RX3) (T := TX3) (N := 8) hx hb hts (fun w hw => List.mem_cons_of_mem _ (in_3 w hw)) tyX3 tyX3_ok nmX3 hown hK hP hD hS 0 rfl rfl 0 (by decide) (tb _ fk_X3_9) (fun _ h9 => h9) rfl hin rfl (tyX3_ok 0 (by decide)) rfl rfl (Nat.le_of_ble_eq_true rfl) dk_X3_init_10 (fun H locs hP hD hS => ?_)
  have hP : va_P D vwCl [(h0, .inr (3, [.ref q1, .null, .int 0, .int 0, .int 0, .int 0, .int 0, .int 0])), (q1, .inl (k1, 500, .inl (fun _ => 0)))] H := hP
  have hD : va_D A [(h0, .inr (3, [.ref q1, .null, .int 0, .int 0, .int 0, .int 0, .int 0, .int 0])), (q1, .inl (k1, 500, .inl (fun _ => 0)))] := hD
  refine lv_aload_n hx hb dk_X3_init_13 rfl (lv_at hl 0 rfl) ?_
  refine va_new (ci := 2) (fs := [.null, .null, .null, .null, .null, .null, .int 0, .int 0, .int 0, .int 0]) (C := RX2) (T := TX2) (N := 10) hx hb hts (fun w hw => List.mem_cons_of_mem _ (in_2 w hw)) tyX2 tyX2_ok hown (tb _ ck_X3_15) (tb _ it_2) (tb _ ii_2) hK hP hD hS hA rfl (kf_2) (Nat.le_of_ble_eq_true rfl) (Nat.le_of_ble_eq_true rfl) dk_X3_init_14 (fun q2 H hP hD hS => ?_)
  have hP : va_P D vwCl [(h0, .inr (3, [.ref q1, .null, .int 0, .int 0, .int 0, .int 0, .int 0, .int 0])), (q1, .inl (k1, 500, .inl (fun _ => 0))), (q2, .inr (2, [.null, .null, .null, .null, .null, .null, .int 0, .int 0, .int 0, .int 0]))] H := hP
  have hD : va_D A [(h0, .inr (3, [.ref q1, .null, .int 0, .int 0, .int 0, .int 0, .int 0, .int 0])), (q1, .inl (k1, 500, .inl (fun _ => 0))), (q2, .inr (2, [.null, .null, .null, .null, .null, .null, .int 0, .int 0, .int 0, .int 0]))] := hD
  refine W.widen (k := 2) (n := 510) (Nat.le_of_ble_eq_true rfl) (Nat.le_of_ble_eq_true rfl) ?_
  refine lv_dup hx hb dk_X3_init_17 rfl ?_
  have hPc := hP.sub (ws' := [(q2, .inr (2, [.null, .null, .null, .null, .null, .null, .int 0, .int 0, .int 0, .int 0]))]) [2] rfl
  have hDc := hD.sub (ws' := [(q2, .inr (2, [.null, .null, .null, .null, .null, .null, .int 0, .int 0, .int 0, .int 0]))]) [2] (by decide) rfl
  have hFc := va_free (wc := [(q2, .inr (2, [.null, .null, .null, .null, .null, .null, .int 0, .int 0, .int 0, .int 0]))]) hD hS hA [2] rfl
  refine va_callv (va_runI (As := []) (rest := [.ref q2, .ref h0]) ⟨hx, hb, hml, hown, hts⟩ (c_X2_init l D k0 k1 k2 k3 q2 H.size) (cwI 0 hts (ob_goodIn (y := oX3_init) cc_X2_init) rfl rfl rfl (tb _ ii_2) (tb _ lk9_X3_17) (tb _ im_X2_init) rfl (by decide +kernel) ⟨Nat.le_of_ble_eq_true rfl, Nat.le_of_ble_eq_true rfl⟩) ⟨fun a U g mk q => by obtain ⟨q0, q1, qP, qK, qD⟩ := q; exact ⟨q0, q1, qP, va_K.moved (u := U) (U := U.calling g mk a) (Vm.Alike.refl U.vm) qK, qD⟩, fun U hU hW => ⟨rfl, by rw [hU], by rw [hU]; exact hPc, va_K.moved hW.alike hK, hDc.weaken (fun _ _ _ _ => trivial)⟩⟩ rfl rfl hl.1 rfl (lv_room (Nat.le_of_ble_eq_true rfl)) dk_X3_init_18 ⟨Nat.le_of_ble_eq_true rfl, Nat.le_of_ble_eq_true rfl⟩) hS (fun q _ h => hFc q h) hFc (fun u3 t H1 locs ht hvm hw hB hz1 hk1 hS => ?_)
  obtain ⟨hP1, hK1, hD1⟩ := hB
  rw [ht] at hP1
  obtain ⟨hP, hD⟩ := va_join (wr := [(h0, .inr (3, [.ref q1, .null, .int 0, .int 0, .int 0, .int 0, .int 0, .int 0])), (q1, .inl (k1, 500, .inl (fun _ => 0)))]) (w1 := (w_X2_init k0 k1 k2 k3 q2 u3)) hP hD [2] [0, 1] rfl rfl (by decide) (by decide) hk1 hFc hP1 hD1
  generalize H1 = H at hP hS ⊢
  have hP : va_P D vwCl [(h0, .inr (3, [.ref q1, .null, .int 0, .int 0, .int 0, .int 0, .int 0, .int 0])), (q1, .inl (k1, 500, .inl (fun _ => 0))), (q2, .inr (2, [.ref (u3.getD 0 0), .ref (u3.getD 1 0), .ref (u3.getD 2 0), .ref (u3.getD 3 0), .ref (u3.getD 4 0), .ref (u3.getD 5 0), .int 12, .int 0, .int 0, .int 0])), ((u3.getD 0 0), .inl (k0, 6, .inl (fun _ => 0))), ((u3.getD 1 0), .inl (k0, 6, .inl (fun _ => 0))), ((u3.getD 2 0), .inl (k0, 8, .inl (fun _ => 0))), ((u3.getD 3 0), .inl (k0, 8, .inl (fun _ => 0))), ((u3.getD 4 0), .inl (k0, 8, .inl (fun _ => 0))), ((u3.getD 5 0), .inl (k0, 121, .inl (fun j => if j < 121 then -1 else 0)))] H := hP
  have hD : va_D A [(h0, .inr (3, [.ref q1, .null, .int 0, .int 0, .int 0, .int 0, .int 0, .int 0])), (q1, .inl (k1, 500, .inl (fun _ => 0))), (q2, .inr (2, [.ref (u3.getD 0 0), .ref (u3.getD 1 0), .ref (u3.getD 2 0), .ref (u3.getD 3 0), .ref (u3.getD 4 0), .ref (u3.getD 5 0), .int 12, .int 0, .int 0, .int 0])), ((u3.getD 0 0), .inl (k0, 6, .inl (fun _ => 0))), ((u3.getD 1 0), .inl (k0, 6, .inl (fun _ => 0))), ((u3.getD 2 0), .inl (k0, 8, .inl (fun _ => 0))), ((u3.getD 3 0), .inl (k0, 8, .inl (fun _ => 0))), ((u3.getD 4 0), .inl (k0, 8, .inl (fun _ => 0))), ((u3.getD 5 0), .inl (k0, 121, .inl (fun j => if j < 121 then -1 else 0)))] := hD
  refine W.widen (k := 8) (n := 667) (Nat.le_of_ble_eq_true rfl) (Nat.le_of_ble_eq_true rfl) ?_
  refine va_putF (D := D) (ci := 3) (v := .ref q2) (ty := .object "OwnBirthdays$Land") (C := RX3) (T := TX3) (N := 8) hx hb hts (fun w hw => List.mem_cons_of_mem _ (in_3 w hw)) tyX3 tyX3_ok nmX3 hown hK hP hD hS 0 rfl rfl 1 (by decide) (tb _ fk_X3_18) (fun _ h9 => h9) rfl hin rfl (tyX3_ok 1 (by decide)) rfl rfl (Nat.le_of_ble_eq_true rfl) dk_X3_init_21 (fun H locs hP hD hS => ?_)
  have hP : va_P D vwCl [(h0, .inr (3, [.ref q1, .ref q2, .int 0, .int 0, .int 0, .int 0, .int 0, .int 0])), (q1, .inl (k1, 500, .inl (fun _ => 0))), (q2, .inr (2, [.ref (u3.getD 0 0), .ref (u3.getD 1 0), .ref (u3.getD 2 0), .ref (u3.getD 3 0), .ref (u3.getD 4 0), .ref (u3.getD 5 0), .int 12, .int 0, .int 0, .int 0])), ((u3.getD 0 0), .inl (k0, 6, .inl (fun _ => 0))), ((u3.getD 1 0), .inl (k0, 6, .inl (fun _ => 0))), ((u3.getD 2 0), .inl (k0, 8, .inl (fun _ => 0))), ((u3.getD 3 0), .inl (k0, 8, .inl (fun _ => 0))), ((u3.getD 4 0), .inl (k0, 8, .inl (fun _ => 0))), ((u3.getD 5 0), .inl (k0, 121, .inl (fun j => if j < 121 then -1 else 0)))] H := hP
  have hD : va_D A [(h0, .inr (3, [.ref q1, .ref q2, .int 0, .int 0, .int 0, .int 0, .int 0, .int 0])), (q1, .inl (k1, 500, .inl (fun _ => 0))), (q2, .inr (2, [.ref (u3.getD 0 0), .ref (u3.getD 1 0), .ref (u3.getD 2 0), .ref (u3.getD 3 0), .ref (u3.getD 4 0), .ref (u3.getD 5 0), .int 12, .int 0, .int 0, .int 0])), ((u3.getD 0 0), .inl (k0, 6, .inl (fun _ => 0))), ((u3.getD 1 0), .inl (k0, 6, .inl (fun _ => 0))), ((u3.getD 2 0), .inl (k0, 8, .inl (fun _ => 0))), ((u3.getD 3 0), .inl (k0, 8, .inl (fun _ => 0))), ((u3.getD 4 0), .inl (k0, 8, .inl (fun _ => 0))), ((u3.getD 5 0), .inl (k0, 121, .inl (fun j => if j < 121 then -1 else 0)))] := hD
  refine lv_aload_n hx hb dk_X3_init_24 rfl (lv_at hl 0 rfl) ?_
  refine lv_iconst (v := -1) hx hb dk_X3_init_25 (by decide) ?_
  refine va_put (D := D) (ci := 3) (v := .int (-1)) (ty := .int) (C := RX3) (T := TX3) (N := 8) hx hb hts (fun w hw => List.mem_cons_of_mem _ (in_3 w hw)) tyX3 tyX3_ok nmX3 hown hK hP hD hS 0 rfl rfl 5 (by decide) (tb _ fk_X3_22) (fun _ h9 => h9) rfl (tyX3_ok 5 (by decide)) rfl rfl (Nat.le_of_ble_eq_true rfl) dk_X3_init_26 (fun H locs hP hD hS => ?_)
  have hP : va_P D vwCl [(h0, .inr (3, [.ref q1, .ref q2, .int 0, .int 0, .int 0, .int (-1), .int 0, .int 0])), (q1, .inl (k1, 500, .inl (fun _ => 0))), (q2, .inr (2, [.ref (u3.getD 0 0), .ref (u3.getD 1 0), .ref (u3.getD 2 0), .ref (u3.getD 3 0), .ref (u3.getD 4 0), .ref (u3.getD 5 0), .int 12, .int 0, .int 0, .int 0])), ((u3.getD 0 0), .inl (k0, 6, .inl (fun _ => 0))), ((u3.getD 1 0), .inl (k0, 6, .inl (fun _ => 0))), ((u3.getD 2 0), .inl (k0, 8, .inl (fun _ => 0))), ((u3.getD 3 0), .inl (k0, 8, .inl (fun _ => 0))), ((u3.getD 4 0), .inl (k0, 8, .inl (fun _ => 0))), ((u3.getD 5 0), .inl (k0, 121, .inl (fun j => if j < 121 then -1 else 0)))] H := hP
  have hD : va_D A [(h0, .inr (3, [.ref q1, .ref q2, .int 0, .int 0, .int 0, .int (-1), .int 0, .int 0])), (q1, .inl (k1, 500, .inl (fun _ => 0))), (q2, .inr (2, [.ref (u3.getD 0 0), .ref (u3.getD 1 0), .ref (u3.getD 2 0), .ref (u3.getD 3 0), .ref (u3.getD 4 0), .ref (u3.getD 5 0), .int 12, .int 0, .int 0, .int 0])), ((u3.getD 0 0), .inl (k0, 6, .inl (fun _ => 0))), ((u3.getD 1 0), .inl (k0, 6, .inl (fun _ => 0))), ((u3.getD 2 0), .inl (k0, 8, .inl (fun _ => 0))), ((u3.getD 3 0), .inl (k0, 8, .inl (fun _ => 0))), ((u3.getD 4 0), .inl (k0, 8, .inl (fun _ => 0))), ((u3.getD 5 0), .inl (k0, 121, .inl (fun j => if j < 121 then -1 else 0)))] := hD
  exact W.vret hx hb hr (fun t ht hW => ⟨⟨[q1, q2, (u3.getD 0 0), (u3.getD 1 0), (u3.getD 2 0), (u3.getD 3 0), (u3.getD 4 0), (u3.getD 5 0)], rfl, trivial, by rw [ht]; exact hP, va_K.moved hW.alike hK, hD⟩, hS.F ht⟩) hS.2.2 dk_X3_init_29
