/-! code of X3: the decode rows and a row for each piece between cut points (printed by wip/whole/mk.py) -/
theorem d_X3_hasRoom_0 : decode oX3_hasRoom.2.1 0 = .ok (.iload_n 1, 1) := by decide +kernel
theorem d_X3_hasRoom_1 : decode oX3_hasRoom.2.1 1 = .ok (.sipush 500, 3) := by decide +kernel
theorem d_X3_hasRoom_4 : decode oX3_hasRoom.2.1 4 = .ok (.aload_n 0, 1) := by decide +kernel
theorem d_X3_hasRoom_5 : decode oX3_hasRoom.2.1 5 = .ok (.getfield 26, 3) := by decide +kernel
theorem d_X3_hasRoom_8 : decode oX3_hasRoom.2.1 8 = .ok (.isub, 1) := by decide +kernel
theorem d_X3_hasRoom_9 : decode oX3_hasRoom.2.1 9 = .ok (.if_icmp .gt 7, 3) := by decide +kernel
theorem d_X3_hasRoom_12 : decode oX3_hasRoom.2.1 12 = .ok (.iconst 1, 1) := by decide +kernel
theorem d_X3_hasRoom_13 : decode oX3_hasRoom.2.1 13 = .ok (.goto 4, 3) := by decide +kernel
theorem d_X3_hasRoom_16 : decode oX3_hasRoom.2.1 16 = .ok (.iconst 0, 1) := by decide +kernel
theorem d_X3_hasRoom_17 : decode oX3_hasRoom.2.1 17 = .ok (.ireturn, 1) := by decide +kernel
theorem b_X3_hasRoom_0 {E : ob_E} {σ : ob_Mem} {Q : Int32 → ob_Mem → Prop} {x1 : Int32} (k : ((((500 : Int32) - (σ.1 1 2)) < x1 → Q (0 : Int32) σ) ∧ (¬ ((500 : Int32) - (σ.1 1 2)) < x1 → Q (1 : Int32) σ))) : ob_RT shp E oX3_hasRoom 0 [.ref 1, .int x1] [] σ (ob_qI Q) := by
  refine ob_iload_n d_X3_hasRoom_0 rfl ?_
  refine ob_sipush (v := 500) d_X3_hasRoom_1 cs_500 ?_
  refine ob_aload_n d_X3_hasRoom_4 rfl ?_
  refine ob_getI d_X3_hasRoom_5 fl_X3_26 sh_1 rfl (by decide) ?_
  refine ob_isub d_X3_hasRoom_8 ?_
  refine ob_icmp_gt (tgt := 16) d_X3_hasRoom_9 rfl (fun cc => ?_) (fun cc => ?_)
  · have k := k.1 cc
    refine ob_iconst (v := 0) d_X3_hasRoom_16 ci_0 ?_
    exact ob_zret d_X3_hasRoom_17 rfl rfl ⟨_, rfl, k⟩
  · have k := k.2 cc
    refine ob_iconst (v := 1) d_X3_hasRoom_12 ci_1 ?_
    refine ob_goto (tgt := 17) d_X3_hasRoom_13 rfl ?_
    exact ob_zret d_X3_hasRoom_17 rfl rfl ⟨_, rfl, k⟩
theorem d_X3_append_0 : decode oX3_append.2.1 0 = .ok (.iload_n 1, 1) := by decide +kernel
theorem d_X3_append_1 : decode oX3_append.2.1 1 = .ok (.iconst 1, 1) := by decide +kernel
theorem d_X3_append_2 : decode oX3_append.2.1 2 = .ok (.isub, 1) := by decide +kernel
theorem d_X3_append_3 : decode oX3_append.2.1 3 = .ok (.istore 4, 2) := by decide +kernel
theorem d_X3_append_5 : decode oX3_append.2.1 5 = .ok (.iload 4, 2) := by decide +kernel
theorem d_X3_append_7 : decode oX3_append.2.1 7 = .ok (.ifCond .lt 47, 3) := by decide +kernel
theorem d_X3_append_10 : decode oX3_append.2.1 10 = .ok (.aload_n 0, 1) := by decide +kernel
theorem d_X3_append_11 : decode oX3_append.2.1 11 = .ok (.getfield 26, 3) := by decide +kernel
theorem d_X3_append_14 : decode oX3_append.2.1 14 = .ok (.sipush 500, 3) := by decide +kernel
theorem d_X3_append_17 : decode oX3_append.2.1 17 = .ok (.if_icmp .ge 37, 3) := by decide +kernel
theorem d_X3_append_20 : decode oX3_append.2.1 20 = .ok (.aload_n 0, 1) := by decide +kernel
theorem d_X3_append_21 : decode oX3_append.2.1 21 = .ok (.getfield 9, 3) := by decide +kernel
theorem d_X3_append_24 : decode oX3_append.2.1 24 = .ok (.aload_n 0, 1) := by decide +kernel
theorem d_X3_append_25 : decode oX3_append.2.1 25 = .ok (.getfield 26, 3) := by decide +kernel
theorem d_X3_append_28 : decode oX3_append.2.1 28 = .ok (.lload_n 2, 1) := by decide +kernel
theorem d_X3_append_29 : decode oX3_append.2.1 29 = .ok (.bipush 8, 2) := by decide +kernel
theorem d_X3_append_31 : decode oX3_append.2.1 31 = .ok (.iload 4, 2) := by decide +kernel
theorem d_X3_append_33 : decode oX3_append.2.1 33 = .ok (.imul, 1) := by decide +kernel
theorem d_X3_append_34 : decode oX3_append.2.1 34 = .ok (.lushr, 1) := by decide +kernel
theorem d_X3_append_35 : decode oX3_append.2.1 35 = .ok (.l2i, 1) := by decide +kernel
theorem d_X3_append_36 : decode oX3_append.2.1 36 = .ok (.i2b, 1) := by decide +kernel
theorem d_X3_append_37 : decode oX3_append.2.1 37 = .ok (.bastore, 1) := by decide +kernel
theorem d_X3_append_38 : decode oX3_append.2.1 38 = .ok (.aload_n 0, 1) := by decide +kernel
theorem d_X3_append_39 : decode oX3_append.2.1 39 = .ok (.dup, 1) := by decide +kernel
theorem d_X3_append_40 : decode oX3_append.2.1 40 = .ok (.getfield 26, 3) := by decide +kernel
theorem d_X3_append_43 : decode oX3_append.2.1 43 = .ok (.iconst 1, 1) := by decide +kernel
theorem d_X3_append_44 : decode oX3_append.2.1 44 = .ok (.iadd, 1) := by decide +kernel
theorem d_X3_append_45 : decode oX3_append.2.1 45 = .ok (.putfield 26, 3) := by decide +kernel
theorem d_X3_append_48 : decode oX3_append.2.1 48 = .ok (.iinc 4 (-1), 3) := by decide +kernel
theorem d_X3_append_51 : decode oX3_append.2.1 51 = .ok (.goto (-46), 3) := by decide +kernel
theorem d_X3_append_54 : decode oX3_append.2.1 54 = .ok (.return_, 1) := by decide +kernel
theorem b_X3_append_0 {E : ob_E} {σ : ob_Mem} {Q : ob_Mem → Prop} {x1 : Int32} {x2 : Int64} (k : ob_RT shp E oX3_append 5 [.ref 1, .int x1, .long x2, .null, .int (x1 - (1 : Int32))] [] σ (ob_qV Q)) : ob_RT shp E oX3_append 0 [.ref 1, .int x1, .long x2, .null, .null] [] σ (ob_qV Q) := by
  refine ob_iload_n d_X3_append_0 rfl ?_
  refine ob_iconst (v := 1) d_X3_append_1 ci_1 ?_
  refine ob_isub d_X3_append_2 ?_
  refine ob_istore (ls' := [.ref 1, .int x1, .long x2, .null, .int (x1 - (1 : Int32))]) d_X3_append_3 (Nat.le_of_ble_eq_true rfl) rfl ?_
  exact k
theorem b_X3_append_5 {E : ob_E} {σ : ob_Mem} {Q : ob_Mem → Prop} {x1 x4 : Int32} {x2 : Int64} (k : ((x4 < 0 → Q σ) ∧ (¬ x4 < 0 → (((500 : Int32) ≤ (σ.1 1 2) → Q σ) ∧ (¬ (500 : Int32) ≤ (σ.1 1 2) → (vp_in (σ.1 1 2) 500 ∧ (∀ σ1, σ1 = (ob_wI σ 2 ((σ.1 1 2)).toNatClampNeg (vp_nar .byte ((((x2).toUInt64 >>> ((((8 : Int32) * x4)).toInt64.toUInt64 &&& Int64.toUInt64 63)).toInt64).toInt32).toInt8.toInt32)) → ob_RT shp E oX3_append 5 [.ref 1, .int x1, .long x2, .null, .int (x4 + (-1 : Int32))] [] (ob_wI σ1 1 2 ((σ1.1 1 2) + (1 : Int32))) (ob_qV Q)))))))) : ob_RT shp E oX3_append 5 [.ref 1, .int x1, .long x2, .null, .int x4] [] σ (ob_qV Q) := by
  refine ob_iload d_X3_append_5 rfl ?_
  refine ob_if_lt (tgt := 54) d_X3_append_7 rfl (fun cc => ?_) (fun cc => ?_)
  · have k := k.1 cc
    exact ob_vret d_X3_append_54 rfl ⟨rfl, k⟩
  · have k := k.2 cc
    refine ob_aload_n d_X3_append_10 rfl ?_
    refine ob_getI d_X3_append_11 fl_X3_26 sh_1 rfl (by decide) ?_
    refine ob_sipush (v := 500) d_X3_append_14 cs_500 ?_
    refine ob_icmp_ge (tgt := 54) d_X3_append_17 rfl (fun cc => ?_) (fun cc => ?_)
    · have k := k.1 cc
      exact ob_vret d_X3_append_54 rfl ⟨rfl, k⟩
    · have k := k.2 cc
      refine ob_aload_n d_X3_append_20 rfl ?_
      refine ob_getR d_X3_append_21 fl_X3_9 sh_1 rfl rfl ?_
      refine ob_aload_n d_X3_append_24 rfl ?_
      refine ob_getI d_X3_append_25 fl_X3_26 sh_1 rfl (by decide) ?_
      refine ob_lload_n d_X3_append_28 rfl ?_
      refine ob_bipush (v := 8) d_X3_append_29 cb_8 ?_
      refine ob_iload d_X3_append_31 rfl ?_
      refine ob_imul d_X3_append_33 ?_
      refine ob_lushr d_X3_append_34 ?_
      refine ob_l2i d_X3_append_35 ?_
      refine ob_i2b d_X3_append_36 ?_
      obtain ⟨hin, k⟩ := k
      refine ob_bast d_X3_append_37 sh_2 hin ?_
      refine ob_nmM (fun σ1 hσ1 => ?_)
      have k := k σ1 hσ1
      refine ob_aload_n d_X3_append_38 rfl ?_
      refine ob_dup d_X3_append_39 rfl ?_
      refine ob_getI d_X3_append_40 fl_X3_26 sh_1 rfl (by decide) ?_
      refine ob_iconst (v := 1) d_X3_append_43 ci_1 ?_
      refine ob_iadd d_X3_append_44 ?_
      refine ob_putI d_X3_append_45 fp_X3_26 sh_1 rfl rfl ?_
      refine ob_iinc (ls' := [.ref 1, .int x1, .long x2, .null, .int (x4 + (-1 : Int32))]) (v := -1) d_X3_append_48 rfl ci_m1 (Nat.le_of_ble_eq_true rfl) rfl ?_
      refine ob_goto (tgt := 5) d_X3_append_51 rfl ?_
      exact k
theorem d_X3_readAll_0 : decode oX3_readAll.2.1 0 = .ok (.aload_n 0, 1) := by decide +kernel
theorem d_X3_readAll_1 : decode oX3_readAll.2.1 1 = .ok (.iconst 0, 1) := by decide +kernel
theorem d_X3_readAll_2 : decode oX3_readAll.2.1 2 = .ok (.putfield 29, 3) := by decide +kernel
theorem d_X3_readAll_5 : decode oX3_readAll.2.1 5 = .ok (.aload_n 0, 1) := by decide +kernel
theorem d_X3_readAll_6 : decode oX3_readAll.2.1 6 = .ok (.iconst 0, 1) := by decide +kernel
theorem d_X3_readAll_7 : decode oX3_readAll.2.1 7 = .ok (.putfield 32, 3) := by decide +kernel
theorem d_X3_readAll_10 : decode oX3_readAll.2.1 10 = .ok (.aload_n 0, 1) := by decide +kernel
theorem d_X3_readAll_11 : decode oX3_readAll.2.1 11 = .ok (.iconst (-1), 1) := by decide +kernel
theorem d_X3_readAll_12 : decode oX3_readAll.2.1 12 = .ok (.putfield 22, 3) := by decide +kernel
theorem d_X3_readAll_15 : decode oX3_readAll.2.1 15 = .ok (.aload_n 0, 1) := by decide +kernel
theorem d_X3_readAll_16 : decode oX3_readAll.2.1 16 = .ok (.iconst 0, 1) := by decide +kernel
theorem d_X3_readAll_17 : decode oX3_readAll.2.1 17 = .ok (.putfield 35, 3) := by decide +kernel
theorem d_X3_readAll_20 : decode oX3_readAll.2.1 20 = .ok (.aload_n 0, 1) := by decide +kernel
theorem d_X3_readAll_21 : decode oX3_readAll.2.1 21 = .ok (.getfield 18, 3) := by decide +kernel
theorem d_X3_readAll_24 : decode oX3_readAll.2.1 24 = .ok (.invokevirtual 39, 3) := by decide +kernel
theorem d_X3_readAll_27 : decode oX3_readAll.2.1 27 = .ok (.aload_n 0, 1) := by decide +kernel
theorem d_X3_readAll_28 : decode oX3_readAll.2.1 28 = .ok (.invokevirtual 42, 3) := by decide +kernel
theorem d_X3_readAll_31 : decode oX3_readAll.2.1 31 = .ok (.iconst 0, 1) := by decide +kernel
theorem d_X3_readAll_32 : decode oX3_readAll.2.1 32 = .ok (.istore_n 1, 1) := by decide +kernel
theorem d_X3_readAll_33 : decode oX3_readAll.2.1 33 = .ok (.iload_n 1, 1) := by decide +kernel
theorem d_X3_readAll_34 : decode oX3_readAll.2.1 34 = .ok (.sipush 500, 3) := by decide +kernel
theorem d_X3_readAll_37 : decode oX3_readAll.2.1 37 = .ok (.if_icmp .ge 35, 3) := by decide +kernel
theorem d_X3_readAll_40 : decode oX3_readAll.2.1 40 = .ok (.aload_n 0, 1) := by decide +kernel
theorem d_X3_readAll_41 : decode oX3_readAll.2.1 41 = .ok (.getfield 29, 3) := by decide +kernel
theorem d_X3_readAll_44 : decode oX3_readAll.2.1 44 = .ok (.aload_n 0, 1) := by decide +kernel
theorem d_X3_readAll_45 : decode oX3_readAll.2.1 45 = .ok (.getfield 26, 3) := by decide +kernel
theorem d_X3_readAll_48 : decode oX3_readAll.2.1 48 = .ok (.if_icmp .ge 24, 3) := by decide +kernel
theorem d_X3_readAll_51 : decode oX3_readAll.2.1 51 = .ok (.aload_n 0, 1) := by decide +kernel
theorem d_X3_readAll_52 : decode oX3_readAll.2.1 52 = .ok (.getfield 32, 3) := by decide +kernel
theorem d_X3_readAll_55 : decode oX3_readAll.2.1 55 = .ok (.ifCond .ne 17, 3) := by decide +kernel
theorem d_X3_readAll_58 : decode oX3_readAll.2.1 58 = .ok (.aload_n 0, 1) := by decide +kernel
theorem d_X3_readAll_59 : decode oX3_readAll.2.1 59 = .ok (.invokevirtual 45, 3) := by decide +kernel
theorem d_X3_readAll_62 : decode oX3_readAll.2.1 62 = .ok (.aload_n 0, 1) := by decide +kernel
theorem d_X3_readAll_63 : decode oX3_readAll.2.1 63 = .ok (.invokevirtual 42, 3) := by decide +kernel
theorem d_X3_readAll_66 : decode oX3_readAll.2.1 66 = .ok (.iinc 1 1, 3) := by decide +kernel
theorem d_X3_readAll_69 : decode oX3_readAll.2.1 69 = .ok (.goto (-36), 3) := by decide +kernel
theorem d_X3_readAll_72 : decode oX3_readAll.2.1 72 = .ok (.aload_n 0, 1) := by decide +kernel
theorem d_X3_readAll_73 : decode oX3_readAll.2.1 73 = .ok (.iconst 0, 1) := by decide +kernel
theorem d_X3_readAll_74 : decode oX3_readAll.2.1 74 = .ok (.putfield 26, 3) := by decide +kernel
theorem d_X3_readAll_77 : decode oX3_readAll.2.1 77 = .ok (.aload_n 0, 1) := by decide +kernel
theorem d_X3_readAll_78 : decode oX3_readAll.2.1 78 = .ok (.getfield 32, 3) := by decide +kernel
theorem d_X3_readAll_81 : decode oX3_readAll.2.1 81 = .ok (.ireturn, 1) := by decide +kernel
theorem b_X3_readAll_0 {E : ob_E} {σ : ob_Mem} {Q : Int32 → ob_Mem → Prop} (k : (∀ σ1, σ1 = (ob_wI (ob_wI (ob_wI σ 1 3 (0 : Int32)) 1 4 (0 : Int32)) 1 5 (-1 : Int32)) → ob_RM shp E oX2_clearAll [.ref 3] (ob_wI σ1 1 7 (0 : Int32)) (ob_qV fun σ2 => ob_RM shp E oX3_skipBlanks [.ref 1] σ2 (ob_qV fun σ3 => ob_RT shp E oX3_readAll 33 [.ref 1, .int (0 : Int32)] [] σ3 (ob_qI Q))))) : ob_RT shp E oX3_readAll 0 [.ref 1, .null] [] σ (ob_qI Q) := by
  refine ob_aload_n d_X3_readAll_0 rfl ?_
  refine ob_iconst (v := 0) d_X3_readAll_1 ci_0 ?_
  refine ob_putI d_X3_readAll_2 fp_X3_29 sh_1 rfl rfl ?_
  refine ob_aload_n d_X3_readAll_5 rfl ?_
  refine ob_iconst (v := 0) d_X3_readAll_6 ci_0 ?_
  refine ob_putI d_X3_readAll_7 fp_X3_32 sh_1 rfl rfl ?_
  refine ob_aload_n d_X3_readAll_10 rfl ?_
  refine ob_iconst (v := -1) d_X3_readAll_11 ci_m1 ?_
  refine ob_putI d_X3_readAll_12 fp_X3_22 sh_1 rfl rfl ?_
  refine ob_nmM (fun σ1 hσ1 => ?_)
  have k := k σ1 hσ1
  refine ob_aload_n d_X3_readAll_15 rfl ?_
  refine ob_iconst (v := 0) d_X3_readAll_16 ci_0 ?_
  refine ob_putZ d_X3_readAll_17 fp_X3_35 sh_1 rfl rfl rfl rfl ?_
  refine ob_aload_n d_X3_readAll_20 rfl ?_
  refine ob_getR d_X3_readAll_21 fl_X3_18 sh_1 rfl rfl ?_
  refine ob_callV [] (z := oX2_clearAll) (st := []) d_X3_readAll_24 lk_X3_39 mv_X2_clearAll rfl sh_3 cl_2 rfl (Nat.le_of_ble_eq_true rfl) rfl k (ob_kV fun σ2 k => ?_)
  refine ob_aload_n d_X3_readAll_27 rfl ?_
  refine ob_callV [] (z := oX3_skipBlanks) (st := []) d_X3_readAll_28 lk_X3_42 mv_X3_skipBlanks rfl sh_1 cl_3 rfl (Nat.le_of_ble_eq_true rfl) rfl k (ob_kV fun σ3 k => ?_)
  refine ob_iconst (v := 0) d_X3_readAll_31 ci_0 ?_
  refine ob_istore_n (ls' := [.ref 1, .int (0 : Int32)]) d_X3_readAll_32 (Nat.le_of_ble_eq_true rfl) rfl ?_
  exact k
theorem b_X3_readAll_33 {E : ob_E} {σ : ob_Mem} {Q : Int32 → ob_Mem → Prop} {x1 : Int32} (k : (((500 : Int32) ≤ x1 → Q ((ob_wI σ 1 2 (0 : Int32)).1 1 4) (ob_wI σ 1 2 (0 : Int32))) ∧ (¬ (500 : Int32) ≤ x1 → (((σ.1 1 2) ≤ (σ.1 1 3) → Q ((ob_wI σ 1 2 (0 : Int32)).1 1 4) (ob_wI σ 1 2 (0 : Int32))) ∧ (¬ (σ.1 1 2) ≤ (σ.1 1 3) → ((¬ (σ.1 1 4) = 0 → Q ((ob_wI σ 1 2 (0 : Int32)).1 1 4) (ob_wI σ 1 2 (0 : Int32))) ∧ ((σ.1 1 4) = 0 → ob_RM shp E oX3_readClause [.ref 1] σ (ob_qV fun σ1 => ob_RM shp E oX3_skipBlanks [.ref 1] σ1 (ob_qV fun σ2 => ob_RT shp E oX3_readAll 33 [.ref 1, .int (x1 + (1 : Int32))] [] σ2 (ob_qI Q)))))))))) : ob_RT shp E oX3_readAll 33 [.ref 1, .int x1] [] σ (ob_qI Q) := by
  refine ob_iload_n d_X3_readAll_33 rfl ?_
  refine ob_sipush (v := 500) d_X3_readAll_34 cs_500 ?_
  refine ob_icmp_ge (tgt := 72) d_X3_readAll_37 rfl (fun cc => ?_) (fun cc => ?_)
  · have k := k.1 cc
    refine ob_aload_n d_X3_readAll_72 rfl ?_
    refine ob_iconst (v := 0) d_X3_readAll_73 ci_0 ?_
    refine ob_putI d_X3_readAll_74 fp_X3_26 sh_1 rfl rfl ?_
    refine ob_aload_n d_X3_readAll_77 rfl ?_
    refine ob_getI d_X3_readAll_78 fl_X3_32 sh_1 rfl (by decide) ?_
    exact ob_iret d_X3_readAll_81 rfl ⟨_, rfl, k⟩
  · have k := k.2 cc
    refine ob_aload_n d_X3_readAll_40 rfl ?_
    refine ob_getI d_X3_readAll_41 fl_X3_29 sh_1 rfl (by decide) ?_
    refine ob_aload_n d_X3_readAll_44 rfl ?_
    refine ob_getI d_X3_readAll_45 fl_X3_26 sh_1 rfl (by decide) ?_
    refine ob_icmp_ge (tgt := 72) d_X3_readAll_48 rfl (fun cc => ?_) (fun cc => ?_)
    · have k := k.1 cc
      refine ob_aload_n d_X3_readAll_72 rfl ?_
      refine ob_iconst (v := 0) d_X3_readAll_73 ci_0 ?_
      refine ob_putI d_X3_readAll_74 fp_X3_26 sh_1 rfl rfl ?_
      refine ob_aload_n d_X3_readAll_77 rfl ?_
      refine ob_getI d_X3_readAll_78 fl_X3_32 sh_1 rfl (by decide) ?_
      exact ob_iret d_X3_readAll_81 rfl ⟨_, rfl, k⟩
    · have k := k.2 cc
      refine ob_aload_n d_X3_readAll_51 rfl ?_
      refine ob_getI d_X3_readAll_52 fl_X3_32 sh_1 rfl (by decide) ?_
      refine ob_if_ne (tgt := 72) d_X3_readAll_55 rfl (fun cc => ?_) (fun cc => ?_)
      · have k := k.1 cc
        refine ob_aload_n d_X3_readAll_72 rfl ?_
        refine ob_iconst (v := 0) d_X3_readAll_73 ci_0 ?_
        refine ob_putI d_X3_readAll_74 fp_X3_26 sh_1 rfl rfl ?_
        refine ob_aload_n d_X3_readAll_77 rfl ?_
        refine ob_getI d_X3_readAll_78 fl_X3_32 sh_1 rfl (by decide) ?_
        exact ob_iret d_X3_readAll_81 rfl ⟨_, rfl, k⟩
      · have k := k.2 cc
        refine ob_aload_n d_X3_readAll_58 rfl ?_
        refine ob_callV [] (z := oX3_readClause) (st := []) d_X3_readAll_59 lk_X3_45 mv_X3_readClause rfl sh_1 cl_3 rfl (Nat.le_of_ble_eq_true rfl) rfl k (ob_kV fun σ1 k => ?_)
        refine ob_aload_n d_X3_readAll_62 rfl ?_
        refine ob_callV [] (z := oX3_skipBlanks) (st := []) d_X3_readAll_63 lk_X3_42 mv_X3_skipBlanks rfl sh_1 cl_3 rfl (Nat.le_of_ble_eq_true rfl) rfl k (ob_kV fun σ2 k => ?_)
        refine ob_iinc (ls' := [.ref 1, .int (x1 + (1 : Int32))]) (v := 1) d_X3_readAll_66 rfl ci_1 (Nat.le_of_ble_eq_true rfl) rfl ?_
        refine ob_goto (tgt := 33) d_X3_readAll_69 rfl ?_
        exact k
theorem d_X3_skipBlanks_0 : decode oX3_skipBlanks.2.1 0 = .ok (.aload_n 0, 1) := by decide +kernel
theorem d_X3_skipBlanks_1 : decode oX3_skipBlanks.2.1 1 = .ok (.getfield 29, 3) := by decide +kernel
theorem d_X3_skipBlanks_4 : decode oX3_skipBlanks.2.1 4 = .ok (.aload_n 0, 1) := by decide +kernel
theorem d_X3_skipBlanks_5 : decode oX3_skipBlanks.2.1 5 = .ok (.getfield 26, 3) := by decide +kernel
theorem d_X3_skipBlanks_8 : decode oX3_skipBlanks.2.1 8 = .ok (.if_icmp .ge 30, 3) := by decide +kernel
theorem d_X3_skipBlanks_11 : decode oX3_skipBlanks.2.1 11 = .ok (.aload_n 0, 1) := by decide +kernel
theorem d_X3_skipBlanks_12 : decode oX3_skipBlanks.2.1 12 = .ok (.getfield 9, 3) := by decide +kernel
theorem d_X3_skipBlanks_15 : decode oX3_skipBlanks.2.1 15 = .ok (.aload_n 0, 1) := by decide +kernel
theorem d_X3_skipBlanks_16 : decode oX3_skipBlanks.2.1 16 = .ok (.getfield 29, 3) := by decide +kernel
theorem d_X3_skipBlanks_19 : decode oX3_skipBlanks.2.1 19 = .ok (.baload, 1) := by decide +kernel
theorem d_X3_skipBlanks_20 : decode oX3_skipBlanks.2.1 20 = .ok (.bipush 32, 2) := by decide +kernel
theorem d_X3_skipBlanks_22 : decode oX3_skipBlanks.2.1 22 = .ok (.if_icmp .ne 16, 3) := by decide +kernel
theorem d_X3_skipBlanks_25 : decode oX3_skipBlanks.2.1 25 = .ok (.aload_n 0, 1) := by decide +kernel
theorem d_X3_skipBlanks_26 : decode oX3_skipBlanks.2.1 26 = .ok (.dup, 1) := by decide +kernel
theorem d_X3_skipBlanks_27 : decode oX3_skipBlanks.2.1 27 = .ok (.getfield 29, 3) := by decide +kernel
theorem d_X3_skipBlanks_30 : decode oX3_skipBlanks.2.1 30 = .ok (.iconst 1, 1) := by decide +kernel
theorem d_X3_skipBlanks_31 : decode oX3_skipBlanks.2.1 31 = .ok (.iadd, 1) := by decide +kernel
theorem d_X3_skipBlanks_32 : decode oX3_skipBlanks.2.1 32 = .ok (.putfield 29, 3) := by decide +kernel
theorem d_X3_skipBlanks_35 : decode oX3_skipBlanks.2.1 35 = .ok (.goto (-35), 3) := by decide +kernel
theorem d_X3_skipBlanks_38 : decode oX3_skipBlanks.2.1 38 = .ok (.return_, 1) := by decide +kernel
theorem b_X3_skipBlanks_0 {E : ob_E} {σ : ob_Mem} {Q : ob_Mem → Prop} (k : (((σ.1 1 2) ≤ (σ.1 1 3) → Q σ) ∧ (¬ (σ.1 1 2) ≤ (σ.1 1 3) → (vp_in (σ.1 1 3) 500 ∧ ((¬ (σ.1 2 ((σ.1 1 3)).toNatClampNeg) = (32 : Int32) → Q σ) ∧ ((σ.1 2 ((σ.1 1 3)).toNatClampNeg) = (32 : Int32) → ob_RT shp E oX3_skipBlanks 0 [.ref 1] [] (ob_wI σ 1 3 ((σ.1 1 3) + (1 : Int32))) (ob_qV Q))))))) : ob_RT shp E oX3_skipBlanks 0 [.ref 1] [] σ (ob_qV Q) := by
  refine ob_aload_n d_X3_skipBlanks_0 rfl ?_
  refine ob_getI d_X3_skipBlanks_1 fl_X3_29 sh_1 rfl (by decide) ?_
  refine ob_aload_n d_X3_skipBlanks_4 rfl ?_
  refine ob_getI d_X3_skipBlanks_5 fl_X3_26 sh_1 rfl (by decide) ?_
  refine ob_icmp_ge (tgt := 38) d_X3_skipBlanks_8 rfl (fun cc => ?_) (fun cc => ?_)
  · have k := k.1 cc
    exact ob_vret d_X3_skipBlanks_38 rfl ⟨rfl, k⟩
  · have k := k.2 cc
    refine ob_aload_n d_X3_skipBlanks_11 rfl ?_
    refine ob_getR d_X3_skipBlanks_12 fl_X3_9 sh_1 rfl rfl ?_
    refine ob_aload_n d_X3_skipBlanks_15 rfl ?_
    refine ob_getI d_X3_skipBlanks_16 fl_X3_29 sh_1 rfl (by decide) ?_
    obtain ⟨hin, k⟩ := k
    refine ob_bald d_X3_skipBlanks_19 sh_2 hin ?_
    refine ob_bipush (v := 32) d_X3_skipBlanks_20 cb_32 ?_
    refine ob_icmp_ne (tgt := 38) d_X3_skipBlanks_22 rfl (fun cc => ?_) (fun cc => ?_)
    · have k := k.1 cc
      exact ob_vret d_X3_skipBlanks_38 rfl ⟨rfl, k⟩
    · have k := k.2 cc
      refine ob_aload_n d_X3_skipBlanks_25 rfl ?_
      refine ob_dup d_X3_skipBlanks_26 rfl ?_
      refine ob_getI d_X3_skipBlanks_27 fl_X3_29 sh_1 rfl (by decide) ?_
      refine ob_iconst (v := 1) d_X3_skipBlanks_30 ci_1 ?_
      refine ob_iadd d_X3_skipBlanks_31 ?_
      refine ob_putI d_X3_skipBlanks_32 fp_X3_29 sh_1 rfl rfl ?_
      refine ob_goto (tgt := 0) d_X3_skipBlanks_35 rfl ?_
      exact k
theorem d_X3_readClause_0 : decode oX3_readClause.2.1 0 = .ok (.aload_n 0, 1) := by decide +kernel
theorem d_X3_readClause_1 : decode oX3_readClause.2.1 1 = .ok (.getfield 29, 3) := by decide +kernel
theorem d_X3_readClause_4 : decode oX3_readClause.2.1 4 = .ok (.istore_n 1, 1) := by decide +kernel
theorem d_X3_readClause_5 : decode oX3_readClause.2.1 5 = .ok (.aload_n 0, 1) := by decide +kernel
theorem d_X3_readClause_6 : decode oX3_readClause.2.1 6 = .ok (.invokevirtual 48, 3) := by decide +kernel
theorem d_X3_readClause_9 : decode oX3_readClause.2.1 9 = .ok (.aload_n 0, 1) := by decide +kernel
theorem d_X3_readClause_10 : decode oX3_readClause.2.1 10 = .ok (.iload_n 1, 1) := by decide +kernel
theorem d_X3_readClause_11 : decode oX3_readClause.2.1 11 = .ok (.ldc 51, 2) := by decide +kernel
theorem d_X3_readClause_13 : decode oX3_readClause.2.1 13 = .ok (.invokevirtual 53, 3) := by decide +kernel
theorem d_X3_readClause_16 : decode oX3_readClause.2.1 16 = .ok (.ifCond .eq 11, 3) := by decide +kernel
theorem d_X3_readClause_19 : decode oX3_readClause.2.1 19 = .ok (.aload_n 0, 1) := by decide +kernel
theorem d_X3_readClause_20 : decode oX3_readClause.2.1 20 = .ok (.iload_n 1, 1) := by decide +kernel
theorem d_X3_readClause_21 : decode oX3_readClause.2.1 21 = .ok (.invokevirtual 57, 3) := by decide +kernel
theorem d_X3_readClause_24 : decode oX3_readClause.2.1 24 = .ok (.goto 63, 3) := by decide +kernel
theorem d_X3_readClause_27 : decode oX3_readClause.2.1 27 = .ok (.aload_n 0, 1) := by decide +kernel
theorem d_X3_readClause_28 : decode oX3_readClause.2.1 28 = .ok (.iload_n 1, 1) := by decide +kernel
theorem d_X3_readClause_29 : decode oX3_readClause.2.1 29 = .ok (.ldc 61, 2) := by decide +kernel
theorem d_X3_readClause_31 : decode oX3_readClause.2.1 31 = .ok (.invokevirtual 53, 3) := by decide +kernel
theorem d_X3_readClause_34 : decode oX3_readClause.2.1 34 = .ok (.ifCond .eq 11, 3) := by decide +kernel
theorem d_X3_readClause_37 : decode oX3_readClause.2.1 37 = .ok (.aload_n 0, 1) := by decide +kernel
theorem d_X3_readClause_38 : decode oX3_readClause.2.1 38 = .ok (.iload_n 1, 1) := by decide +kernel
theorem d_X3_readClause_39 : decode oX3_readClause.2.1 39 = .ok (.invokevirtual 63, 3) := by decide +kernel
theorem d_X3_readClause_42 : decode oX3_readClause.2.1 42 = .ok (.goto 45, 3) := by decide +kernel
theorem d_X3_readClause_45 : decode oX3_readClause.2.1 45 = .ok (.aload_n 0, 1) := by decide +kernel
theorem d_X3_readClause_46 : decode oX3_readClause.2.1 46 = .ok (.iload_n 1, 1) := by decide +kernel
theorem d_X3_readClause_47 : decode oX3_readClause.2.1 47 = .ok (.ldc 66, 2) := by decide +kernel
theorem d_X3_readClause_49 : decode oX3_readClause.2.1 49 = .ok (.invokevirtual 53, 3) := by decide +kernel
theorem d_X3_readClause_52 : decode oX3_readClause.2.1 52 = .ok (.ifCond .eq 11, 3) := by decide +kernel
theorem d_X3_readClause_55 : decode oX3_readClause.2.1 55 = .ok (.aload_n 0, 1) := by decide +kernel
theorem d_X3_readClause_56 : decode oX3_readClause.2.1 56 = .ok (.iload_n 1, 1) := by decide +kernel
theorem d_X3_readClause_57 : decode oX3_readClause.2.1 57 = .ok (.invokevirtual 68, 3) := by decide +kernel
theorem d_X3_readClause_60 : decode oX3_readClause.2.1 60 = .ok (.goto 27, 3) := by decide +kernel
theorem d_X3_readClause_63 : decode oX3_readClause.2.1 63 = .ok (.aload_n 0, 1) := by decide +kernel
theorem d_X3_readClause_64 : decode oX3_readClause.2.1 64 = .ok (.iload_n 1, 1) := by decide +kernel
theorem d_X3_readClause_65 : decode oX3_readClause.2.1 65 = .ok (.ldc 71, 2) := by decide +kernel
theorem d_X3_readClause_67 : decode oX3_readClause.2.1 67 = .ok (.invokevirtual 53, 3) := by decide +kernel
theorem d_X3_readClause_70 : decode oX3_readClause.2.1 70 = .ok (.ifCond .eq 11, 3) := by decide +kernel
theorem d_X3_readClause_73 : decode oX3_readClause.2.1 73 = .ok (.aload_n 0, 1) := by decide +kernel
theorem d_X3_readClause_74 : decode oX3_readClause.2.1 74 = .ok (.iload_n 1, 1) := by decide +kernel
theorem d_X3_readClause_75 : decode oX3_readClause.2.1 75 = .ok (.invokevirtual 73, 3) := by decide +kernel
theorem d_X3_readClause_78 : decode oX3_readClause.2.1 78 = .ok (.goto 9, 3) := by decide +kernel
theorem d_X3_readClause_81 : decode oX3_readClause.2.1 81 = .ok (.aload_n 0, 1) := by decide +kernel
theorem d_X3_readClause_82 : decode oX3_readClause.2.1 82 = .ok (.iconst 1, 1) := by decide +kernel
theorem d_X3_readClause_83 : decode oX3_readClause.2.1 83 = .ok (.iload_n 1, 1) := by decide +kernel
theorem d_X3_readClause_84 : decode oX3_readClause.2.1 84 = .ok (.invokevirtual 76, 3) := by decide +kernel
theorem d_X3_readClause_87 : decode oX3_readClause.2.1 87 = .ok (.return_, 1) := by decide +kernel
theorem b_X3_readClause_0 {E : ob_E} {σ : ob_Mem} {Q : ob_Mem → Prop} (k : ob_RM shp E oX3_skipLetters [.ref 1] σ (ob_qV fun σ1 => ob_RM shp E oX3_isWord [.ref 1, .int (σ.1 1 3), .ref 110] σ1 (ob_qI fun v3 σ2 => ((v3 = 0 → ob_RM shp E oX3_isWord [.ref 1, .int (σ.1 1 3), .ref 111] σ2 (ob_qI fun v5 σ4 => ((v5 = 0 → ob_RM shp E oX3_isWord [.ref 1, .int (σ.1 1 3), .ref 112] σ4 (ob_qI fun v7 σ6 => ((v7 = 0 → ob_RM shp E oX3_isWord [.ref 1, .int (σ.1 1 3), .ref 113] σ6 (ob_qI fun v9 σ8 => ((v9 = 0 → ob_RM shp E oX3_setFault [.ref 1, .int (1 : Int32), .int (σ.1 1 3)] σ8 (ob_qV fun σ10 => Q σ10)) ∧ (¬ v9 = 0 → ob_RM shp E oX3_readGood [.ref 1, .int (σ.1 1 3)] σ8 (ob_qV fun σ11 => Q σ11))))) ∧ (¬ v7 = 0 → ob_RM shp E oX3_readBirthday [.ref 1, .int (σ.1 1 3)] σ6 (ob_qV fun σ12 => Q σ12))))) ∧ (¬ v5 = 0 → ob_RM shp E oX3_readPerson [.ref 1, .int (σ.1 1 3)] σ4 (ob_qV fun σ13 => Q σ13))))) ∧ (¬ v3 = 0 → ob_RM shp E oX3_readYear [.ref 1, .int (σ.1 1 3)] σ2 (ob_qV fun σ14 => Q σ14)))))) : ob_RT shp E oX3_readClause 0 [.ref 1, .null] [] σ (ob_qV Q) := by
  refine ob_aload_n d_X3_readClause_0 rfl ?_
  refine ob_getI d_X3_readClause_1 fl_X3_29 sh_1 rfl (by decide) ?_
  refine ob_istore_n (ls' := [.ref 1, .int (σ.1 1 3)]) d_X3_readClause_4 (Nat.le_of_ble_eq_true rfl) rfl ?_
  refine ob_aload_n d_X3_readClause_5 rfl ?_
  refine ob_callV [] (z := oX3_skipLetters) (st := []) d_X3_readClause_6 lk_X3_48 mv_X3_skipLetters rfl sh_1 cl_3 rfl (Nat.le_of_ble_eq_true rfl) rfl k (ob_kV fun σ1 k => ?_)
  refine ob_aload_n d_X3_readClause_9 rfl ?_
  refine ob_iload_n d_X3_readClause_10 rfl ?_
  refine ob_ldcS (i := 0) rfl d_X3_readClause_11 (by decide) ?_
  refine ob_callV [.int (σ.1 1 3), .ref 110] (z := oX3_isWord) (st := []) d_X3_readClause_13 lk_X3_53 mv_X3_isWord rfl sh_1 cl_3 rfl (Nat.le_of_ble_eq_true rfl) rfl k (ob_kI fun v3 σ2 k => ?_)
  refine ob_if_eq (tgt := 27) d_X3_readClause_16 rfl (fun cc => ?_) (fun cc => ?_)
  · have k := k.1 cc
    refine ob_aload_n d_X3_readClause_27 rfl ?_
    refine ob_iload_n d_X3_readClause_28 rfl ?_
    refine ob_ldcS (i := 1) rfl d_X3_readClause_29 (by decide) ?_
    refine ob_callV [.int (σ.1 1 3), .ref 111] (z := oX3_isWord) (st := []) d_X3_readClause_31 lk_X3_53 mv_X3_isWord rfl sh_1 cl_3 rfl (Nat.le_of_ble_eq_true rfl) rfl k (ob_kI fun v5 σ4 k => ?_)
    refine ob_if_eq (tgt := 45) d_X3_readClause_34 rfl (fun cc => ?_) (fun cc => ?_)
    · have k := k.1 cc
      refine ob_aload_n d_X3_readClause_45 rfl ?_
      refine ob_iload_n d_X3_readClause_46 rfl ?_
      refine ob_ldcS (i := 2) rfl d_X3_readClause_47 (by decide) ?_
      refine ob_callV [.int (σ.1 1 3), .ref 112] (z := oX3_isWord) (st := []) d_X3_readClause_49 lk_X3_53 mv_X3_isWord rfl sh_1 cl_3 rfl (Nat.le_of_ble_eq_true rfl) rfl k (ob_kI fun v7 σ6 k => ?_)
      refine ob_if_eq (tgt := 63) d_X3_readClause_52 rfl (fun cc => ?_) (fun cc => ?_)
      · have k := k.1 cc
        refine ob_aload_n d_X3_readClause_63 rfl ?_
        refine ob_iload_n d_X3_readClause_64 rfl ?_
        refine ob_ldcS (i := 3) rfl d_X3_readClause_65 (by decide) ?_
        refine ob_callV [.int (σ.1 1 3), .ref 113] (z := oX3_isWord) (st := []) d_X3_readClause_67 lk_X3_53 mv_X3_isWord rfl sh_1 cl_3 rfl (Nat.le_of_ble_eq_true rfl) rfl k (ob_kI fun v9 σ8 k => ?_)
        refine ob_if_eq (tgt := 81) d_X3_readClause_70 rfl (fun cc => ?_) (fun cc => ?_)
        · have k := k.1 cc
          refine ob_aload_n d_X3_readClause_81 rfl ?_
          refine ob_iconst (v := 1) d_X3_readClause_82 ci_1 ?_
          refine ob_iload_n d_X3_readClause_83 rfl ?_
          refine ob_callV [.int (1 : Int32), .int (σ.1 1 3)] (z := oX3_setFault) (st := []) d_X3_readClause_84 lk_X3_76 mv_X3_setFault rfl sh_1 cl_3 rfl (Nat.le_of_ble_eq_true rfl) rfl k (ob_kV fun σ10 k => ?_)
          exact ob_vret d_X3_readClause_87 rfl ⟨rfl, k⟩
        · have k := k.2 cc
          refine ob_aload_n d_X3_readClause_73 rfl ?_
          refine ob_iload_n d_X3_readClause_74 rfl ?_
          refine ob_callV [.int (σ.1 1 3)] (z := oX3_readGood) (st := []) d_X3_readClause_75 lk_X3_73 mv_X3_readGood rfl sh_1 cl_3 rfl (Nat.le_of_ble_eq_true rfl) rfl k (ob_kV fun σ11 k => ?_)
          refine ob_goto (tgt := 87) d_X3_readClause_78 rfl ?_
          exact ob_vret d_X3_readClause_87 rfl ⟨rfl, k⟩
      · have k := k.2 cc
        refine ob_aload_n d_X3_readClause_55 rfl ?_
        refine ob_iload_n d_X3_readClause_56 rfl ?_
        refine ob_callV [.int (σ.1 1 3)] (z := oX3_readBirthday) (st := []) d_X3_readClause_57 lk_X3_68 mv_X3_readBirthday rfl sh_1 cl_3 rfl (Nat.le_of_ble_eq_true rfl) rfl k (ob_kV fun σ12 k => ?_)
        refine ob_goto (tgt := 87) d_X3_readClause_60 rfl ?_
        exact ob_vret d_X3_readClause_87 rfl ⟨rfl, k⟩
    · have k := k.2 cc
      refine ob_aload_n d_X3_readClause_37 rfl ?_
      refine ob_iload_n d_X3_readClause_38 rfl ?_
      refine ob_callV [.int (σ.1 1 3)] (z := oX3_readPerson) (st := []) d_X3_readClause_39 lk_X3_63 mv_X3_readPerson rfl sh_1 cl_3 rfl (Nat.le_of_ble_eq_true rfl) rfl k (ob_kV fun σ13 k => ?_)
      refine ob_goto (tgt := 87) d_X3_readClause_42 rfl ?_
      exact ob_vret d_X3_readClause_87 rfl ⟨rfl, k⟩
  · have k := k.2 cc
    refine ob_aload_n d_X3_readClause_19 rfl ?_
    refine ob_iload_n d_X3_readClause_20 rfl ?_
    refine ob_callV [.int (σ.1 1 3)] (z := oX3_readYear) (st := []) d_X3_readClause_21 lk_X3_57 mv_X3_readYear rfl sh_1 cl_3 rfl (Nat.le_of_ble_eq_true rfl) rfl k (ob_kV fun σ14 k => ?_)
    refine ob_goto (tgt := 87) d_X3_readClause_24 rfl ?_
    exact ob_vret d_X3_readClause_87 rfl ⟨rfl, k⟩
theorem d_X3_skipLetters_0 : decode oX3_skipLetters.2.1 0 = .ok (.aload_n 0, 1) := by decide +kernel
theorem d_X3_skipLetters_1 : decode oX3_skipLetters.2.1 1 = .ok (.getfield 29, 3) := by decide +kernel
theorem d_X3_skipLetters_4 : decode oX3_skipLetters.2.1 4 = .ok (.aload_n 0, 1) := by decide +kernel
theorem d_X3_skipLetters_5 : decode oX3_skipLetters.2.1 5 = .ok (.getfield 26, 3) := by decide +kernel
theorem d_X3_skipLetters_8 : decode oX3_skipLetters.2.1 8 = .ok (.if_icmp .ge 44, 3) := by decide +kernel
theorem d_X3_skipLetters_11 : decode oX3_skipLetters.2.1 11 = .ok (.aload_n 0, 1) := by decide +kernel
theorem d_X3_skipLetters_12 : decode oX3_skipLetters.2.1 12 = .ok (.getfield 9, 3) := by decide +kernel
theorem d_X3_skipLetters_15 : decode oX3_skipLetters.2.1 15 = .ok (.aload_n 0, 1) := by decide +kernel
theorem d_X3_skipLetters_16 : decode oX3_skipLetters.2.1 16 = .ok (.getfield 29, 3) := by decide +kernel
theorem d_X3_skipLetters_19 : decode oX3_skipLetters.2.1 19 = .ok (.baload, 1) := by decide +kernel
theorem d_X3_skipLetters_20 : decode oX3_skipLetters.2.1 20 = .ok (.bipush 97, 2) := by decide +kernel
theorem d_X3_skipLetters_22 : decode oX3_skipLetters.2.1 22 = .ok (.if_icmp .lt 30, 3) := by decide +kernel
theorem d_X3_skipLetters_25 : decode oX3_skipLetters.2.1 25 = .ok (.aload_n 0, 1) := by decide +kernel
theorem d_X3_skipLetters_26 : decode oX3_skipLetters.2.1 26 = .ok (.getfield 9, 3) := by decide +kernel
theorem d_X3_skipLetters_29 : decode oX3_skipLetters.2.1 29 = .ok (.aload_n 0, 1) := by decide +kernel
theorem d_X3_skipLetters_30 : decode oX3_skipLetters.2.1 30 = .ok (.getfield 29, 3) := by decide +kernel
theorem d_X3_skipLetters_33 : decode oX3_skipLetters.2.1 33 = .ok (.baload, 1) := by decide +kernel
theorem d_X3_skipLetters_34 : decode oX3_skipLetters.2.1 34 = .ok (.bipush 122, 2) := by decide +kernel
theorem d_X3_skipLetters_36 : decode oX3_skipLetters.2.1 36 = .ok (.if_icmp .gt 16, 3) := by decide +kernel
theorem d_X3_skipLetters_39 : decode oX3_skipLetters.2.1 39 = .ok (.aload_n 0, 1) := by decide +kernel
theorem d_X3_skipLetters_40 : decode oX3_skipLetters.2.1 40 = .ok (.dup, 1) := by decide +kernel
theorem d_X3_skipLetters_41 : decode oX3_skipLetters.2.1 41 = .ok (.getfield 29, 3) := by decide +kernel
theorem d_X3_skipLetters_44 : decode oX3_skipLetters.2.1 44 = .ok (.iconst 1, 1) := by decide +kernel
theorem d_X3_skipLetters_45 : decode oX3_skipLetters.2.1 45 = .ok (.iadd, 1) := by decide +kernel
theorem d_X3_skipLetters_46 : decode oX3_skipLetters.2.1 46 = .ok (.putfield 29, 3) := by decide +kernel
theorem d_X3_skipLetters_49 : decode oX3_skipLetters.2.1 49 = .ok (.goto (-49), 3) := by decide +kernel
theorem d_X3_skipLetters_52 : decode oX3_skipLetters.2.1 52 = .ok (.return_, 1) := by decide +kernel
theorem b_X3_skipLetters_0 {E : ob_E} {σ : ob_Mem} {Q : ob_Mem → Prop} (k : (((σ.1 1 2) ≤ (σ.1 1 3) → Q σ) ∧ (¬ (σ.1 1 2) ≤ (σ.1 1 3) → (vp_in (σ.1 1 3) 500 ∧ (((σ.1 2 ((σ.1 1 3)).toNatClampNeg) < (97 : Int32) → Q σ) ∧ (¬ (σ.1 2 ((σ.1 1 3)).toNatClampNeg) < (97 : Int32) → (vp_in (σ.1 1 3) 500 ∧ (((122 : Int32) < (σ.1 2 ((σ.1 1 3)).toNatClampNeg) → Q σ) ∧ (¬ (122 : Int32) < (σ.1 2 ((σ.1 1 3)).toNatClampNeg) → ob_RT shp E oX3_skipLetters 0 [.ref 1] [] (ob_wI σ 1 3 ((σ.1 1 3) + (1 : Int32))) (ob_qV Q)))))))))) : ob_RT shp E oX3_skipLetters 0 [.ref 1] [] σ (ob_qV Q) := by
  refine ob_aload_n d_X3_skipLetters_0 rfl ?_
  refine ob_getI d_X3_skipLetters_1 fl_X3_29 sh_1 rfl (by decide) ?_
  refine ob_aload_n d_X3_skipLetters_4 rfl ?_
  refine ob_getI d_X3_skipLetters_5 fl_X3_26 sh_1 rfl (by decide) ?_
  refine ob_icmp_ge (tgt := 52) d_X3_skipLetters_8 rfl (fun cc => ?_) (fun cc => ?_)
  · have k := k.1 cc
    exact ob_vret d_X3_skipLetters_52 rfl ⟨rfl, k⟩
  · have k := k.2 cc
    refine ob_aload_n d_X3_skipLetters_11 rfl ?_
    refine ob_getR d_X3_skipLetters_12 fl_X3_9 sh_1 rfl rfl ?_
    refine ob_aload_n d_X3_skipLetters_15 rfl ?_
    refine ob_getI d_X3_skipLetters_16 fl_X3_29 sh_1 rfl (by decide) ?_
    obtain ⟨hin, k⟩ := k
    refine ob_bald d_X3_skipLetters_19 sh_2 hin ?_
    refine ob_bipush (v := 97) d_X3_skipLetters_20 cb_97 ?_
    refine ob_icmp_lt (tgt := 52) d_X3_skipLetters_22 rfl (fun cc => ?_) (fun cc => ?_)
    · have k := k.1 cc
      exact ob_vret d_X3_skipLetters_52 rfl ⟨rfl, k⟩
    · have k := k.2 cc
      refine ob_aload_n d_X3_skipLetters_25 rfl ?_
      refine ob_getR d_X3_skipLetters_26 fl_X3_9 sh_1 rfl rfl ?_
      refine ob_aload_n d_X3_skipLetters_29 rfl ?_
      refine ob_getI d_X3_skipLetters_30 fl_X3_29 sh_1 rfl (by decide) ?_
      obtain ⟨hin, k⟩ := k
      refine ob_bald d_X3_skipLetters_33 sh_2 hin ?_
      refine ob_bipush (v := 122) d_X3_skipLetters_34 cb_122 ?_
      refine ob_icmp_gt (tgt := 52) d_X3_skipLetters_36 rfl (fun cc => ?_) (fun cc => ?_)
      · have k := k.1 cc
        exact ob_vret d_X3_skipLetters_52 rfl ⟨rfl, k⟩
      · have k := k.2 cc
        refine ob_aload_n d_X3_skipLetters_39 rfl ?_
        refine ob_dup d_X3_skipLetters_40 rfl ?_
        refine ob_getI d_X3_skipLetters_41 fl_X3_29 sh_1 rfl (by decide) ?_
        refine ob_iconst (v := 1) d_X3_skipLetters_44 ci_1 ?_
        refine ob_iadd d_X3_skipLetters_45 ?_
        refine ob_putI d_X3_skipLetters_46 fp_X3_29 sh_1 rfl rfl ?_
        refine ob_goto (tgt := 0) d_X3_skipLetters_49 rfl ?_
        exact k
theorem d_X3_isWord_0 : decode oX3_isWord.2.1 0 = .ok (.aload_n 0, 1) := by decide +kernel
theorem d_X3_isWord_1 : decode oX3_isWord.2.1 1 = .ok (.getfield 29, 3) := by decide +kernel
theorem d_X3_isWord_4 : decode oX3_isWord.2.1 4 = .ok (.iload_n 1, 1) := by decide +kernel
theorem d_X3_isWord_5 : decode oX3_isWord.2.1 5 = .ok (.isub, 1) := by decide +kernel
theorem d_X3_isWord_6 : decode oX3_isWord.2.1 6 = .ok (.aload_n 2, 1) := by decide +kernel
theorem d_X3_isWord_7 : decode oX3_isWord.2.1 7 = .ok (.invokevirtual 127, 3) := by decide +kernel
theorem d_X3_isWord_10 : decode oX3_isWord.2.1 10 = .ok (.if_icmp .eq 5, 3) := by decide +kernel
theorem d_X3_isWord_13 : decode oX3_isWord.2.1 13 = .ok (.iconst 0, 1) := by decide +kernel
theorem d_X3_isWord_14 : decode oX3_isWord.2.1 14 = .ok (.ireturn, 1) := by decide +kernel
theorem d_X3_isWord_15 : decode oX3_isWord.2.1 15 = .ok (.iload_n 1, 1) := by decide +kernel
theorem d_X3_isWord_16 : decode oX3_isWord.2.1 16 = .ok (.istore_n 3, 1) := by decide +kernel
theorem d_X3_isWord_17 : decode oX3_isWord.2.1 17 = .ok (.iload_n 3, 1) := by decide +kernel
theorem d_X3_isWord_18 : decode oX3_isWord.2.1 18 = .ok (.aload_n 0, 1) := by decide +kernel
theorem d_X3_isWord_19 : decode oX3_isWord.2.1 19 = .ok (.getfield 29, 3) := by decide +kernel
theorem d_X3_isWord_22 : decode oX3_isWord.2.1 22 = .ok (.if_icmp .ge 27, 3) := by decide +kernel
theorem d_X3_isWord_25 : decode oX3_isWord.2.1 25 = .ok (.aload_n 0, 1) := by decide +kernel
theorem d_X3_isWord_26 : decode oX3_isWord.2.1 26 = .ok (.getfield 9, 3) := by decide +kernel
theorem d_X3_isWord_29 : decode oX3_isWord.2.1 29 = .ok (.iload_n 3, 1) := by decide +kernel
theorem d_X3_isWord_30 : decode oX3_isWord.2.1 30 = .ok (.baload, 1) := by decide +kernel
theorem d_X3_isWord_31 : decode oX3_isWord.2.1 31 = .ok (.aload_n 2, 1) := by decide +kernel
theorem d_X3_isWord_32 : decode oX3_isWord.2.1 32 = .ok (.iload_n 3, 1) := by decide +kernel
theorem d_X3_isWord_33 : decode oX3_isWord.2.1 33 = .ok (.iload_n 1, 1) := by decide +kernel
theorem d_X3_isWord_34 : decode oX3_isWord.2.1 34 = .ok (.isub, 1) := by decide +kernel
theorem d_X3_isWord_35 : decode oX3_isWord.2.1 35 = .ok (.invokevirtual 132, 3) := by decide +kernel
theorem d_X3_isWord_38 : decode oX3_isWord.2.1 38 = .ok (.if_icmp .eq 5, 3) := by decide +kernel
theorem d_X3_isWord_41 : decode oX3_isWord.2.1 41 = .ok (.iconst 0, 1) := by decide +kernel
theorem d_X3_isWord_42 : decode oX3_isWord.2.1 42 = .ok (.ireturn, 1) := by decide +kernel
theorem d_X3_isWord_43 : decode oX3_isWord.2.1 43 = .ok (.iinc 3 1, 3) := by decide +kernel
theorem d_X3_isWord_46 : decode oX3_isWord.2.1 46 = .ok (.goto (-29), 3) := by decide +kernel
theorem d_X3_isWord_49 : decode oX3_isWord.2.1 49 = .ok (.iconst 1, 1) := by decide +kernel
theorem d_X3_isWord_50 : decode oX3_isWord.2.1 50 = .ok (.ireturn, 1) := by decide +kernel
theorem b_X3_isWord_1_110_0 {E : ob_E} {σ : ob_Mem} {Q : Int32 → ob_Mem → Prop} {x1 : Int32} (k : ob_RM shp E oJ0_length_8abf5 [.ref 110] σ (ob_qI fun v2 σ1 => ((((σ.1 1 3) - x1) = v2 → ob_RT shp E oX3_isWord 17 [.ref 1, .int x1, .ref 110, .int x1] [] σ1 (ob_qI Q)) ∧ (¬ ((σ.1 1 3) - x1) = v2 → Q (0 : Int32) σ1)))) : ob_RT shp E oX3_isWord 0 [.ref 1, .int x1, .ref 110, .null] [] σ (ob_qI Q) := by
  refine ob_aload_n d_X3_isWord_0 rfl ?_
  refine ob_getI d_X3_isWord_1 fl_X3_29 sh_1 rfl (by decide) ?_
  refine ob_iload_n d_X3_isWord_4 rfl ?_
  refine ob_isub d_X3_isWord_5 ?_
  refine ob_aload_n d_X3_isWord_6 rfl ?_
  refine ob_callT [] (z := oJ0_length_8abf5) (i := 0) (st := [.int ((σ.1 1 3) - x1)]) d_X3_isWord_7 lk_X3_127 mv_J0_length_8abf5 rfl (by decide) rfl (Nat.le_of_ble_eq_true rfl) rfl k (ob_kI fun v2 σ1 k => ?_)
  refine ob_icmp_eq (tgt := 15) d_X3_isWord_10 rfl (fun cc => ?_) (fun cc => ?_)
  · have k := k.1 cc
    refine ob_iload_n d_X3_isWord_15 rfl ?_
    refine ob_istore_n (ls' := [.ref 1, .int x1, .ref 110, .int x1]) d_X3_isWord_16 (Nat.le_of_ble_eq_true rfl) rfl ?_
    exact k
  · have k := k.2 cc
    refine ob_iconst (v := 0) d_X3_isWord_13 ci_0 ?_
    exact ob_zret d_X3_isWord_14 rfl rfl ⟨_, rfl, k⟩
theorem b_X3_isWord_1_110_17 {E : ob_E} {σ : ob_Mem} {Q : Int32 → ob_Mem → Prop} {x1 x3 : Int32} (k : (((σ.1 1 3) ≤ x3 → Q (1 : Int32) σ) ∧ (¬ (σ.1 1 3) ≤ x3 → (vp_in x3 500 ∧ ob_RM shp E oJ0_charAt_5068e [.ref 110, .int (x3 - x1)] σ (ob_qI fun v2 σ1 => (((σ.1 2 (x3).toNatClampNeg) = v2 → ob_RT shp E oX3_isWord 17 [.ref 1, .int x1, .ref 110, .int (x3 + (1 : Int32))] [] σ1 (ob_qI Q)) ∧ (¬ (σ.1 2 (x3).toNatClampNeg) = v2 → Q (0 : Int32) σ1))))))) : ob_RT shp E oX3_isWord 17 [.ref 1, .int x1, .ref 110, .int x3] [] σ (ob_qI Q) := by
  refine ob_iload_n d_X3_isWord_17 rfl ?_
  refine ob_aload_n d_X3_isWord_18 rfl ?_
  refine ob_getI d_X3_isWord_19 fl_X3_29 sh_1 rfl (by decide) ?_
  refine ob_icmp_ge (tgt := 49) d_X3_isWord_22 rfl (fun cc => ?_) (fun cc => ?_)
  · have k := k.1 cc
    refine ob_iconst (v := 1) d_X3_isWord_49 ci_1 ?_
    exact ob_zret d_X3_isWord_50 rfl rfl ⟨_, rfl, k⟩
  · have k := k.2 cc
    refine ob_aload_n d_X3_isWord_25 rfl ?_
    refine ob_getR d_X3_isWord_26 fl_X3_9 sh_1 rfl rfl ?_
    refine ob_iload_n d_X3_isWord_29 rfl ?_
    obtain ⟨hin, k⟩ := k
    refine ob_bald d_X3_isWord_30 sh_2 hin ?_
    refine ob_aload_n d_X3_isWord_31 rfl ?_
    refine ob_iload_n d_X3_isWord_32 rfl ?_
    refine ob_iload_n d_X3_isWord_33 rfl ?_
    refine ob_isub d_X3_isWord_34 ?_
    refine ob_callT [.int (x3 - x1)] (z := oJ0_charAt_5068e) (i := 0) (st := [.int (σ.1 2 (x3).toNatClampNeg)]) d_X3_isWord_35 lk_X3_132 mv_J0_charAt_5068e rfl (by decide) rfl (Nat.le_of_ble_eq_true rfl) rfl k (ob_kI fun v2 σ1 k => ?_)
    refine ob_icmp_eq (tgt := 43) d_X3_isWord_38 rfl (fun cc => ?_) (fun cc => ?_)
    · have k := k.1 cc
      refine ob_iinc (ls' := [.ref 1, .int x1, .ref 110, .int (x3 + (1 : Int32))]) (v := 1) d_X3_isWord_43 rfl ci_1 (Nat.le_of_ble_eq_true rfl) rfl ?_
      refine ob_goto (tgt := 17) d_X3_isWord_46 rfl ?_
      exact k
    · have k := k.2 cc
      refine ob_iconst (v := 0) d_X3_isWord_41 ci_0 ?_
      exact ob_zret d_X3_isWord_42 rfl rfl ⟨_, rfl, k⟩
theorem b_X3_isWord_1_111_0 {E : ob_E} {σ : ob_Mem} {Q : Int32 → ob_Mem → Prop} {x1 : Int32} (k : ob_RM shp E oJ0_length_8abf5 [.ref 111] σ (ob_qI fun v2 σ1 => ((((σ.1 1 3) - x1) = v2 → ob_RT shp E oX3_isWord 17 [.ref 1, .int x1, .ref 111, .int x1] [] σ1 (ob_qI Q)) ∧ (¬ ((σ.1 1 3) - x1) = v2 → Q (0 : Int32) σ1)))) : ob_RT shp E oX3_isWord 0 [.ref 1, .int x1, .ref 111, .null] [] σ (ob_qI Q) := by
  refine ob_aload_n d_X3_isWord_0 rfl ?_
  refine ob_getI d_X3_isWord_1 fl_X3_29 sh_1 rfl (by decide) ?_
  refine ob_iload_n d_X3_isWord_4 rfl ?_
  refine ob_isub d_X3_isWord_5 ?_
  refine ob_aload_n d_X3_isWord_6 rfl ?_
  refine ob_callT [] (z := oJ0_length_8abf5) (i := 1) (st := [.int ((σ.1 1 3) - x1)]) d_X3_isWord_7 lk_X3_127 mv_J0_length_8abf5 rfl (by decide) rfl (Nat.le_of_ble_eq_true rfl) rfl k (ob_kI fun v2 σ1 k => ?_)
  refine ob_icmp_eq (tgt := 15) d_X3_isWord_10 rfl (fun cc => ?_) (fun cc => ?_)
  · have k := k.1 cc
    refine ob_iload_n d_X3_isWord_15 rfl ?_
    refine ob_istore_n (ls' := [.ref 1, .int x1, .ref 111, .int x1]) d_X3_isWord_16 (Nat.le_of_ble_eq_true rfl) rfl ?_
    exact k
  · have k := k.2 cc
    refine ob_iconst (v := 0) d_X3_isWord_13 ci_0 ?_
    exact ob_zret d_X3_isWord_14 rfl rfl ⟨_, rfl, k⟩
theorem b_X3_isWord_1_111_17 {E : ob_E} {σ : ob_Mem} {Q : Int32 → ob_Mem → Prop} {x1 x3 : Int32} (k : (((σ.1 1 3) ≤ x3 → Q (1 : Int32) σ) ∧ (¬ (σ.1 1 3) ≤ x3 → (vp_in x3 500 ∧ ob_RM shp E oJ0_charAt_5068e [.ref 111, .int (x3 - x1)] σ (ob_qI fun v2 σ1 => (((σ.1 2 (x3).toNatClampNeg) = v2 → ob_RT shp E oX3_isWord 17 [.ref 1, .int x1, .ref 111, .int (x3 + (1 : Int32))] [] σ1 (ob_qI Q)) ∧ (¬ (σ.1 2 (x3).toNatClampNeg) = v2 → Q (0 : Int32) σ1))))))) : ob_RT shp E oX3_isWord 17 [.ref 1, .int x1, .ref 111, .int x3] [] σ (ob_qI Q) := by
  refine ob_iload_n d_X3_isWord_17 rfl ?_
  refine ob_aload_n d_X3_isWord_18 rfl ?_
  refine ob_getI d_X3_isWord_19 fl_X3_29 sh_1 rfl (by decide) ?_
  refine ob_icmp_ge (tgt := 49) d_X3_isWord_22 rfl (fun cc => ?_) (fun cc => ?_)
  · have k := k.1 cc
    refine ob_iconst (v := 1) d_X3_isWord_49 ci_1 ?_
    exact ob_zret d_X3_isWord_50 rfl rfl ⟨_, rfl, k⟩
  · have k := k.2 cc
    refine ob_aload_n d_X3_isWord_25 rfl ?_
    refine ob_getR d_X3_isWord_26 fl_X3_9 sh_1 rfl rfl ?_
    refine ob_iload_n d_X3_isWord_29 rfl ?_
    obtain ⟨hin, k⟩ := k
    refine ob_bald d_X3_isWord_30 sh_2 hin ?_
    refine ob_aload_n d_X3_isWord_31 rfl ?_
    refine ob_iload_n d_X3_isWord_32 rfl ?_
    refine ob_iload_n d_X3_isWord_33 rfl ?_
    refine ob_isub d_X3_isWord_34 ?_
    refine ob_callT [.int (x3 - x1)] (z := oJ0_charAt_5068e) (i := 1) (st := [.int (σ.1 2 (x3).toNatClampNeg)]) d_X3_isWord_35 lk_X3_132 mv_J0_charAt_5068e rfl (by decide) rfl (Nat.le_of_ble_eq_true rfl) rfl k (ob_kI fun v2 σ1 k => ?_)
    refine ob_icmp_eq (tgt := 43) d_X3_isWord_38 rfl (fun cc => ?_) (fun cc => ?_)
    · have k := k.1 cc
      refine ob_iinc (ls' := [.ref 1, .int x1, .ref 111, .int (x3 + (1 : Int32))]) (v := 1) d_X3_isWord_43 rfl ci_1 (Nat.le_of_ble_eq_true rfl) rfl ?_
      refine ob_goto (tgt := 17) d_X3_isWord_46 rfl ?_
      exact k
    · have k := k.2 cc
      refine ob_iconst (v := 0) d_X3_isWord_41 ci_0 ?_
      exact ob_zret d_X3_isWord_42 rfl rfl ⟨_, rfl, k⟩
theorem b_X3_isWord_1_112_0 {E : ob_E} {σ : ob_Mem} {Q : Int32 → ob_Mem → Prop} {x1 : Int32} (k : ob_RM shp E oJ0_length_8abf5 [.ref 112] σ (ob_qI fun v2 σ1 => ((((σ.1 1 3) - x1) = v2 → ob_RT shp E oX3_isWord 17 [.ref 1, .int x1, .ref 112, .int x1] [] σ1 (ob_qI Q)) ∧ (¬ ((σ.1 1 3) - x1) = v2 → Q (0 : Int32) σ1)))) : ob_RT shp E oX3_isWord 0 [.ref 1, .int x1, .ref 112, .null] [] σ (ob_qI Q) := by
  refine ob_aload_n d_X3_isWord_0 rfl ?_
  refine ob_getI d_X3_isWord_1 fl_X3_29 sh_1 rfl (by decide) ?_
  refine ob_iload_n d_X3_isWord_4 rfl ?_
  refine ob_isub d_X3_isWord_5 ?_
  refine ob_aload_n d_X3_isWord_6 rfl ?_
  refine ob_callT [] (z := oJ0_length_8abf5) (i := 2) (st := [.int ((σ.1 1 3) - x1)]) d_X3_isWord_7 lk_X3_127 mv_J0_length_8abf5 rfl (by decide) rfl (Nat.le_of_ble_eq_true rfl) rfl k (ob_kI fun v2 σ1 k => ?_)
  refine ob_icmp_eq (tgt := 15) d_X3_isWord_10 rfl (fun cc => ?_) (fun cc => ?_)
  · have k := k.1 cc
    refine ob_iload_n d_X3_isWord_15 rfl ?_
    refine ob_istore_n (ls' := [.ref 1, .int x1, .ref 112, .int x1]) d_X3_isWord_16 (Nat.le_of_ble_eq_true rfl) rfl ?_
    exact k
  · have k := k.2 cc
    refine ob_iconst (v := 0) d_X3_isWord_13 ci_0 ?_
    exact ob_zret d_X3_isWord_14 rfl rfl ⟨_, rfl, k⟩
theorem b_X3_isWord_1_112_17 {E : ob_E} {σ : ob_Mem} {Q : Int32 → ob_Mem → Prop} {x1 x3 : Int32} (k : (((σ.1 1 3) ≤ x3 → Q (1 : Int32) σ) ∧ (¬ (σ.1 1 3) ≤ x3 → (vp_in x3 500 ∧ ob_RM shp E oJ0_charAt_5068e [.ref 112, .int (x3 - x1)] σ (ob_qI fun v2 σ1 => (((σ.1 2 (x3).toNatClampNeg) = v2 → ob_RT shp E oX3_isWord 17 [.ref 1, .int x1, .ref 112, .int (x3 + (1 : Int32))] [] σ1 (ob_qI Q)) ∧ (¬ (σ.1 2 (x3).toNatClampNeg) = v2 → Q (0 : Int32) σ1))))))) : ob_RT shp E oX3_isWord 17 [.ref 1, .int x1, .ref 112, .int x3] [] σ (ob_qI Q) := by
  refine ob_iload_n d_X3_isWord_17 rfl ?_
  refine ob_aload_n d_X3_isWord_18 rfl ?_
  refine ob_getI d_X3_isWord_19 fl_X3_29 sh_1 rfl (by decide) ?_
  refine ob_icmp_ge (tgt := 49) d_X3_isWord_22 rfl (fun cc => ?_) (fun cc => ?_)
  · have k := k.1 cc
    refine ob_iconst (v := 1) d_X3_isWord_49 ci_1 ?_
    exact ob_zret d_X3_isWord_50 rfl rfl ⟨_, rfl, k⟩
  · have k := k.2 cc
    refine ob_aload_n d_X3_isWord_25 rfl ?_
    refine ob_getR d_X3_isWord_26 fl_X3_9 sh_1 rfl rfl ?_
    refine ob_iload_n d_X3_isWord_29 rfl ?_
    obtain ⟨hin, k⟩ := k
    refine ob_bald d_X3_isWord_30 sh_2 hin ?_
    refine ob_aload_n d_X3_isWord_31 rfl ?_
    refine ob_iload_n d_X3_isWord_32 rfl ?_
    refine ob_iload_n d_X3_isWord_33 rfl ?_
    refine ob_isub d_X3_isWord_34 ?_
    refine ob_callT [.int (x3 - x1)] (z := oJ0_charAt_5068e) (i := 2) (st := [.int (σ.1 2 (x3).toNatClampNeg)]) d_X3_isWord_35 lk_X3_132 mv_J0_charAt_5068e rfl (by decide) rfl (Nat.le_of_ble_eq_true rfl) rfl k (ob_kI fun v2 σ1 k => ?_)
    refine ob_icmp_eq (tgt := 43) d_X3_isWord_38 rfl (fun cc => ?_) (fun cc => ?_)
    · have k := k.1 cc
      refine ob_iinc (ls' := [.ref 1, .int x1, .ref 112, .int (x3 + (1 : Int32))]) (v := 1) d_X3_isWord_43 rfl ci_1 (Nat.le_of_ble_eq_true rfl) rfl ?_
      refine ob_goto (tgt := 17) d_X3_isWord_46 rfl ?_
      exact k
    · have k := k.2 cc
      refine ob_iconst (v := 0) d_X3_isWord_41 ci_0 ?_
      exact ob_zret d_X3_isWord_42 rfl rfl ⟨_, rfl, k⟩
theorem b_X3_isWord_1_113_0 {E : ob_E} {σ : ob_Mem} {Q : Int32 → ob_Mem → Prop} {x1 : Int32} (k : ob_RM shp E oJ0_length_8abf5 [.ref 113] σ (ob_qI fun v2 σ1 => ((((σ.1 1 3) - x1) = v2 → ob_RT shp E oX3_isWord 17 [.ref 1, .int x1, .ref 113, .int x1] [] σ1 (ob_qI Q)) ∧ (¬ ((σ.1 1 3) - x1) = v2 → Q (0 : Int32) σ1)))) : ob_RT shp E oX3_isWord 0 [.ref 1, .int x1, .ref 113, .null] [] σ (ob_qI Q) := by
  refine ob_aload_n d_X3_isWord_0 rfl ?_
  refine ob_getI d_X3_isWord_1 fl_X3_29 sh_1 rfl (by decide) ?_
  refine ob_iload_n d_X3_isWord_4 rfl ?_
  refine ob_isub d_X3_isWord_5 ?_
  refine ob_aload_n d_X3_isWord_6 rfl ?_
  refine ob_callT [] (z := oJ0_length_8abf5) (i := 3) (st := [.int ((σ.1 1 3) - x1)]) d_X3_isWord_7 lk_X3_127 mv_J0_length_8abf5 rfl (by decide) rfl (Nat.le_of_ble_eq_true rfl) rfl k (ob_kI fun v2 σ1 k => ?_)
  refine ob_icmp_eq (tgt := 15) d_X3_isWord_10 rfl (fun cc => ?_) (fun cc => ?_)
  · have k := k.1 cc
    refine ob_iload_n d_X3_isWord_15 rfl ?_
    refine ob_istore_n (ls' := [.ref 1, .int x1, .ref 113, .int x1]) d_X3_isWord_16 (Nat.le_of_ble_eq_true rfl) rfl ?_
    exact k
  · have k := k.2 cc
    refine ob_iconst (v := 0) d_X3_isWord_13 ci_0 ?_
    exact ob_zret d_X3_isWord_14 rfl rfl ⟨_, rfl, k⟩
theorem b_X3_isWord_1_113_17 {E : ob_E} {σ : ob_Mem} {Q : Int32 → ob_Mem → Prop} {x1 x3 : Int32} (k : (((σ.1 1 3) ≤ x3 → Q (1 : Int32) σ) ∧ (¬ (σ.1 1 3) ≤ x3 → (vp_in x3 500 ∧ ob_RM shp E oJ0_charAt_5068e [.ref 113, .int (x3 - x1)] σ (ob_qI fun v2 σ1 => (((σ.1 2 (x3).toNatClampNeg) = v2 → ob_RT shp E oX3_isWord 17 [.ref 1, .int x1, .ref 113, .int (x3 + (1 : Int32))] [] σ1 (ob_qI Q)) ∧ (¬ (σ.1 2 (x3).toNatClampNeg) = v2 → Q (0 : Int32) σ1))))))) : ob_RT shp E oX3_isWord 17 [.ref 1, .int x1, .ref 113, .int x3] [] σ (ob_qI Q) := by
  refine ob_iload_n d_X3_isWord_17 rfl ?_
  refine ob_aload_n d_X3_isWord_18 rfl ?_
  refine ob_getI d_X3_isWord_19 fl_X3_29 sh_1 rfl (by decide) ?_
  refine ob_icmp_ge (tgt := 49) d_X3_isWord_22 rfl (fun cc => ?_) (fun cc => ?_)
  · have k := k.1 cc
    refine ob_iconst (v := 1) d_X3_isWord_49 ci_1 ?_
    exact ob_zret d_X3_isWord_50 rfl rfl ⟨_, rfl, k⟩
  · have k := k.2 cc
    refine ob_aload_n d_X3_isWord_25 rfl ?_
    refine ob_getR d_X3_isWord_26 fl_X3_9 sh_1 rfl rfl ?_
    refine ob_iload_n d_X3_isWord_29 rfl ?_
    obtain ⟨hin, k⟩ := k
    refine ob_bald d_X3_isWord_30 sh_2 hin ?_
    refine ob_aload_n d_X3_isWord_31 rfl ?_
    refine ob_iload_n d_X3_isWord_32 rfl ?_
    refine ob_iload_n d_X3_isWord_33 rfl ?_
    refine ob_isub d_X3_isWord_34 ?_
    refine ob_callT [.int (x3 - x1)] (z := oJ0_charAt_5068e) (i := 3) (st := [.int (σ.1 2 (x3).toNatClampNeg)]) d_X3_isWord_35 lk_X3_132 mv_J0_charAt_5068e rfl (by decide) rfl (Nat.le_of_ble_eq_true rfl) rfl k (ob_kI fun v2 σ1 k => ?_)
    refine ob_icmp_eq (tgt := 43) d_X3_isWord_38 rfl (fun cc => ?_) (fun cc => ?_)
    · have k := k.1 cc
      refine ob_iinc (ls' := [.ref 1, .int x1, .ref 113, .int (x3 + (1 : Int32))]) (v := 1) d_X3_isWord_43 rfl ci_1 (Nat.le_of_ble_eq_true rfl) rfl ?_
      refine ob_goto (tgt := 17) d_X3_isWord_46 rfl ?_
      exact k
    · have k := k.2 cc
      refine ob_iconst (v := 0) d_X3_isWord_41 ci_0 ?_
      exact ob_zret d_X3_isWord_42 rfl rfl ⟨_, rfl, k⟩
theorem d_X3_setFault_0 : decode oX3_setFault.2.1 0 = .ok (.aload_n 0, 1) := by decide +kernel
theorem d_X3_setFault_1 : decode oX3_setFault.2.1 1 = .ok (.getfield 32, 3) := by decide +kernel
theorem d_X3_setFault_4 : decode oX3_setFault.2.1 4 = .ok (.ifCond .ne 13, 3) := by decide +kernel
theorem d_X3_setFault_7 : decode oX3_setFault.2.1 7 = .ok (.aload_n 0, 1) := by decide +kernel
theorem d_X3_setFault_8 : decode oX3_setFault.2.1 8 = .ok (.iload_n 1, 1) := by decide +kernel
theorem d_X3_setFault_9 : decode oX3_setFault.2.1 9 = .ok (.putfield 32, 3) := by decide +kernel
theorem d_X3_setFault_12 : decode oX3_setFault.2.1 12 = .ok (.aload_n 0, 1) := by decide +kernel
theorem d_X3_setFault_13 : decode oX3_setFault.2.1 13 = .ok (.iload_n 2, 1) := by decide +kernel
theorem d_X3_setFault_14 : decode oX3_setFault.2.1 14 = .ok (.putfield 22, 3) := by decide +kernel
theorem d_X3_setFault_17 : decode oX3_setFault.2.1 17 = .ok (.return_, 1) := by decide +kernel
theorem b_X3_setFault_0 {E : ob_E} {σ : ob_Mem} {Q : ob_Mem → Prop} {x1 x2 : Int32} (k : ((¬ (σ.1 1 4) = 0 → Q σ) ∧ ((σ.1 1 4) = 0 → Q (ob_wI (ob_wI σ 1 4 x1) 1 5 x2)))) : ob_RT shp E oX3_setFault 0 [.ref 1, .int x1, .int x2] [] σ (ob_qV Q) := by
  refine ob_aload_n d_X3_setFault_0 rfl ?_
  refine ob_getI d_X3_setFault_1 fl_X3_32 sh_1 rfl (by decide) ?_
  refine ob_if_ne (tgt := 17) d_X3_setFault_4 rfl (fun cc => ?_) (fun cc => ?_)
  · have k := k.1 cc
    exact ob_vret d_X3_setFault_17 rfl ⟨rfl, k⟩
  · have k := k.2 cc
    refine ob_aload_n d_X3_setFault_7 rfl ?_
    refine ob_iload_n d_X3_setFault_8 rfl ?_
    refine ob_putI d_X3_setFault_9 fp_X3_32 sh_1 rfl rfl ?_
    refine ob_aload_n d_X3_setFault_12 rfl ?_
    refine ob_iload_n d_X3_setFault_13 rfl ?_
    refine ob_putI d_X3_setFault_14 fp_X3_22 sh_1 rfl rfl ?_
    exact ob_vret d_X3_setFault_17 rfl ⟨rfl, k⟩
theorem d_X3_readGood_0 : decode oX3_readGood.2.1 0 = .ok (.aload_n 0, 1) := by decide +kernel
theorem d_X3_readGood_1 : decode oX3_readGood.2.1 1 = .ok (.getfield 18, 3) := by decide +kernel
theorem d_X3_readGood_4 : decode oX3_readGood.2.1 4 = .ok (.getfield 107, 3) := by decide +kernel
theorem d_X3_readGood_7 : decode oX3_readGood.2.1 7 = .ok (.bipush 10, 2) := by decide +kernel
theorem d_X3_readGood_9 : decode oX3_readGood.2.1 9 = .ok (.if_icmp .lt 9, 3) := by decide +kernel
theorem d_X3_readGood_12 : decode oX3_readGood.2.1 12 = .ok (.aload_n 0, 1) := by decide +kernel
theorem d_X3_readGood_13 : decode oX3_readGood.2.1 13 = .ok (.iconst 3, 1) := by decide +kernel
theorem d_X3_readGood_14 : decode oX3_readGood.2.1 14 = .ok (.iload_n 1, 1) := by decide +kernel
theorem d_X3_readGood_15 : decode oX3_readGood.2.1 15 = .ok (.invokevirtual 76, 3) := by decide +kernel
theorem d_X3_readGood_18 : decode oX3_readGood.2.1 18 = .ok (.aload_n 0, 1) := by decide +kernel
theorem d_X3_readGood_19 : decode oX3_readGood.2.1 19 = .ok (.iconst 0, 1) := by decide +kernel
theorem d_X3_readGood_20 : decode oX3_readGood.2.1 20 = .ok (.bipush 120, 2) := by decide +kernel
theorem d_X3_readGood_22 : decode oX3_readGood.2.1 22 = .ok (.invokevirtual 84, 3) := by decide +kernel
theorem d_X3_readGood_25 : decode oX3_readGood.2.1 25 = .ok (.istore_n 2, 1) := by decide +kernel
theorem d_X3_readGood_26 : decode oX3_readGood.2.1 26 = .ok (.aload_n 0, 1) := by decide +kernel
theorem d_X3_readGood_27 : decode oX3_readGood.2.1 27 = .ok (.getfield 32, 3) := by decide +kernel
theorem d_X3_readGood_30 : decode oX3_readGood.2.1 30 = .ok (.ifCond .ne 23, 3) := by decide +kernel
theorem d_X3_readGood_33 : decode oX3_readGood.2.1 33 = .ok (.aload_n 0, 1) := by decide +kernel
theorem d_X3_readGood_34 : decode oX3_readGood.2.1 34 = .ok (.getfield 18, 3) := by decide +kernel
theorem d_X3_readGood_37 : decode oX3_readGood.2.1 37 = .ok (.iload_n 2, 1) := by decide +kernel
theorem d_X3_readGood_38 : decode oX3_readGood.2.1 38 = .ok (.invokevirtual 110, 3) := by decide +kernel
theorem d_X3_readGood_41 : decode oX3_readGood.2.1 41 = .ok (.ifCond .eq 12, 3) := by decide +kernel
theorem d_X3_readGood_44 : decode oX3_readGood.2.1 44 = .ok (.aload_n 0, 1) := by decide +kernel
theorem d_X3_readGood_45 : decode oX3_readGood.2.1 45 = .ok (.iconst 4, 1) := by decide +kernel
theorem d_X3_readGood_46 : decode oX3_readGood.2.1 46 = .ok (.aload_n 0, 1) := by decide +kernel
theorem d_X3_readGood_47 : decode oX3_readGood.2.1 47 = .ok (.getfield 114, 3) := by decide +kernel
theorem d_X3_readGood_50 : decode oX3_readGood.2.1 50 = .ok (.invokevirtual 76, 3) := by decide +kernel
theorem d_X3_readGood_53 : decode oX3_readGood.2.1 53 = .ok (.aload_n 0, 1) := by decide +kernel
theorem d_X3_readGood_54 : decode oX3_readGood.2.1 54 = .ok (.iconst 0, 1) := by decide +kernel
theorem d_X3_readGood_55 : decode oX3_readGood.2.1 55 = .ok (.bipush 99, 2) := by decide +kernel
theorem d_X3_readGood_57 : decode oX3_readGood.2.1 57 = .ok (.invokevirtual 84, 3) := by decide +kernel
theorem d_X3_readGood_60 : decode oX3_readGood.2.1 60 = .ok (.istore_n 3, 1) := by decide +kernel
theorem d_X3_readGood_61 : decode oX3_readGood.2.1 61 = .ok (.aload_n 0, 1) := by decide +kernel
theorem d_X3_readGood_62 : decode oX3_readGood.2.1 62 = .ok (.invokevirtual 88, 3) := by decide +kernel
theorem d_X3_readGood_65 : decode oX3_readGood.2.1 65 = .ok (.aload_n 0, 1) := by decide +kernel
theorem d_X3_readGood_66 : decode oX3_readGood.2.1 66 = .ok (.getfield 32, 3) := by decide +kernel
theorem d_X3_readGood_69 : decode oX3_readGood.2.1 69 = .ok (.ifCond .ne 12, 3) := by decide +kernel
theorem d_X3_readGood_72 : decode oX3_readGood.2.1 72 = .ok (.aload_n 0, 1) := by decide +kernel
theorem d_X3_readGood_73 : decode oX3_readGood.2.1 73 = .ok (.getfield 18, 3) := by decide +kernel
theorem d_X3_readGood_76 : decode oX3_readGood.2.1 76 = .ok (.iload_n 2, 1) := by decide +kernel
theorem d_X3_readGood_77 : decode oX3_readGood.2.1 77 = .ok (.iload_n 3, 1) := by decide +kernel
theorem d_X3_readGood_78 : decode oX3_readGood.2.1 78 = .ok (.invokevirtual 117, 3) := by decide +kernel
theorem d_X3_readGood_81 : decode oX3_readGood.2.1 81 = .ok (.return_, 1) := by decide +kernel
theorem b_X3_readGood_0 {E : ob_E} {σ : ob_Mem} {Q : ob_Mem → Prop} {x1 : Int32} (k : (((σ.1 3 9) < (10 : Int32) → ob_RT shp E oX3_readGood 18 [.ref 1, .int x1, .null, .null] [] σ (ob_qV Q)) ∧ (¬ (σ.1 3 9) < (10 : Int32) → ob_RM shp E oX3_setFault [.ref 1, .int (3 : Int32), .int x1] σ (ob_qV fun σ1 => ob_RT shp E oX3_readGood 18 [.ref 1, .int x1, .null, .null] [] σ1 (ob_qV Q))))) : ob_RT shp E oX3_readGood 0 [.ref 1, .int x1, .null, .null] [] σ (ob_qV Q) := by
  refine ob_aload_n d_X3_readGood_0 rfl ?_
  refine ob_getR d_X3_readGood_1 fl_X3_18 sh_1 rfl rfl ?_
  refine ob_getI d_X3_readGood_4 fl_X3_107 sh_3 rfl (by decide) ?_
  refine ob_bipush (v := 10) d_X3_readGood_7 cb_10 ?_
  refine ob_icmp_lt (tgt := 18) d_X3_readGood_9 rfl (fun cc => ?_) (fun cc => ?_)
  · have k := k.1 cc
    exact k
  · have k := k.2 cc
    refine ob_aload_n d_X3_readGood_12 rfl ?_
    refine ob_iconst (v := 3) d_X3_readGood_13 ci_3 ?_
    refine ob_iload_n d_X3_readGood_14 rfl ?_
    refine ob_callV [.int (3 : Int32), .int x1] (z := oX3_setFault) (st := []) d_X3_readGood_15 lk_X3_76 mv_X3_setFault rfl sh_1 cl_3 rfl (Nat.le_of_ble_eq_true rfl) rfl k (ob_kV fun σ1 k => ?_)
    exact k
theorem b_X3_readGood_18 {E : ob_E} {σ : ob_Mem} {Q : ob_Mem → Prop} {x1 : Int32} (k : ob_RM shp E oX3_readNumber [.ref 1, .int (0 : Int32), .int (120 : Int32)] σ (ob_qI fun v2 σ1 => ((¬ (σ1.1 1 4) = 0 → ob_RT shp E oX3_readGood 53 [.ref 1, .int x1, .int v2, .null] [] σ1 (ob_qV Q)) ∧ ((σ1.1 1 4) = 0 → ob_RM shp E oX2_tellsGoodOf [.ref 3, .int v2] σ1 (ob_qI fun v4 σ3 => ((v4 = 0 → ob_RT shp E oX3_readGood 53 [.ref 1, .int x1, .int v2, .null] [] σ3 (ob_qV Q)) ∧ (¬ v4 = 0 → ob_RM shp E oX3_setFault [.ref 1, .int (4 : Int32), .int (σ3.1 1 6)] σ3 (ob_qV fun σ5 => ob_RT shp E oX3_readGood 53 [.ref 1, .int x1, .int v2, .null] [] σ5 (ob_qV Q))))))))) : ob_RT shp E oX3_readGood 18 [.ref 1, .int x1, .null, .null] [] σ (ob_qV Q) := by
  refine ob_aload_n d_X3_readGood_18 rfl ?_
  refine ob_iconst (v := 0) d_X3_readGood_19 ci_0 ?_
  refine ob_bipush (v := 120) d_X3_readGood_20 cb_120 ?_
  refine ob_callV [.int (0 : Int32), .int (120 : Int32)] (z := oX3_readNumber) (st := []) d_X3_readGood_22 lk_X3_84 mv_X3_readNumber rfl sh_1 cl_3 rfl (Nat.le_of_ble_eq_true rfl) rfl k (ob_kI fun v2 σ1 k => ?_)
  refine ob_istore_n (ls' := [.ref 1, .int x1, .int v2, .null]) d_X3_readGood_25 (Nat.le_of_ble_eq_true rfl) rfl ?_
  refine ob_aload_n d_X3_readGood_26 rfl ?_
  refine ob_getI d_X3_readGood_27 fl_X3_32 sh_1 rfl (by decide) ?_
  refine ob_if_ne (tgt := 53) d_X3_readGood_30 rfl (fun cc => ?_) (fun cc => ?_)
  · have k := k.1 cc
    exact k
  · have k := k.2 cc
    refine ob_aload_n d_X3_readGood_33 rfl ?_
    refine ob_getR d_X3_readGood_34 fl_X3_18 sh_1 rfl rfl ?_
    refine ob_iload_n d_X3_readGood_37 rfl ?_
    refine ob_callV [.int v2] (z := oX2_tellsGoodOf) (st := []) d_X3_readGood_38 lk_X3_110 mv_X2_tellsGoodOf rfl sh_3 cl_2 rfl (Nat.le_of_ble_eq_true rfl) rfl k (ob_kI fun v4 σ3 k => ?_)
    refine ob_if_eq (tgt := 53) d_X3_readGood_41 rfl (fun cc => ?_) (fun cc => ?_)
    · have k := k.1 cc
      exact k
    · have k := k.2 cc
      refine ob_aload_n d_X3_readGood_44 rfl ?_
      refine ob_iconst (v := 4) d_X3_readGood_45 ci_4 ?_
      refine ob_aload_n d_X3_readGood_46 rfl ?_
      refine ob_getI d_X3_readGood_47 fl_X3_114 sh_1 rfl (by decide) ?_
      refine ob_callV [.int (4 : Int32), .int (σ3.1 1 6)] (z := oX3_setFault) (st := []) d_X3_readGood_50 lk_X3_76 mv_X3_setFault rfl sh_1 cl_3 rfl (Nat.le_of_ble_eq_true rfl) rfl k (ob_kV fun σ5 k => ?_)
      exact k
theorem b_X3_readGood_53 {E : ob_E} {σ : ob_Mem} {Q : ob_Mem → Prop} {x1 x2 : Int32} (k : ob_RM shp E oX3_readNumber [.ref 1, .int (0 : Int32), .int (99 : Int32)] σ (ob_qI fun v2 σ1 => ob_RM shp E oX3_readEnd [.ref 1] σ1 (ob_qV fun σ3 => ((¬ (σ3.1 1 4) = 0 → Q σ3) ∧ ((σ3.1 1 4) = 0 → ob_RM shp E oX2_addGood [.ref 3, .int x2, .int v2] σ3 (ob_qV fun σ4 => Q σ4)))))) : ob_RT shp E oX3_readGood 53 [.ref 1, .int x1, .int x2, .null] [] σ (ob_qV Q) := by
  refine ob_aload_n d_X3_readGood_53 rfl ?_
  refine ob_iconst (v := 0) d_X3_readGood_54 ci_0 ?_
  refine ob_bipush (v := 99) d_X3_readGood_55 cb_99 ?_
  refine ob_callV [.int (0 : Int32), .int (99 : Int32)] (z := oX3_readNumber) (st := []) d_X3_readGood_57 lk_X3_84 mv_X3_readNumber rfl sh_1 cl_3 rfl (Nat.le_of_ble_eq_true rfl) rfl k (ob_kI fun v2 σ1 k => ?_)
  refine ob_istore_n (ls' := [.ref 1, .int x1, .int x2, .int v2]) d_X3_readGood_60 (Nat.le_of_ble_eq_true rfl) rfl ?_
  refine ob_aload_n d_X3_readGood_61 rfl ?_
  refine ob_callV [] (z := oX3_readEnd) (st := []) d_X3_readGood_62 lk_X3_88 mv_X3_readEnd rfl sh_1 cl_3 rfl (Nat.le_of_ble_eq_true rfl) rfl k (ob_kV fun σ3 k => ?_)
  refine ob_aload_n d_X3_readGood_65 rfl ?_
  refine ob_getI d_X3_readGood_66 fl_X3_32 sh_1 rfl (by decide) ?_
  refine ob_if_ne (tgt := 81) d_X3_readGood_69 rfl (fun cc => ?_) (fun cc => ?_)
  · have k := k.1 cc
    exact ob_vret d_X3_readGood_81 rfl ⟨rfl, k⟩
  · have k := k.2 cc
    refine ob_aload_n d_X3_readGood_72 rfl ?_
    refine ob_getR d_X3_readGood_73 fl_X3_18 sh_1 rfl rfl ?_
    refine ob_iload_n d_X3_readGood_76 rfl ?_
    refine ob_iload_n d_X3_readGood_77 rfl ?_
    refine ob_callV [.int x2, .int v2] (z := oX2_addGood) (st := []) d_X3_readGood_78 lk_X3_117 mv_X2_addGood rfl sh_3 cl_2 rfl (Nat.le_of_ble_eq_true rfl) rfl k (ob_kV fun σ4 k => ?_)
    exact ob_vret d_X3_readGood_81 rfl ⟨rfl, k⟩
theorem d_X3_readBirthday_0 : decode oX3_readBirthday.2.1 0 = .ok (.aload_n 0, 1) := by decide +kernel
theorem d_X3_readBirthday_1 : decode oX3_readBirthday.2.1 1 = .ok (.getfield 18, 3) := by decide +kernel
theorem d_X3_readBirthday_4 : decode oX3_readBirthday.2.1 4 = .ok (.getfield 100, 3) := by decide +kernel
theorem d_X3_readBirthday_7 : decode oX3_readBirthday.2.1 7 = .ok (.bipush 8, 2) := by decide +kernel
theorem d_X3_readBirthday_9 : decode oX3_readBirthday.2.1 9 = .ok (.if_icmp .lt 9, 3) := by decide +kernel
theorem d_X3_readBirthday_12 : decode oX3_readBirthday.2.1 12 = .ok (.aload_n 0, 1) := by decide +kernel
theorem d_X3_readBirthday_13 : decode oX3_readBirthday.2.1 13 = .ok (.iconst 3, 1) := by decide +kernel
theorem d_X3_readBirthday_14 : decode oX3_readBirthday.2.1 14 = .ok (.iload_n 1, 1) := by decide +kernel
theorem d_X3_readBirthday_15 : decode oX3_readBirthday.2.1 15 = .ok (.invokevirtual 76, 3) := by decide +kernel
theorem d_X3_readBirthday_18 : decode oX3_readBirthday.2.1 18 = .ok (.aload_n 0, 1) := by decide +kernel
theorem d_X3_readBirthday_19 : decode oX3_readBirthday.2.1 19 = .ok (.iconst 0, 1) := by decide +kernel
theorem d_X3_readBirthday_20 : decode oX3_readBirthday.2.1 20 = .ok (.aload_n 0, 1) := by decide +kernel
theorem d_X3_readBirthday_21 : decode oX3_readBirthday.2.1 21 = .ok (.getfield 18, 3) := by decide +kernel
theorem d_X3_readBirthday_24 : decode oX3_readBirthday.2.1 24 = .ok (.getfield 91, 3) := by decide +kernel
theorem d_X3_readBirthday_27 : decode oX3_readBirthday.2.1 27 = .ok (.iconst 1, 1) := by decide +kernel
theorem d_X3_readBirthday_28 : decode oX3_readBirthday.2.1 28 = .ok (.isub, 1) := by decide +kernel
theorem d_X3_readBirthday_29 : decode oX3_readBirthday.2.1 29 = .ok (.invokevirtual 84, 3) := by decide +kernel
theorem d_X3_readBirthday_32 : decode oX3_readBirthday.2.1 32 = .ok (.istore_n 2, 1) := by decide +kernel
theorem d_X3_readBirthday_33 : decode oX3_readBirthday.2.1 33 = .ok (.aload_n 0, 1) := by decide +kernel
theorem d_X3_readBirthday_34 : decode oX3_readBirthday.2.1 34 = .ok (.iconst 0, 1) := by decide +kernel
theorem d_X3_readBirthday_35 : decode oX3_readBirthday.2.1 35 = .ok (.aload_n 0, 1) := by decide +kernel
theorem d_X3_readBirthday_36 : decode oX3_readBirthday.2.1 36 = .ok (.getfield 18, 3) := by decide +kernel
theorem d_X3_readBirthday_39 : decode oX3_readBirthday.2.1 39 = .ok (.getfield 94, 3) := by decide +kernel
theorem d_X3_readBirthday_42 : decode oX3_readBirthday.2.1 42 = .ok (.iconst 1, 1) := by decide +kernel
theorem d_X3_readBirthday_43 : decode oX3_readBirthday.2.1 43 = .ok (.isub, 1) := by decide +kernel
theorem d_X3_readBirthday_44 : decode oX3_readBirthday.2.1 44 = .ok (.invokevirtual 84, 3) := by decide +kernel
theorem d_X3_readBirthday_47 : decode oX3_readBirthday.2.1 47 = .ok (.istore_n 3, 1) := by decide +kernel
theorem d_X3_readBirthday_48 : decode oX3_readBirthday.2.1 48 = .ok (.aload_n 0, 1) := by decide +kernel
theorem d_X3_readBirthday_49 : decode oX3_readBirthday.2.1 49 = .ok (.iconst 1, 1) := by decide +kernel
theorem d_X3_readBirthday_50 : decode oX3_readBirthday.2.1 50 = .ok (.bipush 99, 2) := by decide +kernel
theorem d_X3_readBirthday_52 : decode oX3_readBirthday.2.1 52 = .ok (.invokevirtual 84, 3) := by decide +kernel
theorem d_X3_readBirthday_55 : decode oX3_readBirthday.2.1 55 = .ok (.istore 4, 2) := by decide +kernel
theorem d_X3_readBirthday_57 : decode oX3_readBirthday.2.1 57 = .ok (.aload_n 0, 1) := by decide +kernel
theorem d_X3_readBirthday_58 : decode oX3_readBirthday.2.1 58 = .ok (.invokevirtual 88, 3) := by decide +kernel
theorem d_X3_readBirthday_61 : decode oX3_readBirthday.2.1 61 = .ok (.aload_n 0, 1) := by decide +kernel
theorem d_X3_readBirthday_62 : decode oX3_readBirthday.2.1 62 = .ok (.getfield 32, 3) := by decide +kernel
theorem d_X3_readBirthday_65 : decode oX3_readBirthday.2.1 65 = .ok (.ifCond .ne 14, 3) := by decide +kernel
theorem d_X3_readBirthday_68 : decode oX3_readBirthday.2.1 68 = .ok (.aload_n 0, 1) := by decide +kernel
theorem d_X3_readBirthday_69 : decode oX3_readBirthday.2.1 69 = .ok (.getfield 18, 3) := by decide +kernel
theorem d_X3_readBirthday_72 : decode oX3_readBirthday.2.1 72 = .ok (.iload_n 2, 1) := by decide +kernel
theorem d_X3_readBirthday_73 : decode oX3_readBirthday.2.1 73 = .ok (.iload_n 3, 1) := by decide +kernel
theorem d_X3_readBirthday_74 : decode oX3_readBirthday.2.1 74 = .ok (.iload 4, 2) := by decide +kernel
theorem d_X3_readBirthday_76 : decode oX3_readBirthday.2.1 76 = .ok (.invokevirtual 103, 3) := by decide +kernel
theorem d_X3_readBirthday_79 : decode oX3_readBirthday.2.1 79 = .ok (.return_, 1) := by decide +kernel
theorem b_X3_readBirthday_0 {E : ob_E} {σ : ob_Mem} {Q : ob_Mem → Prop} {x1 : Int32} (k : (((σ.1 3 8) < (8 : Int32) → ob_RT shp E oX3_readBirthday 18 [.ref 1, .int x1, .null, .null, .null] [] σ (ob_qV Q)) ∧ (¬ (σ.1 3 8) < (8 : Int32) → ob_RM shp E oX3_setFault [.ref 1, .int (3 : Int32), .int x1] σ (ob_qV fun σ1 => ob_RT shp E oX3_readBirthday 18 [.ref 1, .int x1, .null, .null, .null] [] σ1 (ob_qV Q))))) : ob_RT shp E oX3_readBirthday 0 [.ref 1, .int x1, .null, .null, .null] [] σ (ob_qV Q) := by
  refine ob_aload_n d_X3_readBirthday_0 rfl ?_
  refine ob_getR d_X3_readBirthday_1 fl_X3_18 sh_1 rfl rfl ?_
  refine ob_getI d_X3_readBirthday_4 fl_X3_100 sh_3 rfl (by decide) ?_
  refine ob_bipush (v := 8) d_X3_readBirthday_7 cb_8 ?_
  refine ob_icmp_lt (tgt := 18) d_X3_readBirthday_9 rfl (fun cc => ?_) (fun cc => ?_)
  · have k := k.1 cc
    exact k
  · have k := k.2 cc
    refine ob_aload_n d_X3_readBirthday_12 rfl ?_
    refine ob_iconst (v := 3) d_X3_readBirthday_13 ci_3 ?_
    refine ob_iload_n d_X3_readBirthday_14 rfl ?_
    refine ob_callV [.int (3 : Int32), .int x1] (z := oX3_setFault) (st := []) d_X3_readBirthday_15 lk_X3_76 mv_X3_setFault rfl sh_1 cl_3 rfl (Nat.le_of_ble_eq_true rfl) rfl k (ob_kV fun σ1 k => ?_)
    exact k
theorem b_X3_readBirthday_18 {E : ob_E} {σ : ob_Mem} {Q : ob_Mem → Prop} {x1 : Int32} (k : ob_RM shp E oX3_readNumber [.ref 1, .int (0 : Int32), .int ((σ.1 3 6) - (1 : Int32))] σ (ob_qI fun v2 σ1 => ob_RM shp E oX3_readNumber [.ref 1, .int (0 : Int32), .int ((σ1.1 3 7) - (1 : Int32))] σ1 (ob_qI fun v4 σ3 => ob_RM shp E oX3_readNumber [.ref 1, .int (1 : Int32), .int (99 : Int32)] σ3 (ob_qI fun v6 σ5 => ob_RM shp E oX3_readEnd [.ref 1] σ5 (ob_qV fun σ7 => ((¬ (σ7.1 1 4) = 0 → Q σ7) ∧ ((σ7.1 1 4) = 0 → ob_RM shp E oX2_addBirthday [.ref 3, .int v2, .int v4, .int v6] σ7 (ob_qV fun σ8 => Q σ8)))))))) : ob_RT shp E oX3_readBirthday 18 [.ref 1, .int x1, .null, .null, .null] [] σ (ob_qV Q) := by
  refine ob_aload_n d_X3_readBirthday_18 rfl ?_
  refine ob_iconst (v := 0) d_X3_readBirthday_19 ci_0 ?_
  refine ob_aload_n d_X3_readBirthday_20 rfl ?_
  refine ob_getR d_X3_readBirthday_21 fl_X3_18 sh_1 rfl rfl ?_
  refine ob_getI d_X3_readBirthday_24 fl_X3_91 sh_3 rfl (by decide) ?_
  refine ob_iconst (v := 1) d_X3_readBirthday_27 ci_1 ?_
  refine ob_isub d_X3_readBirthday_28 ?_
  refine ob_callV [.int (0 : Int32), .int ((σ.1 3 6) - (1 : Int32))] (z := oX3_readNumber) (st := []) d_X3_readBirthday_29 lk_X3_84 mv_X3_readNumber rfl sh_1 cl_3 rfl (Nat.le_of_ble_eq_true rfl) rfl k (ob_kI fun v2 σ1 k => ?_)
  refine ob_istore_n (ls' := [.ref 1, .int x1, .int v2, .null, .null]) d_X3_readBirthday_32 (Nat.le_of_ble_eq_true rfl) rfl ?_
  refine ob_aload_n d_X3_readBirthday_33 rfl ?_
  refine ob_iconst (v := 0) d_X3_readBirthday_34 ci_0 ?_
  refine ob_aload_n d_X3_readBirthday_35 rfl ?_
  refine ob_getR d_X3_readBirthday_36 fl_X3_18 sh_1 rfl rfl ?_
  refine ob_getI d_X3_readBirthday_39 fl_X3_94 sh_3 rfl (by decide) ?_
  refine ob_iconst (v := 1) d_X3_readBirthday_42 ci_1 ?_
  refine ob_isub d_X3_readBirthday_43 ?_
  refine ob_callV [.int (0 : Int32), .int ((σ1.1 3 7) - (1 : Int32))] (z := oX3_readNumber) (st := []) d_X3_readBirthday_44 lk_X3_84 mv_X3_readNumber rfl sh_1 cl_3 rfl (Nat.le_of_ble_eq_true rfl) rfl k (ob_kI fun v4 σ3 k => ?_)
  refine ob_istore_n (ls' := [.ref 1, .int x1, .int v2, .int v4, .null]) d_X3_readBirthday_47 (Nat.le_of_ble_eq_true rfl) rfl ?_
  refine ob_aload_n d_X3_readBirthday_48 rfl ?_
  refine ob_iconst (v := 1) d_X3_readBirthday_49 ci_1 ?_
  refine ob_bipush (v := 99) d_X3_readBirthday_50 cb_99 ?_
  refine ob_callV [.int (1 : Int32), .int (99 : Int32)] (z := oX3_readNumber) (st := []) d_X3_readBirthday_52 lk_X3_84 mv_X3_readNumber rfl sh_1 cl_3 rfl (Nat.le_of_ble_eq_true rfl) rfl k (ob_kI fun v6 σ5 k => ?_)
  refine ob_istore (ls' := [.ref 1, .int x1, .int v2, .int v4, .int v6]) d_X3_readBirthday_55 (Nat.le_of_ble_eq_true rfl) rfl ?_
  refine ob_aload_n d_X3_readBirthday_57 rfl ?_
  refine ob_callV [] (z := oX3_readEnd) (st := []) d_X3_readBirthday_58 lk_X3_88 mv_X3_readEnd rfl sh_1 cl_3 rfl (Nat.le_of_ble_eq_true rfl) rfl k (ob_kV fun σ7 k => ?_)
  refine ob_aload_n d_X3_readBirthday_61 rfl ?_
  refine ob_getI d_X3_readBirthday_62 fl_X3_32 sh_1 rfl (by decide) ?_
  refine ob_if_ne (tgt := 79) d_X3_readBirthday_65 rfl (fun cc => ?_) (fun cc => ?_)
  · have k := k.1 cc
    exact ob_vret d_X3_readBirthday_79 rfl ⟨rfl, k⟩
  · have k := k.2 cc
    refine ob_aload_n d_X3_readBirthday_68 rfl ?_
    refine ob_getR d_X3_readBirthday_69 fl_X3_18 sh_1 rfl rfl ?_
    refine ob_iload_n d_X3_readBirthday_72 rfl ?_
    refine ob_iload_n d_X3_readBirthday_73 rfl ?_
    refine ob_iload d_X3_readBirthday_74 rfl ?_
    refine ob_callV [.int v2, .int v4, .int v6] (z := oX2_addBirthday) (st := []) d_X3_readBirthday_76 lk_X3_103 mv_X2_addBirthday rfl sh_3 cl_2 rfl (Nat.le_of_ble_eq_true rfl) rfl k (ob_kV fun σ8 k => ?_)
    exact ob_vret d_X3_readBirthday_79 rfl ⟨rfl, k⟩
theorem d_X3_readPerson_0 : decode oX3_readPerson.2.1 0 = .ok (.aload_n 0, 1) := by decide +kernel
theorem d_X3_readPerson_1 : decode oX3_readPerson.2.1 1 = .ok (.getfield 18, 3) := by decide +kernel
theorem d_X3_readPerson_4 : decode oX3_readPerson.2.1 4 = .ok (.getfield 94, 3) := by decide +kernel
theorem d_X3_readPerson_7 : decode oX3_readPerson.2.1 7 = .ok (.bipush 6, 2) := by decide +kernel
theorem d_X3_readPerson_9 : decode oX3_readPerson.2.1 9 = .ok (.if_icmp .lt 9, 3) := by decide +kernel
theorem d_X3_readPerson_12 : decode oX3_readPerson.2.1 12 = .ok (.aload_n 0, 1) := by decide +kernel
theorem d_X3_readPerson_13 : decode oX3_readPerson.2.1 13 = .ok (.iconst 3, 1) := by decide +kernel
theorem d_X3_readPerson_14 : decode oX3_readPerson.2.1 14 = .ok (.iload_n 1, 1) := by decide +kernel
theorem d_X3_readPerson_15 : decode oX3_readPerson.2.1 15 = .ok (.invokevirtual 76, 3) := by decide +kernel
theorem d_X3_readPerson_18 : decode oX3_readPerson.2.1 18 = .ok (.aload_n 0, 1) := by decide +kernel
theorem d_X3_readPerson_19 : decode oX3_readPerson.2.1 19 = .ok (.iconst 0, 1) := by decide +kernel
theorem d_X3_readPerson_20 : decode oX3_readPerson.2.1 20 = .ok (.bipush 120, 2) := by decide +kernel
theorem d_X3_readPerson_22 : decode oX3_readPerson.2.1 22 = .ok (.invokevirtual 84, 3) := by decide +kernel
theorem d_X3_readPerson_25 : decode oX3_readPerson.2.1 25 = .ok (.istore_n 2, 1) := by decide +kernel
theorem d_X3_readPerson_26 : decode oX3_readPerson.2.1 26 = .ok (.aload_n 0, 1) := by decide +kernel
theorem d_X3_readPerson_27 : decode oX3_readPerson.2.1 27 = .ok (.iconst 0, 1) := by decide +kernel
theorem d_X3_readPerson_28 : decode oX3_readPerson.2.1 28 = .ok (.sipush 999, 3) := by decide +kernel
theorem d_X3_readPerson_31 : decode oX3_readPerson.2.1 31 = .ok (.invokevirtual 84, 3) := by decide +kernel
theorem d_X3_readPerson_34 : decode oX3_readPerson.2.1 34 = .ok (.istore_n 3, 1) := by decide +kernel
theorem d_X3_readPerson_35 : decode oX3_readPerson.2.1 35 = .ok (.aload_n 0, 1) := by decide +kernel
theorem d_X3_readPerson_36 : decode oX3_readPerson.2.1 36 = .ok (.invokevirtual 88, 3) := by decide +kernel
theorem d_X3_readPerson_39 : decode oX3_readPerson.2.1 39 = .ok (.aload_n 0, 1) := by decide +kernel
theorem d_X3_readPerson_40 : decode oX3_readPerson.2.1 40 = .ok (.getfield 32, 3) := by decide +kernel
theorem d_X3_readPerson_43 : decode oX3_readPerson.2.1 43 = .ok (.ifCond .ne 12, 3) := by decide +kernel
theorem d_X3_readPerson_46 : decode oX3_readPerson.2.1 46 = .ok (.aload_n 0, 1) := by decide +kernel
theorem d_X3_readPerson_47 : decode oX3_readPerson.2.1 47 = .ok (.getfield 18, 3) := by decide +kernel
theorem d_X3_readPerson_50 : decode oX3_readPerson.2.1 50 = .ok (.iload_n 2, 1) := by decide +kernel
theorem d_X3_readPerson_51 : decode oX3_readPerson.2.1 51 = .ok (.iload_n 3, 1) := by decide +kernel
theorem d_X3_readPerson_52 : decode oX3_readPerson.2.1 52 = .ok (.invokevirtual 97, 3) := by decide +kernel
theorem d_X3_readPerson_55 : decode oX3_readPerson.2.1 55 = .ok (.return_, 1) := by decide +kernel
theorem b_X3_readPerson_0 {E : ob_E} {σ : ob_Mem} {Q : ob_Mem → Prop} {x1 : Int32} (k : (((σ.1 3 7) < (6 : Int32) → ob_RT shp E oX3_readPerson 18 [.ref 1, .int x1, .null, .null] [] σ (ob_qV Q)) ∧ (¬ (σ.1 3 7) < (6 : Int32) → ob_RM shp E oX3_setFault [.ref 1, .int (3 : Int32), .int x1] σ (ob_qV fun σ1 => ob_RT shp E oX3_readPerson 18 [.ref 1, .int x1, .null, .null] [] σ1 (ob_qV Q))))) : ob_RT shp E oX3_readPerson 0 [.ref 1, .int x1, .null, .null] [] σ (ob_qV Q) := by
  refine ob_aload_n d_X3_readPerson_0 rfl ?_
  refine ob_getR d_X3_readPerson_1 fl_X3_18 sh_1 rfl rfl ?_
  refine ob_getI d_X3_readPerson_4 fl_X3_94 sh_3 rfl (by decide) ?_
  refine ob_bipush (v := 6) d_X3_readPerson_7 cb_6 ?_
  refine ob_icmp_lt (tgt := 18) d_X3_readPerson_9 rfl (fun cc => ?_) (fun cc => ?_)
  · have k := k.1 cc
    exact k
  · have k := k.2 cc
    refine ob_aload_n d_X3_readPerson_12 rfl ?_
    refine ob_iconst (v := 3) d_X3_readPerson_13 ci_3 ?_
    refine ob_iload_n d_X3_readPerson_14 rfl ?_
    refine ob_callV [.int (3 : Int32), .int x1] (z := oX3_setFault) (st := []) d_X3_readPerson_15 lk_X3_76 mv_X3_setFault rfl sh_1 cl_3 rfl (Nat.le_of_ble_eq_true rfl) rfl k (ob_kV fun σ1 k => ?_)
    exact k
theorem b_X3_readPerson_18 {E : ob_E} {σ : ob_Mem} {Q : ob_Mem → Prop} {x1 : Int32} (k : ob_RM shp E oX3_readNumber [.ref 1, .int (0 : Int32), .int (120 : Int32)] σ (ob_qI fun v2 σ1 => ob_RM shp E oX3_readNumber [.ref 1, .int (0 : Int32), .int (999 : Int32)] σ1 (ob_qI fun v4 σ3 => ob_RM shp E oX3_readEnd [.ref 1] σ3 (ob_qV fun σ5 => ((¬ (σ5.1 1 4) = 0 → Q σ5) ∧ ((σ5.1 1 4) = 0 → ob_RM shp E oX2_addPerson [.ref 3, .int v2, .int v4] σ5 (ob_qV fun σ6 => Q σ6))))))) : ob_RT shp E oX3_readPerson 18 [.ref 1, .int x1, .null, .null] [] σ (ob_qV Q) := by
  refine ob_aload_n d_X3_readPerson_18 rfl ?_
  refine ob_iconst (v := 0) d_X3_readPerson_19 ci_0 ?_
  refine ob_bipush (v := 120) d_X3_readPerson_20 cb_120 ?_
  refine ob_callV [.int (0 : Int32), .int (120 : Int32)] (z := oX3_readNumber) (st := []) d_X3_readPerson_22 lk_X3_84 mv_X3_readNumber rfl sh_1 cl_3 rfl (Nat.le_of_ble_eq_true rfl) rfl k (ob_kI fun v2 σ1 k => ?_)
  refine ob_istore_n (ls' := [.ref 1, .int x1, .int v2, .null]) d_X3_readPerson_25 (Nat.le_of_ble_eq_true rfl) rfl ?_
  refine ob_aload_n d_X3_readPerson_26 rfl ?_
  refine ob_iconst (v := 0) d_X3_readPerson_27 ci_0 ?_
  refine ob_sipush (v := 999) d_X3_readPerson_28 cs_999 ?_
  refine ob_callV [.int (0 : Int32), .int (999 : Int32)] (z := oX3_readNumber) (st := []) d_X3_readPerson_31 lk_X3_84 mv_X3_readNumber rfl sh_1 cl_3 rfl (Nat.le_of_ble_eq_true rfl) rfl k (ob_kI fun v4 σ3 k => ?_)
  refine ob_istore_n (ls' := [.ref 1, .int x1, .int v2, .int v4]) d_X3_readPerson_34 (Nat.le_of_ble_eq_true rfl) rfl ?_
  refine ob_aload_n d_X3_readPerson_35 rfl ?_
  refine ob_callV [] (z := oX3_readEnd) (st := []) d_X3_readPerson_36 lk_X3_88 mv_X3_readEnd rfl sh_1 cl_3 rfl (Nat.le_of_ble_eq_true rfl) rfl k (ob_kV fun σ5 k => ?_)
  refine ob_aload_n d_X3_readPerson_39 rfl ?_
  refine ob_getI d_X3_readPerson_40 fl_X3_32 sh_1 rfl (by decide) ?_
  refine ob_if_ne (tgt := 55) d_X3_readPerson_43 rfl (fun cc => ?_) (fun cc => ?_)
  · have k := k.1 cc
    exact ob_vret d_X3_readPerson_55 rfl ⟨rfl, k⟩
  · have k := k.2 cc
    refine ob_aload_n d_X3_readPerson_46 rfl ?_
    refine ob_getR d_X3_readPerson_47 fl_X3_18 sh_1 rfl rfl ?_
    refine ob_iload_n d_X3_readPerson_50 rfl ?_
    refine ob_iload_n d_X3_readPerson_51 rfl ?_
    refine ob_callV [.int v2, .int v4] (z := oX2_addPerson) (st := []) d_X3_readPerson_52 lk_X3_97 mv_X2_addPerson rfl sh_3 cl_2 rfl (Nat.le_of_ble_eq_true rfl) rfl k (ob_kV fun σ6 k => ?_)
    exact ob_vret d_X3_readPerson_55 rfl ⟨rfl, k⟩
theorem d_X3_readYear_0 : decode oX3_readYear.2.1 0 = .ok (.aload_n 0, 1) := by decide +kernel
theorem d_X3_readYear_1 : decode oX3_readYear.2.1 1 = .ok (.getfield 18, 3) := by decide +kernel
theorem d_X3_readYear_4 : decode oX3_readYear.2.1 4 = .ok (.invokevirtual 80, 3) := by decide +kernel
theorem d_X3_readYear_7 : decode oX3_readYear.2.1 7 = .ok (.ifCond .ne 12, 3) := by decide +kernel
theorem d_X3_readYear_10 : decode oX3_readYear.2.1 10 = .ok (.aload_n 0, 1) := by decide +kernel
theorem d_X3_readYear_11 : decode oX3_readYear.2.1 11 = .ok (.iconst 1, 1) := by decide +kernel
theorem d_X3_readYear_12 : decode oX3_readYear.2.1 12 = .ok (.iload_n 1, 1) := by decide +kernel
theorem d_X3_readYear_13 : decode oX3_readYear.2.1 13 = .ok (.invokevirtual 76, 3) := by decide +kernel
theorem d_X3_readYear_16 : decode oX3_readYear.2.1 16 = .ok (.goto 16, 3) := by decide +kernel
theorem d_X3_readYear_19 : decode oX3_readYear.2.1 19 = .ok (.aload_n 0, 1) := by decide +kernel
theorem d_X3_readYear_20 : decode oX3_readYear.2.1 20 = .ok (.getfield 35, 3) := by decide +kernel
theorem d_X3_readYear_23 : decode oX3_readYear.2.1 23 = .ok (.ifCond .eq 9, 3) := by decide +kernel
theorem d_X3_readYear_26 : decode oX3_readYear.2.1 26 = .ok (.aload_n 0, 1) := by decide +kernel
theorem d_X3_readYear_27 : decode oX3_readYear.2.1 27 = .ok (.iconst 3, 1) := by decide +kernel
theorem d_X3_readYear_28 : decode oX3_readYear.2.1 28 = .ok (.iload_n 1, 1) := by decide +kernel
theorem d_X3_readYear_29 : decode oX3_readYear.2.1 29 = .ok (.invokevirtual 76, 3) := by decide +kernel
theorem d_X3_readYear_32 : decode oX3_readYear.2.1 32 = .ok (.aload_n 0, 1) := by decide +kernel
theorem d_X3_readYear_33 : decode oX3_readYear.2.1 33 = .ok (.iconst 2, 1) := by decide +kernel
theorem d_X3_readYear_34 : decode oX3_readYear.2.1 34 = .ok (.bipush 60, 2) := by decide +kernel
theorem d_X3_readYear_36 : decode oX3_readYear.2.1 36 = .ok (.invokevirtual 84, 3) := by decide +kernel
theorem d_X3_readYear_39 : decode oX3_readYear.2.1 39 = .ok (.istore_n 2, 1) := by decide +kernel
theorem d_X3_readYear_40 : decode oX3_readYear.2.1 40 = .ok (.aload_n 0, 1) := by decide +kernel
theorem d_X3_readYear_41 : decode oX3_readYear.2.1 41 = .ok (.invokevirtual 88, 3) := by decide +kernel
theorem d_X3_readYear_44 : decode oX3_readYear.2.1 44 = .ok (.aload_n 0, 1) := by decide +kernel
theorem d_X3_readYear_45 : decode oX3_readYear.2.1 45 = .ok (.getfield 32, 3) := by decide +kernel
theorem d_X3_readYear_48 : decode oX3_readYear.2.1 48 = .ok (.ifCond .ne 16, 3) := by decide +kernel
theorem d_X3_readYear_51 : decode oX3_readYear.2.1 51 = .ok (.aload_n 0, 1) := by decide +kernel
theorem d_X3_readYear_52 : decode oX3_readYear.2.1 52 = .ok (.getfield 18, 3) := by decide +kernel
theorem d_X3_readYear_55 : decode oX3_readYear.2.1 55 = .ok (.iload_n 2, 1) := by decide +kernel
theorem d_X3_readYear_56 : decode oX3_readYear.2.1 56 = .ok (.putfield 91, 3) := by decide +kernel
theorem d_X3_readYear_59 : decode oX3_readYear.2.1 59 = .ok (.aload_n 0, 1) := by decide +kernel
theorem d_X3_readYear_60 : decode oX3_readYear.2.1 60 = .ok (.iconst 1, 1) := by decide +kernel
theorem d_X3_readYear_61 : decode oX3_readYear.2.1 61 = .ok (.putfield 35, 3) := by decide +kernel
theorem d_X3_readYear_64 : decode oX3_readYear.2.1 64 = .ok (.return_, 1) := by decide +kernel
theorem b_X3_readYear_0 {E : ob_E} {σ : ob_Mem} {Q : ob_Mem → Prop} {x1 : Int32} (k : ob_RM shp E oX2_isEmpty [.ref 3] σ (ob_qI fun v2 σ1 => ((¬ v2 = 0 → (((σ1.1 1 7) = 0 → ob_RT shp E oX3_readYear 32 [.ref 1, .int x1, .null] [] σ1 (ob_qV Q)) ∧ (¬ (σ1.1 1 7) = 0 → ob_RM shp E oX3_setFault [.ref 1, .int (3 : Int32), .int x1] σ1 (ob_qV fun σ3 => ob_RT shp E oX3_readYear 32 [.ref 1, .int x1, .null] [] σ3 (ob_qV Q))))) ∧ (v2 = 0 → ob_RM shp E oX3_setFault [.ref 1, .int (1 : Int32), .int x1] σ1 (ob_qV fun σ4 => ob_RT shp E oX3_readYear 32 [.ref 1, .int x1, .null] [] σ4 (ob_qV Q)))))) : ob_RT shp E oX3_readYear 0 [.ref 1, .int x1, .null] [] σ (ob_qV Q) := by
  refine ob_aload_n d_X3_readYear_0 rfl ?_
  refine ob_getR d_X3_readYear_1 fl_X3_18 sh_1 rfl rfl ?_
  refine ob_callV [] (z := oX2_isEmpty) (st := []) d_X3_readYear_4 lk_X3_80 mv_X2_isEmpty rfl sh_3 cl_2 rfl (Nat.le_of_ble_eq_true rfl) rfl k (ob_kI fun v2 σ1 k => ?_)
  refine ob_if_ne (tgt := 19) d_X3_readYear_7 rfl (fun cc => ?_) (fun cc => ?_)
  · have k := k.1 cc
    refine ob_aload_n d_X3_readYear_19 rfl ?_
    refine ob_getI d_X3_readYear_20 fl_X3_35 sh_1 rfl (by decide) ?_
    refine ob_if_eq (tgt := 32) d_X3_readYear_23 rfl (fun cc => ?_) (fun cc => ?_)
    · have k := k.1 cc
      exact k
    · have k := k.2 cc
      refine ob_aload_n d_X3_readYear_26 rfl ?_
      refine ob_iconst (v := 3) d_X3_readYear_27 ci_3 ?_
      refine ob_iload_n d_X3_readYear_28 rfl ?_
      refine ob_callV [.int (3 : Int32), .int x1] (z := oX3_setFault) (st := []) d_X3_readYear_29 lk_X3_76 mv_X3_setFault rfl sh_1 cl_3 rfl (Nat.le_of_ble_eq_true rfl) rfl k (ob_kV fun σ3 k => ?_)
      exact k
  · have k := k.2 cc
    refine ob_aload_n d_X3_readYear_10 rfl ?_
    refine ob_iconst (v := 1) d_X3_readYear_11 ci_1 ?_
    refine ob_iload_n d_X3_readYear_12 rfl ?_
    refine ob_callV [.int (1 : Int32), .int x1] (z := oX3_setFault) (st := []) d_X3_readYear_13 lk_X3_76 mv_X3_setFault rfl sh_1 cl_3 rfl (Nat.le_of_ble_eq_true rfl) rfl k (ob_kV fun σ4 k => ?_)
    refine ob_goto (tgt := 32) d_X3_readYear_16 rfl ?_
    exact k
theorem b_X3_readYear_32 {E : ob_E} {σ : ob_Mem} {Q : ob_Mem → Prop} {x1 : Int32} (k : ob_RM shp E oX3_readNumber [.ref 1, .int (2 : Int32), .int (60 : Int32)] σ (ob_qI fun v2 σ1 => ob_RM shp E oX3_readEnd [.ref 1] σ1 (ob_qV fun σ3 => ((¬ (σ3.1 1 4) = 0 → Q σ3) ∧ ((σ3.1 1 4) = 0 → Q (ob_wI (ob_wI σ3 3 6 v2) 1 7 (1 : Int32))))))) : ob_RT shp E oX3_readYear 32 [.ref 1, .int x1, .null] [] σ (ob_qV Q) := by
  refine ob_aload_n d_X3_readYear_32 rfl ?_
  refine ob_iconst (v := 2) d_X3_readYear_33 ci_2 ?_
  refine ob_bipush (v := 60) d_X3_readYear_34 cb_60 ?_
  refine ob_callV [.int (2 : Int32), .int (60 : Int32)] (z := oX3_readNumber) (st := []) d_X3_readYear_36 lk_X3_84 mv_X3_readNumber rfl sh_1 cl_3 rfl (Nat.le_of_ble_eq_true rfl) rfl k (ob_kI fun v2 σ1 k => ?_)
  refine ob_istore_n (ls' := [.ref 1, .int x1, .int v2]) d_X3_readYear_39 (Nat.le_of_ble_eq_true rfl) rfl ?_
  refine ob_aload_n d_X3_readYear_40 rfl ?_
  refine ob_callV [] (z := oX3_readEnd) (st := []) d_X3_readYear_41 lk_X3_88 mv_X3_readEnd rfl sh_1 cl_3 rfl (Nat.le_of_ble_eq_true rfl) rfl k (ob_kV fun σ3 k => ?_)
  refine ob_aload_n d_X3_readYear_44 rfl ?_
  refine ob_getI d_X3_readYear_45 fl_X3_32 sh_1 rfl (by decide) ?_
  refine ob_if_ne (tgt := 64) d_X3_readYear_48 rfl (fun cc => ?_) (fun cc => ?_)
  · have k := k.1 cc
    exact ob_vret d_X3_readYear_64 rfl ⟨rfl, k⟩
  · have k := k.2 cc
    refine ob_aload_n d_X3_readYear_51 rfl ?_
    refine ob_getR d_X3_readYear_52 fl_X3_18 sh_1 rfl rfl ?_
    refine ob_iload_n d_X3_readYear_55 rfl ?_
    refine ob_putI d_X3_readYear_56 fp_X3_91 sh_3 rfl rfl ?_
    refine ob_aload_n d_X3_readYear_59 rfl ?_
    refine ob_iconst (v := 1) d_X3_readYear_60 ci_1 ?_
    refine ob_putZ d_X3_readYear_61 fp_X3_35 sh_1 rfl rfl rfl rfl ?_
    exact ob_vret d_X3_readYear_64 rfl ⟨rfl, k⟩
theorem d_X3_readNumber_0 : decode oX3_readNumber.2.1 0 = .ok (.aload_n 0, 1) := by decide +kernel
theorem d_X3_readNumber_1 : decode oX3_readNumber.2.1 1 = .ok (.getfield 32, 3) := by decide +kernel
theorem d_X3_readNumber_4 : decode oX3_readNumber.2.1 4 = .ok (.ifCond .eq 5, 3) := by decide +kernel
theorem d_X3_readNumber_7 : decode oX3_readNumber.2.1 7 = .ok (.iconst 0, 1) := by decide +kernel
theorem d_X3_readNumber_8 : decode oX3_readNumber.2.1 8 = .ok (.ireturn, 1) := by decide +kernel
theorem d_X3_readNumber_9 : decode oX3_readNumber.2.1 9 = .ok (.aload_n 0, 1) := by decide +kernel
theorem d_X3_readNumber_10 : decode oX3_readNumber.2.1 10 = .ok (.invokevirtual 42, 3) := by decide +kernel
theorem d_X3_readNumber_13 : decode oX3_readNumber.2.1 13 = .ok (.aload_n 0, 1) := by decide +kernel
theorem d_X3_readNumber_14 : decode oX3_readNumber.2.1 14 = .ok (.aload_n 0, 1) := by decide +kernel
theorem d_X3_readNumber_15 : decode oX3_readNumber.2.1 15 = .ok (.getfield 29, 3) := by decide +kernel
theorem d_X3_readNumber_18 : decode oX3_readNumber.2.1 18 = .ok (.putfield 114, 3) := by decide +kernel
theorem d_X3_readNumber_21 : decode oX3_readNumber.2.1 21 = .ok (.iconst 0, 1) := by decide +kernel
theorem d_X3_readNumber_22 : decode oX3_readNumber.2.1 22 = .ok (.istore_n 3, 1) := by decide +kernel
theorem d_X3_readNumber_23 : decode oX3_readNumber.2.1 23 = .ok (.aload_n 0, 1) := by decide +kernel
theorem d_X3_readNumber_24 : decode oX3_readNumber.2.1 24 = .ok (.getfield 29, 3) := by decide +kernel
theorem d_X3_readNumber_27 : decode oX3_readNumber.2.1 27 = .ok (.aload_n 0, 1) := by decide +kernel
theorem d_X3_readNumber_28 : decode oX3_readNumber.2.1 28 = .ok (.getfield 26, 3) := by decide +kernel
theorem d_X3_readNumber_31 : decode oX3_readNumber.2.1 31 = .ok (.if_icmp .ge 62, 3) := by decide +kernel
theorem d_X3_readNumber_34 : decode oX3_readNumber.2.1 34 = .ok (.aload_n 0, 1) := by decide +kernel
theorem d_X3_readNumber_35 : decode oX3_readNumber.2.1 35 = .ok (.getfield 9, 3) := by decide +kernel
theorem d_X3_readNumber_38 : decode oX3_readNumber.2.1 38 = .ok (.aload_n 0, 1) := by decide +kernel
theorem d_X3_readNumber_39 : decode oX3_readNumber.2.1 39 = .ok (.getfield 29, 3) := by decide +kernel
theorem d_X3_readNumber_42 : decode oX3_readNumber.2.1 42 = .ok (.baload, 1) := by decide +kernel
theorem d_X3_readNumber_43 : decode oX3_readNumber.2.1 43 = .ok (.invokestatic 120, 3) := by decide +kernel
theorem d_X3_readNumber_46 : decode oX3_readNumber.2.1 46 = .ok (.ifCond .eq 47, 3) := by decide +kernel
theorem d_X3_readNumber_49 : decode oX3_readNumber.2.1 49 = .ok (.aload_n 0, 1) := by decide +kernel
theorem d_X3_readNumber_50 : decode oX3_readNumber.2.1 50 = .ok (.getfield 29, 3) := by decide +kernel
theorem d_X3_readNumber_53 : decode oX3_readNumber.2.1 53 = .ok (.aload_n 0, 1) := by decide +kernel
theorem d_X3_readNumber_54 : decode oX3_readNumber.2.1 54 = .ok (.getfield 114, 3) := by decide +kernel
theorem d_X3_readNumber_57 : decode oX3_readNumber.2.1 57 = .ok (.isub, 1) := by decide +kernel
theorem d_X3_readNumber_58 : decode oX3_readNumber.2.1 58 = .ok (.iconst 4, 1) := by decide +kernel
theorem d_X3_readNumber_59 : decode oX3_readNumber.2.1 59 = .ok (.if_icmp .ge 21, 3) := by decide +kernel
theorem d_X3_readNumber_62 : decode oX3_readNumber.2.1 62 = .ok (.iload_n 3, 1) := by decide +kernel
theorem d_X3_readNumber_63 : decode oX3_readNumber.2.1 63 = .ok (.bipush 10, 2) := by decide +kernel
theorem d_X3_readNumber_65 : decode oX3_readNumber.2.1 65 = .ok (.imul, 1) := by decide +kernel
theorem d_X3_readNumber_66 : decode oX3_readNumber.2.1 66 = .ok (.aload_n 0, 1) := by decide +kernel
theorem d_X3_readNumber_67 : decode oX3_readNumber.2.1 67 = .ok (.getfield 9, 3) := by decide +kernel
theorem d_X3_readNumber_70 : decode oX3_readNumber.2.1 70 = .ok (.aload_n 0, 1) := by decide +kernel
theorem d_X3_readNumber_71 : decode oX3_readNumber.2.1 71 = .ok (.getfield 29, 3) := by decide +kernel
theorem d_X3_readNumber_74 : decode oX3_readNumber.2.1 74 = .ok (.baload, 1) := by decide +kernel
theorem d_X3_readNumber_75 : decode oX3_readNumber.2.1 75 = .ok (.bipush 48, 2) := by decide +kernel
theorem d_X3_readNumber_77 : decode oX3_readNumber.2.1 77 = .ok (.isub, 1) := by decide +kernel
theorem d_X3_readNumber_78 : decode oX3_readNumber.2.1 78 = .ok (.iadd, 1) := by decide +kernel
theorem d_X3_readNumber_79 : decode oX3_readNumber.2.1 79 = .ok (.istore_n 3, 1) := by decide +kernel
theorem d_X3_readNumber_80 : decode oX3_readNumber.2.1 80 = .ok (.aload_n 0, 1) := by decide +kernel
theorem d_X3_readNumber_81 : decode oX3_readNumber.2.1 81 = .ok (.dup, 1) := by decide +kernel
theorem d_X3_readNumber_82 : decode oX3_readNumber.2.1 82 = .ok (.getfield 29, 3) := by decide +kernel
theorem d_X3_readNumber_85 : decode oX3_readNumber.2.1 85 = .ok (.iconst 1, 1) := by decide +kernel
theorem d_X3_readNumber_86 : decode oX3_readNumber.2.1 86 = .ok (.iadd, 1) := by decide +kernel
theorem d_X3_readNumber_87 : decode oX3_readNumber.2.1 87 = .ok (.putfield 29, 3) := by decide +kernel
theorem d_X3_readNumber_90 : decode oX3_readNumber.2.1 90 = .ok (.goto (-67), 3) := by decide +kernel
theorem d_X3_readNumber_93 : decode oX3_readNumber.2.1 93 = .ok (.aload_n 0, 1) := by decide +kernel
theorem d_X3_readNumber_94 : decode oX3_readNumber.2.1 94 = .ok (.getfield 29, 3) := by decide +kernel
theorem d_X3_readNumber_97 : decode oX3_readNumber.2.1 97 = .ok (.aload_n 0, 1) := by decide +kernel
theorem d_X3_readNumber_98 : decode oX3_readNumber.2.1 98 = .ok (.getfield 114, 3) := by decide +kernel
theorem d_X3_readNumber_101 : decode oX3_readNumber.2.1 101 = .ok (.isub, 1) := by decide +kernel
theorem d_X3_readNumber_102 : decode oX3_readNumber.2.1 102 = .ok (.istore 4, 2) := by decide +kernel
theorem d_X3_readNumber_104 : decode oX3_readNumber.2.1 104 = .ok (.iload 4, 2) := by decide +kernel
theorem d_X3_readNumber_106 : decode oX3_readNumber.2.1 106 = .ok (.ifCond .ne 15, 3) := by decide +kernel
theorem d_X3_readNumber_109 : decode oX3_readNumber.2.1 109 = .ok (.aload_n 0, 1) := by decide +kernel
theorem d_X3_readNumber_110 : decode oX3_readNumber.2.1 110 = .ok (.iconst 1, 1) := by decide +kernel
theorem d_X3_readNumber_111 : decode oX3_readNumber.2.1 111 = .ok (.aload_n 0, 1) := by decide +kernel
theorem d_X3_readNumber_112 : decode oX3_readNumber.2.1 112 = .ok (.getfield 29, 3) := by decide +kernel
theorem d_X3_readNumber_115 : decode oX3_readNumber.2.1 115 = .ok (.invokevirtual 76, 3) := by decide +kernel
theorem d_X3_readNumber_118 : decode oX3_readNumber.2.1 118 = .ok (.goto 27, 3) := by decide +kernel
theorem d_X3_readNumber_121 : decode oX3_readNumber.2.1 121 = .ok (.iload 4, 2) := by decide +kernel
theorem d_X3_readNumber_123 : decode oX3_readNumber.2.1 123 = .ok (.iconst 3, 1) := by decide +kernel
theorem d_X3_readNumber_124 : decode oX3_readNumber.2.1 124 = .ok (.if_icmp .gt 12, 3) := by decide +kernel
theorem d_X3_readNumber_127 : decode oX3_readNumber.2.1 127 = .ok (.iload_n 3, 1) := by decide +kernel
theorem d_X3_readNumber_128 : decode oX3_readNumber.2.1 128 = .ok (.iload_n 1, 1) := by decide +kernel
theorem d_X3_readNumber_129 : decode oX3_readNumber.2.1 129 = .ok (.iload_n 2, 1) := by decide +kernel
theorem d_X3_readNumber_130 : decode oX3_readNumber.2.1 130 = .ok (.invokestatic 123, 3) := by decide +kernel
theorem d_X3_readNumber_133 : decode oX3_readNumber.2.1 133 = .ok (.ifCond .eq 12, 3) := by decide +kernel
theorem d_X3_readNumber_136 : decode oX3_readNumber.2.1 136 = .ok (.aload_n 0, 1) := by decide +kernel
theorem d_X3_readNumber_137 : decode oX3_readNumber.2.1 137 = .ok (.iconst 2, 1) := by decide +kernel
theorem d_X3_readNumber_138 : decode oX3_readNumber.2.1 138 = .ok (.aload_n 0, 1) := by decide +kernel
theorem d_X3_readNumber_139 : decode oX3_readNumber.2.1 139 = .ok (.getfield 114, 3) := by decide +kernel
theorem d_X3_readNumber_142 : decode oX3_readNumber.2.1 142 = .ok (.invokevirtual 76, 3) := by decide +kernel
theorem d_X3_readNumber_145 : decode oX3_readNumber.2.1 145 = .ok (.iload_n 3, 1) := by decide +kernel
theorem d_X3_readNumber_146 : decode oX3_readNumber.2.1 146 = .ok (.ireturn, 1) := by decide +kernel
theorem b_X3_readNumber_0 {E : ob_E} {σ : ob_Mem} {Q : Int32 → ob_Mem → Prop} {x1 x2 : Int32} (k : (((σ.1 1 4) = 0 → ob_RM shp E oX3_skipBlanks [.ref 1] σ (ob_qV fun σ1 => ob_RT shp E oX3_readNumber 23 [.ref 1, .int x1, .int x2, .int (0 : Int32), .null] [] (ob_wI σ1 1 6 (σ1.1 1 3)) (ob_qI Q))) ∧ (¬ (σ.1 1 4) = 0 → Q (0 : Int32) σ))) : ob_RT shp E oX3_readNumber 0 [.ref 1, .int x1, .int x2, .null, .null] [] σ (ob_qI Q) := by
  refine ob_aload_n d_X3_readNumber_0 rfl ?_
  refine ob_getI d_X3_readNumber_1 fl_X3_32 sh_1 rfl (by decide) ?_
  refine ob_if_eq (tgt := 9) d_X3_readNumber_4 rfl (fun cc => ?_) (fun cc => ?_)
  · have k := k.1 cc
    refine ob_aload_n d_X3_readNumber_9 rfl ?_
    refine ob_callV [] (z := oX3_skipBlanks) (st := []) d_X3_readNumber_10 lk_X3_42 mv_X3_skipBlanks rfl sh_1 cl_3 rfl (Nat.le_of_ble_eq_true rfl) rfl k (ob_kV fun σ1 k => ?_)
    refine ob_aload_n d_X3_readNumber_13 rfl ?_
    refine ob_aload_n d_X3_readNumber_14 rfl ?_
    refine ob_getI d_X3_readNumber_15 fl_X3_29 sh_1 rfl (by decide) ?_
    refine ob_putI d_X3_readNumber_18 fp_X3_114 sh_1 rfl rfl ?_
    refine ob_iconst (v := 0) d_X3_readNumber_21 ci_0 ?_
    refine ob_istore_n (ls' := [.ref 1, .int x1, .int x2, .int (0 : Int32), .null]) d_X3_readNumber_22 (Nat.le_of_ble_eq_true rfl) rfl ?_
    exact k
  · have k := k.2 cc
    refine ob_iconst (v := 0) d_X3_readNumber_7 ci_0 ?_
    exact ob_iret d_X3_readNumber_8 rfl ⟨_, rfl, k⟩
theorem b_X3_readNumber_23 {E : ob_E} {σ : ob_Mem} {Q : Int32 → ob_Mem → Prop} {x1 x2 x3 : Int32} (k : (((σ.1 1 2) ≤ (σ.1 1 3) → ob_RT shp E oX3_readNumber 93 [.ref 1, .int x1, .int x2, .int x3, .null] [] σ (ob_qI Q)) ∧ (¬ (σ.1 1 2) ≤ (σ.1 1 3) → (vp_in (σ.1 1 3) 500 ∧ ob_RM shp E oX3_isFigure [.int (σ.1 2 ((σ.1 1 3)).toNatClampNeg)] σ (ob_qI fun v2 σ1 => ((v2 = 0 → ob_RT shp E oX3_readNumber 93 [.ref 1, .int x1, .int x2, .int x3, .null] [] σ1 (ob_qI Q)) ∧ (¬ v2 = 0 → (((4 : Int32) ≤ ((σ1.1 1 3) - (σ1.1 1 6)) → ob_RT shp E oX3_readNumber 23 [.ref 1, .int x1, .int x2, .int x3, .null] [] (ob_wI σ1 1 3 ((σ1.1 1 3) + (1 : Int32))) (ob_qI Q)) ∧ (¬ (4 : Int32) ≤ ((σ1.1 1 3) - (σ1.1 1 6)) → (vp_in (σ1.1 1 3) 500 ∧ (∀ w3 : Int32, w3 = ((x3 * (10 : Int32)) + ((σ1.1 2 ((σ1.1 1 3)).toNatClampNeg) - (48 : Int32))) → ob_RT shp E oX3_readNumber 23 [.ref 1, .int x1, .int x2, .int w3, .null] [] (ob_wI σ1 1 3 ((σ1.1 1 3) + (1 : Int32))) (ob_qI Q)))))))))))) : ob_RT shp E oX3_readNumber 23 [.ref 1, .int x1, .int x2, .int x3, .null] [] σ (ob_qI Q) := by
  refine ob_aload_n d_X3_readNumber_23 rfl ?_
  refine ob_getI d_X3_readNumber_24 fl_X3_29 sh_1 rfl (by decide) ?_
  refine ob_aload_n d_X3_readNumber_27 rfl ?_
  refine ob_getI d_X3_readNumber_28 fl_X3_26 sh_1 rfl (by decide) ?_
  refine ob_icmp_ge (tgt := 93) d_X3_readNumber_31 rfl (fun cc => ?_) (fun cc => ?_)
  · have k := k.1 cc
    exact k
  · have k := k.2 cc
    refine ob_aload_n d_X3_readNumber_34 rfl ?_
    refine ob_getR d_X3_readNumber_35 fl_X3_9 sh_1 rfl rfl ?_
    refine ob_aload_n d_X3_readNumber_38 rfl ?_
    refine ob_getI d_X3_readNumber_39 fl_X3_29 sh_1 rfl (by decide) ?_
    obtain ⟨hin, k⟩ := k
    refine ob_bald d_X3_readNumber_42 sh_2 hin ?_
    refine ob_callS [.int (σ.1 2 ((σ.1 1 3)).toNatClampNeg)] (z := oX3_isFigure) (st := []) d_X3_readNumber_43 lk_X3_120 ms_X3_isFigure rfl (Nat.le_of_ble_eq_true rfl) rfl k (ob_kI fun v2 σ1 k => ?_)
    refine ob_if_eq (tgt := 93) d_X3_readNumber_46 rfl (fun cc => ?_) (fun cc => ?_)
    · have k := k.1 cc
      exact k
    · have k := k.2 cc
      refine ob_aload_n d_X3_readNumber_49 rfl ?_
      refine ob_getI d_X3_readNumber_50 fl_X3_29 sh_1 rfl (by decide) ?_
      refine ob_aload_n d_X3_readNumber_53 rfl ?_
      refine ob_getI d_X3_readNumber_54 fl_X3_114 sh_1 rfl (by decide) ?_
      refine ob_isub d_X3_readNumber_57 ?_
      refine ob_iconst (v := 4) d_X3_readNumber_58 ci_4 ?_
      refine ob_icmp_ge (tgt := 80) d_X3_readNumber_59 rfl (fun cc => ?_) (fun cc => ?_)
      · have k := k.1 cc
        refine ob_aload_n d_X3_readNumber_80 rfl ?_
        refine ob_dup d_X3_readNumber_81 rfl ?_
        refine ob_getI d_X3_readNumber_82 fl_X3_29 sh_1 rfl (by decide) ?_
        refine ob_iconst (v := 1) d_X3_readNumber_85 ci_1 ?_
        refine ob_iadd d_X3_readNumber_86 ?_
        refine ob_putI d_X3_readNumber_87 fp_X3_29 sh_1 rfl rfl ?_
        refine ob_goto (tgt := 23) d_X3_readNumber_90 rfl ?_
        exact k
      · have k := k.2 cc
        refine ob_iload_n d_X3_readNumber_62 rfl ?_
        refine ob_bipush (v := 10) d_X3_readNumber_63 cb_10 ?_
        refine ob_imul d_X3_readNumber_65 ?_
        refine ob_aload_n d_X3_readNumber_66 rfl ?_
        refine ob_getR d_X3_readNumber_67 fl_X3_9 sh_1 rfl rfl ?_
        refine ob_aload_n d_X3_readNumber_70 rfl ?_
        refine ob_getI d_X3_readNumber_71 fl_X3_29 sh_1 rfl (by decide) ?_
        obtain ⟨hin, k⟩ := k
        refine ob_bald d_X3_readNumber_74 sh_2 hin ?_
        refine ob_bipush (v := 48) d_X3_readNumber_75 cb_48 ?_
        refine ob_isub d_X3_readNumber_77 ?_
        refine ob_iadd d_X3_readNumber_78 ?_
        refine ob_nmI (fun w3 hw3 => ?_)
        have k := k w3 hw3
        refine ob_istore_n (ls' := [.ref 1, .int x1, .int x2, .int w3, .null]) d_X3_readNumber_79 (Nat.le_of_ble_eq_true rfl) rfl ?_
        refine ob_aload_n d_X3_readNumber_80 rfl ?_
        refine ob_dup d_X3_readNumber_81 rfl ?_
        refine ob_getI d_X3_readNumber_82 fl_X3_29 sh_1 rfl (by decide) ?_
        refine ob_iconst (v := 1) d_X3_readNumber_85 ci_1 ?_
        refine ob_iadd d_X3_readNumber_86 ?_
        refine ob_putI d_X3_readNumber_87 fp_X3_29 sh_1 rfl rfl ?_
        refine ob_goto (tgt := 23) d_X3_readNumber_90 rfl ?_
        exact k
theorem b_X3_readNumber_93 {E : ob_E} {σ : ob_Mem} {Q : Int32 → ob_Mem → Prop} {x1 x2 x3 : Int32} (k : ((¬ ((σ.1 1 3) - (σ.1 1 6)) = 0 → (((3 : Int32) < ((σ.1 1 3) - (σ.1 1 6)) → ob_RM shp E oX3_setFault [.ref 1, .int (2 : Int32), .int (σ.1 1 6)] σ (ob_qV fun σ1 => Q x3 σ1)) ∧ (¬ (3 : Int32) < ((σ.1 1 3) - (σ.1 1 6)) → ob_RM shp E oX8_isOutside [.int x3, .int x1, .int x2] σ (ob_qI fun v3 σ2 => ((v3 = 0 → Q x3 σ2) ∧ (¬ v3 = 0 → ob_RM shp E oX3_setFault [.ref 1, .int (2 : Int32), .int (σ2.1 1 6)] σ2 (ob_qV fun σ4 => Q x3 σ4))))))) ∧ (((σ.1 1 3) - (σ.1 1 6)) = 0 → ob_RM shp E oX3_setFault [.ref 1, .int (1 : Int32), .int (σ.1 1 3)] σ (ob_qV fun σ5 => Q x3 σ5)))) : ob_RT shp E oX3_readNumber 93 [.ref 1, .int x1, .int x2, .int x3, .null] [] σ (ob_qI Q) := by
  refine ob_aload_n d_X3_readNumber_93 rfl ?_
  refine ob_getI d_X3_readNumber_94 fl_X3_29 sh_1 rfl (by decide) ?_
  refine ob_aload_n d_X3_readNumber_97 rfl ?_
  refine ob_getI d_X3_readNumber_98 fl_X3_114 sh_1 rfl (by decide) ?_
  refine ob_isub d_X3_readNumber_101 ?_
  refine ob_istore (ls' := [.ref 1, .int x1, .int x2, .int x3, .int ((σ.1 1 3) - (σ.1 1 6))]) d_X3_readNumber_102 (Nat.le_of_ble_eq_true rfl) rfl ?_
  refine ob_iload d_X3_readNumber_104 rfl ?_
  refine ob_if_ne (tgt := 121) d_X3_readNumber_106 rfl (fun cc => ?_) (fun cc => ?_)
  · have k := k.1 cc
    refine ob_iload d_X3_readNumber_121 rfl ?_
    refine ob_iconst (v := 3) d_X3_readNumber_123 ci_3 ?_
    refine ob_icmp_gt (tgt := 136) d_X3_readNumber_124 rfl (fun cc => ?_) (fun cc => ?_)
    · have k := k.1 cc
      refine ob_aload_n d_X3_readNumber_136 rfl ?_
      refine ob_iconst (v := 2) d_X3_readNumber_137 ci_2 ?_
      refine ob_aload_n d_X3_readNumber_138 rfl ?_
      refine ob_getI d_X3_readNumber_139 fl_X3_114 sh_1 rfl (by decide) ?_
      refine ob_callV [.int (2 : Int32), .int (σ.1 1 6)] (z := oX3_setFault) (st := []) d_X3_readNumber_142 lk_X3_76 mv_X3_setFault rfl sh_1 cl_3 rfl (Nat.le_of_ble_eq_true rfl) rfl k (ob_kV fun σ1 k => ?_)
      refine ob_iload_n d_X3_readNumber_145 rfl ?_
      exact ob_iret d_X3_readNumber_146 rfl ⟨_, rfl, k⟩
    · have k := k.2 cc
      refine ob_iload_n d_X3_readNumber_127 rfl ?_
      refine ob_iload_n d_X3_readNumber_128 rfl ?_
      refine ob_iload_n d_X3_readNumber_129 rfl ?_
      refine ob_callN [.int x3, .int x1, .int x2] (z := oX8_isOutside) (st := []) d_X3_readNumber_130 rfl rfl ms_X8_isOutside rfl (Nat.le_of_ble_eq_true rfl) rfl k (ob_kI fun v3 σ2 k => ?_)
      refine ob_if_eq (tgt := 145) d_X3_readNumber_133 rfl (fun cc => ?_) (fun cc => ?_)
      · have k := k.1 cc
        refine ob_iload_n d_X3_readNumber_145 rfl ?_
        exact ob_iret d_X3_readNumber_146 rfl ⟨_, rfl, k⟩
      · have k := k.2 cc
        refine ob_aload_n d_X3_readNumber_136 rfl ?_
        refine ob_iconst (v := 2) d_X3_readNumber_137 ci_2 ?_
        refine ob_aload_n d_X3_readNumber_138 rfl ?_
        refine ob_getI d_X3_readNumber_139 fl_X3_114 sh_1 rfl (by decide) ?_
        refine ob_callV [.int (2 : Int32), .int (σ2.1 1 6)] (z := oX3_setFault) (st := []) d_X3_readNumber_142 lk_X3_76 mv_X3_setFault rfl sh_1 cl_3 rfl (Nat.le_of_ble_eq_true rfl) rfl k (ob_kV fun σ4 k => ?_)
        refine ob_iload_n d_X3_readNumber_145 rfl ?_
        exact ob_iret d_X3_readNumber_146 rfl ⟨_, rfl, k⟩
  · have k := k.2 cc
    refine ob_aload_n d_X3_readNumber_109 rfl ?_
    refine ob_iconst (v := 1) d_X3_readNumber_110 ci_1 ?_
    refine ob_aload_n d_X3_readNumber_111 rfl ?_
    refine ob_getI d_X3_readNumber_112 fl_X3_29 sh_1 rfl (by decide) ?_
    refine ob_callV [.int (1 : Int32), .int (σ.1 1 3)] (z := oX3_setFault) (st := []) d_X3_readNumber_115 lk_X3_76 mv_X3_setFault rfl sh_1 cl_3 rfl (Nat.le_of_ble_eq_true rfl) rfl k (ob_kV fun σ5 k => ?_)
    refine ob_goto (tgt := 145) d_X3_readNumber_118 rfl ?_
    refine ob_iload_n d_X3_readNumber_145 rfl ?_
    exact ob_iret d_X3_readNumber_146 rfl ⟨_, rfl, k⟩
theorem d_X3_readEnd_0 : decode oX3_readEnd.2.1 0 = .ok (.aload_n 0, 1) := by decide +kernel
theorem d_X3_readEnd_1 : decode oX3_readEnd.2.1 1 = .ok (.getfield 32, 3) := by decide +kernel
theorem d_X3_readEnd_4 : decode oX3_readEnd.2.1 4 = .ok (.ifCond .eq 4, 3) := by decide +kernel
theorem d_X3_readEnd_7 : decode oX3_readEnd.2.1 7 = .ok (.return_, 1) := by decide +kernel
theorem d_X3_readEnd_8 : decode oX3_readEnd.2.1 8 = .ok (.aload_n 0, 1) := by decide +kernel
theorem d_X3_readEnd_9 : decode oX3_readEnd.2.1 9 = .ok (.invokevirtual 42, 3) := by decide +kernel
theorem d_X3_readEnd_12 : decode oX3_readEnd.2.1 12 = .ok (.aload_n 0, 1) := by decide +kernel
theorem d_X3_readEnd_13 : decode oX3_readEnd.2.1 13 = .ok (.getfield 29, 3) := by decide +kernel
theorem d_X3_readEnd_16 : decode oX3_readEnd.2.1 16 = .ok (.aload_n 0, 1) := by decide +kernel
theorem d_X3_readEnd_17 : decode oX3_readEnd.2.1 17 = .ok (.getfield 26, 3) := by decide +kernel
theorem d_X3_readEnd_20 : decode oX3_readEnd.2.1 20 = .ok (.if_icmp .ge 30, 3) := by decide +kernel
theorem d_X3_readEnd_23 : decode oX3_readEnd.2.1 23 = .ok (.aload_n 0, 1) := by decide +kernel
theorem d_X3_readEnd_24 : decode oX3_readEnd.2.1 24 = .ok (.getfield 9, 3) := by decide +kernel
theorem d_X3_readEnd_27 : decode oX3_readEnd.2.1 27 = .ok (.aload_n 0, 1) := by decide +kernel
theorem d_X3_readEnd_28 : decode oX3_readEnd.2.1 28 = .ok (.getfield 29, 3) := by decide +kernel
theorem d_X3_readEnd_31 : decode oX3_readEnd.2.1 31 = .ok (.baload, 1) := by decide +kernel
theorem d_X3_readEnd_32 : decode oX3_readEnd.2.1 32 = .ok (.bipush 59, 2) := by decide +kernel
theorem d_X3_readEnd_34 : decode oX3_readEnd.2.1 34 = .ok (.if_icmp .ne 16, 3) := by decide +kernel
theorem d_X3_readEnd_37 : decode oX3_readEnd.2.1 37 = .ok (.aload_n 0, 1) := by decide +kernel
theorem d_X3_readEnd_38 : decode oX3_readEnd.2.1 38 = .ok (.dup, 1) := by decide +kernel
theorem d_X3_readEnd_39 : decode oX3_readEnd.2.1 39 = .ok (.getfield 29, 3) := by decide +kernel
theorem d_X3_readEnd_42 : decode oX3_readEnd.2.1 42 = .ok (.iconst 1, 1) := by decide +kernel
theorem d_X3_readEnd_43 : decode oX3_readEnd.2.1 43 = .ok (.iadd, 1) := by decide +kernel
theorem d_X3_readEnd_44 : decode oX3_readEnd.2.1 44 = .ok (.putfield 29, 3) := by decide +kernel
theorem d_X3_readEnd_47 : decode oX3_readEnd.2.1 47 = .ok (.goto 12, 3) := by decide +kernel
theorem d_X3_readEnd_50 : decode oX3_readEnd.2.1 50 = .ok (.aload_n 0, 1) := by decide +kernel
theorem d_X3_readEnd_51 : decode oX3_readEnd.2.1 51 = .ok (.iconst 1, 1) := by decide +kernel
theorem d_X3_readEnd_52 : decode oX3_readEnd.2.1 52 = .ok (.aload_n 0, 1) := by decide +kernel
theorem d_X3_readEnd_53 : decode oX3_readEnd.2.1 53 = .ok (.getfield 29, 3) := by decide +kernel
theorem d_X3_readEnd_56 : decode oX3_readEnd.2.1 56 = .ok (.invokevirtual 76, 3) := by decide +kernel
theorem d_X3_readEnd_59 : decode oX3_readEnd.2.1 59 = .ok (.return_, 1) := by decide +kernel
theorem b_X3_readEnd_0 {E : ob_E} {σ : ob_Mem} {Q : ob_Mem → Prop} (k : (((σ.1 1 4) = 0 → ob_RM shp E oX3_skipBlanks [.ref 1] σ (ob_qV fun σ1 => (((σ1.1 1 2) ≤ (σ1.1 1 3) → ob_RM shp E oX3_setFault [.ref 1, .int (1 : Int32), .int (σ1.1 1 3)] σ1 (ob_qV fun σ2 => Q σ2)) ∧ (¬ (σ1.1 1 2) ≤ (σ1.1 1 3) → (vp_in (σ1.1 1 3) 500 ∧ ((¬ (σ1.1 2 ((σ1.1 1 3)).toNatClampNeg) = (59 : Int32) → ob_RM shp E oX3_setFault [.ref 1, .int (1 : Int32), .int (σ1.1 1 3)] σ1 (ob_qV fun σ3 => Q σ3)) ∧ ((σ1.1 2 ((σ1.1 1 3)).toNatClampNeg) = (59 : Int32) → Q (ob_wI σ1 1 3 ((σ1.1 1 3) + (1 : Int32)))))))))) ∧ (¬ (σ.1 1 4) = 0 → Q σ))) : ob_RT shp E oX3_readEnd 0 [.ref 1] [] σ (ob_qV Q) := by
  refine ob_aload_n d_X3_readEnd_0 rfl ?_
  refine ob_getI d_X3_readEnd_1 fl_X3_32 sh_1 rfl (by decide) ?_
  refine ob_if_eq (tgt := 8) d_X3_readEnd_4 rfl (fun cc => ?_) (fun cc => ?_)
  · have k := k.1 cc
    refine ob_aload_n d_X3_readEnd_8 rfl ?_
    refine ob_callV [] (z := oX3_skipBlanks) (st := []) d_X3_readEnd_9 lk_X3_42 mv_X3_skipBlanks rfl sh_1 cl_3 rfl (Nat.le_of_ble_eq_true rfl) rfl k (ob_kV fun σ1 k => ?_)
    refine ob_aload_n d_X3_readEnd_12 rfl ?_
    refine ob_getI d_X3_readEnd_13 fl_X3_29 sh_1 rfl (by decide) ?_
    refine ob_aload_n d_X3_readEnd_16 rfl ?_
    refine ob_getI d_X3_readEnd_17 fl_X3_26 sh_1 rfl (by decide) ?_
    refine ob_icmp_ge (tgt := 50) d_X3_readEnd_20 rfl (fun cc => ?_) (fun cc => ?_)
    · have k := k.1 cc
      refine ob_aload_n d_X3_readEnd_50 rfl ?_
      refine ob_iconst (v := 1) d_X3_readEnd_51 ci_1 ?_
      refine ob_aload_n d_X3_readEnd_52 rfl ?_
      refine ob_getI d_X3_readEnd_53 fl_X3_29 sh_1 rfl (by decide) ?_
      refine ob_callV [.int (1 : Int32), .int (σ1.1 1 3)] (z := oX3_setFault) (st := []) d_X3_readEnd_56 lk_X3_76 mv_X3_setFault rfl sh_1 cl_3 rfl (Nat.le_of_ble_eq_true rfl) rfl k (ob_kV fun σ2 k => ?_)
      exact ob_vret d_X3_readEnd_59 rfl ⟨rfl, k⟩
    · have k := k.2 cc
      refine ob_aload_n d_X3_readEnd_23 rfl ?_
      refine ob_getR d_X3_readEnd_24 fl_X3_9 sh_1 rfl rfl ?_
      refine ob_aload_n d_X3_readEnd_27 rfl ?_
      refine ob_getI d_X3_readEnd_28 fl_X3_29 sh_1 rfl (by decide) ?_
      obtain ⟨hin, k⟩ := k
      refine ob_bald d_X3_readEnd_31 sh_2 hin ?_
      refine ob_bipush (v := 59) d_X3_readEnd_32 cb_59 ?_
      refine ob_icmp_ne (tgt := 50) d_X3_readEnd_34 rfl (fun cc => ?_) (fun cc => ?_)
      · have k := k.1 cc
        refine ob_aload_n d_X3_readEnd_50 rfl ?_
        refine ob_iconst (v := 1) d_X3_readEnd_51 ci_1 ?_
        refine ob_aload_n d_X3_readEnd_52 rfl ?_
        refine ob_getI d_X3_readEnd_53 fl_X3_29 sh_1 rfl (by decide) ?_
        refine ob_callV [.int (1 : Int32), .int (σ1.1 1 3)] (z := oX3_setFault) (st := []) d_X3_readEnd_56 lk_X3_76 mv_X3_setFault rfl sh_1 cl_3 rfl (Nat.le_of_ble_eq_true rfl) rfl k (ob_kV fun σ3 k => ?_)
        exact ob_vret d_X3_readEnd_59 rfl ⟨rfl, k⟩
      · have k := k.2 cc
        refine ob_aload_n d_X3_readEnd_37 rfl ?_
        refine ob_dup d_X3_readEnd_38 rfl ?_
        refine ob_getI d_X3_readEnd_39 fl_X3_29 sh_1 rfl (by decide) ?_
        refine ob_iconst (v := 1) d_X3_readEnd_42 ci_1 ?_
        refine ob_iadd d_X3_readEnd_43 ?_
        refine ob_putI d_X3_readEnd_44 fp_X3_29 sh_1 rfl rfl ?_
        refine ob_goto (tgt := 59) d_X3_readEnd_47 rfl ?_
        exact ob_vret d_X3_readEnd_59 rfl ⟨rfl, k⟩
  · have k := k.2 cc
    exact ob_vret d_X3_readEnd_7 rfl ⟨rfl, k⟩
theorem d_X3_isFigure_0 : decode oX3_isFigure.2.1 0 = .ok (.iload_n 0, 1) := by decide +kernel
theorem d_X3_isFigure_1 : decode oX3_isFigure.2.1 1 = .ok (.bipush 48, 2) := by decide +kernel
theorem d_X3_isFigure_3 : decode oX3_isFigure.2.1 3 = .ok (.if_icmp .lt 13, 3) := by decide +kernel
theorem d_X3_isFigure_6 : decode oX3_isFigure.2.1 6 = .ok (.iload_n 0, 1) := by decide +kernel
theorem d_X3_isFigure_7 : decode oX3_isFigure.2.1 7 = .ok (.bipush 57, 2) := by decide +kernel
theorem d_X3_isFigure_9 : decode oX3_isFigure.2.1 9 = .ok (.if_icmp .gt 7, 3) := by decide +kernel
theorem d_X3_isFigure_12 : decode oX3_isFigure.2.1 12 = .ok (.iconst 1, 1) := by decide +kernel
theorem d_X3_isFigure_13 : decode oX3_isFigure.2.1 13 = .ok (.goto 4, 3) := by decide +kernel
theorem d_X3_isFigure_16 : decode oX3_isFigure.2.1 16 = .ok (.iconst 0, 1) := by decide +kernel
theorem d_X3_isFigure_17 : decode oX3_isFigure.2.1 17 = .ok (.ireturn, 1) := by decide +kernel
theorem b_X3_isFigure_0 {E : ob_E} {σ : ob_Mem} {Q : Int32 → ob_Mem → Prop} {x0 : Int32} (k : ((x0 < (48 : Int32) → Q (0 : Int32) σ) ∧ (¬ x0 < (48 : Int32) → (((57 : Int32) < x0 → Q (0 : Int32) σ) ∧ (¬ (57 : Int32) < x0 → Q (1 : Int32) σ))))) : ob_RT shp E oX3_isFigure 0 [.int x0] [] σ (ob_qI Q) := by
  refine ob_iload_n d_X3_isFigure_0 rfl ?_
  refine ob_bipush (v := 48) d_X3_isFigure_1 cb_48 ?_
  refine ob_icmp_lt (tgt := 16) d_X3_isFigure_3 rfl (fun cc => ?_) (fun cc => ?_)
  · have k := k.1 cc
    refine ob_iconst (v := 0) d_X3_isFigure_16 ci_0 ?_
    exact ob_zret d_X3_isFigure_17 rfl rfl ⟨_, rfl, k⟩
  · have k := k.2 cc
    refine ob_iload_n d_X3_isFigure_6 rfl ?_
    refine ob_bipush (v := 57) d_X3_isFigure_7 cb_57 ?_
    refine ob_icmp_gt (tgt := 16) d_X3_isFigure_9 rfl (fun cc => ?_) (fun cc => ?_)
    · have k := k.1 cc
      refine ob_iconst (v := 0) d_X3_isFigure_16 ci_0 ?_
      exact ob_zret d_X3_isFigure_17 rfl rfl ⟨_, rfl, k⟩
    · have k := k.2 cc
      refine ob_iconst (v := 1) d_X3_isFigure_12 ci_1 ?_
      refine ob_goto (tgt := 17) d_X3_isFigure_13 rfl ?_
      exact ob_zret d_X3_isFigure_17 rfl rfl ⟨_, rfl, k⟩
