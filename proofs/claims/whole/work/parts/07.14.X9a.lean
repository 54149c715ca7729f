/-! code of X9: the decode rows and a row for each piece between cut points (printed by wip/whole/mk.py) -/
theorem d_X9_begin_0 : decode oX9_begin.2.1 0 = .ok (.aload_n 0, 1) := by decide +kernel
theorem d_X9_begin_1 : decode oX9_begin.2.1 1 = .ok (.getfield 118, 3) := by decide +kernel
theorem d_X9_begin_4 : decode oX9_begin.2.1 4 = .ok (.istore_n 1, 1) := by decide +kernel
theorem d_X9_begin_5 : decode oX9_begin.2.1 5 = .ok (.aload_n 0, 1) := by decide +kernel
theorem d_X9_begin_6 : decode oX9_begin.2.1 6 = .ok (.iconst 0, 1) := by decide +kernel
theorem d_X9_begin_7 : decode oX9_begin.2.1 7 = .ok (.putfield 118, 3) := by decide +kernel
theorem d_X9_begin_10 : decode oX9_begin.2.1 10 = .ok (.iconst 0, 1) := by decide +kernel
theorem d_X9_begin_11 : decode oX9_begin.2.1 11 = .ok (.istore_n 2, 1) := by decide +kernel
theorem d_X9_begin_12 : decode oX9_begin.2.1 12 = .ok (.iload_n 2, 1) := by decide +kernel
theorem d_X9_begin_13 : decode oX9_begin.2.1 13 = .ok (.bipush 6, 2) := by decide +kernel
theorem d_X9_begin_15 : decode oX9_begin.2.1 15 = .ok (.if_icmp .ge 52, 3) := by decide +kernel
theorem d_X9_begin_18 : decode oX9_begin.2.1 18 = .ok (.aload_n 0, 1) := by decide +kernel
theorem d_X9_begin_19 : decode oX9_begin.2.1 19 = .ok (.getfield 32, 3) := by decide +kernel
theorem d_X9_begin_22 : decode oX9_begin.2.1 22 = .ok (.iload_n 2, 1) := by decide +kernel
theorem d_X9_begin_23 : decode oX9_begin.2.1 23 = .ok (.aload_n 0, 1) := by decide +kernel
theorem d_X9_begin_24 : decode oX9_begin.2.1 24 = .ok (.getfield 13, 3) := by decide +kernel
theorem d_X9_begin_27 : decode oX9_begin.2.1 27 = .ok (.iload_n 2, 1) := by decide +kernel
theorem d_X9_begin_28 : decode oX9_begin.2.1 28 = .ok (.iaload, 1) := by decide +kernel
theorem d_X9_begin_29 : decode oX9_begin.2.1 29 = .ok (.iastore, 1) := by decide +kernel
theorem d_X9_begin_30 : decode oX9_begin.2.1 30 = .ok (.aload_n 0, 1) := by decide +kernel
theorem d_X9_begin_31 : decode oX9_begin.2.1 31 = .ok (.getfield 35, 3) := by decide +kernel
theorem d_X9_begin_34 : decode oX9_begin.2.1 34 = .ok (.iload_n 2, 1) := by decide +kernel
theorem d_X9_begin_35 : decode oX9_begin.2.1 35 = .ok (.aload_n 0, 1) := by decide +kernel
theorem d_X9_begin_36 : decode oX9_begin.2.1 36 = .ok (.getfield 17, 3) := by decide +kernel
theorem d_X9_begin_39 : decode oX9_begin.2.1 39 = .ok (.iload_n 2, 1) := by decide +kernel
theorem d_X9_begin_40 : decode oX9_begin.2.1 40 = .ok (.iaload, 1) := by decide +kernel
theorem d_X9_begin_41 : decode oX9_begin.2.1 41 = .ok (.iastore, 1) := by decide +kernel
theorem d_X9_begin_42 : decode oX9_begin.2.1 42 = .ok (.aload_n 0, 1) := by decide +kernel
theorem d_X9_begin_43 : decode oX9_begin.2.1 43 = .ok (.getfield 38, 3) := by decide +kernel
theorem d_X9_begin_46 : decode oX9_begin.2.1 46 = .ok (.iload_n 2, 1) := by decide +kernel
theorem d_X9_begin_47 : decode oX9_begin.2.1 47 = .ok (.iload_n 2, 1) := by decide +kernel
theorem d_X9_begin_48 : decode oX9_begin.2.1 48 = .ok (.aload_n 0, 1) := by decide +kernel
theorem d_X9_begin_49 : decode oX9_begin.2.1 49 = .ok (.getfield 108, 3) := by decide +kernel
theorem d_X9_begin_52 : decode oX9_begin.2.1 52 = .ok (.if_icmp .ge 7, 3) := by decide +kernel
theorem d_X9_begin_55 : decode oX9_begin.2.1 55 = .ok (.iconst 1, 1) := by decide +kernel
theorem d_X9_begin_56 : decode oX9_begin.2.1 56 = .ok (.goto 4, 3) := by decide +kernel
theorem d_X9_begin_59 : decode oX9_begin.2.1 59 = .ok (.iconst 0, 1) := by decide +kernel
theorem d_X9_begin_60 : decode oX9_begin.2.1 60 = .ok (.bastore, 1) := by decide +kernel
theorem d_X9_begin_61 : decode oX9_begin.2.1 61 = .ok (.iinc 2 1, 3) := by decide +kernel
theorem d_X9_begin_64 : decode oX9_begin.2.1 64 = .ok (.goto (-52), 3) := by decide +kernel
theorem d_X9_begin_67 : decode oX9_begin.2.1 67 = .ok (.iconst 0, 1) := by decide +kernel
theorem d_X9_begin_68 : decode oX9_begin.2.1 68 = .ok (.istore_n 2, 1) := by decide +kernel
theorem d_X9_begin_69 : decode oX9_begin.2.1 69 = .ok (.iload_n 2, 1) := by decide +kernel
theorem d_X9_begin_70 : decode oX9_begin.2.1 70 = .ok (.bipush 8, 2) := by decide +kernel
theorem d_X9_begin_72 : decode oX9_begin.2.1 72 = .ok (.if_icmp .ge 35, 3) := by decide +kernel
theorem d_X9_begin_75 : decode oX9_begin.2.1 75 = .ok (.aload_n 0, 1) := by decide +kernel
theorem d_X9_begin_76 : decode oX9_begin.2.1 76 = .ok (.getfield 42, 3) := by decide +kernel
theorem d_X9_begin_79 : decode oX9_begin.2.1 79 = .ok (.iload_n 2, 1) := by decide +kernel
theorem d_X9_begin_80 : decode oX9_begin.2.1 80 = .ok (.aload_n 0, 1) := by decide +kernel
theorem d_X9_begin_81 : decode oX9_begin.2.1 81 = .ok (.getfield 23, 3) := by decide +kernel
theorem d_X9_begin_84 : decode oX9_begin.2.1 84 = .ok (.iload_n 2, 1) := by decide +kernel
theorem d_X9_begin_85 : decode oX9_begin.2.1 85 = .ok (.iaload, 1) := by decide +kernel
theorem d_X9_begin_86 : decode oX9_begin.2.1 86 = .ok (.iastore, 1) := by decide +kernel
theorem d_X9_begin_87 : decode oX9_begin.2.1 87 = .ok (.aload_n 0, 1) := by decide +kernel
theorem d_X9_begin_88 : decode oX9_begin.2.1 88 = .ok (.getfield 45, 3) := by decide +kernel
theorem d_X9_begin_91 : decode oX9_begin.2.1 91 = .ok (.iload_n 2, 1) := by decide +kernel
theorem d_X9_begin_92 : decode oX9_begin.2.1 92 = .ok (.iconst (-1), 1) := by decide +kernel
theorem d_X9_begin_93 : decode oX9_begin.2.1 93 = .ok (.iastore, 1) := by decide +kernel
theorem d_X9_begin_94 : decode oX9_begin.2.1 94 = .ok (.aload_n 0, 1) := by decide +kernel
theorem d_X9_begin_95 : decode oX9_begin.2.1 95 = .ok (.getfield 48, 3) := by decide +kernel
theorem d_X9_begin_98 : decode oX9_begin.2.1 98 = .ok (.iload_n 2, 1) := by decide +kernel
theorem d_X9_begin_99 : decode oX9_begin.2.1 99 = .ok (.iconst (-1), 1) := by decide +kernel
theorem d_X9_begin_100 : decode oX9_begin.2.1 100 = .ok (.iastore, 1) := by decide +kernel
theorem d_X9_begin_101 : decode oX9_begin.2.1 101 = .ok (.iinc 2 1, 3) := by decide +kernel
theorem d_X9_begin_104 : decode oX9_begin.2.1 104 = .ok (.goto (-35), 3) := by decide +kernel
theorem d_X9_begin_107 : decode oX9_begin.2.1 107 = .ok (.iload_n 1, 1) := by decide +kernel
theorem d_X9_begin_108 : decode oX9_begin.2.1 108 = .ok (.ireturn, 1) := by decide +kernel
theorem b_X9_begin_0 {E : ob_E} {σ : ob_Mem} {Q : Int32 → ob_Mem → Prop} (k : ob_RT shp E oX9_begin 12 [.ref 53, .int (σ.1 53 9), .int (0 : Int32)] [] (ob_wI σ 53 9 (0 : Int32)) (ob_qI Q)) : ob_RT shp E oX9_begin 0 [.ref 53, .null, .null] [] σ (ob_qI Q) := by
  refine ob_aload_n d_X9_begin_0 rfl ?_
  refine ob_getI d_X9_begin_1 fl_X9_118 sh_53 rfl (by decide) ?_
  refine ob_istore_n (ls' := [.ref 53, .int (σ.1 53 9), .null]) d_X9_begin_4 (Nat.le_of_ble_eq_true rfl) rfl ?_
  refine ob_aload_n d_X9_begin_5 rfl ?_
  refine ob_iconst (v := 0) d_X9_begin_6 ci_0 ?_
  refine ob_putI d_X9_begin_7 fp_X9_118 sh_53 rfl rfl ?_
  refine ob_iconst (v := 0) d_X9_begin_10 ci_0 ?_
  refine ob_istore_n (ls' := [.ref 53, .int (σ.1 53 9), .int (0 : Int32)]) d_X9_begin_11 (Nat.le_of_ble_eq_true rfl) rfl ?_
  exact k
theorem b_X9_begin_12 {E : ob_E} {σ : ob_Mem} {Q : Int32 → ob_Mem → Prop} {x1 x2 : Int32} (k : (((6 : Int32) ≤ x2 → ob_RT shp E oX9_begin 69 [.ref 53, .int x1, .int (0 : Int32)] [] σ (ob_qI Q)) ∧ (¬ (6 : Int32) ≤ x2 → (vp_in x2 6 ∧ (vp_in x2 6 ∧ (vp_in x2 6 ∧ (vp_in x2 6 ∧ (∀ σ1, σ1 = (ob_wI (ob_wI σ 60 (x2).toNatClampNeg (σ.1 54 (x2).toNatClampNeg)) 61 (x2).toNatClampNeg ((ob_wI σ 60 (x2).toNatClampNeg (σ.1 54 (x2).toNatClampNeg)).1 55 (x2).toNatClampNeg)) → (((σ1.1 53 1) ≤ x2 → (vp_in x2 6 ∧ ob_RT shp E oX9_begin 12 [.ref 53, .int x1, .int (x2 + (1 : Int32))] [] (ob_wI σ1 62 (x2).toNatClampNeg (vp_nar .boolean (0 : Int32))) (ob_qI Q))) ∧ (¬ (σ1.1 53 1) ≤ x2 → (vp_in x2 6 ∧ ob_RT shp E oX9_begin 12 [.ref 53, .int x1, .int (x2 + (1 : Int32))] [] (ob_wI σ1 62 (x2).toNatClampNeg (vp_nar .boolean (1 : Int32))) (ob_qI Q)))))))))))) : ob_RT shp E oX9_begin 12 [.ref 53, .int x1, .int x2] [] σ (ob_qI Q) := by
  refine ob_iload_n d_X9_begin_12 rfl ?_
  refine ob_bipush (v := 6) d_X9_begin_13 cb_6 ?_
  refine ob_icmp_ge (tgt := 67) d_X9_begin_15 rfl (fun cc => ?_) (fun cc => ?_)
  · have k := k.1 cc
    refine ob_iconst (v := 0) d_X9_begin_67 ci_0 ?_
    refine ob_istore_n (ls' := [.ref 53, .int x1, .int (0 : Int32)]) d_X9_begin_68 (Nat.le_of_ble_eq_true rfl) rfl ?_
    exact k
  · have k := k.2 cc
    refine ob_aload_n d_X9_begin_18 rfl ?_
    refine ob_getR d_X9_begin_19 fl_X9_32 sh_53 rfl rfl ?_
    refine ob_iload_n d_X9_begin_22 rfl ?_
    refine ob_aload_n d_X9_begin_23 rfl ?_
    refine ob_getR d_X9_begin_24 fl_X9_13 sh_53 rfl rfl ?_
    refine ob_iload_n d_X9_begin_27 rfl ?_
    obtain ⟨hin, k⟩ := k
    refine ob_iald d_X9_begin_28 sh_54 hin ?_
    obtain ⟨hin, k⟩ := k
    refine ob_iast d_X9_begin_29 sh_60 hin ?_
    refine ob_aload_n d_X9_begin_30 rfl ?_
    refine ob_getR d_X9_begin_31 fl_X9_35 sh_53 rfl rfl ?_
    refine ob_iload_n d_X9_begin_34 rfl ?_
    refine ob_aload_n d_X9_begin_35 rfl ?_
    refine ob_getR d_X9_begin_36 fl_X9_17 sh_53 rfl rfl ?_
    refine ob_iload_n d_X9_begin_39 rfl ?_
    obtain ⟨hin, k⟩ := k
    refine ob_iald d_X9_begin_40 sh_55 hin ?_
    obtain ⟨hin, k⟩ := k
    refine ob_iast d_X9_begin_41 sh_61 hin ?_
    refine ob_nmM (fun σ1 hσ1 => ?_)
    have k := k σ1 hσ1
    refine ob_aload_n d_X9_begin_42 rfl ?_
    refine ob_getR d_X9_begin_43 fl_X9_38 sh_53 rfl rfl ?_
    refine ob_iload_n d_X9_begin_46 rfl ?_
    refine ob_iload_n d_X9_begin_47 rfl ?_
    refine ob_aload_n d_X9_begin_48 rfl ?_
    refine ob_getI d_X9_begin_49 fl_X9_108 sh_53 rfl (by decide) ?_
    refine ob_icmp_ge (tgt := 59) d_X9_begin_52 rfl (fun cc => ?_) (fun cc => ?_)
    · have k := k.1 cc
      refine ob_iconst (v := 0) d_X9_begin_59 ci_0 ?_
      obtain ⟨hin, k⟩ := k
      refine ob_zast d_X9_begin_60 sh_62 hin ?_
      refine ob_iinc (ls' := [.ref 53, .int x1, .int (x2 + (1 : Int32))]) (v := 1) d_X9_begin_61 rfl ci_1 (Nat.le_of_ble_eq_true rfl) rfl ?_
      refine ob_goto (tgt := 12) d_X9_begin_64 rfl ?_
      exact k
    · have k := k.2 cc
      refine ob_iconst (v := 1) d_X9_begin_55 ci_1 ?_
      refine ob_goto (tgt := 60) d_X9_begin_56 rfl ?_
      obtain ⟨hin, k⟩ := k
      refine ob_zast d_X9_begin_60 sh_62 hin ?_
      refine ob_iinc (ls' := [.ref 53, .int x1, .int (x2 + (1 : Int32))]) (v := 1) d_X9_begin_61 rfl ci_1 (Nat.le_of_ble_eq_true rfl) rfl ?_
      refine ob_goto (tgt := 12) d_X9_begin_64 rfl ?_
      exact k
theorem b_X9_begin_69 {E : ob_E} {σ : ob_Mem} {Q : Int32 → ob_Mem → Prop} {x1 x2 : Int32} (k : (((8 : Int32) ≤ x2 → Q x1 σ) ∧ (¬ (8 : Int32) ≤ x2 → (vp_in x2 8 ∧ (vp_in x2 8 ∧ (vp_in x2 8 ∧ (∀ σ1, σ1 = (ob_wI (ob_wI σ 63 (x2).toNatClampNeg (σ.1 57 (x2).toNatClampNeg)) 64 (x2).toNatClampNeg (-1 : Int32)) → (vp_in x2 8 ∧ ob_RT shp E oX9_begin 69 [.ref 53, .int x1, .int (x2 + (1 : Int32))] [] (ob_wI σ1 65 (x2).toNatClampNeg (-1 : Int32)) (ob_qI Q))))))))) : ob_RT shp E oX9_begin 69 [.ref 53, .int x1, .int x2] [] σ (ob_qI Q) := by
  refine ob_iload_n d_X9_begin_69 rfl ?_
  refine ob_bipush (v := 8) d_X9_begin_70 cb_8 ?_
  refine ob_icmp_ge (tgt := 107) d_X9_begin_72 rfl (fun cc => ?_) (fun cc => ?_)
  · have k := k.1 cc
    refine ob_iload_n d_X9_begin_107 rfl ?_
    exact ob_iret d_X9_begin_108 rfl ⟨_, rfl, k⟩
  · have k := k.2 cc
    refine ob_aload_n d_X9_begin_75 rfl ?_
    refine ob_getR d_X9_begin_76 fl_X9_42 sh_53 rfl rfl ?_
    refine ob_iload_n d_X9_begin_79 rfl ?_
    refine ob_aload_n d_X9_begin_80 rfl ?_
    refine ob_getR d_X9_begin_81 fl_X9_23 sh_53 rfl rfl ?_
    refine ob_iload_n d_X9_begin_84 rfl ?_
    obtain ⟨hin, k⟩ := k
    refine ob_iald d_X9_begin_85 sh_57 hin ?_
    obtain ⟨hin, k⟩ := k
    refine ob_iast d_X9_begin_86 sh_63 hin ?_
    refine ob_aload_n d_X9_begin_87 rfl ?_
    refine ob_getR d_X9_begin_88 fl_X9_45 sh_53 rfl rfl ?_
    refine ob_iload_n d_X9_begin_91 rfl ?_
    refine ob_iconst (v := -1) d_X9_begin_92 ci_m1 ?_
    obtain ⟨hin, k⟩ := k
    refine ob_iast d_X9_begin_93 sh_64 hin ?_
    refine ob_nmM (fun σ1 hσ1 => ?_)
    have k := k σ1 hσ1
    refine ob_aload_n d_X9_begin_94 rfl ?_
    refine ob_getR d_X9_begin_95 fl_X9_48 sh_53 rfl rfl ?_
    refine ob_iload_n d_X9_begin_98 rfl ?_
    refine ob_iconst (v := -1) d_X9_begin_99 ci_m1 ?_
    obtain ⟨hin, k⟩ := k
    refine ob_iast d_X9_begin_100 sh_65 hin ?_
    refine ob_iinc (ls' := [.ref 53, .int x1, .int (x2 + (1 : Int32))]) (v := 1) d_X9_begin_101 rfl ci_1 (Nat.le_of_ble_eq_true rfl) rfl ?_
    refine ob_goto (tgt := 69) d_X9_begin_104 rfl ?_
    exact k
theorem d_X9_feed_0 : decode oX9_feed.2.1 0 = .ok (.iload_n 1, 1) := by decide +kernel
theorem d_X9_feed_1 : decode oX9_feed.2.1 1 = .ok (.i2l, 1) := by decide +kernel
theorem d_X9_feed_2 : decode oX9_feed.2.1 2 = .ok (.lconst 1, 1) := by decide +kernel
theorem d_X9_feed_3 : decode oX9_feed.2.1 3 = .ok (.ldc2_w 121, 3) := by decide +kernel
theorem d_X9_feed_6 : decode oX9_feed.2.1 6 = .ok (.invokestatic 111, 3) := by decide +kernel
theorem d_X9_feed_9 : decode oX9_feed.2.1 9 = .ok (.ifCond .ne 6, 3) := by decide +kernel
theorem d_X9_feed_12 : decode oX9_feed.2.1 12 = .ok (.ldc 123, 2) := by decide +kernel
theorem d_X9_feed_14 : decode oX9_feed.2.1 14 = .ok (.ireturn, 1) := by decide +kernel
theorem d_X9_feed_15 : decode oX9_feed.2.1 15 = .ok (.aload_n 0, 1) := by decide +kernel
theorem d_X9_feed_16 : decode oX9_feed.2.1 16 = .ok (.getfield 124, 3) := by decide +kernel
theorem d_X9_feed_19 : decode oX9_feed.2.1 19 = .ok (.iload_n 1, 1) := by decide +kernel
theorem d_X9_feed_20 : decode oX9_feed.2.1 20 = .ok (.iadd, 1) := by decide +kernel
theorem d_X9_feed_21 : decode oX9_feed.2.1 21 = .ok (.sipush 500, 3) := by decide +kernel
theorem d_X9_feed_24 : decode oX9_feed.2.1 24 = .ok (.if_icmp .le 6, 3) := by decide +kernel
theorem d_X9_feed_27 : decode oX9_feed.2.1 27 = .ok (.ldc 127, 2) := by decide +kernel
theorem d_X9_feed_29 : decode oX9_feed.2.1 29 = .ok (.ireturn, 1) := by decide +kernel
theorem d_X9_feed_30 : decode oX9_feed.2.1 30 = .ok (.iload_n 1, 1) := by decide +kernel
theorem d_X9_feed_31 : decode oX9_feed.2.1 31 = .ok (.iconst 1, 1) := by decide +kernel
theorem d_X9_feed_32 : decode oX9_feed.2.1 32 = .ok (.isub, 1) := by decide +kernel
theorem d_X9_feed_33 : decode oX9_feed.2.1 33 = .ok (.istore 4, 2) := by decide +kernel
theorem d_X9_feed_35 : decode oX9_feed.2.1 35 = .ok (.iload 4, 2) := by decide +kernel
theorem d_X9_feed_37 : decode oX9_feed.2.1 37 = .ok (.ifCond .lt 40, 3) := by decide +kernel
theorem d_X9_feed_40 : decode oX9_feed.2.1 40 = .ok (.aload_n 0, 1) := by decide +kernel
theorem d_X9_feed_41 : decode oX9_feed.2.1 41 = .ok (.getfield 51, 3) := by decide +kernel
theorem d_X9_feed_44 : decode oX9_feed.2.1 44 = .ok (.aload_n 0, 1) := by decide +kernel
theorem d_X9_feed_45 : decode oX9_feed.2.1 45 = .ok (.getfield 124, 3) := by decide +kernel
theorem d_X9_feed_48 : decode oX9_feed.2.1 48 = .ok (.lload_n 2, 1) := by decide +kernel
theorem d_X9_feed_49 : decode oX9_feed.2.1 49 = .ok (.bipush 8, 2) := by decide +kernel
theorem d_X9_feed_51 : decode oX9_feed.2.1 51 = .ok (.iload 4, 2) := by decide +kernel
theorem d_X9_feed_53 : decode oX9_feed.2.1 53 = .ok (.imul, 1) := by decide +kernel
theorem d_X9_feed_54 : decode oX9_feed.2.1 54 = .ok (.lshr, 1) := by decide +kernel
theorem d_X9_feed_55 : decode oX9_feed.2.1 55 = .ok (.ldc2_w 128, 3) := by decide +kernel
theorem d_X9_feed_58 : decode oX9_feed.2.1 58 = .ok (.land, 1) := by decide +kernel
theorem d_X9_feed_59 : decode oX9_feed.2.1 59 = .ok (.l2i, 1) := by decide +kernel
theorem d_X9_feed_60 : decode oX9_feed.2.1 60 = .ok (.iastore, 1) := by decide +kernel
theorem d_X9_feed_61 : decode oX9_feed.2.1 61 = .ok (.aload_n 0, 1) := by decide +kernel
theorem d_X9_feed_62 : decode oX9_feed.2.1 62 = .ok (.dup, 1) := by decide +kernel
theorem d_X9_feed_63 : decode oX9_feed.2.1 63 = .ok (.getfield 124, 3) := by decide +kernel
theorem d_X9_feed_66 : decode oX9_feed.2.1 66 = .ok (.iconst 1, 1) := by decide +kernel
theorem d_X9_feed_67 : decode oX9_feed.2.1 67 = .ok (.iadd, 1) := by decide +kernel
theorem d_X9_feed_68 : decode oX9_feed.2.1 68 = .ok (.putfield 124, 3) := by decide +kernel
theorem d_X9_feed_71 : decode oX9_feed.2.1 71 = .ok (.iinc 4 (-1), 3) := by decide +kernel
theorem d_X9_feed_74 : decode oX9_feed.2.1 74 = .ok (.goto (-39), 3) := by decide +kernel
theorem d_X9_feed_77 : decode oX9_feed.2.1 77 = .ok (.aload_n 0, 1) := by decide +kernel
theorem d_X9_feed_78 : decode oX9_feed.2.1 78 = .ok (.getfield 124, 3) := by decide +kernel
theorem d_X9_feed_81 : decode oX9_feed.2.1 81 = .ok (.ireturn, 1) := by decide +kernel
theorem b_X9_feed_0 {E : ob_E} {σ : ob_Mem} {Q : Int32 → ob_Mem → Prop} {x1 : Int32} {x2 : Int64} (k : ob_RM shp E oX9_in [.long (x1).toInt64, .long (1 : Int64), .long (8 : Int64)] σ (ob_qI fun v2 σ1 => ((¬ v2 = 0 → ((((σ1.1 53 18) + x1) ≤ (500 : Int32) → ob_RT shp E oX9_feed 35 [.ref 53, .int x1, .long x2, .null, .int (x1 - (1 : Int32))] [] σ1 (ob_qI Q)) ∧ (¬ ((σ1.1 53 18) + x1) ≤ (500 : Int32) → Q (-1000000004 : Int32) σ1))) ∧ (v2 = 0 → Q (-1000000002 : Int32) σ1)))) : ob_RT shp E oX9_feed 0 [.ref 53, .int x1, .long x2, .null, .null] [] σ (ob_qI Q) := by
  refine ob_iload_n d_X9_feed_0 rfl ?_
  refine ob_i2l d_X9_feed_1 ?_
  refine ob_lconst (v := 1) d_X9_feed_2 rfl ?_
  refine ob_ldc2 (v := 8) d_X9_feed_3 k_X9_121 ?_
  refine ob_callS [.long (x1).toInt64, .long (1 : Int64), .long (8 : Int64)] (z := oX9_in) (st := []) d_X9_feed_6 lk_X9_111 ms_X9_in rfl (Nat.le_of_ble_eq_true rfl) rfl k (ob_kI fun v2 σ1 k => ?_)
  refine ob_if_ne (tgt := 15) d_X9_feed_9 rfl (fun cc => ?_) (fun cc => ?_)
  · have k := k.1 cc
    refine ob_aload_n d_X9_feed_15 rfl ?_
    refine ob_getI d_X9_feed_16 fl_X9_124 sh_53 rfl (by decide) ?_
    refine ob_iload_n d_X9_feed_19 rfl ?_
    refine ob_iadd d_X9_feed_20 ?_
    refine ob_sipush (v := 500) d_X9_feed_21 cs_500 ?_
    refine ob_icmp_le (tgt := 30) d_X9_feed_24 rfl (fun cc => ?_) (fun cc => ?_)
    · have k := k.1 cc
      refine ob_iload_n d_X9_feed_30 rfl ?_
      refine ob_iconst (v := 1) d_X9_feed_31 ci_1 ?_
      refine ob_isub d_X9_feed_32 ?_
      refine ob_istore (ls' := [.ref 53, .int x1, .long x2, .null, .int (x1 - (1 : Int32))]) d_X9_feed_33 (Nat.le_of_ble_eq_true rfl) rfl ?_
      exact k
    · have k := k.2 cc
      refine ob_ldc (v := -1000000004) d_X9_feed_27 k_X9_127 ?_
      exact ob_iret d_X9_feed_29 rfl ⟨_, rfl, k⟩
  · have k := k.2 cc
    refine ob_ldc (v := -1000000002) d_X9_feed_12 k_X9_123 ?_
    exact ob_iret d_X9_feed_14 rfl ⟨_, rfl, k⟩
theorem b_X9_feed_35 {E : ob_E} {σ : ob_Mem} {Q : Int32 → ob_Mem → Prop} {x1 x4 : Int32} {x2 : Int64} (k : ((x4 < 0 → Q (σ.1 53 18) σ) ∧ (¬ x4 < 0 → (vp_in (σ.1 53 18) 500 ∧ (∀ σ1, σ1 = (ob_wI σ 66 ((σ.1 53 18)).toNatClampNeg (((x2 >>> ((((8 : Int32) * x4)).toInt64 &&& 63)) &&& (255 : Int64))).toInt32) → ob_RT shp E oX9_feed 35 [.ref 53, .int x1, .long x2, .null, .int (x4 + (-1 : Int32))] [] (ob_wI σ1 53 18 ((σ1.1 53 18) + (1 : Int32))) (ob_qI Q)))))) : ob_RT shp E oX9_feed 35 [.ref 53, .int x1, .long x2, .null, .int x4] [] σ (ob_qI Q) := by
  refine ob_iload d_X9_feed_35 rfl ?_
  refine ob_if_lt (tgt := 77) d_X9_feed_37 rfl (fun cc => ?_) (fun cc => ?_)
  · have k := k.1 cc
    refine ob_aload_n d_X9_feed_77 rfl ?_
    refine ob_getI d_X9_feed_78 fl_X9_124 sh_53 rfl (by decide) ?_
    exact ob_iret d_X9_feed_81 rfl ⟨_, rfl, k⟩
  · have k := k.2 cc
    refine ob_aload_n d_X9_feed_40 rfl ?_
    refine ob_getR d_X9_feed_41 fl_X9_51 sh_53 rfl rfl ?_
    refine ob_aload_n d_X9_feed_44 rfl ?_
    refine ob_getI d_X9_feed_45 fl_X9_124 sh_53 rfl (by decide) ?_
    refine ob_lload_n d_X9_feed_48 rfl ?_
    refine ob_bipush (v := 8) d_X9_feed_49 cb_8 ?_
    refine ob_iload d_X9_feed_51 rfl ?_
    refine ob_imul d_X9_feed_53 ?_
    refine ob_lshr d_X9_feed_54 ?_
    refine ob_ldc2 (v := 255) d_X9_feed_55 k_X9_128 ?_
    refine ob_land d_X9_feed_58 ?_
    refine ob_l2i d_X9_feed_59 ?_
    obtain ⟨hin, k⟩ := k
    refine ob_iast d_X9_feed_60 sh_66 hin ?_
    refine ob_nmM (fun σ1 hσ1 => ?_)
    have k := k σ1 hσ1
    refine ob_aload_n d_X9_feed_61 rfl ?_
    refine ob_dup d_X9_feed_62 rfl ?_
    refine ob_getI d_X9_feed_63 fl_X9_124 sh_53 rfl (by decide) ?_
    refine ob_iconst (v := 1) d_X9_feed_66 ci_1 ?_
    refine ob_iadd d_X9_feed_67 ?_
    refine ob_putI d_X9_feed_68 fp_X9_124 sh_53 rfl rfl ?_
    refine ob_iinc (ls' := [.ref 53, .int x1, .long x2, .null, .int (x4 + (-1 : Int32))]) (v := -1) d_X9_feed_71 rfl ci_m1 (Nat.le_of_ble_eq_true rfl) rfl ?_
    refine ob_goto (tgt := 35) d_X9_feed_74 rfl ?_
    exact k
theorem d_X9_land_0 : decode oX9_land.2.1 0 = .ok (.aload_n 0, 1) := by decide +kernel
theorem d_X9_land_1 : decode oX9_land.2.1 1 = .ok (.iconst (-1), 1) := by decide +kernel
theorem d_X9_land_2 : decode oX9_land.2.1 2 = .ok (.putfield 54, 3) := by decide +kernel
theorem d_X9_land_5 : decode oX9_land.2.1 5 = .ok (.aload_n 0, 1) := by decide +kernel
theorem d_X9_land_6 : decode oX9_land.2.1 6 = .ok (.iconst 0, 1) := by decide +kernel
theorem d_X9_land_7 : decode oX9_land.2.1 7 = .ok (.putfield 130, 3) := by decide +kernel
theorem d_X9_land_10 : decode oX9_land.2.1 10 = .ok (.aload_n 0, 1) := by decide +kernel
theorem d_X9_land_11 : decode oX9_land.2.1 11 = .ok (.iconst 0, 1) := by decide +kernel
theorem d_X9_land_12 : decode oX9_land.2.1 12 = .ok (.putfield 183, 3) := by decide +kernel
theorem d_X9_land_15 : decode oX9_land.2.1 15 = .ok (.aload_n 0, 1) := by decide +kernel
theorem d_X9_land_16 : decode oX9_land.2.1 16 = .ok (.iconst 0, 1) := by decide +kernel
theorem d_X9_land_17 : decode oX9_land.2.1 17 = .ok (.putfield 206, 3) := by decide +kernel
theorem d_X9_land_20 : decode oX9_land.2.1 20 = .ok (.aload_n 0, 1) := by decide +kernel
theorem d_X9_land_21 : decode oX9_land.2.1 21 = .ok (.iconst 0, 1) := by decide +kernel
theorem d_X9_land_22 : decode oX9_land.2.1 22 = .ok (.putfield 173, 3) := by decide +kernel
theorem d_X9_land_25 : decode oX9_land.2.1 25 = .ok (.aload_n 0, 1) := by decide +kernel
theorem d_X9_land_26 : decode oX9_land.2.1 26 = .ok (.iconst 0, 1) := by decide +kernel
theorem d_X9_land_27 : decode oX9_land.2.1 27 = .ok (.putfield 180, 3) := by decide +kernel
theorem d_X9_land_30 : decode oX9_land.2.1 30 = .ok (.aload_n 0, 1) := by decide +kernel
theorem d_X9_land_31 : decode oX9_land.2.1 31 = .ok (.iconst 0, 1) := by decide +kernel
theorem d_X9_land_32 : decode oX9_land.2.1 32 = .ok (.putfield 186, 3) := by decide +kernel
theorem d_X9_land_35 : decode oX9_land.2.1 35 = .ok (.iconst 0, 1) := by decide +kernel
theorem d_X9_land_36 : decode oX9_land.2.1 36 = .ok (.istore_n 1, 1) := by decide +kernel
theorem d_X9_land_37 : decode oX9_land.2.1 37 = .ok (.iload_n 1, 1) := by decide +kernel
theorem d_X9_land_38 : decode oX9_land.2.1 38 = .ok (.bipush 121, 2) := by decide +kernel
theorem d_X9_land_40 : decode oX9_land.2.1 40 = .ok (.if_icmp .ge 16, 3) := by decide +kernel
theorem d_X9_land_43 : decode oX9_land.2.1 43 = .ok (.aload_n 0, 1) := by decide +kernel
theorem d_X9_land_44 : decode oX9_land.2.1 44 = .ok (.getfield 72, 3) := by decide +kernel
theorem d_X9_land_47 : decode oX9_land.2.1 47 = .ok (.iload_n 1, 1) := by decide +kernel
theorem d_X9_land_48 : decode oX9_land.2.1 48 = .ok (.iconst (-1), 1) := by decide +kernel
theorem d_X9_land_49 : decode oX9_land.2.1 49 = .ok (.iastore, 1) := by decide +kernel
theorem d_X9_land_50 : decode oX9_land.2.1 50 = .ok (.iinc 1 1, 3) := by decide +kernel
theorem d_X9_land_53 : decode oX9_land.2.1 53 = .ok (.goto (-16), 3) := by decide +kernel
theorem d_X9_land_56 : decode oX9_land.2.1 56 = .ok (.iconst 0, 1) := by decide +kernel
theorem d_X9_land_57 : decode oX9_land.2.1 57 = .ok (.istore_n 1, 1) := by decide +kernel
theorem d_X9_land_58 : decode oX9_land.2.1 58 = .ok (.iload_n 1, 1) := by decide +kernel
theorem d_X9_land_59 : decode oX9_land.2.1 59 = .ok (.ifCond .ne 18, 3) := by decide +kernel
theorem d_X9_land_62 : decode oX9_land.2.1 62 = .ok (.aload_n 0, 1) := by decide +kernel
theorem d_X9_land_63 : decode oX9_land.2.1 63 = .ok (.invokevirtual 133, 3) := by decide +kernel
theorem d_X9_land_66 : decode oX9_land.2.1 66 = .ok (.ifCond .lt 11, 3) := by decide +kernel
theorem d_X9_land_69 : decode oX9_land.2.1 69 = .ok (.aload_n 0, 1) := by decide +kernel
theorem d_X9_land_70 : decode oX9_land.2.1 70 = .ok (.invokevirtual 218, 3) := by decide +kernel
theorem d_X9_land_73 : decode oX9_land.2.1 73 = .ok (.istore_n 1, 1) := by decide +kernel
theorem d_X9_land_74 : decode oX9_land.2.1 74 = .ok (.goto (-16), 3) := by decide +kernel
theorem d_X9_land_77 : decode oX9_land.2.1 77 = .ok (.aload_n 0, 1) := by decide +kernel
theorem d_X9_land_78 : decode oX9_land.2.1 78 = .ok (.iconst 0, 1) := by decide +kernel
theorem d_X9_land_79 : decode oX9_land.2.1 79 = .ok (.putfield 124, 3) := by decide +kernel
theorem d_X9_land_82 : decode oX9_land.2.1 82 = .ok (.iload_n 1, 1) := by decide +kernel
theorem d_X9_land_83 : decode oX9_land.2.1 83 = .ok (.ifCond .le 8, 3) := by decide +kernel
theorem d_X9_land_86 : decode oX9_land.2.1 86 = .ok (.bipush (-10), 2) := by decide +kernel
theorem d_X9_land_88 : decode oX9_land.2.1 88 = .ok (.iload_n 1, 1) := by decide +kernel
theorem d_X9_land_89 : decode oX9_land.2.1 89 = .ok (.isub, 1) := by decide +kernel
theorem d_X9_land_90 : decode oX9_land.2.1 90 = .ok (.ireturn, 1) := by decide +kernel
theorem d_X9_land_91 : decode oX9_land.2.1 91 = .ok (.aload_n 0, 1) := by decide +kernel
theorem d_X9_land_92 : decode oX9_land.2.1 92 = .ok (.aload_n 0, 1) := by decide +kernel
theorem d_X9_land_93 : decode oX9_land.2.1 93 = .ok (.getfield 183, 3) := by decide +kernel
theorem d_X9_land_96 : decode oX9_land.2.1 96 = .ok (.ifCond .le 10, 3) := by decide +kernel
theorem d_X9_land_99 : decode oX9_land.2.1 99 = .ok (.aload_n 0, 1) := by decide +kernel
theorem d_X9_land_100 : decode oX9_land.2.1 100 = .ok (.getfield 183, 3) := by decide +kernel
theorem d_X9_land_103 : decode oX9_land.2.1 103 = .ok (.goto 5, 3) := by decide +kernel
theorem d_X9_land_106 : decode oX9_land.2.1 106 = .ok (.bipush 12, 2) := by decide +kernel
theorem d_X9_land_108 : decode oX9_land.2.1 108 = .ok (.putfield 7, 3) := by decide +kernel
theorem d_X9_land_111 : decode oX9_land.2.1 111 = .ok (.aload_n 0, 1) := by decide +kernel
theorem d_X9_land_112 : decode oX9_land.2.1 112 = .ok (.aload_n 0, 1) := by decide +kernel
theorem d_X9_land_113 : decode oX9_land.2.1 113 = .ok (.getfield 173, 3) := by decide +kernel
theorem d_X9_land_116 : decode oX9_land.2.1 116 = .ok (.putfield 108, 3) := by decide +kernel
theorem d_X9_land_119 : decode oX9_land.2.1 119 = .ok (.aload_n 0, 1) := by decide +kernel
theorem d_X9_land_120 : decode oX9_land.2.1 120 = .ok (.aload_n 0, 1) := by decide +kernel
theorem d_X9_land_121 : decode oX9_land.2.1 121 = .ok (.getfield 180, 3) := by decide +kernel
theorem d_X9_land_124 : decode oX9_land.2.1 124 = .ok (.putfield 115, 3) := by decide +kernel
theorem d_X9_land_127 : decode oX9_land.2.1 127 = .ok (.iconst 0, 1) := by decide +kernel
theorem d_X9_land_128 : decode oX9_land.2.1 128 = .ok (.istore_n 2, 1) := by decide +kernel
theorem d_X9_land_129 : decode oX9_land.2.1 129 = .ok (.iload_n 2, 1) := by decide +kernel
theorem d_X9_land_130 : decode oX9_land.2.1 130 = .ok (.bipush 6, 2) := by decide +kernel
theorem d_X9_land_132 : decode oX9_land.2.1 132 = .ok (.if_icmp .ge 33, 3) := by decide +kernel
theorem d_X9_land_135 : decode oX9_land.2.1 135 = .ok (.aload_n 0, 1) := by decide +kernel
theorem d_X9_land_136 : decode oX9_land.2.1 136 = .ok (.getfield 13, 3) := by decide +kernel
theorem d_X9_land_139 : decode oX9_land.2.1 139 = .ok (.iload_n 2, 1) := by decide +kernel
theorem d_X9_land_140 : decode oX9_land.2.1 140 = .ok (.aload_n 0, 1) := by decide +kernel
theorem d_X9_land_141 : decode oX9_land.2.1 141 = .ok (.getfield 57, 3) := by decide +kernel
theorem d_X9_land_144 : decode oX9_land.2.1 144 = .ok (.iload_n 2, 1) := by decide +kernel
theorem d_X9_land_145 : decode oX9_land.2.1 145 = .ok (.iaload, 1) := by decide +kernel
theorem d_X9_land_146 : decode oX9_land.2.1 146 = .ok (.iastore, 1) := by decide +kernel
theorem d_X9_land_147 : decode oX9_land.2.1 147 = .ok (.aload_n 0, 1) := by decide +kernel
theorem d_X9_land_148 : decode oX9_land.2.1 148 = .ok (.getfield 17, 3) := by decide +kernel
theorem d_X9_land_151 : decode oX9_land.2.1 151 = .ok (.iload_n 2, 1) := by decide +kernel
theorem d_X9_land_152 : decode oX9_land.2.1 152 = .ok (.aload_n 0, 1) := by decide +kernel
theorem d_X9_land_153 : decode oX9_land.2.1 153 = .ok (.getfield 60, 3) := by decide +kernel
theorem d_X9_land_156 : decode oX9_land.2.1 156 = .ok (.iload_n 2, 1) := by decide +kernel
theorem d_X9_land_157 : decode oX9_land.2.1 157 = .ok (.iaload, 1) := by decide +kernel
theorem d_X9_land_158 : decode oX9_land.2.1 158 = .ok (.iastore, 1) := by decide +kernel
theorem d_X9_land_159 : decode oX9_land.2.1 159 = .ok (.iinc 2 1, 3) := by decide +kernel
theorem d_X9_land_162 : decode oX9_land.2.1 162 = .ok (.goto (-33), 3) := by decide +kernel
theorem d_X9_land_165 : decode oX9_land.2.1 165 = .ok (.iconst 0, 1) := by decide +kernel
theorem d_X9_land_166 : decode oX9_land.2.1 166 = .ok (.istore_n 2, 1) := by decide +kernel
theorem d_X9_land_167 : decode oX9_land.2.1 167 = .ok (.iload_n 2, 1) := by decide +kernel
theorem d_X9_land_168 : decode oX9_land.2.1 168 = .ok (.bipush 8, 2) := by decide +kernel
theorem d_X9_land_170 : decode oX9_land.2.1 170 = .ok (.if_icmp .ge 45, 3) := by decide +kernel
theorem d_X9_land_173 : decode oX9_land.2.1 173 = .ok (.aload_n 0, 1) := by decide +kernel
theorem d_X9_land_174 : decode oX9_land.2.1 174 = .ok (.getfield 20, 3) := by decide +kernel
theorem d_X9_land_177 : decode oX9_land.2.1 177 = .ok (.iload_n 2, 1) := by decide +kernel
theorem d_X9_land_178 : decode oX9_land.2.1 178 = .ok (.aload_n 0, 1) := by decide +kernel
theorem d_X9_land_179 : decode oX9_land.2.1 179 = .ok (.getfield 63, 3) := by decide +kernel
theorem d_X9_land_182 : decode oX9_land.2.1 182 = .ok (.iload_n 2, 1) := by decide +kernel
theorem d_X9_land_183 : decode oX9_land.2.1 183 = .ok (.iaload, 1) := by decide +kernel
theorem d_X9_land_184 : decode oX9_land.2.1 184 = .ok (.iastore, 1) := by decide +kernel
theorem d_X9_land_185 : decode oX9_land.2.1 185 = .ok (.aload_n 0, 1) := by decide +kernel
theorem d_X9_land_186 : decode oX9_land.2.1 186 = .ok (.getfield 23, 3) := by decide +kernel
theorem d_X9_land_189 : decode oX9_land.2.1 189 = .ok (.iload_n 2, 1) := by decide +kernel
theorem d_X9_land_190 : decode oX9_land.2.1 190 = .ok (.aload_n 0, 1) := by decide +kernel
theorem d_X9_land_191 : decode oX9_land.2.1 191 = .ok (.getfield 66, 3) := by decide +kernel
theorem d_X9_land_194 : decode oX9_land.2.1 194 = .ok (.iload_n 2, 1) := by decide +kernel
theorem d_X9_land_195 : decode oX9_land.2.1 195 = .ok (.iaload, 1) := by decide +kernel
theorem d_X9_land_196 : decode oX9_land.2.1 196 = .ok (.iastore, 1) := by decide +kernel
theorem d_X9_land_197 : decode oX9_land.2.1 197 = .ok (.aload_n 0, 1) := by decide +kernel
theorem d_X9_land_198 : decode oX9_land.2.1 198 = .ok (.getfield 26, 3) := by decide +kernel
theorem d_X9_land_201 : decode oX9_land.2.1 201 = .ok (.iload_n 2, 1) := by decide +kernel
theorem d_X9_land_202 : decode oX9_land.2.1 202 = .ok (.aload_n 0, 1) := by decide +kernel
theorem d_X9_land_203 : decode oX9_land.2.1 203 = .ok (.getfield 69, 3) := by decide +kernel
theorem d_X9_land_206 : decode oX9_land.2.1 206 = .ok (.iload_n 2, 1) := by decide +kernel
theorem d_X9_land_207 : decode oX9_land.2.1 207 = .ok (.iaload, 1) := by decide +kernel
theorem d_X9_land_208 : decode oX9_land.2.1 208 = .ok (.iastore, 1) := by decide +kernel
theorem d_X9_land_209 : decode oX9_land.2.1 209 = .ok (.iinc 2 1, 3) := by decide +kernel
theorem d_X9_land_212 : decode oX9_land.2.1 212 = .ok (.goto (-45), 3) := by decide +kernel
theorem d_X9_land_215 : decode oX9_land.2.1 215 = .ok (.iconst 0, 1) := by decide +kernel
theorem d_X9_land_216 : decode oX9_land.2.1 216 = .ok (.istore_n 2, 1) := by decide +kernel
theorem d_X9_land_217 : decode oX9_land.2.1 217 = .ok (.iload_n 2, 1) := by decide +kernel
theorem d_X9_land_218 : decode oX9_land.2.1 218 = .ok (.bipush 121, 2) := by decide +kernel
theorem d_X9_land_220 : decode oX9_land.2.1 220 = .ok (.if_icmp .ge 34, 3) := by decide +kernel
theorem d_X9_land_223 : decode oX9_land.2.1 223 = .ok (.aload_n 0, 1) := by decide +kernel
theorem d_X9_land_224 : decode oX9_land.2.1 224 = .ok (.getfield 29, 3) := by decide +kernel
theorem d_X9_land_227 : decode oX9_land.2.1 227 = .ok (.iload_n 2, 1) := by decide +kernel
theorem d_X9_land_228 : decode oX9_land.2.1 228 = .ok (.aload_n 0, 1) := by decide +kernel
theorem d_X9_land_229 : decode oX9_land.2.1 229 = .ok (.getfield 72, 3) := by decide +kernel
theorem d_X9_land_232 : decode oX9_land.2.1 232 = .ok (.iload_n 2, 1) := by decide +kernel
theorem d_X9_land_233 : decode oX9_land.2.1 233 = .ok (.iaload, 1) := by decide +kernel
theorem d_X9_land_234 : decode oX9_land.2.1 234 = .ok (.ifCond .ge 7, 3) := by decide +kernel
theorem d_X9_land_237 : decode oX9_land.2.1 237 = .ok (.iconst 0, 1) := by decide +kernel
theorem d_X9_land_238 : decode oX9_land.2.1 238 = .ok (.goto 9, 3) := by decide +kernel
theorem d_X9_land_241 : decode oX9_land.2.1 241 = .ok (.aload_n 0, 1) := by decide +kernel
theorem d_X9_land_242 : decode oX9_land.2.1 242 = .ok (.getfield 72, 3) := by decide +kernel
theorem d_X9_land_245 : decode oX9_land.2.1 245 = .ok (.iload_n 2, 1) := by decide +kernel
theorem d_X9_land_246 : decode oX9_land.2.1 246 = .ok (.iaload, 1) := by decide +kernel
theorem d_X9_land_247 : decode oX9_land.2.1 247 = .ok (.iastore, 1) := by decide +kernel
theorem d_X9_land_248 : decode oX9_land.2.1 248 = .ok (.iinc 2 1, 3) := by decide +kernel
theorem d_X9_land_251 : decode oX9_land.2.1 251 = .ok (.goto (-34), 3) := by decide +kernel
theorem d_X9_land_254 : decode oX9_land.2.1 254 = .ok (.aload_n 0, 1) := by decide +kernel
theorem d_X9_land_255 : decode oX9_land.2.1 255 = .ok (.iconst 0, 1) := by decide +kernel
theorem d_X9_land_256 : decode oX9_land.2.1 256 = .ok (.putfield 221, 3) := by decide +kernel
theorem d_X9_land_259 : decode oX9_land.2.1 259 = .ok (.aload_n 0, 1) := by decide +kernel
theorem d_X9_land_260 : decode oX9_land.2.1 260 = .ok (.getfield 105, 3) := by decide +kernel
theorem d_X9_land_263 : decode oX9_land.2.1 263 = .ok (.iconst 0, 1) := by decide +kernel
theorem d_X9_land_264 : decode oX9_land.2.1 264 = .ok (.iconst 0, 1) := by decide +kernel
theorem d_X9_land_265 : decode oX9_land.2.1 265 = .ok (.bastore, 1) := by decide +kernel
theorem d_X9_land_266 : decode oX9_land.2.1 266 = .ok (.aload_n 0, 1) := by decide +kernel
theorem d_X9_land_267 : decode oX9_land.2.1 267 = .ok (.getfield 105, 3) := by decide +kernel
theorem d_X9_land_270 : decode oX9_land.2.1 270 = .ok (.iconst 1, 1) := by decide +kernel
theorem d_X9_land_271 : decode oX9_land.2.1 271 = .ok (.iconst 0, 1) := by decide +kernel
theorem d_X9_land_272 : decode oX9_land.2.1 272 = .ok (.bastore, 1) := by decide +kernel
theorem d_X9_land_273 : decode oX9_land.2.1 273 = .ok (.aload_n 0, 1) := by decide +kernel
theorem d_X9_land_274 : decode oX9_land.2.1 274 = .ok (.invokevirtual 224, 3) := by decide +kernel
theorem d_X9_land_277 : decode oX9_land.2.1 277 = .ok (.istore_n 2, 1) := by decide +kernel
theorem d_X9_land_278 : decode oX9_land.2.1 278 = .ok (.aload_n 0, 1) := by decide +kernel
theorem d_X9_land_279 : decode oX9_land.2.1 279 = .ok (.getfield 108, 3) := by decide +kernel
theorem d_X9_land_282 : decode oX9_land.2.1 282 = .ok (.ireturn, 1) := by decide +kernel
theorem b_X9_land_0 {E : ob_E} {σ : ob_Mem} {Q : Int32 → ob_Mem → Prop} (k : (∀ σ1, σ1 = (ob_wI (ob_wI (ob_wI σ 53 19 (-1 : Int32)) 53 20 (0 : Int32)) 53 25 (0 : Int32)) → (∀ σ2, σ2 = (ob_wI (ob_wI (ob_wI σ1 53 26 (0 : Int32)) 53 27 (0 : Int32)) 53 30 (0 : Int32)) → ob_RT shp E oX9_land 37 [.ref 53, .int (0 : Int32), .null] [] (ob_wI σ2 53 34 (0 : Int32)) (ob_qI Q)))) : ob_RT shp E oX9_land 0 [.ref 53, .null, .null] [] σ (ob_qI Q) := by
  refine ob_aload_n d_X9_land_0 rfl ?_
  refine ob_iconst (v := -1) d_X9_land_1 ci_m1 ?_
  refine ob_putI d_X9_land_2 fp_X9_54 sh_53 rfl rfl ?_
  refine ob_aload_n d_X9_land_5 rfl ?_
  refine ob_iconst (v := 0) d_X9_land_6 ci_0 ?_
  refine ob_putI d_X9_land_7 fp_X9_130 sh_53 rfl rfl ?_
  refine ob_aload_n d_X9_land_10 rfl ?_
  refine ob_iconst (v := 0) d_X9_land_11 ci_0 ?_
  refine ob_putI d_X9_land_12 fp_X9_183 sh_53 rfl rfl ?_
  refine ob_nmM (fun σ1 hσ1 => ?_)
  have k := k σ1 hσ1
  refine ob_aload_n d_X9_land_15 rfl ?_
  refine ob_iconst (v := 0) d_X9_land_16 ci_0 ?_
  refine ob_putI d_X9_land_17 fp_X9_206 sh_53 rfl rfl ?_
  refine ob_aload_n d_X9_land_20 rfl ?_
  refine ob_iconst (v := 0) d_X9_land_21 ci_0 ?_
  refine ob_putI d_X9_land_22 fp_X9_173 sh_53 rfl rfl ?_
  refine ob_aload_n d_X9_land_25 rfl ?_
  refine ob_iconst (v := 0) d_X9_land_26 ci_0 ?_
  refine ob_putI d_X9_land_27 fp_X9_180 sh_53 rfl rfl ?_
  refine ob_nmM (fun σ2 hσ2 => ?_)
  have k := k σ2 hσ2
  refine ob_aload_n d_X9_land_30 rfl ?_
  refine ob_iconst (v := 0) d_X9_land_31 ci_0 ?_
  refine ob_putI d_X9_land_32 fp_X9_186 sh_53 rfl rfl ?_
  refine ob_iconst (v := 0) d_X9_land_35 ci_0 ?_
  refine ob_istore_n (ls' := [.ref 53, .int (0 : Int32), .null]) d_X9_land_36 (Nat.le_of_ble_eq_true rfl) rfl ?_
  exact k
theorem b_X9_land_37 {E : ob_E} {σ : ob_Mem} {Q : Int32 → ob_Mem → Prop} {x1 : Int32} (k : (((121 : Int32) ≤ x1 → ob_RT shp E oX9_land 58 [.ref 53, .int (0 : Int32), .null] [] σ (ob_qI Q)) ∧ (¬ (121 : Int32) ≤ x1 → (vp_in x1 121 ∧ ob_RT shp E oX9_land 37 [.ref 53, .int (x1 + (1 : Int32)), .null] [] (ob_wI σ 72 (x1).toNatClampNeg (-1 : Int32)) (ob_qI Q))))) : ob_RT shp E oX9_land 37 [.ref 53, .int x1, .null] [] σ (ob_qI Q) := by
  refine ob_iload_n d_X9_land_37 rfl ?_
  refine ob_bipush (v := 121) d_X9_land_38 cb_121 ?_
  refine ob_icmp_ge (tgt := 56) d_X9_land_40 rfl (fun cc => ?_) (fun cc => ?_)
  · have k := k.1 cc
    refine ob_iconst (v := 0) d_X9_land_56 ci_0 ?_
    refine ob_istore_n (ls' := [.ref 53, .int (0 : Int32), .null]) d_X9_land_57 (Nat.le_of_ble_eq_true rfl) rfl ?_
    exact k
  · have k := k.2 cc
    refine ob_aload_n d_X9_land_43 rfl ?_
    refine ob_getR d_X9_land_44 fl_X9_72 sh_53 rfl rfl ?_
    refine ob_iload_n d_X9_land_47 rfl ?_
    refine ob_iconst (v := -1) d_X9_land_48 ci_m1 ?_
    obtain ⟨hin, k⟩ := k
    refine ob_iast d_X9_land_49 sh_72 hin ?_
    refine ob_iinc (ls' := [.ref 53, .int (x1 + (1 : Int32)), .null]) (v := 1) d_X9_land_50 rfl ci_1 (Nat.le_of_ble_eq_true rfl) rfl ?_
    refine ob_goto (tgt := 37) d_X9_land_53 rfl ?_
    exact k
theorem b_X9_land_58 {E : ob_E} {σ : ob_Mem} {Q : Int32 → ob_Mem → Prop} {x1 : Int32} (k : ((¬ x1 = 0 → ob_RT shp E oX9_land 77 [.ref 53, .int x1, .null] [] σ (ob_qI Q)) ∧ (x1 = 0 → ob_RM shp E oX9_here [.ref 53] σ (ob_qI fun v2 σ1 => ((v2 < 0 → ob_RT shp E oX9_land 77 [.ref 53, .int x1, .null] [] σ1 (ob_qI Q)) ∧ (¬ v2 < 0 → ob_RM shp E oX9_takeClause [.ref 53] σ1 (ob_qI fun v4 σ3 => ob_RT shp E oX9_land 58 [.ref 53, .int v4, .null] [] σ3 (ob_qI Q)))))))) : ob_RT shp E oX9_land 58 [.ref 53, .int x1, .null] [] σ (ob_qI Q) := by
  refine ob_iload_n d_X9_land_58 rfl ?_
  refine ob_if_ne (tgt := 77) d_X9_land_59 rfl (fun cc => ?_) (fun cc => ?_)
  · have k := k.1 cc
    exact k
  · have k := k.2 cc
    refine ob_aload_n d_X9_land_62 rfl ?_
    refine ob_callV [] (z := oX9_here) (st := []) d_X9_land_63 lk_X9_133 mv_X9_here rfl sh_53 cl_9 rfl (Nat.le_of_ble_eq_true rfl) rfl k (ob_kI fun v2 σ1 k => ?_)
    refine ob_if_lt (tgt := 77) d_X9_land_66 rfl (fun cc => ?_) (fun cc => ?_)
    · have k := k.1 cc
      exact k
    · have k := k.2 cc
      refine ob_aload_n d_X9_land_69 rfl ?_
      refine ob_callV [] (z := oX9_takeClause) (st := []) d_X9_land_70 lk_X9_218 mv_X9_takeClause rfl sh_53 cl_9 rfl (Nat.le_of_ble_eq_true rfl) rfl k (ob_kI fun v4 σ3 k => ?_)
      refine ob_istore_n (ls' := [.ref 53, .int v4, .null]) d_X9_land_73 (Nat.le_of_ble_eq_true rfl) rfl ?_
      refine ob_goto (tgt := 58) d_X9_land_74 rfl ?_
      exact k
theorem b_X9_land_77 {E : ob_E} {σ : ob_Mem} {Q : Int32 → ob_Mem → Prop} {x1 : Int32} (k : ((x1 ≤ 0 → ((((ob_wI σ 53 18 (0 : Int32)).1 53 25) ≤ 0 → ob_RT shp E oX9_land 108 [.ref 53, .int x1, .null] [.int (12 : Int32), .ref 53] (ob_wI σ 53 18 (0 : Int32)) (ob_qI Q)) ∧ (¬ ((ob_wI σ 53 18 (0 : Int32)).1 53 25) ≤ 0 → ob_RT shp E oX9_land 108 [.ref 53, .int x1, .null] [.int ((ob_wI σ 53 18 (0 : Int32)).1 53 25), .ref 53] (ob_wI σ 53 18 (0 : Int32)) (ob_qI Q)))) ∧ (¬ x1 ≤ 0 → Q ((-10 : Int32) - x1) (ob_wI σ 53 18 (0 : Int32))))) : ob_RT shp E oX9_land 77 [.ref 53, .int x1, .null] [] σ (ob_qI Q) := by
  refine ob_aload_n d_X9_land_77 rfl ?_
  refine ob_iconst (v := 0) d_X9_land_78 ci_0 ?_
  refine ob_putI d_X9_land_79 fp_X9_124 sh_53 rfl rfl ?_
  refine ob_iload_n d_X9_land_82 rfl ?_
  refine ob_if_le (tgt := 91) d_X9_land_83 rfl (fun cc => ?_) (fun cc => ?_)
  · have k := k.1 cc
    refine ob_aload_n d_X9_land_91 rfl ?_
    refine ob_aload_n d_X9_land_92 rfl ?_
    refine ob_getI d_X9_land_93 fl_X9_183 sh_53 rfl (by decide) ?_
    refine ob_if_le (tgt := 106) d_X9_land_96 rfl (fun cc => ?_) (fun cc => ?_)
    · have k := k.1 cc
      refine ob_bipush (v := 12) d_X9_land_106 cb_12 ?_
      exact k
    · have k := k.2 cc
      refine ob_aload_n d_X9_land_99 rfl ?_
      refine ob_getI d_X9_land_100 fl_X9_183 sh_53 rfl (by decide) ?_
      refine ob_goto (tgt := 108) d_X9_land_103 rfl ?_
      exact k
  · have k := k.2 cc
    refine ob_bipush (v := -10) d_X9_land_86 cb_m10 ?_
    refine ob_iload_n d_X9_land_88 rfl ?_
    refine ob_isub d_X9_land_89 ?_
    exact ob_iret d_X9_land_90 rfl ⟨_, rfl, k⟩
theorem b_X9_land_108 {E : ob_E} {σ : ob_Mem} {Q : Int32 → ob_Mem → Prop} {x1 s0 : Int32} (k : (∀ σ1, σ1 = (ob_wI (ob_wI (ob_wI σ 53 0 s0) 53 1 ((ob_wI σ 53 0 s0).1 53 27)) 53 4 ((ob_wI (ob_wI σ 53 0 s0) 53 1 ((ob_wI σ 53 0 s0).1 53 27)).1 53 30)) → ob_RT shp E oX9_land 129 [.ref 53, .int x1, .int (0 : Int32)] [] σ1 (ob_qI Q))) : ob_RT shp E oX9_land 108 [.ref 53, .int x1, .null] [.int s0, .ref 53] σ (ob_qI Q) := by
  refine ob_putI d_X9_land_108 fp_X9_7 sh_53 rfl rfl ?_
  refine ob_aload_n d_X9_land_111 rfl ?_
  refine ob_aload_n d_X9_land_112 rfl ?_
  refine ob_getI d_X9_land_113 fl_X9_173 sh_53 rfl (by decide) ?_
  refine ob_putI d_X9_land_116 fp_X9_108 sh_53 rfl rfl ?_
  refine ob_aload_n d_X9_land_119 rfl ?_
  refine ob_aload_n d_X9_land_120 rfl ?_
  refine ob_getI d_X9_land_121 fl_X9_180 sh_53 rfl (by decide) ?_
  refine ob_putI d_X9_land_124 fp_X9_115 sh_53 rfl rfl ?_
  refine ob_nmM (fun σ1 hσ1 => ?_)
  have k := k σ1 hσ1
  refine ob_iconst (v := 0) d_X9_land_127 ci_0 ?_
  refine ob_istore_n (ls' := [.ref 53, .int x1, .int (0 : Int32)]) d_X9_land_128 (Nat.le_of_ble_eq_true rfl) rfl ?_
  exact k
theorem b_X9_land_129 {E : ob_E} {σ : ob_Mem} {Q : Int32 → ob_Mem → Prop} {x1 x2 : Int32} (k : (((6 : Int32) ≤ x2 → ob_RT shp E oX9_land 167 [.ref 53, .int x1, .int (0 : Int32)] [] σ (ob_qI Q)) ∧ (¬ (6 : Int32) ≤ x2 → (vp_in x2 6 ∧ (vp_in x2 6 ∧ (vp_in x2 6 ∧ (vp_in x2 6 ∧ (∀ σ1, σ1 = (ob_wI (ob_wI σ 54 (x2).toNatClampNeg (σ.1 67 (x2).toNatClampNeg)) 55 (x2).toNatClampNeg ((ob_wI σ 54 (x2).toNatClampNeg (σ.1 67 (x2).toNatClampNeg)).1 68 (x2).toNatClampNeg)) → ob_RT shp E oX9_land 129 [.ref 53, .int x1, .int (x2 + (1 : Int32))] [] σ1 (ob_qI Q))))))))) : ob_RT shp E oX9_land 129 [.ref 53, .int x1, .int x2] [] σ (ob_qI Q) := by
  refine ob_iload_n d_X9_land_129 rfl ?_
  refine ob_bipush (v := 6) d_X9_land_130 cb_6 ?_
  refine ob_icmp_ge (tgt := 165) d_X9_land_132 rfl (fun cc => ?_) (fun cc => ?_)
  · have k := k.1 cc
    refine ob_iconst (v := 0) d_X9_land_165 ci_0 ?_
    refine ob_istore_n (ls' := [.ref 53, .int x1, .int (0 : Int32)]) d_X9_land_166 (Nat.le_of_ble_eq_true rfl) rfl ?_
    exact k
  · have k := k.2 cc
    refine ob_aload_n d_X9_land_135 rfl ?_
    refine ob_getR d_X9_land_136 fl_X9_13 sh_53 rfl rfl ?_
    refine ob_iload_n d_X9_land_139 rfl ?_
    refine ob_aload_n d_X9_land_140 rfl ?_
    refine ob_getR d_X9_land_141 fl_X9_57 sh_53 rfl rfl ?_
    refine ob_iload_n d_X9_land_144 rfl ?_
    obtain ⟨hin, k⟩ := k
    refine ob_iald d_X9_land_145 sh_67 hin ?_
    obtain ⟨hin, k⟩ := k
    refine ob_iast d_X9_land_146 sh_54 hin ?_
    refine ob_aload_n d_X9_land_147 rfl ?_
    refine ob_getR d_X9_land_148 fl_X9_17 sh_53 rfl rfl ?_
    refine ob_iload_n d_X9_land_151 rfl ?_
    refine ob_aload_n d_X9_land_152 rfl ?_
    refine ob_getR d_X9_land_153 fl_X9_60 sh_53 rfl rfl ?_
    refine ob_iload_n d_X9_land_156 rfl ?_
    obtain ⟨hin, k⟩ := k
    refine ob_iald d_X9_land_157 sh_68 hin ?_
    obtain ⟨hin, k⟩ := k
    refine ob_iast d_X9_land_158 sh_55 hin ?_
    refine ob_nmM (fun σ1 hσ1 => ?_)
    have k := k σ1 hσ1
    refine ob_iinc (ls' := [.ref 53, .int x1, .int (x2 + (1 : Int32))]) (v := 1) d_X9_land_159 rfl ci_1 (Nat.le_of_ble_eq_true rfl) rfl ?_
    refine ob_goto (tgt := 129) d_X9_land_162 rfl ?_
    exact k
theorem b_X9_land_167 {E : ob_E} {σ : ob_Mem} {Q : Int32 → ob_Mem → Prop} {x1 x2 : Int32} (k : (((8 : Int32) ≤ x2 → ob_RT shp E oX9_land 217 [.ref 53, .int x1, .int (0 : Int32)] [] σ (ob_qI Q)) ∧ (¬ (8 : Int32) ≤ x2 → (vp_in x2 8 ∧ (vp_in x2 8 ∧ (vp_in x2 8 ∧ (vp_in x2 8 ∧ (∀ σ1, σ1 = (ob_wI (ob_wI σ 56 (x2).toNatClampNeg (σ.1 69 (x2).toNatClampNeg)) 57 (x2).toNatClampNeg ((ob_wI σ 56 (x2).toNatClampNeg (σ.1 69 (x2).toNatClampNeg)).1 70 (x2).toNatClampNeg)) → (vp_in x2 8 ∧ (vp_in x2 8 ∧ ob_RT shp E oX9_land 167 [.ref 53, .int x1, .int (x2 + (1 : Int32))] [] (ob_wI σ1 58 (x2).toNatClampNeg (σ1.1 71 (x2).toNatClampNeg)) (ob_qI Q))))))))))) : ob_RT shp E oX9_land 167 [.ref 53, .int x1, .int x2] [] σ (ob_qI Q) := by
  refine ob_iload_n d_X9_land_167 rfl ?_
  refine ob_bipush (v := 8) d_X9_land_168 cb_8 ?_
  refine ob_icmp_ge (tgt := 215) d_X9_land_170 rfl (fun cc => ?_) (fun cc => ?_)
  · have k := k.1 cc
    refine ob_iconst (v := 0) d_X9_land_215 ci_0 ?_
    refine ob_istore_n (ls' := [.ref 53, .int x1, .int (0 : Int32)]) d_X9_land_216 (Nat.le_of_ble_eq_true rfl) rfl ?_
    exact k
  · have k := k.2 cc
    refine ob_aload_n d_X9_land_173 rfl ?_
    refine ob_getR d_X9_land_174 fl_X9_20 sh_53 rfl rfl ?_
    refine ob_iload_n d_X9_land_177 rfl ?_
    refine ob_aload_n d_X9_land_178 rfl ?_
    refine ob_getR d_X9_land_179 fl_X9_63 sh_53 rfl rfl ?_
    refine ob_iload_n d_X9_land_182 rfl ?_
    obtain ⟨hin, k⟩ := k
    refine ob_iald d_X9_land_183 sh_69 hin ?_
    obtain ⟨hin, k⟩ := k
    refine ob_iast d_X9_land_184 sh_56 hin ?_
    refine ob_aload_n d_X9_land_185 rfl ?_
    refine ob_getR d_X9_land_186 fl_X9_23 sh_53 rfl rfl ?_
    refine ob_iload_n d_X9_land_189 rfl ?_
    refine ob_aload_n d_X9_land_190 rfl ?_
    refine ob_getR d_X9_land_191 fl_X9_66 sh_53 rfl rfl ?_
    refine ob_iload_n d_X9_land_194 rfl ?_
    obtain ⟨hin, k⟩ := k
    refine ob_iald d_X9_land_195 sh_70 hin ?_
    obtain ⟨hin, k⟩ := k
    refine ob_iast d_X9_land_196 sh_57 hin ?_
    refine ob_nmM (fun σ1 hσ1 => ?_)
    have k := k σ1 hσ1
    refine ob_aload_n d_X9_land_197 rfl ?_
    refine ob_getR d_X9_land_198 fl_X9_26 sh_53 rfl rfl ?_
    refine ob_iload_n d_X9_land_201 rfl ?_
    refine ob_aload_n d_X9_land_202 rfl ?_
    refine ob_getR d_X9_land_203 fl_X9_69 sh_53 rfl rfl ?_
    refine ob_iload_n d_X9_land_206 rfl ?_
    obtain ⟨hin, k⟩ := k
    refine ob_iald d_X9_land_207 sh_71 hin ?_
    obtain ⟨hin, k⟩ := k
    refine ob_iast d_X9_land_208 sh_58 hin ?_
    refine ob_iinc (ls' := [.ref 53, .int x1, .int (x2 + (1 : Int32))]) (v := 1) d_X9_land_209 rfl ci_1 (Nat.le_of_ble_eq_true rfl) rfl ?_
    refine ob_goto (tgt := 167) d_X9_land_212 rfl ?_
    exact k
theorem b_X9_land_217 {E : ob_E} {σ : ob_Mem} {Q : Int32 → ob_Mem → Prop} {x1 x2 : Int32} (k : (((121 : Int32) ≤ x2 → (∀ σ1, σ1 = (ob_wI (ob_wI σ 53 42 (0 : Int32)) 83 ((0 : Int32)).toNatClampNeg (vp_nar .boolean (0 : Int32))) → (∀ σ2, σ2 = (ob_wI σ1 83 ((1 : Int32)).toNatClampNeg (vp_nar .boolean (0 : Int32))) → ob_RM shp E oX9_begin [.ref 53] σ2 (ob_qI fun v4 σ3 => Q (σ3.1 53 1) σ3)))) ∧ (¬ (121 : Int32) ≤ x2 → (vp_in x2 121 ∧ ((0 ≤ (σ.1 72 (x2).toNatClampNeg) → (vp_in x2 121 ∧ (vp_in x2 121 ∧ ob_RT shp E oX9_land 217 [.ref 53, .int x1, .int (x2 + (1 : Int32))] [] (ob_wI σ 59 (x2).toNatClampNeg (σ.1 72 (x2).toNatClampNeg)) (ob_qI Q)))) ∧ (¬ 0 ≤ (σ.1 72 (x2).toNatClampNeg) → (vp_in x2 121 ∧ ob_RT shp E oX9_land 217 [.ref 53, .int x1, .int (x2 + (1 : Int32))] [] (ob_wI σ 59 (x2).toNatClampNeg (0 : Int32)) (ob_qI Q)))))))) : ob_RT shp E oX9_land 217 [.ref 53, .int x1, .int x2] [] σ (ob_qI Q) := by
  refine ob_iload_n d_X9_land_217 rfl ?_
  refine ob_bipush (v := 121) d_X9_land_218 cb_121 ?_
  refine ob_icmp_ge (tgt := 254) d_X9_land_220 rfl (fun cc => ?_) (fun cc => ?_)
  · have k := k.1 cc
    refine ob_aload_n d_X9_land_254 rfl ?_
    refine ob_iconst (v := 0) d_X9_land_255 ci_0 ?_
    refine ob_putI d_X9_land_256 fp_X9_221 sh_53 rfl rfl ?_
    refine ob_aload_n d_X9_land_259 rfl ?_
    refine ob_getR d_X9_land_260 fl_X9_105 sh_53 rfl rfl ?_
    refine ob_iconst (v := 0) d_X9_land_263 ci_0 ?_
    refine ob_iconst (v := 0) d_X9_land_264 ci_0 ?_
    refine ob_zast d_X9_land_265 sh_83 (by unfold vp_in; decide) ?_
    refine ob_nmM (fun σ1 hσ1 => ?_)
    have k := k σ1 hσ1
    refine ob_aload_n d_X9_land_266 rfl ?_
    refine ob_getR d_X9_land_267 fl_X9_105 sh_53 rfl rfl ?_
    refine ob_iconst (v := 1) d_X9_land_270 ci_1 ?_
    refine ob_iconst (v := 0) d_X9_land_271 ci_0 ?_
    refine ob_zast d_X9_land_272 sh_83 (by unfold vp_in; decide) ?_
    refine ob_nmM (fun σ2 hσ2 => ?_)
    have k := k σ2 hσ2
    refine ob_aload_n d_X9_land_273 rfl ?_
    refine ob_callV [] (z := oX9_begin) (st := []) d_X9_land_274 lk_X9_224 mv_X9_begin rfl sh_53 cl_9 rfl (Nat.le_of_ble_eq_true rfl) rfl k (ob_kI fun v4 σ3 k => ?_)
    refine ob_istore_n (ls' := [.ref 53, .int x1, .int v4]) d_X9_land_277 (Nat.le_of_ble_eq_true rfl) rfl ?_
    refine ob_aload_n d_X9_land_278 rfl ?_
    refine ob_getI d_X9_land_279 fl_X9_108 sh_53 rfl (by decide) ?_
    exact ob_iret d_X9_land_282 rfl ⟨_, rfl, k⟩
  · have k := k.2 cc
    refine ob_aload_n d_X9_land_223 rfl ?_
    refine ob_getR d_X9_land_224 fl_X9_29 sh_53 rfl rfl ?_
    refine ob_iload_n d_X9_land_227 rfl ?_
    refine ob_aload_n d_X9_land_228 rfl ?_
    refine ob_getR d_X9_land_229 fl_X9_72 sh_53 rfl rfl ?_
    refine ob_iload_n d_X9_land_232 rfl ?_
    obtain ⟨hin, k⟩ := k
    refine ob_iald d_X9_land_233 sh_72 hin ?_
    refine ob_if_ge (tgt := 241) d_X9_land_234 rfl (fun cc => ?_) (fun cc => ?_)
    · have k := k.1 cc
      refine ob_aload_n d_X9_land_241 rfl ?_
      refine ob_getR d_X9_land_242 fl_X9_72 sh_53 rfl rfl ?_
      refine ob_iload_n d_X9_land_245 rfl ?_
      obtain ⟨hin, k⟩ := k
      refine ob_iald d_X9_land_246 sh_72 hin ?_
      obtain ⟨hin, k⟩ := k
      refine ob_iast d_X9_land_247 sh_59 hin ?_
      refine ob_iinc (ls' := [.ref 53, .int x1, .int (x2 + (1 : Int32))]) (v := 1) d_X9_land_248 rfl ci_1 (Nat.le_of_ble_eq_true rfl) rfl ?_
      refine ob_goto (tgt := 217) d_X9_land_251 rfl ?_
      exact k
    · have k := k.2 cc
      refine ob_iconst (v := 0) d_X9_land_237 ci_0 ?_
      refine ob_goto (tgt := 247) d_X9_land_238 rfl ?_
      obtain ⟨hin, k⟩ := k
      refine ob_iast d_X9_land_247 sh_59 hin ?_
      refine ob_iinc (ls' := [.ref 53, .int x1, .int (x2 + (1 : Int32))]) (v := 1) d_X9_land_248 rfl ci_1 (Nat.le_of_ble_eq_true rfl) rfl ?_
      refine ob_goto (tgt := 217) d_X9_land_251 rfl ?_
      exact k
theorem d_X9_fault_0 : decode oX9_fault.2.1 0 = .ok (.aload_n 0, 1) := by decide +kernel
theorem d_X9_fault_1 : decode oX9_fault.2.1 1 = .ok (.getfield 54, 3) := by decide +kernel
theorem d_X9_fault_4 : decode oX9_fault.2.1 4 = .ok (.ireturn, 1) := by decide +kernel
theorem b_X9_fault_0 {E : ob_E} {σ : ob_Mem} {Q : Int32 → ob_Mem → Prop} (k : Q (σ.1 53 19) σ) : ob_RT shp E oX9_fault 0 [.ref 53] [] σ (ob_qI Q) := by
  refine ob_aload_n d_X9_fault_0 rfl ?_
  refine ob_getI d_X9_fault_1 fl_X9_54 sh_53 rfl (by decide) ?_
  exact ob_iret d_X9_fault_4 rfl ⟨_, rfl, k⟩
theorem d_X9_told_0 : decode oX9_told.2.1 0 = .ok (.iload_n 1, 1) := by decide +kernel
theorem d_X9_told_1 : decode oX9_told.2.1 1 = .ok (.tableswitch 87 0 7 #[47, 52, 57, 62, 67, 72, 77, 82], 47) := by decide +kernel
theorem d_X9_told_48 : decode oX9_told.2.1 48 = .ok (.aload_n 0, 1) := by decide +kernel
theorem d_X9_told_49 : decode oX9_told.2.1 49 = .ok (.getfield 7, 3) := by decide +kernel
theorem d_X9_told_52 : decode oX9_told.2.1 52 = .ok (.ireturn, 1) := by decide +kernel
theorem d_X9_told_53 : decode oX9_told.2.1 53 = .ok (.aload_n 0, 1) := by decide +kernel
theorem d_X9_told_54 : decode oX9_told.2.1 54 = .ok (.getfield 108, 3) := by decide +kernel
theorem d_X9_told_57 : decode oX9_told.2.1 57 = .ok (.ireturn, 1) := by decide +kernel
theorem d_X9_told_58 : decode oX9_told.2.1 58 = .ok (.aload_n 0, 1) := by decide +kernel
theorem d_X9_told_59 : decode oX9_told.2.1 59 = .ok (.getfield 115, 3) := by decide +kernel
theorem d_X9_told_62 : decode oX9_told.2.1 62 = .ok (.ireturn, 1) := by decide +kernel
theorem d_X9_told_63 : decode oX9_told.2.1 63 = .ok (.aload_n 0, 1) := by decide +kernel
theorem d_X9_told_64 : decode oX9_told.2.1 64 = .ok (.getfield 124, 3) := by decide +kernel
theorem d_X9_told_67 : decode oX9_told.2.1 67 = .ok (.ireturn, 1) := by decide +kernel
theorem d_X9_told_68 : decode oX9_told.2.1 68 = .ok (.aload_n 0, 1) := by decide +kernel
theorem d_X9_told_69 : decode oX9_told.2.1 69 = .ok (.getfield 118, 3) := by decide +kernel
theorem d_X9_told_72 : decode oX9_told.2.1 72 = .ok (.ireturn, 1) := by decide +kernel
theorem d_X9_told_73 : decode oX9_told.2.1 73 = .ok (.aload_n 0, 1) := by decide +kernel
theorem d_X9_told_74 : decode oX9_told.2.1 74 = .ok (.invokevirtual 227, 3) := by decide +kernel
theorem d_X9_told_77 : decode oX9_told.2.1 77 = .ok (.ireturn, 1) := by decide +kernel
theorem d_X9_told_78 : decode oX9_told.2.1 78 = .ok (.aload_n 0, 1) := by decide +kernel
theorem d_X9_told_79 : decode oX9_told.2.1 79 = .ok (.invokevirtual 230, 3) := by decide +kernel
theorem d_X9_told_82 : decode oX9_told.2.1 82 = .ok (.ireturn, 1) := by decide +kernel
theorem d_X9_told_83 : decode oX9_told.2.1 83 = .ok (.aload_n 0, 1) := by decide +kernel
theorem d_X9_told_84 : decode oX9_told.2.1 84 = .ok (.getfield 221, 3) := by decide +kernel
theorem d_X9_told_87 : decode oX9_told.2.1 87 = .ok (.ireturn, 1) := by decide +kernel
theorem d_X9_told_88 : decode oX9_told.2.1 88 = .ok (.ldc 123, 2) := by decide +kernel
theorem d_X9_told_90 : decode oX9_told.2.1 90 = .ok (.ireturn, 1) := by decide +kernel
theorem b_X9_told_0 {E : ob_E} {σ : ob_Mem} {Q : Int32 → ob_Mem → Prop} {x1 : Int32} (k : (((x1).toInt < 0 ∨ 7 < (x1).toInt → Q (-1000000002 : Int32) σ) ∧ (x1 = (0 : Int32) → Q (σ.1 53 0) σ) ∧ (x1 = (1 : Int32) → Q (σ.1 53 1) σ) ∧ (x1 = (2 : Int32) → Q (σ.1 53 4) σ) ∧ (x1 = (3 : Int32) → Q (σ.1 53 18) σ) ∧ (x1 = (4 : Int32) → Q (σ.1 53 9) σ) ∧ (x1 = (5 : Int32) → ob_RM shp E oX9_alive [.ref 53] σ (ob_qI fun v2 σ1 => Q v2 σ1)) ∧ (x1 = (6 : Int32) → ob_RM shp E oX9_lentSet [.ref 53] σ (ob_qI fun v4 σ3 => Q v4 σ3)) ∧ (x1 = (7 : Int32) → Q (σ.1 53 42) σ))) : ob_RT shp E oX9_told 0 [.ref 53, .int x1] [] σ (ob_qI Q) := by
  refine ob_iload_n d_X9_told_0 rfl ?_
  by_cases hx : (x1).toInt < 0 ∨ 7 < (x1).toInt
  · have k := k.1 hx
    refine ob_tabO (tgt := 88) d_X9_told_1 hx rfl ?_
    refine ob_ldc (v := -1000000002) d_X9_told_88 k_X9_123 ?_
    exact ob_iret d_X9_told_90 rfl ⟨_, rfl, k⟩
  · have k := k.2
    have hx1 : ¬ (x1).toInt < 0 := fun q => hx (Or.inl q)
    have hx2 : ¬ 7 < (x1).toInt := fun q => hx (Or.inr q)
    by_cases hc0 : x1 = (0 : Int32)
    · have k := k.1 hc0
      refine ob_tabI (off := 47) (tgt := 48) d_X9_told_1 hx1 hx2 (by rw [hc0]; rfl) rfl ?_
      refine ob_aload_n d_X9_told_48 rfl ?_
      refine ob_getI d_X9_told_49 fl_X9_7 sh_53 rfl (by decide) ?_
      exact ob_iret d_X9_told_52 rfl ⟨_, rfl, k⟩
    by_cases hc1 : x1 = (1 : Int32)
    · have k := k.2.1 hc1
      refine ob_tabI (off := 52) (tgt := 53) d_X9_told_1 hx1 hx2 (by rw [hc1]; rfl) rfl ?_
      refine ob_aload_n d_X9_told_53 rfl ?_
      refine ob_getI d_X9_told_54 fl_X9_108 sh_53 rfl (by decide) ?_
      exact ob_iret d_X9_told_57 rfl ⟨_, rfl, k⟩
    by_cases hc2 : x1 = (2 : Int32)
    · have k := k.2.2.1 hc2
      refine ob_tabI (off := 57) (tgt := 58) d_X9_told_1 hx1 hx2 (by rw [hc2]; rfl) rfl ?_
      refine ob_aload_n d_X9_told_58 rfl ?_
      refine ob_getI d_X9_told_59 fl_X9_115 sh_53 rfl (by decide) ?_
      exact ob_iret d_X9_told_62 rfl ⟨_, rfl, k⟩
    by_cases hc3 : x1 = (3 : Int32)
    · have k := k.2.2.2.1 hc3
      refine ob_tabI (off := 62) (tgt := 63) d_X9_told_1 hx1 hx2 (by rw [hc3]; rfl) rfl ?_
      refine ob_aload_n d_X9_told_63 rfl ?_
      refine ob_getI d_X9_told_64 fl_X9_124 sh_53 rfl (by decide) ?_
      exact ob_iret d_X9_told_67 rfl ⟨_, rfl, k⟩
    by_cases hc4 : x1 = (4 : Int32)
    · have k := k.2.2.2.2.1 hc4
      refine ob_tabI (off := 67) (tgt := 68) d_X9_told_1 hx1 hx2 (by rw [hc4]; rfl) rfl ?_
      refine ob_aload_n d_X9_told_68 rfl ?_
      refine ob_getI d_X9_told_69 fl_X9_118 sh_53 rfl (by decide) ?_
      exact ob_iret d_X9_told_72 rfl ⟨_, rfl, k⟩
    by_cases hc5 : x1 = (5 : Int32)
    · have k := k.2.2.2.2.2.1 hc5
      refine ob_tabI (off := 72) (tgt := 73) d_X9_told_1 hx1 hx2 (by rw [hc5]; rfl) rfl ?_
      refine ob_aload_n d_X9_told_73 rfl ?_
      refine ob_callV [] (z := oX9_alive) (st := []) d_X9_told_74 lk_X9_227 mv_X9_alive rfl sh_53 cl_9 rfl (Nat.le_of_ble_eq_true rfl) rfl k (ob_kI fun v2 σ1 k => ?_)
      exact ob_iret d_X9_told_77 rfl ⟨_, rfl, k⟩
    by_cases hc6 : x1 = (6 : Int32)
    · have k := k.2.2.2.2.2.2.1 hc6
      refine ob_tabI (off := 77) (tgt := 78) d_X9_told_1 hx1 hx2 (by rw [hc6]; rfl) rfl ?_
      refine ob_aload_n d_X9_told_78 rfl ?_
      refine ob_callV [] (z := oX9_lentSet) (st := []) d_X9_told_79 lk_X9_230 mv_X9_lentSet rfl sh_53 cl_9 rfl (Nat.le_of_ble_eq_true rfl) rfl k (ob_kI fun v4 σ3 k => ?_)
      exact ob_iret d_X9_told_82 rfl ⟨_, rfl, k⟩
    by_cases hc7 : x1 = (7 : Int32)
    · have k := k.2.2.2.2.2.2.2 hc7
      refine ob_tabI (off := 82) (tgt := 83) d_X9_told_1 hx1 hx2 (by rw [hc7]; rfl) rfl ?_
      refine ob_aload_n d_X9_told_83 rfl ?_
      refine ob_getI d_X9_told_84 fl_X9_221 sh_53 rfl (by decide) ?_
      exact ob_iret d_X9_told_87 rfl ⟨_, rfl, k⟩
    exfalso
    rcases (show (x1).toInt = 0 ∨ (x1).toInt = 1 ∨ (x1).toInt = 2 ∨ (x1).toInt = 3 ∨ (x1).toInt = 4 ∨ (x1).toInt = 5 ∨ (x1).toInt = 6 ∨ (x1).toInt = 7 by omega) with q | q | q | q | q | q | q | q
    · exact hc0 (Int32.toInt_inj.mp (q.trans (by decide)))
    · exact hc1 (Int32.toInt_inj.mp (q.trans (by decide)))
    · exact hc2 (Int32.toInt_inj.mp (q.trans (by decide)))
    · exact hc3 (Int32.toInt_inj.mp (q.trans (by decide)))
    · exact hc4 (Int32.toInt_inj.mp (q.trans (by decide)))
    · exact hc5 (Int32.toInt_inj.mp (q.trans (by decide)))
    · exact hc6 (Int32.toInt_inj.mp (q.trans (by decide)))
    · exact hc7 (Int32.toInt_inj.mp (q.trans (by decide)))
theorem d_X9_person_0 : decode oX9_person.2.1 0 = .ok (.aload_n 0, 1) := by decide +kernel
theorem d_X9_person_1 : decode oX9_person.2.1 1 = .ok (.iload_n 1, 1) := by decide +kernel
theorem d_X9_person_2 : decode oX9_person.2.1 2 = .ok (.invokevirtual 237, 3) := by decide +kernel
theorem d_X9_person_5 : decode oX9_person.2.1 5 = .ok (.ifCond .ne 6, 3) := by decide +kernel
theorem d_X9_person_8 : decode oX9_person.2.1 8 = .ok (.ldc 241, 2) := by decide +kernel
theorem d_X9_person_10 : decode oX9_person.2.1 10 = .ok (.ireturn, 1) := by decide +kernel
theorem d_X9_person_11 : decode oX9_person.2.1 11 = .ok (.iload_n 2, 1) := by decide +kernel
theorem d_X9_person_12 : decode oX9_person.2.1 12 = .ok (.tableswitch 77 0 4 #[36, 43, 50, 65, 71], 36) := by decide +kernel
theorem d_X9_person_48 : decode oX9_person.2.1 48 = .ok (.aload_n 0, 1) := by decide +kernel
theorem d_X9_person_49 : decode oX9_person.2.1 49 = .ok (.getfield 32, 3) := by decide +kernel
theorem d_X9_person_52 : decode oX9_person.2.1 52 = .ok (.iload_n 1, 1) := by decide +kernel
theorem d_X9_person_53 : decode oX9_person.2.1 53 = .ok (.iaload, 1) := by decide +kernel
theorem d_X9_person_54 : decode oX9_person.2.1 54 = .ok (.ireturn, 1) := by decide +kernel
theorem d_X9_person_55 : decode oX9_person.2.1 55 = .ok (.aload_n 0, 1) := by decide +kernel
theorem d_X9_person_56 : decode oX9_person.2.1 56 = .ok (.getfield 35, 3) := by decide +kernel
theorem d_X9_person_59 : decode oX9_person.2.1 59 = .ok (.iload_n 1, 1) := by decide +kernel
theorem d_X9_person_60 : decode oX9_person.2.1 60 = .ok (.iaload, 1) := by decide +kernel
theorem d_X9_person_61 : decode oX9_person.2.1 61 = .ok (.ireturn, 1) := by decide +kernel
theorem d_X9_person_62 : decode oX9_person.2.1 62 = .ok (.aload_n 0, 1) := by decide +kernel
theorem d_X9_person_63 : decode oX9_person.2.1 63 = .ok (.getfield 38, 3) := by decide +kernel
theorem d_X9_person_66 : decode oX9_person.2.1 66 = .ok (.iload_n 1, 1) := by decide +kernel
theorem d_X9_person_67 : decode oX9_person.2.1 67 = .ok (.baload, 1) := by decide +kernel
theorem d_X9_person_68 : decode oX9_person.2.1 68 = .ok (.ifCond .eq 7, 3) := by decide +kernel
theorem d_X9_person_71 : decode oX9_person.2.1 71 = .ok (.iconst 1, 1) := by decide +kernel
theorem d_X9_person_72 : decode oX9_person.2.1 72 = .ok (.goto 4, 3) := by decide +kernel
theorem d_X9_person_75 : decode oX9_person.2.1 75 = .ok (.iconst 0, 1) := by decide +kernel
theorem d_X9_person_76 : decode oX9_person.2.1 76 = .ok (.ireturn, 1) := by decide +kernel
theorem d_X9_person_77 : decode oX9_person.2.1 77 = .ok (.aload_n 0, 1) := by decide +kernel
theorem d_X9_person_78 : decode oX9_person.2.1 78 = .ok (.iload_n 1, 1) := by decide +kernel
theorem d_X9_person_79 : decode oX9_person.2.1 79 = .ok (.invokevirtual 242, 3) := by decide +kernel
theorem d_X9_person_82 : decode oX9_person.2.1 82 = .ok (.ireturn, 1) := by decide +kernel
theorem d_X9_person_83 : decode oX9_person.2.1 83 = .ok (.aload_n 0, 1) := by decide +kernel
theorem d_X9_person_84 : decode oX9_person.2.1 84 = .ok (.iload_n 1, 1) := by decide +kernel
theorem d_X9_person_85 : decode oX9_person.2.1 85 = .ok (.invokevirtual 245, 3) := by decide +kernel
theorem d_X9_person_88 : decode oX9_person.2.1 88 = .ok (.ireturn, 1) := by decide +kernel
theorem d_X9_person_89 : decode oX9_person.2.1 89 = .ok (.ldc 123, 2) := by decide +kernel
theorem d_X9_person_91 : decode oX9_person.2.1 91 = .ok (.ireturn, 1) := by decide +kernel
theorem b_X9_person_0 {E : ob_E} {σ : ob_Mem} {Q : Int32 → ob_Mem → Prop} {x1 x2 : Int32} (k : ob_RM shp E oX9_isPerson [.ref 53, .int x1] σ (ob_qI fun v2 σ1 => ((¬ v2 = 0 → (((x2).toInt < 0 ∨ 4 < (x2).toInt → Q (-1000000002 : Int32) σ1) ∧ (x2 = (0 : Int32) → (vp_in x1 6 ∧ Q (σ1.1 60 (x1).toNatClampNeg) σ1)) ∧ (x2 = (1 : Int32) → (vp_in x1 6 ∧ Q (σ1.1 61 (x1).toNatClampNeg) σ1)) ∧ (x2 = (2 : Int32) → (vp_in x1 6 ∧ (((σ1.1 62 (x1).toNatClampNeg) = 0 → Q (0 : Int32) σ1) ∧ (¬ (σ1.1 62 (x1).toNatClampNeg) = 0 → Q (1 : Int32) σ1)))) ∧ (x2 = (3 : Int32) → ob_RM shp E oX9_ownedBy [.ref 53, .int x1] σ1 (ob_qI fun v4 σ3 => Q v4 σ3)) ∧ (x2 = (4 : Int32) → ob_RM shp E oX9_usedBy [.ref 53, .int x1] σ1 (ob_qI fun v6 σ5 => Q v6 σ5)))) ∧ (v2 = 0 → Q (-1000000001 : Int32) σ1)))) : ob_RT shp E oX9_person 0 [.ref 53, .int x1, .int x2] [] σ (ob_qI Q) := by
  refine ob_aload_n d_X9_person_0 rfl ?_
  refine ob_iload_n d_X9_person_1 rfl ?_
  refine ob_callV [.int x1] (z := oX9_isPerson) (st := []) d_X9_person_2 lk_X9_237 mv_X9_isPerson rfl sh_53 cl_9 rfl (Nat.le_of_ble_eq_true rfl) rfl k (ob_kI fun v2 σ1 k => ?_)
  refine ob_if_ne (tgt := 11) d_X9_person_5 rfl (fun cc => ?_) (fun cc => ?_)
  · have k := k.1 cc
    refine ob_iload_n d_X9_person_11 rfl ?_
    by_cases hx : (x2).toInt < 0 ∨ 4 < (x2).toInt
    · have k := k.1 hx
      refine ob_tabO (tgt := 89) d_X9_person_12 hx rfl ?_
      refine ob_ldc (v := -1000000002) d_X9_person_89 k_X9_123 ?_
      exact ob_iret d_X9_person_91 rfl ⟨_, rfl, k⟩
    · have k := k.2
      have hx1 : ¬ (x2).toInt < 0 := fun q => hx (Or.inl q)
      have hx2 : ¬ 4 < (x2).toInt := fun q => hx (Or.inr q)
      by_cases hc0 : x2 = (0 : Int32)
      · have k := k.1 hc0
        refine ob_tabI (off := 36) (tgt := 48) d_X9_person_12 hx1 hx2 (by rw [hc0]; rfl) rfl ?_
        refine ob_aload_n d_X9_person_48 rfl ?_
        refine ob_getR d_X9_person_49 fl_X9_32 sh_53 rfl rfl ?_
        refine ob_iload_n d_X9_person_52 rfl ?_
        obtain ⟨hin, k⟩ := k
        refine ob_iald d_X9_person_53 sh_60 hin ?_
        exact ob_iret d_X9_person_54 rfl ⟨_, rfl, k⟩
      by_cases hc1 : x2 = (1 : Int32)
      · have k := k.2.1 hc1
        refine ob_tabI (off := 43) (tgt := 55) d_X9_person_12 hx1 hx2 (by rw [hc1]; rfl) rfl ?_
        refine ob_aload_n d_X9_person_55 rfl ?_
        refine ob_getR d_X9_person_56 fl_X9_35 sh_53 rfl rfl ?_
        refine ob_iload_n d_X9_person_59 rfl ?_
        obtain ⟨hin, k⟩ := k
        refine ob_iald d_X9_person_60 sh_61 hin ?_
        exact ob_iret d_X9_person_61 rfl ⟨_, rfl, k⟩
      by_cases hc2 : x2 = (2 : Int32)
      · have k := k.2.2.1 hc2
        refine ob_tabI (off := 50) (tgt := 62) d_X9_person_12 hx1 hx2 (by rw [hc2]; rfl) rfl ?_
        refine ob_aload_n d_X9_person_62 rfl ?_
        refine ob_getR d_X9_person_63 fl_X9_38 sh_53 rfl rfl ?_
        refine ob_iload_n d_X9_person_66 rfl ?_
        obtain ⟨hin, k⟩ := k
        refine ob_zald d_X9_person_67 sh_62 hin ?_
        refine ob_if_eq (tgt := 75) d_X9_person_68 rfl (fun cc => ?_) (fun cc => ?_)
        · have k := k.1 cc
          refine ob_iconst (v := 0) d_X9_person_75 ci_0 ?_
          exact ob_iret d_X9_person_76 rfl ⟨_, rfl, k⟩
        · have k := k.2 cc
          refine ob_iconst (v := 1) d_X9_person_71 ci_1 ?_
          refine ob_goto (tgt := 76) d_X9_person_72 rfl ?_
          exact ob_iret d_X9_person_76 rfl ⟨_, rfl, k⟩
      by_cases hc3 : x2 = (3 : Int32)
      · have k := k.2.2.2.1 hc3
        refine ob_tabI (off := 65) (tgt := 77) d_X9_person_12 hx1 hx2 (by rw [hc3]; rfl) rfl ?_
        refine ob_aload_n d_X9_person_77 rfl ?_
        refine ob_iload_n d_X9_person_78 rfl ?_
        refine ob_callV [.int x1] (z := oX9_ownedBy) (st := []) d_X9_person_79 lk_X9_242 mv_X9_ownedBy rfl sh_53 cl_9 rfl (Nat.le_of_ble_eq_true rfl) rfl k (ob_kI fun v4 σ3 k => ?_)
        exact ob_iret d_X9_person_82 rfl ⟨_, rfl, k⟩
      by_cases hc4 : x2 = (4 : Int32)
      · have k := k.2.2.2.2 hc4
        refine ob_tabI (off := 71) (tgt := 83) d_X9_person_12 hx1 hx2 (by rw [hc4]; rfl) rfl ?_
        refine ob_aload_n d_X9_person_83 rfl ?_
        refine ob_iload_n d_X9_person_84 rfl ?_
        refine ob_callV [.int x1] (z := oX9_usedBy) (st := []) d_X9_person_85 lk_X9_245 mv_X9_usedBy rfl sh_53 cl_9 rfl (Nat.le_of_ble_eq_true rfl) rfl k (ob_kI fun v6 σ5 k => ?_)
        exact ob_iret d_X9_person_88 rfl ⟨_, rfl, k⟩
      exfalso
      rcases (show (x2).toInt = 0 ∨ (x2).toInt = 1 ∨ (x2).toInt = 2 ∨ (x2).toInt = 3 ∨ (x2).toInt = 4 by omega) with q | q | q | q | q
      · exact hc0 (Int32.toInt_inj.mp (q.trans (by decide)))
      · exact hc1 (Int32.toInt_inj.mp (q.trans (by decide)))
      · exact hc2 (Int32.toInt_inj.mp (q.trans (by decide)))
      · exact hc3 (Int32.toInt_inj.mp (q.trans (by decide)))
      · exact hc4 (Int32.toInt_inj.mp (q.trans (by decide)))
  · have k := k.2 cc
    refine ob_ldc (v := -1000000001) d_X9_person_8 k_X9_241 ?_
    exact ob_iret d_X9_person_10 rfl ⟨_, rfl, k⟩
theorem d_X9_birthday_0 : decode oX9_birthday.2.1 0 = .ok (.aload_n 0, 1) := by decide +kernel
theorem d_X9_birthday_1 : decode oX9_birthday.2.1 1 = .ok (.iload_n 1, 1) := by decide +kernel
theorem d_X9_birthday_2 : decode oX9_birthday.2.1 2 = .ok (.invokevirtual 251, 3) := by decide +kernel
theorem d_X9_birthday_5 : decode oX9_birthday.2.1 5 = .ok (.ifCond .ne 6, 3) := by decide +kernel
theorem d_X9_birthday_8 : decode oX9_birthday.2.1 8 = .ok (.ldc 241, 2) := by decide +kernel
theorem d_X9_birthday_10 : decode oX9_birthday.2.1 10 = .ok (.ireturn, 1) := by decide +kernel
theorem d_X9_birthday_11 : decode oX9_birthday.2.1 11 = .ok (.iload_n 2, 1) := by decide +kernel
theorem d_X9_birthday_12 : decode oX9_birthday.2.1 12 = .ok (.tableswitch 101 0 7 #[48, 55, 62, 69, 76, 83, 89, 95], 48) := by decide +kernel
theorem d_X9_birthday_60 : decode oX9_birthday.2.1 60 = .ok (.aload_n 0, 1) := by decide +kernel
theorem d_X9_birthday_61 : decode oX9_birthday.2.1 61 = .ok (.getfield 20, 3) := by decide +kernel
theorem d_X9_birthday_64 : decode oX9_birthday.2.1 64 = .ok (.iload_n 1, 1) := by decide +kernel
theorem d_X9_birthday_65 : decode oX9_birthday.2.1 65 = .ok (.iaload, 1) := by decide +kernel
theorem d_X9_birthday_66 : decode oX9_birthday.2.1 66 = .ok (.ireturn, 1) := by decide +kernel
theorem d_X9_birthday_67 : decode oX9_birthday.2.1 67 = .ok (.aload_n 0, 1) := by decide +kernel
theorem d_X9_birthday_68 : decode oX9_birthday.2.1 68 = .ok (.getfield 42, 3) := by decide +kernel
theorem d_X9_birthday_71 : decode oX9_birthday.2.1 71 = .ok (.iload_n 1, 1) := by decide +kernel
theorem d_X9_birthday_72 : decode oX9_birthday.2.1 72 = .ok (.iaload, 1) := by decide +kernel
theorem d_X9_birthday_73 : decode oX9_birthday.2.1 73 = .ok (.ireturn, 1) := by decide +kernel
theorem d_X9_birthday_74 : decode oX9_birthday.2.1 74 = .ok (.aload_n 0, 1) := by decide +kernel
theorem d_X9_birthday_75 : decode oX9_birthday.2.1 75 = .ok (.getfield 26, 3) := by decide +kernel
theorem d_X9_birthday_78 : decode oX9_birthday.2.1 78 = .ok (.iload_n 1, 1) := by decide +kernel
theorem d_X9_birthday_79 : decode oX9_birthday.2.1 79 = .ok (.iaload, 1) := by decide +kernel
theorem d_X9_birthday_80 : decode oX9_birthday.2.1 80 = .ok (.ireturn, 1) := by decide +kernel
theorem d_X9_birthday_81 : decode oX9_birthday.2.1 81 = .ok (.aload_n 0, 1) := by decide +kernel
theorem d_X9_birthday_82 : decode oX9_birthday.2.1 82 = .ok (.getfield 45, 3) := by decide +kernel
theorem d_X9_birthday_85 : decode oX9_birthday.2.1 85 = .ok (.iload_n 1, 1) := by decide +kernel
theorem d_X9_birthday_86 : decode oX9_birthday.2.1 86 = .ok (.iaload, 1) := by decide +kernel
theorem d_X9_birthday_87 : decode oX9_birthday.2.1 87 = .ok (.ireturn, 1) := by decide +kernel
theorem d_X9_birthday_88 : decode oX9_birthday.2.1 88 = .ok (.aload_n 0, 1) := by decide +kernel
theorem d_X9_birthday_89 : decode oX9_birthday.2.1 89 = .ok (.getfield 48, 3) := by decide +kernel
theorem d_X9_birthday_92 : decode oX9_birthday.2.1 92 = .ok (.iload_n 1, 1) := by decide +kernel
theorem d_X9_birthday_93 : decode oX9_birthday.2.1 93 = .ok (.iaload, 1) := by decide +kernel
theorem d_X9_birthday_94 : decode oX9_birthday.2.1 94 = .ok (.ireturn, 1) := by decide +kernel
theorem d_X9_birthday_95 : decode oX9_birthday.2.1 95 = .ok (.aload_n 0, 1) := by decide +kernel
theorem d_X9_birthday_96 : decode oX9_birthday.2.1 96 = .ok (.iload_n 1, 1) := by decide +kernel
theorem d_X9_birthday_97 : decode oX9_birthday.2.1 97 = .ok (.invokevirtual 233, 3) := by decide +kernel
theorem d_X9_birthday_100 : decode oX9_birthday.2.1 100 = .ok (.ireturn, 1) := by decide +kernel
theorem d_X9_birthday_101 : decode oX9_birthday.2.1 101 = .ok (.aload_n 0, 1) := by decide +kernel
theorem d_X9_birthday_102 : decode oX9_birthday.2.1 102 = .ok (.iload_n 1, 1) := by decide +kernel
theorem d_X9_birthday_103 : decode oX9_birthday.2.1 103 = .ok (.invokevirtual 248, 3) := by decide +kernel
theorem d_X9_birthday_106 : decode oX9_birthday.2.1 106 = .ok (.ireturn, 1) := by decide +kernel
theorem d_X9_birthday_107 : decode oX9_birthday.2.1 107 = .ok (.aload_n 0, 1) := by decide +kernel
theorem d_X9_birthday_108 : decode oX9_birthday.2.1 108 = .ok (.iload_n 1, 1) := by decide +kernel
theorem d_X9_birthday_109 : decode oX9_birthday.2.1 109 = .ok (.invokevirtual 254, 3) := by decide +kernel
theorem d_X9_birthday_112 : decode oX9_birthday.2.1 112 = .ok (.ireturn, 1) := by decide +kernel
theorem d_X9_birthday_113 : decode oX9_birthday.2.1 113 = .ok (.ldc 123, 2) := by decide +kernel
theorem d_X9_birthday_115 : decode oX9_birthday.2.1 115 = .ok (.ireturn, 1) := by decide +kernel
theorem b_X9_birthday_0 {E : ob_E} {σ : ob_Mem} {Q : Int32 → ob_Mem → Prop} {x1 x2 : Int32} (k : ob_RM shp E oX9_isBirthday [.ref 53, .int x1] σ (ob_qI fun v2 σ1 => ((¬ v2 = 0 → (((x2).toInt < 0 ∨ 7 < (x2).toInt → Q (-1000000002 : Int32) σ1) ∧ (x2 = (0 : Int32) → (vp_in x1 8 ∧ Q (σ1.1 56 (x1).toNatClampNeg) σ1)) ∧ (x2 = (1 : Int32) → (vp_in x1 8 ∧ Q (σ1.1 63 (x1).toNatClampNeg) σ1)) ∧ (x2 = (2 : Int32) → (vp_in x1 8 ∧ Q (σ1.1 58 (x1).toNatClampNeg) σ1)) ∧ (x2 = (3 : Int32) → (vp_in x1 8 ∧ Q (σ1.1 64 (x1).toNatClampNeg) σ1)) ∧ (x2 = (4 : Int32) → (vp_in x1 8 ∧ Q (σ1.1 65 (x1).toNatClampNeg) σ1)) ∧ (x2 = (5 : Int32) → ob_RM shp E oX9_userOf [.ref 53, .int x1] σ1 (ob_qI fun v4 σ3 => Q v4 σ3)) ∧ (x2 = (6 : Int32) → ob_RM shp E oX9_tillOf [.ref 53, .int x1] σ1 (ob_qI fun v6 σ5 => Q v6 σ5)) ∧ (x2 = (7 : Int32) → ob_RM shp E oX9_seasonOf [.ref 53, .int x1] σ1 (ob_qI fun v8 σ7 => Q v8 σ7)))) ∧ (v2 = 0 → Q (-1000000001 : Int32) σ1)))) : ob_RT shp E oX9_birthday 0 [.ref 53, .int x1, .int x2] [] σ (ob_qI Q) := by
  refine ob_aload_n d_X9_birthday_0 rfl ?_
  refine ob_iload_n d_X9_birthday_1 rfl ?_
  refine ob_callV [.int x1] (z := oX9_isBirthday) (st := []) d_X9_birthday_2 lk_X9_251 mv_X9_isBirthday rfl sh_53 cl_9 rfl (Nat.le_of_ble_eq_true rfl) rfl k (ob_kI fun v2 σ1 k => ?_)
  refine ob_if_ne (tgt := 11) d_X9_birthday_5 rfl (fun cc => ?_) (fun cc => ?_)
  · have k := k.1 cc
    refine ob_iload_n d_X9_birthday_11 rfl ?_
    by_cases hx : (x2).toInt < 0 ∨ 7 < (x2).toInt
    · have k := k.1 hx
      refine ob_tabO (tgt := 113) d_X9_birthday_12 hx rfl ?_
      refine ob_ldc (v := -1000000002) d_X9_birthday_113 k_X9_123 ?_
      exact ob_iret d_X9_birthday_115 rfl ⟨_, rfl, k⟩
    · have k := k.2
      have hx1 : ¬ (x2).toInt < 0 := fun q => hx (Or.inl q)
      have hx2 : ¬ 7 < (x2).toInt := fun q => hx (Or.inr q)
      by_cases hc0 : x2 = (0 : Int32)
      · have k := k.1 hc0
        refine ob_tabI (off := 48) (tgt := 60) d_X9_birthday_12 hx1 hx2 (by rw [hc0]; rfl) rfl ?_
        refine ob_aload_n d_X9_birthday_60 rfl ?_
        refine ob_getR d_X9_birthday_61 fl_X9_20 sh_53 rfl rfl ?_
        refine ob_iload_n d_X9_birthday_64 rfl ?_
        obtain ⟨hin, k⟩ := k
        refine ob_iald d_X9_birthday_65 sh_56 hin ?_
        exact ob_iret d_X9_birthday_66 rfl ⟨_, rfl, k⟩
      by_cases hc1 : x2 = (1 : Int32)
      · have k := k.2.1 hc1
        refine ob_tabI (off := 55) (tgt := 67) d_X9_birthday_12 hx1 hx2 (by rw [hc1]; rfl) rfl ?_
        refine ob_aload_n d_X9_birthday_67 rfl ?_
        refine ob_getR d_X9_birthday_68 fl_X9_42 sh_53 rfl rfl ?_
        refine ob_iload_n d_X9_birthday_71 rfl ?_
        obtain ⟨hin, k⟩ := k
        refine ob_iald d_X9_birthday_72 sh_63 hin ?_
        exact ob_iret d_X9_birthday_73 rfl ⟨_, rfl, k⟩
      by_cases hc2 : x2 = (2 : Int32)
      · have k := k.2.2.1 hc2
        refine ob_tabI (off := 62) (tgt := 74) d_X9_birthday_12 hx1 hx2 (by rw [hc2]; rfl) rfl ?_
        refine ob_aload_n d_X9_birthday_74 rfl ?_
        refine ob_getR d_X9_birthday_75 fl_X9_26 sh_53 rfl rfl ?_
        refine ob_iload_n d_X9_birthday_78 rfl ?_
        obtain ⟨hin, k⟩ := k
        refine ob_iald d_X9_birthday_79 sh_58 hin ?_
        exact ob_iret d_X9_birthday_80 rfl ⟨_, rfl, k⟩
      by_cases hc3 : x2 = (3 : Int32)
      · have k := k.2.2.2.1 hc3
        refine ob_tabI (off := 69) (tgt := 81) d_X9_birthday_12 hx1 hx2 (by rw [hc3]; rfl) rfl ?_
        refine ob_aload_n d_X9_birthday_81 rfl ?_
        refine ob_getR d_X9_birthday_82 fl_X9_45 sh_53 rfl rfl ?_
        refine ob_iload_n d_X9_birthday_85 rfl ?_
        obtain ⟨hin, k⟩ := k
        refine ob_iald d_X9_birthday_86 sh_64 hin ?_
        exact ob_iret d_X9_birthday_87 rfl ⟨_, rfl, k⟩
      by_cases hc4 : x2 = (4 : Int32)
      · have k := k.2.2.2.2.1 hc4
        refine ob_tabI (off := 76) (tgt := 88) d_X9_birthday_12 hx1 hx2 (by rw [hc4]; rfl) rfl ?_
        refine ob_aload_n d_X9_birthday_88 rfl ?_
        refine ob_getR d_X9_birthday_89 fl_X9_48 sh_53 rfl rfl ?_
        refine ob_iload_n d_X9_birthday_92 rfl ?_
        obtain ⟨hin, k⟩ := k
        refine ob_iald d_X9_birthday_93 sh_65 hin ?_
        exact ob_iret d_X9_birthday_94 rfl ⟨_, rfl, k⟩
      by_cases hc5 : x2 = (5 : Int32)
      · have k := k.2.2.2.2.2.1 hc5
        refine ob_tabI (off := 83) (tgt := 95) d_X9_birthday_12 hx1 hx2 (by rw [hc5]; rfl) rfl ?_
        refine ob_aload_n d_X9_birthday_95 rfl ?_
        refine ob_iload_n d_X9_birthday_96 rfl ?_
        refine ob_callV [.int x1] (z := oX9_userOf) (st := []) d_X9_birthday_97 lk_X9_233 mv_X9_userOf rfl sh_53 cl_9 rfl (Nat.le_of_ble_eq_true rfl) rfl k (ob_kI fun v4 σ3 k => ?_)
        exact ob_iret d_X9_birthday_100 rfl ⟨_, rfl, k⟩
      by_cases hc6 : x2 = (6 : Int32)
      · have k := k.2.2.2.2.2.2.1 hc6
        refine ob_tabI (off := 89) (tgt := 101) d_X9_birthday_12 hx1 hx2 (by rw [hc6]; rfl) rfl ?_
        refine ob_aload_n d_X9_birthday_101 rfl ?_
        refine ob_iload_n d_X9_birthday_102 rfl ?_
        refine ob_callV [.int x1] (z := oX9_tillOf) (st := []) d_X9_birthday_103 lk_X9_248 mv_X9_tillOf rfl sh_53 cl_9 rfl (Nat.le_of_ble_eq_true rfl) rfl k (ob_kI fun v6 σ5 k => ?_)
        exact ob_iret d_X9_birthday_106 rfl ⟨_, rfl, k⟩
      by_cases hc7 : x2 = (7 : Int32)
      · have k := k.2.2.2.2.2.2.2 hc7
        refine ob_tabI (off := 95) (tgt := 107) d_X9_birthday_12 hx1 hx2 (by rw [hc7]; rfl) rfl ?_
        refine ob_aload_n d_X9_birthday_107 rfl ?_
        refine ob_iload_n d_X9_birthday_108 rfl ?_
        refine ob_callV [.int x1] (z := oX9_seasonOf) (st := []) d_X9_birthday_109 lk_X9_254 mv_X9_seasonOf rfl sh_53 cl_9 rfl (Nat.le_of_ble_eq_true rfl) rfl k (ob_kI fun v8 σ7 k => ?_)
        exact ob_iret d_X9_birthday_112 rfl ⟨_, rfl, k⟩
      exfalso
      rcases (show (x2).toInt = 0 ∨ (x2).toInt = 1 ∨ (x2).toInt = 2 ∨ (x2).toInt = 3 ∨ (x2).toInt = 4 ∨ (x2).toInt = 5 ∨ (x2).toInt = 6 ∨ (x2).toInt = 7 by omega) with q | q | q | q | q | q | q | q
      · exact hc0 (Int32.toInt_inj.mp (q.trans (by decide)))
      · exact hc1 (Int32.toInt_inj.mp (q.trans (by decide)))
      · exact hc2 (Int32.toInt_inj.mp (q.trans (by decide)))
      · exact hc3 (Int32.toInt_inj.mp (q.trans (by decide)))
      · exact hc4 (Int32.toInt_inj.mp (q.trans (by decide)))
      · exact hc5 (Int32.toInt_inj.mp (q.trans (by decide)))
      · exact hc6 (Int32.toInt_inj.mp (q.trans (by decide)))
      · exact hc7 (Int32.toInt_inj.mp (q.trans (by decide)))
  · have k := k.2 cc
    refine ob_ldc (v := -1000000001) d_X9_birthday_8 k_X9_241 ?_
    exact ob_iret d_X9_birthday_10 rfl ⟨_, rfl, k⟩
theorem d_X9_good_0 : decode oX9_good.2.1 0 = .ok (.iload_n 1, 1) := by decide +kernel
theorem d_X9_good_1 : decode oX9_good.2.1 1 = .ok (.i2l, 1) := by decide +kernel
theorem d_X9_good_2 : decode oX9_good.2.1 2 = .ok (.lconst 0, 1) := by decide +kernel
theorem d_X9_good_3 : decode oX9_good.2.1 3 = .ok (.ldc2_w 257, 3) := by decide +kernel
theorem d_X9_good_6 : decode oX9_good.2.1 6 = .ok (.invokestatic 111, 3) := by decide +kernel
theorem d_X9_good_9 : decode oX9_good.2.1 9 = .ok (.ifCond .eq 11, 3) := by decide +kernel
theorem d_X9_good_12 : decode oX9_good.2.1 12 = .ok (.aload_n 0, 1) := by decide +kernel
theorem d_X9_good_13 : decode oX9_good.2.1 13 = .ok (.iload_n 1, 1) := by decide +kernel
theorem d_X9_good_14 : decode oX9_good.2.1 14 = .ok (.invokevirtual 259, 3) := by decide +kernel
theorem d_X9_good_17 : decode oX9_good.2.1 17 = .ok (.goto 5, 3) := by decide +kernel
theorem d_X9_good_20 : decode oX9_good.2.1 20 = .ok (.ldc 123, 2) := by decide +kernel
theorem d_X9_good_22 : decode oX9_good.2.1 22 = .ok (.ireturn, 1) := by decide +kernel
theorem b_X9_good_0 {E : ob_E} {σ : ob_Mem} {Q : Int32 → ob_Mem → Prop} {x1 : Int32} (k : ob_RM shp E oX9_in [.long (x1).toInt64, .long (0 : Int64), .long (999 : Int64)] σ (ob_qI fun v2 σ1 => ((v2 = 0 → Q (-1000000002 : Int32) σ1) ∧ (¬ v2 = 0 → ob_RM shp E oX9_goodOf [.ref 53, .int x1] σ1 (ob_qI fun v4 σ3 => Q v4 σ3))))) : ob_RT shp E oX9_good 0 [.ref 53, .int x1] [] σ (ob_qI Q) := by
  refine ob_iload_n d_X9_good_0 rfl ?_
  refine ob_i2l d_X9_good_1 ?_
  refine ob_lconst (v := 0) d_X9_good_2 rfl ?_
  refine ob_ldc2 (v := 999) d_X9_good_3 k_X9_257 ?_
  refine ob_callS [.long (x1).toInt64, .long (0 : Int64), .long (999 : Int64)] (z := oX9_in) (st := []) d_X9_good_6 lk_X9_111 ms_X9_in rfl (Nat.le_of_ble_eq_true rfl) rfl k (ob_kI fun v2 σ1 k => ?_)
  refine ob_if_eq (tgt := 20) d_X9_good_9 rfl (fun cc => ?_) (fun cc => ?_)
  · have k := k.1 cc
    refine ob_ldc (v := -1000000002) d_X9_good_20 k_X9_123 ?_
    exact ob_iret d_X9_good_22 rfl ⟨_, rfl, k⟩
  · have k := k.2 cc
    refine ob_aload_n d_X9_good_12 rfl ?_
    refine ob_iload_n d_X9_good_13 rfl ?_
    refine ob_callV [.int x1] (z := oX9_goodOf) (st := []) d_X9_good_14 lk_X9_259 mv_X9_goodOf rfl sh_53 cl_9 rfl (Nat.le_of_ble_eq_true rfl) rfl k (ob_kI fun v4 σ3 k => ?_)
    refine ob_goto (tgt := 22) d_X9_good_17 rfl ?_
    exact ob_iret d_X9_good_22 rfl ⟨_, rfl, k⟩
theorem d_X9_day_0 : decode oX9_day.2.1 0 = .ok (.iload_n 1, 1) := by decide +kernel
theorem d_X9_day_1 : decode oX9_day.2.1 1 = .ok (.i2l, 1) := by decide +kernel
theorem d_X9_day_2 : decode oX9_day.2.1 2 = .ok (.lconst 1, 1) := by decide +kernel
theorem d_X9_day_3 : decode oX9_day.2.1 3 = .ok (.ldc2_w 266, 3) := by decide +kernel
theorem d_X9_day_6 : decode oX9_day.2.1 6 = .ok (.invokestatic 111, 3) := by decide +kernel
theorem d_X9_day_9 : decode oX9_day.2.1 9 = .ok (.ifCond .ne 6, 3) := by decide +kernel
theorem d_X9_day_12 : decode oX9_day.2.1 12 = .ok (.ldc 123, 2) := by decide +kernel
theorem d_X9_day_14 : decode oX9_day.2.1 14 = .ok (.ireturn, 1) := by decide +kernel
theorem d_X9_day_15 : decode oX9_day.2.1 15 = .ok (.iconst 0, 1) := by decide +kernel
theorem d_X9_day_16 : decode oX9_day.2.1 16 = .ok (.istore_n 2, 1) := by decide +kernel
theorem d_X9_day_17 : decode oX9_day.2.1 17 = .ok (.iload_n 2, 1) := by decide +kernel
theorem d_X9_day_18 : decode oX9_day.2.1 18 = .ok (.iload_n 1, 1) := by decide +kernel
theorem d_X9_day_19 : decode oX9_day.2.1 19 = .ok (.if_icmp .ge 13, 3) := by decide +kernel
theorem d_X9_day_22 : decode oX9_day.2.1 22 = .ok (.aload_n 0, 1) := by decide +kernel
theorem d_X9_day_23 : decode oX9_day.2.1 23 = .ok (.invokevirtual 268, 3) := by decide +kernel
theorem d_X9_day_26 : decode oX9_day.2.1 26 = .ok (.iinc 2 1, 3) := by decide +kernel
theorem d_X9_day_29 : decode oX9_day.2.1 29 = .ok (.goto (-12), 3) := by decide +kernel
theorem d_X9_day_32 : decode oX9_day.2.1 32 = .ok (.aload_n 0, 1) := by decide +kernel
theorem d_X9_day_33 : decode oX9_day.2.1 33 = .ok (.getfield 118, 3) := by decide +kernel
theorem d_X9_day_36 : decode oX9_day.2.1 36 = .ok (.ireturn, 1) := by decide +kernel
theorem b_X9_day_0 {E : ob_E} {σ : ob_Mem} {Q : Int32 → ob_Mem → Prop} {x1 : Int32} (k : ob_RM shp E oX9_in [.long (x1).toInt64, .long (1 : Int64), .long (9999 : Int64)] σ (ob_qI fun v2 σ1 => ((¬ v2 = 0 → ob_RT shp E oX9_day 17 [.ref 53, .int x1, .int (0 : Int32)] [] σ1 (ob_qI Q)) ∧ (v2 = 0 → Q (-1000000002 : Int32) σ1)))) : ob_RT shp E oX9_day 0 [.ref 53, .int x1, .null] [] σ (ob_qI Q) := by
  refine ob_iload_n d_X9_day_0 rfl ?_
  refine ob_i2l d_X9_day_1 ?_
  refine ob_lconst (v := 1) d_X9_day_2 rfl ?_
  refine ob_ldc2 (v := 9999) d_X9_day_3 k_X9_266 ?_
  refine ob_callS [.long (x1).toInt64, .long (1 : Int64), .long (9999 : Int64)] (z := oX9_in) (st := []) d_X9_day_6 lk_X9_111 ms_X9_in rfl (Nat.le_of_ble_eq_true rfl) rfl k (ob_kI fun v2 σ1 k => ?_)
  refine ob_if_ne (tgt := 15) d_X9_day_9 rfl (fun cc => ?_) (fun cc => ?_)
  · have k := k.1 cc
    refine ob_iconst (v := 0) d_X9_day_15 ci_0 ?_
    refine ob_istore_n (ls' := [.ref 53, .int x1, .int (0 : Int32)]) d_X9_day_16 (Nat.le_of_ble_eq_true rfl) rfl ?_
    exact k
  · have k := k.2 cc
    refine ob_ldc (v := -1000000002) d_X9_day_12 k_X9_123 ?_
    exact ob_iret d_X9_day_14 rfl ⟨_, rfl, k⟩
theorem b_X9_day_17 {E : ob_E} {σ : ob_Mem} {Q : Int32 → ob_Mem → Prop} {x1 x2 : Int32} (k : ((x1 ≤ x2 → Q (σ.1 53 9) σ) ∧ (¬ x1 ≤ x2 → ob_RM shp E oX9_dayNow [.ref 53] σ (ob_qV fun σ1 => ob_RT shp E oX9_day 17 [.ref 53, .int x1, .int (x2 + (1 : Int32))] [] σ1 (ob_qI Q))))) : ob_RT shp E oX9_day 17 [.ref 53, .int x1, .int x2] [] σ (ob_qI Q) := by
  refine ob_iload_n d_X9_day_17 rfl ?_
  refine ob_iload_n d_X9_day_18 rfl ?_
  refine ob_icmp_ge (tgt := 32) d_X9_day_19 rfl (fun cc => ?_) (fun cc => ?_)
  · have k := k.1 cc
    refine ob_aload_n d_X9_day_32 rfl ?_
    refine ob_getI d_X9_day_33 fl_X9_118 sh_53 rfl (by decide) ?_
    exact ob_iret d_X9_day_36 rfl ⟨_, rfl, k⟩
  · have k := k.2 cc
    refine ob_aload_n d_X9_day_22 rfl ?_
    refine ob_callV [] (z := oX9_dayNow) (st := []) d_X9_day_23 lk_X9_268 mv_X9_dayNow rfl sh_53 cl_9 rfl (Nat.le_of_ble_eq_true rfl) rfl k (ob_kV fun σ1 k => ?_)
    refine ob_iinc (ls' := [.ref 53, .int x1, .int (x2 + (1 : Int32))]) (v := 1) d_X9_day_26 rfl ci_1 (Nat.le_of_ble_eq_true rfl) rfl ?_
    refine ob_goto (tgt := 17) d_X9_day_29 rfl ?_
    exact k
theorem d_X9_sell_0 : decode oX9_sell.2.1 0 = .ok (.aload_n 0, 1) := by decide +kernel
theorem d_X9_sell_1 : decode oX9_sell.2.1 1 = .ok (.iload_n 1, 1) := by decide +kernel
theorem d_X9_sell_2 : decode oX9_sell.2.1 2 = .ok (.invokevirtual 251, 3) := by decide +kernel
theorem d_X9_sell_5 : decode oX9_sell.2.1 5 = .ok (.ifCond .eq 11, 3) := by decide +kernel
theorem d_X9_sell_8 : decode oX9_sell.2.1 8 = .ok (.aload_n 0, 1) := by decide +kernel
theorem d_X9_sell_9 : decode oX9_sell.2.1 9 = .ok (.iload_n 2, 1) := by decide +kernel
theorem d_X9_sell_10 : decode oX9_sell.2.1 10 = .ok (.invokevirtual 237, 3) := by decide +kernel
theorem d_X9_sell_13 : decode oX9_sell.2.1 13 = .ok (.ifCond .ne 6, 3) := by decide +kernel
theorem d_X9_sell_16 : decode oX9_sell.2.1 16 = .ok (.ldc 241, 2) := by decide +kernel
theorem d_X9_sell_18 : decode oX9_sell.2.1 18 = .ok (.ireturn, 1) := by decide +kernel
theorem d_X9_sell_19 : decode oX9_sell.2.1 19 = .ok (.iload_n 3, 1) := by decide +kernel
theorem d_X9_sell_20 : decode oX9_sell.2.1 20 = .ok (.i2l, 1) := by decide +kernel
theorem d_X9_sell_21 : decode oX9_sell.2.1 21 = .ok (.lconst 0, 1) := by decide +kernel
theorem d_X9_sell_22 : decode oX9_sell.2.1 22 = .ok (.ldc2_w 257, 3) := by decide +kernel
theorem d_X9_sell_25 : decode oX9_sell.2.1 25 = .ok (.invokestatic 111, 3) := by decide +kernel
theorem d_X9_sell_28 : decode oX9_sell.2.1 28 = .ok (.ifCond .ne 6, 3) := by decide +kernel
theorem d_X9_sell_31 : decode oX9_sell.2.1 31 = .ok (.ldc 123, 2) := by decide +kernel
theorem d_X9_sell_33 : decode oX9_sell.2.1 33 = .ok (.ireturn, 1) := by decide +kernel
theorem d_X9_sell_34 : decode oX9_sell.2.1 34 = .ok (.aload_n 0, 1) := by decide +kernel
theorem d_X9_sell_35 : decode oX9_sell.2.1 35 = .ok (.iload_n 1, 1) := by decide +kernel
theorem d_X9_sell_36 : decode oX9_sell.2.1 36 = .ok (.iload_n 2, 1) := by decide +kernel
theorem d_X9_sell_37 : decode oX9_sell.2.1 37 = .ok (.iload_n 3, 1) := by decide +kernel
theorem d_X9_sell_38 : decode oX9_sell.2.1 38 = .ok (.invokevirtual 271, 3) := by decide +kernel
theorem d_X9_sell_41 : decode oX9_sell.2.1 41 = .ok (.ifCond .ne 7, 3) := by decide +kernel
theorem d_X9_sell_44 : decode oX9_sell.2.1 44 = .ok (.ldc_w 275, 3) := by decide +kernel
theorem d_X9_sell_47 : decode oX9_sell.2.1 47 = .ok (.ireturn, 1) := by decide +kernel
theorem d_X9_sell_48 : decode oX9_sell.2.1 48 = .ok (.aload_n 0, 1) := by decide +kernel
theorem d_X9_sell_49 : decode oX9_sell.2.1 49 = .ok (.iload_n 1, 1) := by decide +kernel
theorem d_X9_sell_50 : decode oX9_sell.2.1 50 = .ok (.iload_n 2, 1) := by decide +kernel
theorem d_X9_sell_51 : decode oX9_sell.2.1 51 = .ok (.iload_n 3, 1) := by decide +kernel
theorem d_X9_sell_52 : decode oX9_sell.2.1 52 = .ok (.invokevirtual 276, 3) := by decide +kernel
theorem d_X9_sell_55 : decode oX9_sell.2.1 55 = .ok (.aload_n 0, 1) := by decide +kernel
theorem d_X9_sell_56 : decode oX9_sell.2.1 56 = .ok (.getfield 42, 3) := by decide +kernel
theorem d_X9_sell_59 : decode oX9_sell.2.1 59 = .ok (.iload_n 1, 1) := by decide +kernel
theorem d_X9_sell_60 : decode oX9_sell.2.1 60 = .ok (.iload_n 2, 1) := by decide +kernel
theorem d_X9_sell_61 : decode oX9_sell.2.1 61 = .ok (.iastore, 1) := by decide +kernel
theorem d_X9_sell_62 : decode oX9_sell.2.1 62 = .ok (.aload_n 0, 1) := by decide +kernel
theorem d_X9_sell_63 : decode oX9_sell.2.1 63 = .ok (.getfield 35, 3) := by decide +kernel
theorem d_X9_sell_66 : decode oX9_sell.2.1 66 = .ok (.iload_n 2, 1) := by decide +kernel
theorem d_X9_sell_67 : decode oX9_sell.2.1 67 = .ok (.iaload, 1) := by decide +kernel
theorem d_X9_sell_68 : decode oX9_sell.2.1 68 = .ok (.ireturn, 1) := by decide +kernel
theorem b_X9_sell_0 {E : ob_E} {σ : ob_Mem} {Q : Int32 → ob_Mem → Prop} {x1 x2 x3 : Int32} (k : ob_RM shp E oX9_isBirthday [.ref 53, .int x1] σ (ob_qI fun v2 σ1 => ((v2 = 0 → Q (-1000000001 : Int32) σ1) ∧ (¬ v2 = 0 → ob_RM shp E oX9_isPerson [.ref 53, .int x2] σ1 (ob_qI fun v4 σ3 => ((¬ v4 = 0 → ob_RM shp E oX9_in [.long (x3).toInt64, .long (0 : Int64), .long (999 : Int64)] σ3 (ob_qI fun v6 σ5 => ((¬ v6 = 0 → ob_RM shp E oX9_mayDeal [.ref 53, .int x1, .int x2, .int x3] σ5 (ob_qI fun v8 σ7 => ((¬ v8 = 0 → ob_RM shp E oX9_pay [.ref 53, .int x1, .int x2, .int x3] σ7 (ob_qV fun σ9 => (vp_in x1 8 ∧ (vp_in x2 6 ∧ Q ((ob_wI σ9 63 (x1).toNatClampNeg x2).1 61 (x2).toNatClampNeg) (ob_wI σ9 63 (x1).toNatClampNeg x2))))) ∧ (v8 = 0 → Q (-1000000003 : Int32) σ7)))) ∧ (v6 = 0 → Q (-1000000002 : Int32) σ5)))) ∧ (v4 = 0 → Q (-1000000001 : Int32) σ3))))))) : ob_RT shp E oX9_sell 0 [.ref 53, .int x1, .int x2, .int x3] [] σ (ob_qI Q) := by
  refine ob_aload_n d_X9_sell_0 rfl ?_
  refine ob_iload_n d_X9_sell_1 rfl ?_
  refine ob_callV [.int x1] (z := oX9_isBirthday) (st := []) d_X9_sell_2 lk_X9_251 mv_X9_isBirthday rfl sh_53 cl_9 rfl (Nat.le_of_ble_eq_true rfl) rfl k (ob_kI fun v2 σ1 k => ?_)
  refine ob_if_eq (tgt := 16) d_X9_sell_5 rfl (fun cc => ?_) (fun cc => ?_)
  · have k := k.1 cc
    refine ob_ldc (v := -1000000001) d_X9_sell_16 k_X9_241 ?_
    exact ob_iret d_X9_sell_18 rfl ⟨_, rfl, k⟩
  · have k := k.2 cc
    refine ob_aload_n d_X9_sell_8 rfl ?_
    refine ob_iload_n d_X9_sell_9 rfl ?_
    refine ob_callV [.int x2] (z := oX9_isPerson) (st := []) d_X9_sell_10 lk_X9_237 mv_X9_isPerson rfl sh_53 cl_9 rfl (Nat.le_of_ble_eq_true rfl) rfl k (ob_kI fun v4 σ3 k => ?_)
    refine ob_if_ne (tgt := 19) d_X9_sell_13 rfl (fun cc => ?_) (fun cc => ?_)
    · have k := k.1 cc
      refine ob_iload_n d_X9_sell_19 rfl ?_
      refine ob_i2l d_X9_sell_20 ?_
      refine ob_lconst (v := 0) d_X9_sell_21 rfl ?_
      refine ob_ldc2 (v := 999) d_X9_sell_22 k_X9_257 ?_
      refine ob_callS [.long (x3).toInt64, .long (0 : Int64), .long (999 : Int64)] (z := oX9_in) (st := []) d_X9_sell_25 lk_X9_111 ms_X9_in rfl (Nat.le_of_ble_eq_true rfl) rfl k (ob_kI fun v6 σ5 k => ?_)
      refine ob_if_ne (tgt := 34) d_X9_sell_28 rfl (fun cc => ?_) (fun cc => ?_)
      · have k := k.1 cc
        refine ob_aload_n d_X9_sell_34 rfl ?_
        refine ob_iload_n d_X9_sell_35 rfl ?_
        refine ob_iload_n d_X9_sell_36 rfl ?_
        refine ob_iload_n d_X9_sell_37 rfl ?_
        refine ob_callV [.int x1, .int x2, .int x3] (z := oX9_mayDeal) (st := []) d_X9_sell_38 lk_X9_271 mv_X9_mayDeal rfl sh_53 cl_9 rfl (Nat.le_of_ble_eq_true rfl) rfl k (ob_kI fun v8 σ7 k => ?_)
        refine ob_if_ne (tgt := 48) d_X9_sell_41 rfl (fun cc => ?_) (fun cc => ?_)
        · have k := k.1 cc
          refine ob_aload_n d_X9_sell_48 rfl ?_
          refine ob_iload_n d_X9_sell_49 rfl ?_
          refine ob_iload_n d_X9_sell_50 rfl ?_
          refine ob_iload_n d_X9_sell_51 rfl ?_
          refine ob_callV [.int x1, .int x2, .int x3] (z := oX9_pay) (st := []) d_X9_sell_52 lk_X9_276 mv_X9_pay rfl sh_53 cl_9 rfl (Nat.le_of_ble_eq_true rfl) rfl k (ob_kV fun σ9 k => ?_)
          refine ob_aload_n d_X9_sell_55 rfl ?_
          refine ob_getR d_X9_sell_56 fl_X9_42 sh_53 rfl rfl ?_
          refine ob_iload_n d_X9_sell_59 rfl ?_
          refine ob_iload_n d_X9_sell_60 rfl ?_
          obtain ⟨hin, k⟩ := k
          refine ob_iast d_X9_sell_61 sh_63 hin ?_
          refine ob_aload_n d_X9_sell_62 rfl ?_
          refine ob_getR d_X9_sell_63 fl_X9_35 sh_53 rfl rfl ?_
          refine ob_iload_n d_X9_sell_66 rfl ?_
          obtain ⟨hin, k⟩ := k
          refine ob_iald d_X9_sell_67 sh_61 hin ?_
          exact ob_iret d_X9_sell_68 rfl ⟨_, rfl, k⟩
        · have k := k.2 cc
          refine ob_ldcw (v := -1000000003) d_X9_sell_44 k_X9_275 ?_
          exact ob_iret d_X9_sell_47 rfl ⟨_, rfl, k⟩
      · have k := k.2 cc
        refine ob_ldc (v := -1000000002) d_X9_sell_31 k_X9_123 ?_
        exact ob_iret d_X9_sell_33 rfl ⟨_, rfl, k⟩
    · have k := k.2 cc
      refine ob_ldc (v := -1000000001) d_X9_sell_16 k_X9_241 ?_
      exact ob_iret d_X9_sell_18 rfl ⟨_, rfl, k⟩
theorem d_X9_lend_0 : decode oX9_lend.2.1 0 = .ok (.aload_n 0, 1) := by decide +kernel
theorem d_X9_lend_1 : decode oX9_lend.2.1 1 = .ok (.iload_n 1, 1) := by decide +kernel
theorem d_X9_lend_2 : decode oX9_lend.2.1 2 = .ok (.invokevirtual 251, 3) := by decide +kernel
theorem d_X9_lend_5 : decode oX9_lend.2.1 5 = .ok (.ifCond .eq 11, 3) := by decide +kernel
theorem d_X9_lend_8 : decode oX9_lend.2.1 8 = .ok (.aload_n 0, 1) := by decide +kernel
theorem d_X9_lend_9 : decode oX9_lend.2.1 9 = .ok (.iload_n 2, 1) := by decide +kernel
theorem d_X9_lend_10 : decode oX9_lend.2.1 10 = .ok (.invokevirtual 237, 3) := by decide +kernel
theorem d_X9_lend_13 : decode oX9_lend.2.1 13 = .ok (.ifCond .ne 6, 3) := by decide +kernel
theorem d_X9_lend_16 : decode oX9_lend.2.1 16 = .ok (.ldc 241, 2) := by decide +kernel
theorem d_X9_lend_18 : decode oX9_lend.2.1 18 = .ok (.ireturn, 1) := by decide +kernel
theorem d_X9_lend_19 : decode oX9_lend.2.1 19 = .ok (.iload_n 3, 1) := by decide +kernel
theorem d_X9_lend_20 : decode oX9_lend.2.1 20 = .ok (.i2l, 1) := by decide +kernel
theorem d_X9_lend_21 : decode oX9_lend.2.1 21 = .ok (.lconst 1, 1) := by decide +kernel
theorem d_X9_lend_22 : decode oX9_lend.2.1 22 = .ok (.ldc2_w 266, 3) := by decide +kernel
theorem d_X9_lend_25 : decode oX9_lend.2.1 25 = .ok (.invokestatic 111, 3) := by decide +kernel
theorem d_X9_lend_28 : decode oX9_lend.2.1 28 = .ok (.ifCond .eq 16, 3) := by decide +kernel
theorem d_X9_lend_31 : decode oX9_lend.2.1 31 = .ok (.iload 4, 2) := by decide +kernel
theorem d_X9_lend_33 : decode oX9_lend.2.1 33 = .ok (.i2l, 1) := by decide +kernel
theorem d_X9_lend_34 : decode oX9_lend.2.1 34 = .ok (.lconst 0, 1) := by decide +kernel
theorem d_X9_lend_35 : decode oX9_lend.2.1 35 = .ok (.ldc2_w 257, 3) := by decide +kernel
theorem d_X9_lend_38 : decode oX9_lend.2.1 38 = .ok (.invokestatic 111, 3) := by decide +kernel
theorem d_X9_lend_41 : decode oX9_lend.2.1 41 = .ok (.ifCond .ne 6, 3) := by decide +kernel
theorem d_X9_lend_44 : decode oX9_lend.2.1 44 = .ok (.ldc 123, 2) := by decide +kernel
theorem d_X9_lend_46 : decode oX9_lend.2.1 46 = .ok (.ireturn, 1) := by decide +kernel
theorem d_X9_lend_47 : decode oX9_lend.2.1 47 = .ok (.aload_n 0, 1) := by decide +kernel
theorem d_X9_lend_48 : decode oX9_lend.2.1 48 = .ok (.iload_n 1, 1) := by decide +kernel
theorem d_X9_lend_49 : decode oX9_lend.2.1 49 = .ok (.iload_n 2, 1) := by decide +kernel
theorem d_X9_lend_50 : decode oX9_lend.2.1 50 = .ok (.iload 4, 2) := by decide +kernel
theorem d_X9_lend_52 : decode oX9_lend.2.1 52 = .ok (.invokevirtual 271, 3) := by decide +kernel
theorem d_X9_lend_55 : decode oX9_lend.2.1 55 = .ok (.ifCond .ne 7, 3) := by decide +kernel
theorem d_X9_lend_58 : decode oX9_lend.2.1 58 = .ok (.ldc_w 275, 3) := by decide +kernel
theorem d_X9_lend_61 : decode oX9_lend.2.1 61 = .ok (.ireturn, 1) := by decide +kernel
theorem d_X9_lend_62 : decode oX9_lend.2.1 62 = .ok (.aload_n 0, 1) := by decide +kernel
theorem d_X9_lend_63 : decode oX9_lend.2.1 63 = .ok (.iload_n 1, 1) := by decide +kernel
theorem d_X9_lend_64 : decode oX9_lend.2.1 64 = .ok (.iload_n 2, 1) := by decide +kernel
theorem d_X9_lend_65 : decode oX9_lend.2.1 65 = .ok (.iload 4, 2) := by decide +kernel
theorem d_X9_lend_67 : decode oX9_lend.2.1 67 = .ok (.invokevirtual 276, 3) := by decide +kernel
theorem d_X9_lend_70 : decode oX9_lend.2.1 70 = .ok (.aload_n 0, 1) := by decide +kernel
theorem d_X9_lend_71 : decode oX9_lend.2.1 71 = .ok (.getfield 45, 3) := by decide +kernel
theorem d_X9_lend_74 : decode oX9_lend.2.1 74 = .ok (.iload_n 1, 1) := by decide +kernel
theorem d_X9_lend_75 : decode oX9_lend.2.1 75 = .ok (.iload_n 2, 1) := by decide +kernel
theorem d_X9_lend_76 : decode oX9_lend.2.1 76 = .ok (.iastore, 1) := by decide +kernel
theorem d_X9_lend_77 : decode oX9_lend.2.1 77 = .ok (.aload_n 0, 1) := by decide +kernel
theorem d_X9_lend_78 : decode oX9_lend.2.1 78 = .ok (.getfield 48, 3) := by decide +kernel
theorem d_X9_lend_81 : decode oX9_lend.2.1 81 = .ok (.iload_n 1, 1) := by decide +kernel
theorem d_X9_lend_82 : decode oX9_lend.2.1 82 = .ok (.aload_n 0, 1) := by decide +kernel
theorem d_X9_lend_83 : decode oX9_lend.2.1 83 = .ok (.getfield 118, 3) := by decide +kernel
theorem d_X9_lend_86 : decode oX9_lend.2.1 86 = .ok (.iload_n 3, 1) := by decide +kernel
theorem d_X9_lend_87 : decode oX9_lend.2.1 87 = .ok (.iadd, 1) := by decide +kernel
theorem d_X9_lend_88 : decode oX9_lend.2.1 88 = .ok (.iastore, 1) := by decide +kernel
theorem d_X9_lend_89 : decode oX9_lend.2.1 89 = .ok (.aload_n 0, 1) := by decide +kernel
theorem d_X9_lend_90 : decode oX9_lend.2.1 90 = .ok (.getfield 35, 3) := by decide +kernel
theorem d_X9_lend_93 : decode oX9_lend.2.1 93 = .ok (.iload_n 2, 1) := by decide +kernel
theorem d_X9_lend_94 : decode oX9_lend.2.1 94 = .ok (.iaload, 1) := by decide +kernel
theorem d_X9_lend_95 : decode oX9_lend.2.1 95 = .ok (.ireturn, 1) := by decide +kernel
theorem b_X9_lend_0 {E : ob_E} {σ : ob_Mem} {Q : Int32 → ob_Mem → Prop} {x1 x2 x3 x4 : Int32} (k : ob_RM shp E oX9_isBirthday [.ref 53, .int x1] σ (ob_qI fun v2 σ1 => ((v2 = 0 → Q (-1000000001 : Int32) σ1) ∧ (¬ v2 = 0 → ob_RM shp E oX9_isPerson [.ref 53, .int x2] σ1 (ob_qI fun v4 σ3 => ((¬ v4 = 0 → ob_RM shp E oX9_in [.long (x3).toInt64, .long (1 : Int64), .long (9999 : Int64)] σ3 (ob_qI fun v6 σ5 => ((v6 = 0 → Q (-1000000002 : Int32) σ5) ∧ (¬ v6 = 0 → ob_RM shp E oX9_in [.long (x4).toInt64, .long (0 : Int64), .long (999 : Int64)] σ5 (ob_qI fun v8 σ7 => ((¬ v8 = 0 → ob_RM shp E oX9_mayDeal [.ref 53, .int x1, .int x2, .int x4] σ7 (ob_qI fun v10 σ9 => ((¬ v10 = 0 → ob_RM shp E oX9_pay [.ref 53, .int x1, .int x2, .int x4] σ9 (ob_qV fun σ11 => (vp_in x1 8 ∧ (vp_in x1 8 ∧ (∀ σ12, σ12 = (ob_wI (ob_wI σ11 64 (x1).toNatClampNeg x2) 65 (x1).toNatClampNeg (((ob_wI σ11 64 (x1).toNatClampNeg x2).1 53 9) + x3)) → (vp_in x2 6 ∧ Q (σ12.1 61 (x2).toNatClampNeg) σ12)))))) ∧ (v10 = 0 → Q (-1000000003 : Int32) σ9)))) ∧ (v8 = 0 → Q (-1000000002 : Int32) σ7))))))) ∧ (v4 = 0 → Q (-1000000001 : Int32) σ3))))))) : ob_RT shp E oX9_lend 0 [.ref 53, .int x1, .int x2, .int x3, .int x4] [] σ (ob_qI Q) := by
  refine ob_aload_n d_X9_lend_0 rfl ?_
  refine ob_iload_n d_X9_lend_1 rfl ?_
  refine ob_callV [.int x1] (z := oX9_isBirthday) (st := []) d_X9_lend_2 lk_X9_251 mv_X9_isBirthday rfl sh_53 cl_9 rfl (Nat.le_of_ble_eq_true rfl) rfl k (ob_kI fun v2 σ1 k => ?_)
  refine ob_if_eq (tgt := 16) d_X9_lend_5 rfl (fun cc => ?_) (fun cc => ?_)
  · have k := k.1 cc
    refine ob_ldc (v := -1000000001) d_X9_lend_16 k_X9_241 ?_
    exact ob_iret d_X9_lend_18 rfl ⟨_, rfl, k⟩
  · have k := k.2 cc
    refine ob_aload_n d_X9_lend_8 rfl ?_
    refine ob_iload_n d_X9_lend_9 rfl ?_
    refine ob_callV [.int x2] (z := oX9_isPerson) (st := []) d_X9_lend_10 lk_X9_237 mv_X9_isPerson rfl sh_53 cl_9 rfl (Nat.le_of_ble_eq_true rfl) rfl k (ob_kI fun v4 σ3 k => ?_)
    refine ob_if_ne (tgt := 19) d_X9_lend_13 rfl (fun cc => ?_) (fun cc => ?_)
    · have k := k.1 cc
      refine ob_iload_n d_X9_lend_19 rfl ?_
      refine ob_i2l d_X9_lend_20 ?_
      refine ob_lconst (v := 1) d_X9_lend_21 rfl ?_
      refine ob_ldc2 (v := 9999) d_X9_lend_22 k_X9_266 ?_
      refine ob_callS [.long (x3).toInt64, .long (1 : Int64), .long (9999 : Int64)] (z := oX9_in) (st := []) d_X9_lend_25 lk_X9_111 ms_X9_in rfl (Nat.le_of_ble_eq_true rfl) rfl k (ob_kI fun v6 σ5 k => ?_)
      refine ob_if_eq (tgt := 44) d_X9_lend_28 rfl (fun cc => ?_) (fun cc => ?_)
      · have k := k.1 cc
        refine ob_ldc (v := -1000000002) d_X9_lend_44 k_X9_123 ?_
        exact ob_iret d_X9_lend_46 rfl ⟨_, rfl, k⟩
      · have k := k.2 cc
        refine ob_iload d_X9_lend_31 rfl ?_
        refine ob_i2l d_X9_lend_33 ?_
        refine ob_lconst (v := 0) d_X9_lend_34 rfl ?_
        refine ob_ldc2 (v := 999) d_X9_lend_35 k_X9_257 ?_
        refine ob_callS [.long (x4).toInt64, .long (0 : Int64), .long (999 : Int64)] (z := oX9_in) (st := []) d_X9_lend_38 lk_X9_111 ms_X9_in rfl (Nat.le_of_ble_eq_true rfl) rfl k (ob_kI fun v8 σ7 k => ?_)
        refine ob_if_ne (tgt := 47) d_X9_lend_41 rfl (fun cc => ?_) (fun cc => ?_)
        · have k := k.1 cc
          refine ob_aload_n d_X9_lend_47 rfl ?_
          refine ob_iload_n d_X9_lend_48 rfl ?_
          refine ob_iload_n d_X9_lend_49 rfl ?_
          refine ob_iload d_X9_lend_50 rfl ?_
          refine ob_callV [.int x1, .int x2, .int x4] (z := oX9_mayDeal) (st := []) d_X9_lend_52 lk_X9_271 mv_X9_mayDeal rfl sh_53 cl_9 rfl (Nat.le_of_ble_eq_true rfl) rfl k (ob_kI fun v10 σ9 k => ?_)
          refine ob_if_ne (tgt := 62) d_X9_lend_55 rfl (fun cc => ?_) (fun cc => ?_)
          · have k := k.1 cc
            refine ob_aload_n d_X9_lend_62 rfl ?_
            refine ob_iload_n d_X9_lend_63 rfl ?_
            refine ob_iload_n d_X9_lend_64 rfl ?_
            refine ob_iload d_X9_lend_65 rfl ?_
            refine ob_callV [.int x1, .int x2, .int x4] (z := oX9_pay) (st := []) d_X9_lend_67 lk_X9_276 mv_X9_pay rfl sh_53 cl_9 rfl (Nat.le_of_ble_eq_true rfl) rfl k (ob_kV fun σ11 k => ?_)
            refine ob_aload_n d_X9_lend_70 rfl ?_
            refine ob_getR d_X9_lend_71 fl_X9_45 sh_53 rfl rfl ?_
            refine ob_iload_n d_X9_lend_74 rfl ?_
            refine ob_iload_n d_X9_lend_75 rfl ?_
            obtain ⟨hin, k⟩ := k
            refine ob_iast d_X9_lend_76 sh_64 hin ?_
            refine ob_aload_n d_X9_lend_77 rfl ?_
            refine ob_getR d_X9_lend_78 fl_X9_48 sh_53 rfl rfl ?_
            refine ob_iload_n d_X9_lend_81 rfl ?_
            refine ob_aload_n d_X9_lend_82 rfl ?_
            refine ob_getI d_X9_lend_83 fl_X9_118 sh_53 rfl (by decide) ?_
            refine ob_iload_n d_X9_lend_86 rfl ?_
            refine ob_iadd d_X9_lend_87 ?_
            obtain ⟨hin, k⟩ := k
            refine ob_iast d_X9_lend_88 sh_65 hin ?_
            refine ob_nmM (fun σ12 hσ12 => ?_)
            have k := k σ12 hσ12
            refine ob_aload_n d_X9_lend_89 rfl ?_
            refine ob_getR d_X9_lend_90 fl_X9_35 sh_53 rfl rfl ?_
            refine ob_iload_n d_X9_lend_93 rfl ?_
            obtain ⟨hin, k⟩ := k
            refine ob_iald d_X9_lend_94 sh_61 hin ?_
            exact ob_iret d_X9_lend_95 rfl ⟨_, rfl, k⟩
          · have k := k.2 cc
            refine ob_ldcw (v := -1000000003) d_X9_lend_58 k_X9_275 ?_
            exact ob_iret d_X9_lend_61 rfl ⟨_, rfl, k⟩
        · have k := k.2 cc
          refine ob_ldc (v := -1000000002) d_X9_lend_44 k_X9_123 ?_
          exact ob_iret d_X9_lend_46 rfl ⟨_, rfl, k⟩
    · have k := k.2 cc
      refine ob_ldc (v := -1000000001) d_X9_lend_16 k_X9_241 ?_
      exact ob_iret d_X9_lend_18 rfl ⟨_, rfl, k⟩
theorem d_X9_die_0 : decode oX9_die.2.1 0 = .ok (.aload_n 0, 1) := by decide +kernel
theorem d_X9_die_1 : decode oX9_die.2.1 1 = .ok (.iload_n 1, 1) := by decide +kernel
theorem d_X9_die_2 : decode oX9_die.2.1 2 = .ok (.invokevirtual 237, 3) := by decide +kernel
theorem d_X9_die_5 : decode oX9_die.2.1 5 = .ok (.ifCond .ne 6, 3) := by decide +kernel
theorem d_X9_die_8 : decode oX9_die.2.1 8 = .ok (.ldc 241, 2) := by decide +kernel
theorem d_X9_die_10 : decode oX9_die.2.1 10 = .ok (.ireturn, 1) := by decide +kernel
theorem d_X9_die_11 : decode oX9_die.2.1 11 = .ok (.aload_n 0, 1) := by decide +kernel
theorem d_X9_die_12 : decode oX9_die.2.1 12 = .ok (.getfield 38, 3) := by decide +kernel
theorem d_X9_die_15 : decode oX9_die.2.1 15 = .ok (.iload_n 1, 1) := by decide +kernel
theorem d_X9_die_16 : decode oX9_die.2.1 16 = .ok (.baload, 1) := by decide +kernel
theorem d_X9_die_17 : decode oX9_die.2.1 17 = .ok (.ifCond .ne 7, 3) := by decide +kernel
theorem d_X9_die_20 : decode oX9_die.2.1 20 = .ok (.ldc_w 275, 3) := by decide +kernel
theorem d_X9_die_23 : decode oX9_die.2.1 23 = .ok (.ireturn, 1) := by decide +kernel
theorem d_X9_die_24 : decode oX9_die.2.1 24 = .ok (.aload_n 0, 1) := by decide +kernel
theorem d_X9_die_25 : decode oX9_die.2.1 25 = .ok (.getfield 38, 3) := by decide +kernel
theorem d_X9_die_28 : decode oX9_die.2.1 28 = .ok (.iload_n 1, 1) := by decide +kernel
theorem d_X9_die_29 : decode oX9_die.2.1 29 = .ok (.iconst 0, 1) := by decide +kernel
theorem d_X9_die_30 : decode oX9_die.2.1 30 = .ok (.bastore, 1) := by decide +kernel
theorem d_X9_die_31 : decode oX9_die.2.1 31 = .ok (.aload_n 0, 1) := by decide +kernel
theorem d_X9_die_32 : decode oX9_die.2.1 32 = .ok (.invokevirtual 280, 3) := by decide +kernel
theorem d_X9_die_35 : decode oX9_die.2.1 35 = .ok (.istore_n 2, 1) := by decide +kernel
theorem d_X9_die_36 : decode oX9_die.2.1 36 = .ok (.iconst 0, 1) := by decide +kernel
theorem d_X9_die_37 : decode oX9_die.2.1 37 = .ok (.istore_n 3, 1) := by decide +kernel
theorem d_X9_die_38 : decode oX9_die.2.1 38 = .ok (.iload_n 3, 1) := by decide +kernel
theorem d_X9_die_39 : decode oX9_die.2.1 39 = .ok (.aload_n 0, 1) := by decide +kernel
theorem d_X9_die_40 : decode oX9_die.2.1 40 = .ok (.getfield 115, 3) := by decide +kernel
theorem d_X9_die_43 : decode oX9_die.2.1 43 = .ok (.if_icmp .ge 60, 3) := by decide +kernel
theorem d_X9_die_46 : decode oX9_die.2.1 46 = .ok (.aload_n 0, 1) := by decide +kernel
theorem d_X9_die_47 : decode oX9_die.2.1 47 = .ok (.getfield 45, 3) := by decide +kernel
theorem d_X9_die_50 : decode oX9_die.2.1 50 = .ok (.iload_n 3, 1) := by decide +kernel
theorem d_X9_die_51 : decode oX9_die.2.1 51 = .ok (.iaload, 1) := by decide +kernel
theorem d_X9_die_52 : decode oX9_die.2.1 52 = .ok (.iload_n 1, 1) := by decide +kernel
theorem d_X9_die_53 : decode oX9_die.2.1 53 = .ok (.if_icmp .ne 8, 3) := by decide +kernel
theorem d_X9_die_56 : decode oX9_die.2.1 56 = .ok (.aload_n 0, 1) := by decide +kernel
theorem d_X9_die_57 : decode oX9_die.2.1 57 = .ok (.iload_n 3, 1) := by decide +kernel
theorem d_X9_die_58 : decode oX9_die.2.1 58 = .ok (.invokevirtual 262, 3) := by decide +kernel
theorem d_X9_die_61 : decode oX9_die.2.1 61 = .ok (.aload_n 0, 1) := by decide +kernel
theorem d_X9_die_62 : decode oX9_die.2.1 62 = .ok (.getfield 42, 3) := by decide +kernel
theorem d_X9_die_65 : decode oX9_die.2.1 65 = .ok (.iload_n 3, 1) := by decide +kernel
theorem d_X9_die_66 : decode oX9_die.2.1 66 = .ok (.iaload, 1) := by decide +kernel
theorem d_X9_die_67 : decode oX9_die.2.1 67 = .ok (.iload_n 1, 1) := by decide +kernel
theorem d_X9_die_68 : decode oX9_die.2.1 68 = .ok (.if_icmp .ne 29, 3) := by decide +kernel
theorem d_X9_die_71 : decode oX9_die.2.1 71 = .ok (.aload_n 0, 1) := by decide +kernel
theorem d_X9_die_72 : decode oX9_die.2.1 72 = .ok (.getfield 42, 3) := by decide +kernel
theorem d_X9_die_75 : decode oX9_die.2.1 75 = .ok (.iload_n 3, 1) := by decide +kernel
theorem d_X9_die_76 : decode oX9_die.2.1 76 = .ok (.iload_n 2, 1) := by decide +kernel
theorem d_X9_die_77 : decode oX9_die.2.1 77 = .ok (.iastore, 1) := by decide +kernel
theorem d_X9_die_78 : decode oX9_die.2.1 78 = .ok (.iload_n 2, 1) := by decide +kernel
theorem d_X9_die_79 : decode oX9_die.2.1 79 = .ok (.ifCond .lt 18, 3) := by decide +kernel
theorem d_X9_die_82 : decode oX9_die.2.1 82 = .ok (.aload_n 0, 1) := by decide +kernel
theorem d_X9_die_83 : decode oX9_die.2.1 83 = .ok (.getfield 45, 3) := by decide +kernel
theorem d_X9_die_86 : decode oX9_die.2.1 86 = .ok (.iload_n 3, 1) := by decide +kernel
theorem d_X9_die_87 : decode oX9_die.2.1 87 = .ok (.iaload, 1) := by decide +kernel
theorem d_X9_die_88 : decode oX9_die.2.1 88 = .ok (.iload_n 2, 1) := by decide +kernel
theorem d_X9_die_89 : decode oX9_die.2.1 89 = .ok (.if_icmp .ne 8, 3) := by decide +kernel
theorem d_X9_die_92 : decode oX9_die.2.1 92 = .ok (.aload_n 0, 1) := by decide +kernel
theorem d_X9_die_93 : decode oX9_die.2.1 93 = .ok (.iload_n 3, 1) := by decide +kernel
theorem d_X9_die_94 : decode oX9_die.2.1 94 = .ok (.invokevirtual 262, 3) := by decide +kernel
theorem d_X9_die_97 : decode oX9_die.2.1 97 = .ok (.iinc 3 1, 3) := by decide +kernel
theorem d_X9_die_100 : decode oX9_die.2.1 100 = .ok (.goto (-62), 3) := by decide +kernel
theorem d_X9_die_103 : decode oX9_die.2.1 103 = .ok (.iload_n 2, 1) := by decide +kernel
theorem d_X9_die_104 : decode oX9_die.2.1 104 = .ok (.ifCond .lt 18, 3) := by decide +kernel
theorem d_X9_die_107 : decode oX9_die.2.1 107 = .ok (.aload_n 0, 1) := by decide +kernel
theorem d_X9_die_108 : decode oX9_die.2.1 108 = .ok (.getfield 35, 3) := by decide +kernel
theorem d_X9_die_111 : decode oX9_die.2.1 111 = .ok (.iload_n 2, 1) := by decide +kernel
theorem d_X9_die_112 : decode oX9_die.2.1 112 = .ok (.dup2, 1) := by decide +kernel
theorem d_X9_die_113 : decode oX9_die.2.1 113 = .ok (.iaload, 1) := by decide +kernel
theorem d_X9_die_114 : decode oX9_die.2.1 114 = .ok (.aload_n 0, 1) := by decide +kernel
theorem d_X9_die_115 : decode oX9_die.2.1 115 = .ok (.getfield 35, 3) := by decide +kernel
theorem d_X9_die_118 : decode oX9_die.2.1 118 = .ok (.iload_n 1, 1) := by decide +kernel
theorem d_X9_die_119 : decode oX9_die.2.1 119 = .ok (.iaload, 1) := by decide +kernel
theorem d_X9_die_120 : decode oX9_die.2.1 120 = .ok (.iadd, 1) := by decide +kernel
theorem d_X9_die_121 : decode oX9_die.2.1 121 = .ok (.iastore, 1) := by decide +kernel
theorem d_X9_die_122 : decode oX9_die.2.1 122 = .ok (.aload_n 0, 1) := by decide +kernel
theorem d_X9_die_123 : decode oX9_die.2.1 123 = .ok (.getfield 35, 3) := by decide +kernel
theorem d_X9_die_126 : decode oX9_die.2.1 126 = .ok (.iload_n 1, 1) := by decide +kernel
theorem d_X9_die_127 : decode oX9_die.2.1 127 = .ok (.iconst 0, 1) := by decide +kernel
theorem d_X9_die_128 : decode oX9_die.2.1 128 = .ok (.iastore, 1) := by decide +kernel
theorem d_X9_die_129 : decode oX9_die.2.1 129 = .ok (.iload_n 2, 1) := by decide +kernel
theorem d_X9_die_130 : decode oX9_die.2.1 130 = .ok (.ireturn, 1) := by decide +kernel
theorem b_X9_die_0 {E : ob_E} {σ : ob_Mem} {Q : Int32 → ob_Mem → Prop} {x1 : Int32} (k : ob_RM shp E oX9_isPerson [.ref 53, .int x1] σ (ob_qI fun v2 σ1 => ((¬ v2 = 0 → (vp_in x1 6 ∧ ((¬ (σ1.1 62 (x1).toNatClampNeg) = 0 → (vp_in x1 6 ∧ ob_RM shp E oX9_youngest [.ref 53] (ob_wI σ1 62 (x1).toNatClampNeg (vp_nar .boolean (0 : Int32))) (ob_qI fun v4 σ3 => ob_RT shp E oX9_die 38 [.ref 53, .int x1, .int v4, .int (0 : Int32)] [] σ3 (ob_qI Q)))) ∧ ((σ1.1 62 (x1).toNatClampNeg) = 0 → Q (-1000000003 : Int32) σ1)))) ∧ (v2 = 0 → Q (-1000000001 : Int32) σ1)))) : ob_RT shp E oX9_die 0 [.ref 53, .int x1, .null, .null] [] σ (ob_qI Q) := by
  refine ob_aload_n d_X9_die_0 rfl ?_
  refine ob_iload_n d_X9_die_1 rfl ?_
  refine ob_callV [.int x1] (z := oX9_isPerson) (st := []) d_X9_die_2 lk_X9_237 mv_X9_isPerson rfl sh_53 cl_9 rfl (Nat.le_of_ble_eq_true rfl) rfl k (ob_kI fun v2 σ1 k => ?_)
  refine ob_if_ne (tgt := 11) d_X9_die_5 rfl (fun cc => ?_) (fun cc => ?_)
  · have k := k.1 cc
    refine ob_aload_n d_X9_die_11 rfl ?_
    refine ob_getR d_X9_die_12 fl_X9_38 sh_53 rfl rfl ?_
    refine ob_iload_n d_X9_die_15 rfl ?_
    obtain ⟨hin, k⟩ := k
    refine ob_zald d_X9_die_16 sh_62 hin ?_
    refine ob_if_ne (tgt := 24) d_X9_die_17 rfl (fun cc => ?_) (fun cc => ?_)
    · have k := k.1 cc
      refine ob_aload_n d_X9_die_24 rfl ?_
      refine ob_getR d_X9_die_25 fl_X9_38 sh_53 rfl rfl ?_
      refine ob_iload_n d_X9_die_28 rfl ?_
      refine ob_iconst (v := 0) d_X9_die_29 ci_0 ?_
      obtain ⟨hin, k⟩ := k
      refine ob_zast d_X9_die_30 sh_62 hin ?_
      refine ob_aload_n d_X9_die_31 rfl ?_
      refine ob_callV [] (z := oX9_youngest) (st := []) d_X9_die_32 lk_X9_280 mv_X9_youngest rfl sh_53 cl_9 rfl (Nat.le_of_ble_eq_true rfl) rfl k (ob_kI fun v4 σ3 k => ?_)
      refine ob_istore_n (ls' := [.ref 53, .int x1, .int v4, .null]) d_X9_die_35 (Nat.le_of_ble_eq_true rfl) rfl ?_
      refine ob_iconst (v := 0) d_X9_die_36 ci_0 ?_
      refine ob_istore_n (ls' := [.ref 53, .int x1, .int v4, .int (0 : Int32)]) d_X9_die_37 (Nat.le_of_ble_eq_true rfl) rfl ?_
      exact k
    · have k := k.2 cc
      refine ob_ldcw (v := -1000000003) d_X9_die_20 k_X9_275 ?_
      exact ob_iret d_X9_die_23 rfl ⟨_, rfl, k⟩
  · have k := k.2 cc
    refine ob_ldc (v := -1000000001) d_X9_die_8 k_X9_241 ?_
    exact ob_iret d_X9_die_10 rfl ⟨_, rfl, k⟩
theorem b_X9_die_38 {E : ob_E} {σ : ob_Mem} {Q : Int32 → ob_Mem → Prop} {x1 x2 x3 : Int32} (k : (((σ.1 53 4) ≤ x3 → ((x2 < 0 → (vp_in x1 6 ∧ Q x2 (ob_wI σ 61 (x1).toNatClampNeg (0 : Int32)))) ∧ (¬ x2 < 0 → (vp_in x2 6 ∧ (vp_in x1 6 ∧ (vp_in x2 6 ∧ (∀ σ1, σ1 = (ob_wI σ 61 (x2).toNatClampNeg ((σ.1 61 (x2).toNatClampNeg) + (σ.1 61 (x1).toNatClampNeg))) → (vp_in x1 6 ∧ Q x2 (ob_wI σ1 61 (x1).toNatClampNeg (0 : Int32)))))))))) ∧ (¬ (σ.1 53 4) ≤ x3 → (vp_in x3 8 ∧ ((¬ (σ.1 64 (x3).toNatClampNeg) = x1 → ob_RT shp E oX9_die 61 [.ref 53, .int x1, .int x2, .int x3] [] σ (ob_qI Q)) ∧ ((σ.1 64 (x3).toNatClampNeg) = x1 → ob_RM shp E oX9_endLoan [.ref 53, .int x3] σ (ob_qV fun σ2 => ob_RT shp E oX9_die 61 [.ref 53, .int x1, .int x2, .int x3] [] σ2 (ob_qI Q)))))))) : ob_RT shp E oX9_die 38 [.ref 53, .int x1, .int x2, .int x3] [] σ (ob_qI Q) := by
  refine ob_iload_n d_X9_die_38 rfl ?_
  refine ob_aload_n d_X9_die_39 rfl ?_
  refine ob_getI d_X9_die_40 fl_X9_115 sh_53 rfl (by decide) ?_
  refine ob_icmp_ge (tgt := 103) d_X9_die_43 rfl (fun cc => ?_) (fun cc => ?_)
  · have k := k.1 cc
    refine ob_iload_n d_X9_die_103 rfl ?_
    refine ob_if_lt (tgt := 122) d_X9_die_104 rfl (fun cc => ?_) (fun cc => ?_)
    · have k := k.1 cc
      refine ob_aload_n d_X9_die_122 rfl ?_
      refine ob_getR d_X9_die_123 fl_X9_35 sh_53 rfl rfl ?_
      refine ob_iload_n d_X9_die_126 rfl ?_
      refine ob_iconst (v := 0) d_X9_die_127 ci_0 ?_
      obtain ⟨hin, k⟩ := k
      refine ob_iast d_X9_die_128 sh_61 hin ?_
      refine ob_iload_n d_X9_die_129 rfl ?_
      exact ob_iret d_X9_die_130 rfl ⟨_, rfl, k⟩
    · have k := k.2 cc
      refine ob_aload_n d_X9_die_107 rfl ?_
      refine ob_getR d_X9_die_108 fl_X9_35 sh_53 rfl rfl ?_
      refine ob_iload_n d_X9_die_111 rfl ?_
      refine ob_dup2 d_X9_die_112 rfl rfl ?_
      obtain ⟨hin, k⟩ := k
      refine ob_iald d_X9_die_113 sh_61 hin ?_
      refine ob_aload_n d_X9_die_114 rfl ?_
      refine ob_getR d_X9_die_115 fl_X9_35 sh_53 rfl rfl ?_
      refine ob_iload_n d_X9_die_118 rfl ?_
      obtain ⟨hin, k⟩ := k
      refine ob_iald d_X9_die_119 sh_61 hin ?_
      refine ob_iadd d_X9_die_120 ?_
      obtain ⟨hin, k⟩ := k
      refine ob_iast d_X9_die_121 sh_61 hin ?_
      refine ob_nmM (fun σ1 hσ1 => ?_)
      have k := k σ1 hσ1
      refine ob_aload_n d_X9_die_122 rfl ?_
      refine ob_getR d_X9_die_123 fl_X9_35 sh_53 rfl rfl ?_
      refine ob_iload_n d_X9_die_126 rfl ?_
      refine ob_iconst (v := 0) d_X9_die_127 ci_0 ?_
      obtain ⟨hin, k⟩ := k
      refine ob_iast d_X9_die_128 sh_61 hin ?_
      refine ob_iload_n d_X9_die_129 rfl ?_
      exact ob_iret d_X9_die_130 rfl ⟨_, rfl, k⟩
  · have k := k.2 cc
    refine ob_aload_n d_X9_die_46 rfl ?_
    refine ob_getR d_X9_die_47 fl_X9_45 sh_53 rfl rfl ?_
    refine ob_iload_n d_X9_die_50 rfl ?_
    obtain ⟨hin, k⟩ := k
    refine ob_iald d_X9_die_51 sh_64 hin ?_
    refine ob_iload_n d_X9_die_52 rfl ?_
    refine ob_icmp_ne (tgt := 61) d_X9_die_53 rfl (fun cc => ?_) (fun cc => ?_)
    · have k := k.1 cc
      exact k
    · have k := k.2 cc
      refine ob_aload_n d_X9_die_56 rfl ?_
      refine ob_iload_n d_X9_die_57 rfl ?_
      refine ob_callV [.int x3] (z := oX9_endLoan) (st := []) d_X9_die_58 lk_X9_262 mv_X9_endLoan rfl sh_53 cl_9 rfl (Nat.le_of_ble_eq_true rfl) rfl k (ob_kV fun σ2 k => ?_)
      exact k
theorem b_X9_die_61 {E : ob_E} {σ : ob_Mem} {Q : Int32 → ob_Mem → Prop} {x1 x2 x3 : Int32} (k : (vp_in x3 8 ∧ ((¬ (σ.1 63 (x3).toNatClampNeg) = x1 → ob_RT shp E oX9_die 38 [.ref 53, .int x1, .int x2, .int (x3 + (1 : Int32))] [] σ (ob_qI Q)) ∧ ((σ.1 63 (x3).toNatClampNeg) = x1 → (vp_in x3 8 ∧ ((x2 < 0 → ob_RT shp E oX9_die 38 [.ref 53, .int x1, .int x2, .int (x3 + (1 : Int32))] [] (ob_wI σ 63 (x3).toNatClampNeg x2) (ob_qI Q)) ∧ (¬ x2 < 0 → (vp_in x3 8 ∧ ((¬ ((ob_wI σ 63 (x3).toNatClampNeg x2).1 64 (x3).toNatClampNeg) = x2 → ob_RT shp E oX9_die 38 [.ref 53, .int x1, .int x2, .int (x3 + (1 : Int32))] [] (ob_wI σ 63 (x3).toNatClampNeg x2) (ob_qI Q)) ∧ (((ob_wI σ 63 (x3).toNatClampNeg x2).1 64 (x3).toNatClampNeg) = x2 → ob_RM shp E oX9_endLoan [.ref 53, .int x3] (ob_wI σ 63 (x3).toNatClampNeg x2) (ob_qV fun σ1 => ob_RT shp E oX9_die 38 [.ref 53, .int x1, .int x2, .int (x3 + (1 : Int32))] [] σ1 (ob_qI Q)))))))))))) : ob_RT shp E oX9_die 61 [.ref 53, .int x1, .int x2, .int x3] [] σ (ob_qI Q) := by
  refine ob_aload_n d_X9_die_61 rfl ?_
  refine ob_getR d_X9_die_62 fl_X9_42 sh_53 rfl rfl ?_
  refine ob_iload_n d_X9_die_65 rfl ?_
  obtain ⟨hin, k⟩ := k
  refine ob_iald d_X9_die_66 sh_63 hin ?_
  refine ob_iload_n d_X9_die_67 rfl ?_
  refine ob_icmp_ne (tgt := 97) d_X9_die_68 rfl (fun cc => ?_) (fun cc => ?_)
  · have k := k.1 cc
    refine ob_iinc (ls' := [.ref 53, .int x1, .int x2, .int (x3 + (1 : Int32))]) (v := 1) d_X9_die_97 rfl ci_1 (Nat.le_of_ble_eq_true rfl) rfl ?_
    refine ob_goto (tgt := 38) d_X9_die_100 rfl ?_
    exact k
  · have k := k.2 cc
    refine ob_aload_n d_X9_die_71 rfl ?_
    refine ob_getR d_X9_die_72 fl_X9_42 sh_53 rfl rfl ?_
    refine ob_iload_n d_X9_die_75 rfl ?_
    refine ob_iload_n d_X9_die_76 rfl ?_
    obtain ⟨hin, k⟩ := k
    refine ob_iast d_X9_die_77 sh_63 hin ?_
    refine ob_iload_n d_X9_die_78 rfl ?_
    refine ob_if_lt (tgt := 97) d_X9_die_79 rfl (fun cc => ?_) (fun cc => ?_)
    · have k := k.1 cc
      refine ob_iinc (ls' := [.ref 53, .int x1, .int x2, .int (x3 + (1 : Int32))]) (v := 1) d_X9_die_97 rfl ci_1 (Nat.le_of_ble_eq_true rfl) rfl ?_
      refine ob_goto (tgt := 38) d_X9_die_100 rfl ?_
      exact k
    · have k := k.2 cc
      refine ob_aload_n d_X9_die_82 rfl ?_
      refine ob_getR d_X9_die_83 fl_X9_45 sh_53 rfl rfl ?_
      refine ob_iload_n d_X9_die_86 rfl ?_
      obtain ⟨hin, k⟩ := k
      refine ob_iald d_X9_die_87 sh_64 hin ?_
      refine ob_iload_n d_X9_die_88 rfl ?_
      refine ob_icmp_ne (tgt := 97) d_X9_die_89 rfl (fun cc => ?_) (fun cc => ?_)
      · have k := k.1 cc
        refine ob_iinc (ls' := [.ref 53, .int x1, .int x2, .int (x3 + (1 : Int32))]) (v := 1) d_X9_die_97 rfl ci_1 (Nat.le_of_ble_eq_true rfl) rfl ?_
        refine ob_goto (tgt := 38) d_X9_die_100 rfl ?_
        exact k
      · have k := k.2 cc
        refine ob_aload_n d_X9_die_92 rfl ?_
        refine ob_iload_n d_X9_die_93 rfl ?_
        refine ob_callV [.int x3] (z := oX9_endLoan) (st := []) d_X9_die_94 lk_X9_262 mv_X9_endLoan rfl sh_53 cl_9 rfl (Nat.le_of_ble_eq_true rfl) rfl k (ob_kV fun σ1 k => ?_)
        refine ob_iinc (ls' := [.ref 53, .int x1, .int x2, .int (x3 + (1 : Int32))]) (v := 1) d_X9_die_97 rfl ci_1 (Nat.le_of_ble_eq_true rfl) rfl ?_
        refine ob_goto (tgt := 38) d_X9_die_100 rfl ?_
        exact k
theorem d_X9_foretold_0 : decode oX9_foretold.2.1 0 = .ok (.aload_n 0, 1) := by decide +kernel
theorem d_X9_foretold_1 : decode oX9_foretold.2.1 1 = .ok (.iload_n 1, 1) := by decide +kernel
theorem d_X9_foretold_2 : decode oX9_foretold.2.1 2 = .ok (.invokevirtual 237, 3) := by decide +kernel
theorem d_X9_foretold_5 : decode oX9_foretold.2.1 5 = .ok (.ifCond .ne 6, 3) := by decide +kernel
theorem d_X9_foretold_8 : decode oX9_foretold.2.1 8 = .ok (.ldc 241, 2) := by decide +kernel
theorem d_X9_foretold_10 : decode oX9_foretold.2.1 10 = .ok (.ireturn, 1) := by decide +kernel
theorem d_X9_foretold_11 : decode oX9_foretold.2.1 11 = .ok (.iload_n 2, 1) := by decide +kernel
theorem d_X9_foretold_12 : decode oX9_foretold.2.1 12 = .ok (.i2l, 1) := by decide +kernel
theorem d_X9_foretold_13 : decode oX9_foretold.2.1 13 = .ok (.lconst 0, 1) := by decide +kernel
theorem d_X9_foretold_14 : decode oX9_foretold.2.1 14 = .ok (.ldc2_w 293, 3) := by decide +kernel
theorem d_X9_foretold_17 : decode oX9_foretold.2.1 17 = .ok (.invokestatic 111, 3) := by decide +kernel
theorem d_X9_foretold_20 : decode oX9_foretold.2.1 20 = .ok (.ifCond .eq 13, 3) := by decide +kernel
theorem d_X9_foretold_23 : decode oX9_foretold.2.1 23 = .ok (.aload_n 0, 1) := by decide +kernel
theorem d_X9_foretold_24 : decode oX9_foretold.2.1 24 = .ok (.iload_n 1, 1) := by decide +kernel
theorem d_X9_foretold_25 : decode oX9_foretold.2.1 25 = .ok (.iload_n 2, 1) := by decide +kernel
theorem d_X9_foretold_26 : decode oX9_foretold.2.1 26 = .ok (.iconst (-1), 1) := by decide +kernel
theorem d_X9_foretold_27 : decode oX9_foretold.2.1 27 = .ok (.invokevirtual 295, 3) := by decide +kernel
theorem d_X9_foretold_30 : decode oX9_foretold.2.1 30 = .ok (.goto 5, 3) := by decide +kernel
theorem d_X9_foretold_33 : decode oX9_foretold.2.1 33 = .ok (.ldc 123, 2) := by decide +kernel
theorem d_X9_foretold_35 : decode oX9_foretold.2.1 35 = .ok (.ireturn, 1) := by decide +kernel
theorem b_X9_foretold_0 {E : ob_E} {σ : ob_Mem} {Q : Int32 → ob_Mem → Prop} {x1 x2 : Int32} (k : ob_RM shp E oX9_isPerson [.ref 53, .int x1] σ (ob_qI fun v2 σ1 => ((¬ v2 = 0 → ob_RM shp E oX9_in [.long (x2).toInt64, .long (0 : Int64), .long (99999 : Int64)] σ1 (ob_qI fun v4 σ3 => ((v4 = 0 → Q (-1000000002 : Int32) σ3) ∧ (¬ v4 = 0 → ob_RM shp E oX9_ageIn [.ref 53, .int x1, .int x2, .int (-1 : Int32)] σ3 (ob_qI fun v6 σ5 => Q v6 σ5))))) ∧ (v2 = 0 → Q (-1000000001 : Int32) σ1)))) : ob_RT shp E oX9_foretold 0 [.ref 53, .int x1, .int x2] [] σ (ob_qI Q) := by
  refine ob_aload_n d_X9_foretold_0 rfl ?_
  refine ob_iload_n d_X9_foretold_1 rfl ?_
  refine ob_callV [.int x1] (z := oX9_isPerson) (st := []) d_X9_foretold_2 lk_X9_237 mv_X9_isPerson rfl sh_53 cl_9 rfl (Nat.le_of_ble_eq_true rfl) rfl k (ob_kI fun v2 σ1 k => ?_)
  refine ob_if_ne (tgt := 11) d_X9_foretold_5 rfl (fun cc => ?_) (fun cc => ?_)
  · have k := k.1 cc
    refine ob_iload_n d_X9_foretold_11 rfl ?_
    refine ob_i2l d_X9_foretold_12 ?_
    refine ob_lconst (v := 0) d_X9_foretold_13 rfl ?_
    refine ob_ldc2 (v := 99999) d_X9_foretold_14 k_X9_293 ?_
    refine ob_callS [.long (x2).toInt64, .long (0 : Int64), .long (99999 : Int64)] (z := oX9_in) (st := []) d_X9_foretold_17 lk_X9_111 ms_X9_in rfl (Nat.le_of_ble_eq_true rfl) rfl k (ob_kI fun v4 σ3 k => ?_)
    refine ob_if_eq (tgt := 33) d_X9_foretold_20 rfl (fun cc => ?_) (fun cc => ?_)
    · have k := k.1 cc
      refine ob_ldc (v := -1000000002) d_X9_foretold_33 k_X9_123 ?_
      exact ob_iret d_X9_foretold_35 rfl ⟨_, rfl, k⟩
    · have k := k.2 cc
      refine ob_aload_n d_X9_foretold_23 rfl ?_
      refine ob_iload_n d_X9_foretold_24 rfl ?_
      refine ob_iload_n d_X9_foretold_25 rfl ?_
      refine ob_iconst (v := -1) d_X9_foretold_26 ci_m1 ?_
      refine ob_callV [.int x1, .int x2, .int (-1 : Int32)] (z := oX9_ageIn) (st := []) d_X9_foretold_27 lk_X9_295 mv_X9_ageIn rfl sh_53 cl_9 rfl (Nat.le_of_ble_eq_true rfl) rfl k (ob_kI fun v6 σ5 k => ?_)
      refine ob_goto (tgt := 35) d_X9_foretold_30 rfl ?_
      exact ob_iret d_X9_foretold_35 rfl ⟨_, rfl, k⟩
  · have k := k.2 cc
    refine ob_ldc (v := -1000000001) d_X9_foretold_8 k_X9_241 ?_
    exact ob_iret d_X9_foretold_10 rfl ⟨_, rfl, k⟩
theorem d_X9_coin_0 : decode oX9_coin.2.1 0 = .ok (.aload_n 0, 1) := by decide +kernel
theorem d_X9_coin_1 : decode oX9_coin.2.1 1 = .ok (.iload_n 1, 1) := by decide +kernel
theorem d_X9_coin_2 : decode oX9_coin.2.1 2 = .ok (.invokevirtual 237, 3) := by decide +kernel
theorem d_X9_coin_5 : decode oX9_coin.2.1 5 = .ok (.ifCond .ne 6, 3) := by decide +kernel
theorem d_X9_coin_8 : decode oX9_coin.2.1 8 = .ok (.ldc 241, 2) := by decide +kernel
theorem d_X9_coin_10 : decode oX9_coin.2.1 10 = .ok (.ireturn, 1) := by decide +kernel
theorem d_X9_coin_11 : decode oX9_coin.2.1 11 = .ok (.iload_n 2, 1) := by decide +kernel
theorem d_X9_coin_12 : decode oX9_coin.2.1 12 = .ok (.i2l, 1) := by decide +kernel
theorem d_X9_coin_13 : decode oX9_coin.2.1 13 = .ok (.lconst 0, 1) := by decide +kernel
theorem d_X9_coin_14 : decode oX9_coin.2.1 14 = .ok (.ldc2_w 257, 3) := by decide +kernel
theorem d_X9_coin_17 : decode oX9_coin.2.1 17 = .ok (.invokestatic 111, 3) := by decide +kernel
theorem d_X9_coin_20 : decode oX9_coin.2.1 20 = .ok (.ifCond .eq 26, 3) := by decide +kernel
theorem d_X9_coin_23 : decode oX9_coin.2.1 23 = .ok (.iload_n 3, 1) := by decide +kernel
theorem d_X9_coin_24 : decode oX9_coin.2.1 24 = .ok (.i2l, 1) := by decide +kernel
theorem d_X9_coin_25 : decode oX9_coin.2.1 25 = .ok (.lconst 1, 1) := by decide +kernel
theorem d_X9_coin_26 : decode oX9_coin.2.1 26 = .ok (.ldc2_w 266, 3) := by decide +kernel
theorem d_X9_coin_29 : decode oX9_coin.2.1 29 = .ok (.invokestatic 111, 3) := by decide +kernel
theorem d_X9_coin_32 : decode oX9_coin.2.1 32 = .ok (.ifCond .eq 14, 3) := by decide +kernel
theorem d_X9_coin_35 : decode oX9_coin.2.1 35 = .ok (.iload 4, 2) := by decide +kernel
theorem d_X9_coin_37 : decode oX9_coin.2.1 37 = .ok (.i2l, 1) := by decide +kernel
theorem d_X9_coin_38 : decode oX9_coin.2.1 38 = .ok (.lconst 0, 1) := by decide +kernel
theorem d_X9_coin_39 : decode oX9_coin.2.1 39 = .ok (.lconst 1, 1) := by decide +kernel
theorem d_X9_coin_40 : decode oX9_coin.2.1 40 = .ok (.invokestatic 111, 3) := by decide +kernel
theorem d_X9_coin_43 : decode oX9_coin.2.1 43 = .ok (.ifCond .ne 6, 3) := by decide +kernel
theorem d_X9_coin_46 : decode oX9_coin.2.1 46 = .ok (.ldc 123, 2) := by decide +kernel
theorem d_X9_coin_48 : decode oX9_coin.2.1 48 = .ok (.ireturn, 1) := by decide +kernel
theorem d_X9_coin_49 : decode oX9_coin.2.1 49 = .ok (.aload_n 0, 1) := by decide +kernel
theorem d_X9_coin_50 : decode oX9_coin.2.1 50 = .ok (.getfield 38, 3) := by decide +kernel
theorem d_X9_coin_53 : decode oX9_coin.2.1 53 = .ok (.iload_n 1, 1) := by decide +kernel
theorem d_X9_coin_54 : decode oX9_coin.2.1 54 = .ok (.baload, 1) := by decide +kernel
theorem d_X9_coin_55 : decode oX9_coin.2.1 55 = .ok (.ifCond .ne 7, 3) := by decide +kernel
theorem d_X9_coin_58 : decode oX9_coin.2.1 58 = .ok (.ldc_w 275, 3) := by decide +kernel
theorem d_X9_coin_61 : decode oX9_coin.2.1 61 = .ok (.ireturn, 1) := by decide +kernel
theorem d_X9_coin_62 : decode oX9_coin.2.1 62 = .ok (.aload_n 0, 1) := by decide +kernel
theorem d_X9_coin_63 : decode oX9_coin.2.1 63 = .ok (.iload_n 1, 1) := by decide +kernel
theorem d_X9_coin_64 : decode oX9_coin.2.1 64 = .ok (.iload_n 3, 1) := by decide +kernel
theorem d_X9_coin_65 : decode oX9_coin.2.1 65 = .ok (.iconst (-1), 1) := by decide +kernel
theorem d_X9_coin_66 : decode oX9_coin.2.1 66 = .ok (.invokevirtual 290, 3) := by decide +kernel
theorem d_X9_coin_69 : decode oX9_coin.2.1 69 = .ok (.istore 5, 2) := by decide +kernel
theorem d_X9_coin_71 : decode oX9_coin.2.1 71 = .ok (.iconst (-1), 1) := by decide +kernel
theorem d_X9_coin_72 : decode oX9_coin.2.1 72 = .ok (.istore 6, 2) := by decide +kernel
theorem d_X9_coin_74 : decode oX9_coin.2.1 74 = .ok (.iconst 0, 1) := by decide +kernel
theorem d_X9_coin_75 : decode oX9_coin.2.1 75 = .ok (.istore 7, 2) := by decide +kernel
theorem d_X9_coin_77 : decode oX9_coin.2.1 77 = .ok (.iconst 0, 1) := by decide +kernel
theorem d_X9_coin_78 : decode oX9_coin.2.1 78 = .ok (.istore 8, 2) := by decide +kernel
theorem d_X9_coin_80 : decode oX9_coin.2.1 80 = .ok (.iload 8, 2) := by decide +kernel
theorem d_X9_coin_82 : decode oX9_coin.2.1 82 = .ok (.iconst 1, 1) := by decide +kernel
theorem d_X9_coin_83 : decode oX9_coin.2.1 83 = .ok (.aload_n 0, 1) := by decide +kernel
theorem d_X9_coin_84 : decode oX9_coin.2.1 84 = .ok (.getfield 115, 3) := by decide +kernel
theorem d_X9_coin_87 : decode oX9_coin.2.1 87 = .ok (.ishl, 1) := by decide +kernel
theorem d_X9_coin_88 : decode oX9_coin.2.1 88 = .ok (.if_icmp .ge 181, 3) := by decide +kernel
theorem d_X9_coin_91 : decode oX9_coin.2.1 91 = .ok (.iload 5, 2) := by decide +kernel
theorem d_X9_coin_93 : decode oX9_coin.2.1 93 = .ok (.istore 9, 2) := by decide +kernel
theorem d_X9_coin_95 : decode oX9_coin.2.1 95 = .ok (.iconst 0, 1) := by decide +kernel
theorem d_X9_coin_96 : decode oX9_coin.2.1 96 = .ok (.istore 10, 2) := by decide +kernel
theorem d_X9_coin_98 : decode oX9_coin.2.1 98 = .ok (.iconst 1, 1) := by decide +kernel
theorem d_X9_coin_99 : decode oX9_coin.2.1 99 = .ok (.istore 11, 2) := by decide +kernel
theorem d_X9_coin_101 : decode oX9_coin.2.1 101 = .ok (.iconst 0, 1) := by decide +kernel
theorem d_X9_coin_102 : decode oX9_coin.2.1 102 = .ok (.istore 12, 2) := by decide +kernel
theorem d_X9_coin_104 : decode oX9_coin.2.1 104 = .ok (.iload 12, 2) := by decide +kernel
theorem d_X9_coin_106 : decode oX9_coin.2.1 106 = .ok (.aload_n 0, 1) := by decide +kernel
theorem d_X9_coin_107 : decode oX9_coin.2.1 107 = .ok (.getfield 115, 3) := by decide +kernel
theorem d_X9_coin_110 : decode oX9_coin.2.1 110 = .ok (.if_icmp .ge 95, 3) := by decide +kernel
theorem d_X9_coin_113 : decode oX9_coin.2.1 113 = .ok (.iload 8, 2) := by decide +kernel
theorem d_X9_coin_115 : decode oX9_coin.2.1 115 = .ok (.iload 12, 2) := by decide +kernel
theorem d_X9_coin_117 : decode oX9_coin.2.1 117 = .ok (.invokestatic 298, 3) := by decide +kernel
theorem d_X9_coin_120 : decode oX9_coin.2.1 120 = .ok (.ifCond .eq 79, 3) := by decide +kernel
theorem d_X9_coin_123 : decode oX9_coin.2.1 123 = .ok (.iload 11, 2) := by decide +kernel
theorem d_X9_coin_125 : decode oX9_coin.2.1 125 = .ok (.ifCond .eq 48, 3) := by decide +kernel
theorem d_X9_coin_128 : decode oX9_coin.2.1 128 = .ok (.aload_n 0, 1) := by decide +kernel
theorem d_X9_coin_129 : decode oX9_coin.2.1 129 = .ok (.getfield 42, 3) := by decide +kernel
theorem d_X9_coin_132 : decode oX9_coin.2.1 132 = .ok (.iload 12, 2) := by decide +kernel
theorem d_X9_coin_134 : decode oX9_coin.2.1 134 = .ok (.iaload, 1) := by decide +kernel
theorem d_X9_coin_135 : decode oX9_coin.2.1 135 = .ok (.ifCond .lt 38, 3) := by decide +kernel
theorem d_X9_coin_138 : decode oX9_coin.2.1 138 = .ok (.aload_n 0, 1) := by decide +kernel
theorem d_X9_coin_139 : decode oX9_coin.2.1 139 = .ok (.getfield 45, 3) := by decide +kernel
theorem d_X9_coin_142 : decode oX9_coin.2.1 142 = .ok (.iload 12, 2) := by decide +kernel
theorem d_X9_coin_144 : decode oX9_coin.2.1 144 = .ok (.iaload, 1) := by decide +kernel
theorem d_X9_coin_145 : decode oX9_coin.2.1 145 = .ok (.ifCond .ge 28, 3) := by decide +kernel
theorem d_X9_coin_148 : decode oX9_coin.2.1 148 = .ok (.aload_n 0, 1) := by decide +kernel
theorem d_X9_coin_149 : decode oX9_coin.2.1 149 = .ok (.getfield 42, 3) := by decide +kernel
theorem d_X9_coin_152 : decode oX9_coin.2.1 152 = .ok (.iload 12, 2) := by decide +kernel
theorem d_X9_coin_154 : decode oX9_coin.2.1 154 = .ok (.iaload, 1) := by decide +kernel
theorem d_X9_coin_155 : decode oX9_coin.2.1 155 = .ok (.iload_n 1, 1) := by decide +kernel
theorem d_X9_coin_156 : decode oX9_coin.2.1 156 = .ok (.if_icmp .eq 17, 3) := by decide +kernel
theorem d_X9_coin_159 : decode oX9_coin.2.1 159 = .ok (.aload_n 0, 1) := by decide +kernel
theorem d_X9_coin_160 : decode oX9_coin.2.1 160 = .ok (.iload 12, 2) := by decide +kernel
theorem d_X9_coin_162 : decode oX9_coin.2.1 162 = .ok (.iload_n 3, 1) := by decide +kernel
theorem d_X9_coin_163 : decode oX9_coin.2.1 163 = .ok (.invokevirtual 283, 3) := by decide +kernel
theorem d_X9_coin_166 : decode oX9_coin.2.1 166 = .ok (.ifCond .le 7, 3) := by decide +kernel
theorem d_X9_coin_169 : decode oX9_coin.2.1 169 = .ok (.iconst 1, 1) := by decide +kernel
theorem d_X9_coin_170 : decode oX9_coin.2.1 170 = .ok (.goto 4, 3) := by decide +kernel
theorem d_X9_coin_173 : decode oX9_coin.2.1 173 = .ok (.iconst 0, 1) := by decide +kernel
theorem d_X9_coin_174 : decode oX9_coin.2.1 174 = .ok (.istore 11, 2) := by decide +kernel
theorem d_X9_coin_176 : decode oX9_coin.2.1 176 = .ok (.iload 9, 2) := by decide +kernel
theorem d_X9_coin_178 : decode oX9_coin.2.1 178 = .ok (.aload_n 0, 1) := by decide +kernel
theorem d_X9_coin_179 : decode oX9_coin.2.1 179 = .ok (.iload 12, 2) := by decide +kernel
theorem d_X9_coin_181 : decode oX9_coin.2.1 181 = .ok (.iload_n 3, 1) := by decide +kernel
theorem d_X9_coin_182 : decode oX9_coin.2.1 182 = .ok (.invokevirtual 283, 3) := by decide +kernel
theorem d_X9_coin_185 : decode oX9_coin.2.1 185 = .ok (.iadd, 1) := by decide +kernel
theorem d_X9_coin_186 : decode oX9_coin.2.1 186 = .ok (.istore 9, 2) := by decide +kernel
theorem d_X9_coin_188 : decode oX9_coin.2.1 188 = .ok (.iload 10, 2) := by decide +kernel
theorem d_X9_coin_190 : decode oX9_coin.2.1 190 = .ok (.aload_n 0, 1) := by decide +kernel
theorem d_X9_coin_191 : decode oX9_coin.2.1 191 = .ok (.iload 12, 2) := by decide +kernel
theorem d_X9_coin_193 : decode oX9_coin.2.1 193 = .ok (.invokevirtual 254, 3) := by decide +kernel
theorem d_X9_coin_196 : decode oX9_coin.2.1 196 = .ok (.iadd, 1) := by decide +kernel
theorem d_X9_coin_197 : decode oX9_coin.2.1 197 = .ok (.istore 10, 2) := by decide +kernel
theorem d_X9_coin_199 : decode oX9_coin.2.1 199 = .ok (.iinc 12 1, 3) := by decide +kernel
theorem d_X9_coin_202 : decode oX9_coin.2.1 202 = .ok (.goto (-98), 3) := by decide +kernel
theorem d_X9_coin_205 : decode oX9_coin.2.1 205 = .ok (.iload 11, 2) := by decide +kernel
theorem d_X9_coin_207 : decode oX9_coin.2.1 207 = .ok (.ifCond .eq 25, 3) := by decide +kernel
theorem d_X9_coin_210 : decode oX9_coin.2.1 210 = .ok (.iload 9, 2) := by decide +kernel
theorem d_X9_coin_212 : decode oX9_coin.2.1 212 = .ok (.iload_n 2, 1) := by decide +kernel
theorem d_X9_coin_213 : decode oX9_coin.2.1 213 = .ok (.if_icmp .ne 19, 3) := by decide +kernel
theorem d_X9_coin_216 : decode oX9_coin.2.1 216 = .ok (.iload 6, 2) := by decide +kernel
theorem d_X9_coin_218 : decode oX9_coin.2.1 218 = .ok (.ifCond .lt 10, 3) := by decide +kernel
theorem d_X9_coin_221 : decode oX9_coin.2.1 221 = .ok (.iload 10, 2) := by decide +kernel
theorem d_X9_coin_223 : decode oX9_coin.2.1 223 = .ok (.iload 7, 2) := by decide +kernel
theorem d_X9_coin_225 : decode oX9_coin.2.1 225 = .ok (.if_icmp .ge 7, 3) := by decide +kernel
theorem d_X9_coin_228 : decode oX9_coin.2.1 228 = .ok (.iconst 1, 1) := by decide +kernel
theorem d_X9_coin_229 : decode oX9_coin.2.1 229 = .ok (.goto 4, 3) := by decide +kernel
theorem d_X9_coin_232 : decode oX9_coin.2.1 232 = .ok (.iconst 0, 1) := by decide +kernel
theorem d_X9_coin_233 : decode oX9_coin.2.1 233 = .ok (.istore 12, 2) := by decide +kernel
theorem d_X9_coin_235 : decode oX9_coin.2.1 235 = .ok (.iload 12, 2) := by decide +kernel
theorem d_X9_coin_237 : decode oX9_coin.2.1 237 = .ok (.ifCond .eq 8, 3) := by decide +kernel
theorem d_X9_coin_240 : decode oX9_coin.2.1 240 = .ok (.iload 8, 2) := by decide +kernel
theorem d_X9_coin_242 : decode oX9_coin.2.1 242 = .ok (.goto 5, 3) := by decide +kernel
theorem d_X9_coin_245 : decode oX9_coin.2.1 245 = .ok (.iload 6, 2) := by decide +kernel
theorem d_X9_coin_247 : decode oX9_coin.2.1 247 = .ok (.istore 6, 2) := by decide +kernel
theorem d_X9_coin_249 : decode oX9_coin.2.1 249 = .ok (.iload 12, 2) := by decide +kernel
theorem d_X9_coin_251 : decode oX9_coin.2.1 251 = .ok (.ifCond .eq 8, 3) := by decide +kernel
theorem d_X9_coin_254 : decode oX9_coin.2.1 254 = .ok (.iload 10, 2) := by decide +kernel
theorem d_X9_coin_256 : decode oX9_coin.2.1 256 = .ok (.goto 5, 3) := by decide +kernel
theorem d_X9_coin_259 : decode oX9_coin.2.1 259 = .ok (.iload 7, 2) := by decide +kernel
theorem d_X9_coin_261 : decode oX9_coin.2.1 261 = .ok (.istore 7, 2) := by decide +kernel
theorem d_X9_coin_263 : decode oX9_coin.2.1 263 = .ok (.iinc 8 1, 3) := by decide +kernel
theorem d_X9_coin_266 : decode oX9_coin.2.1 266 = .ok (.goto (-186), 3) := by decide +kernel
theorem d_X9_coin_269 : decode oX9_coin.2.1 269 = .ok (.iload 6, 2) := by decide +kernel
theorem d_X9_coin_271 : decode oX9_coin.2.1 271 = .ok (.ifCond .ge 7, 3) := by decide +kernel
theorem d_X9_coin_274 : decode oX9_coin.2.1 274 = .ok (.iconst (-1), 1) := by decide +kernel
theorem d_X9_coin_275 : decode oX9_coin.2.1 275 = .ok (.goto 15, 3) := by decide +kernel
theorem d_X9_coin_278 : decode oX9_coin.2.1 278 = .ok (.iload 4, 2) := by decide +kernel
theorem d_X9_coin_280 : decode oX9_coin.2.1 280 = .ok (.ifCond .ne 8, 3) := by decide +kernel
theorem d_X9_coin_283 : decode oX9_coin.2.1 283 = .ok (.iload 7, 2) := by decide +kernel
theorem d_X9_coin_285 : decode oX9_coin.2.1 285 = .ok (.goto 5, 3) := by decide +kernel
theorem d_X9_coin_288 : decode oX9_coin.2.1 288 = .ok (.iload 6, 2) := by decide +kernel
theorem d_X9_coin_290 : decode oX9_coin.2.1 290 = .ok (.ireturn, 1) := by decide +kernel
theorem b_X9_coin_0 {E : ob_E} {σ : ob_Mem} {Q : Int32 → ob_Mem → Prop} {x1 x2 x3 x4 : Int32} (k : ob_RM shp E oX9_isPerson [.ref 53, .int x1] σ (ob_qI fun v2 σ1 => ((¬ v2 = 0 → ob_RM shp E oX9_in [.long (x2).toInt64, .long (0 : Int64), .long (999 : Int64)] σ1 (ob_qI fun v4 σ3 => ((v4 = 0 → Q (-1000000002 : Int32) σ3) ∧ (¬ v4 = 0 → ob_RM shp E oX9_in [.long (x3).toInt64, .long (1 : Int64), .long (9999 : Int64)] σ3 (ob_qI fun v6 σ5 => ((v6 = 0 → Q (-1000000002 : Int32) σ5) ∧ (¬ v6 = 0 → ob_RM shp E oX9_in [.long (x4).toInt64, .long (0 : Int64), .long (1 : Int64)] σ5 (ob_qI fun v8 σ7 => ((¬ v8 = 0 → (vp_in x1 6 ∧ ((¬ (σ7.1 62 (x1).toNatClampNeg) = 0 → ob_RM shp E oX9_olderBy [.ref 53, .int x1, .int x3, .int (-1 : Int32)] σ7 (ob_qI fun v10 σ9 => ob_RT shp E oX9_coin 80 [.ref 53, .int x1, .int x2, .int x3, .int x4, .int v10, .int (-1 : Int32), .int (0 : Int32), .int (0 : Int32), .null, .null, .null, .null] [] σ9 (ob_qI Q))) ∧ ((σ7.1 62 (x1).toNatClampNeg) = 0 → Q (-1000000003 : Int32) σ7)))) ∧ (v8 = 0 → Q (-1000000002 : Int32) σ7)))))))))) ∧ (v2 = 0 → Q (-1000000001 : Int32) σ1)))) : ob_RT shp E oX9_coin 0 [.ref 53, .int x1, .int x2, .int x3, .int x4, .null, .null, .null, .null, .null, .null, .null, .null] [] σ (ob_qI Q) := by
  refine ob_aload_n d_X9_coin_0 rfl ?_
  refine ob_iload_n d_X9_coin_1 rfl ?_
  refine ob_callV [.int x1] (z := oX9_isPerson) (st := []) d_X9_coin_2 lk_X9_237 mv_X9_isPerson rfl sh_53 cl_9 rfl (Nat.le_of_ble_eq_true rfl) rfl k (ob_kI fun v2 σ1 k => ?_)
  refine ob_if_ne (tgt := 11) d_X9_coin_5 rfl (fun cc => ?_) (fun cc => ?_)
  · have k := k.1 cc
    refine ob_iload_n d_X9_coin_11 rfl ?_
    refine ob_i2l d_X9_coin_12 ?_
    refine ob_lconst (v := 0) d_X9_coin_13 rfl ?_
    refine ob_ldc2 (v := 999) d_X9_coin_14 k_X9_257 ?_
    refine ob_callS [.long (x2).toInt64, .long (0 : Int64), .long (999 : Int64)] (z := oX9_in) (st := []) d_X9_coin_17 lk_X9_111 ms_X9_in rfl (Nat.le_of_ble_eq_true rfl) rfl k (ob_kI fun v4 σ3 k => ?_)
    refine ob_if_eq (tgt := 46) d_X9_coin_20 rfl (fun cc => ?_) (fun cc => ?_)
    · have k := k.1 cc
      refine ob_ldc (v := -1000000002) d_X9_coin_46 k_X9_123 ?_
      exact ob_iret d_X9_coin_48 rfl ⟨_, rfl, k⟩
    · have k := k.2 cc
      refine ob_iload_n d_X9_coin_23 rfl ?_
      refine ob_i2l d_X9_coin_24 ?_
      refine ob_lconst (v := 1) d_X9_coin_25 rfl ?_
      refine ob_ldc2 (v := 9999) d_X9_coin_26 k_X9_266 ?_
      refine ob_callS [.long (x3).toInt64, .long (1 : Int64), .long (9999 : Int64)] (z := oX9_in) (st := []) d_X9_coin_29 lk_X9_111 ms_X9_in rfl (Nat.le_of_ble_eq_true rfl) rfl k (ob_kI fun v6 σ5 k => ?_)
      refine ob_if_eq (tgt := 46) d_X9_coin_32 rfl (fun cc => ?_) (fun cc => ?_)
      · have k := k.1 cc
        refine ob_ldc (v := -1000000002) d_X9_coin_46 k_X9_123 ?_
        exact ob_iret d_X9_coin_48 rfl ⟨_, rfl, k⟩
      · have k := k.2 cc
        refine ob_iload d_X9_coin_35 rfl ?_
        refine ob_i2l d_X9_coin_37 ?_
        refine ob_lconst (v := 0) d_X9_coin_38 rfl ?_
        refine ob_lconst (v := 1) d_X9_coin_39 rfl ?_
        refine ob_callS [.long (x4).toInt64, .long (0 : Int64), .long (1 : Int64)] (z := oX9_in) (st := []) d_X9_coin_40 lk_X9_111 ms_X9_in rfl (Nat.le_of_ble_eq_true rfl) rfl k (ob_kI fun v8 σ7 k => ?_)
        refine ob_if_ne (tgt := 49) d_X9_coin_43 rfl (fun cc => ?_) (fun cc => ?_)
        · have k := k.1 cc
          refine ob_aload_n d_X9_coin_49 rfl ?_
          refine ob_getR d_X9_coin_50 fl_X9_38 sh_53 rfl rfl ?_
          refine ob_iload_n d_X9_coin_53 rfl ?_
          obtain ⟨hin, k⟩ := k
          refine ob_zald d_X9_coin_54 sh_62 hin ?_
          refine ob_if_ne (tgt := 62) d_X9_coin_55 rfl (fun cc => ?_) (fun cc => ?_)
          · have k := k.1 cc
            refine ob_aload_n d_X9_coin_62 rfl ?_
            refine ob_iload_n d_X9_coin_63 rfl ?_
            refine ob_iload_n d_X9_coin_64 rfl ?_
            refine ob_iconst (v := -1) d_X9_coin_65 ci_m1 ?_
            refine ob_callV [.int x1, .int x3, .int (-1 : Int32)] (z := oX9_olderBy) (st := []) d_X9_coin_66 lk_X9_290 mv_X9_olderBy rfl sh_53 cl_9 rfl (Nat.le_of_ble_eq_true rfl) rfl k (ob_kI fun v10 σ9 k => ?_)
            refine ob_istore (ls' := [.ref 53, .int x1, .int x2, .int x3, .int x4, .int v10, .null, .null, .null, .null, .null, .null, .null]) d_X9_coin_69 (Nat.le_of_ble_eq_true rfl) rfl ?_
            refine ob_iconst (v := -1) d_X9_coin_71 ci_m1 ?_
            refine ob_istore (ls' := [.ref 53, .int x1, .int x2, .int x3, .int x4, .int v10, .int (-1 : Int32), .null, .null, .null, .null, .null, .null]) d_X9_coin_72 (Nat.le_of_ble_eq_true rfl) rfl ?_
            refine ob_iconst (v := 0) d_X9_coin_74 ci_0 ?_
            refine ob_istore (ls' := [.ref 53, .int x1, .int x2, .int x3, .int x4, .int v10, .int (-1 : Int32), .int (0 : Int32), .null, .null, .null, .null, .null]) d_X9_coin_75 (Nat.le_of_ble_eq_true rfl) rfl ?_
            refine ob_iconst (v := 0) d_X9_coin_77 ci_0 ?_
            refine ob_istore (ls' := [.ref 53, .int x1, .int x2, .int x3, .int x4, .int v10, .int (-1 : Int32), .int (0 : Int32), .int (0 : Int32), .null, .null, .null, .null]) d_X9_coin_78 (Nat.le_of_ble_eq_true rfl) rfl ?_
            exact k
          · have k := k.2 cc
            refine ob_ldcw (v := -1000000003) d_X9_coin_58 k_X9_275 ?_
            exact ob_iret d_X9_coin_61 rfl ⟨_, rfl, k⟩
        · have k := k.2 cc
          refine ob_ldc (v := -1000000002) d_X9_coin_46 k_X9_123 ?_
          exact ob_iret d_X9_coin_48 rfl ⟨_, rfl, k⟩
  · have k := k.2 cc
    refine ob_ldc (v := -1000000001) d_X9_coin_8 k_X9_241 ?_
    exact ob_iret d_X9_coin_10 rfl ⟨_, rfl, k⟩
theorem b_X9_coin_80 {E : ob_E} {σ : ob_Mem} {Q : Int32 → ob_Mem → Prop} {x1 x2 x3 x4 x5 x6 x7 x8 : Int32} (k : ((((1 : Int32) <<< ((σ.1 53 4) &&& 31)) ≤ x8 → ((0 ≤ x6 → ((¬ x4 = 0 → Q x6 σ) ∧ (x4 = 0 → Q x7 σ))) ∧ (¬ 0 ≤ x6 → Q (-1 : Int32) σ))) ∧ (¬ ((1 : Int32) <<< ((σ.1 53 4) &&& 31)) ≤ x8 → ob_RT shp E oX9_coin 104 [.ref 53, .int x1, .int x2, .int x3, .int x4, .int x5, .int x6, .int x7, .int x8, .int x5, .int (0 : Int32), .int (1 : Int32), .int (0 : Int32)] [] σ (ob_qI Q)))) : ob_RT shp E oX9_coin 80 [.ref 53, .int x1, .int x2, .int x3, .int x4, .int x5, .int x6, .int x7, .int x8, .null, .null, .null, .null] [] σ (ob_qI Q) := by
  refine ob_iload d_X9_coin_80 rfl ?_
  refine ob_iconst (v := 1) d_X9_coin_82 ci_1 ?_
  refine ob_aload_n d_X9_coin_83 rfl ?_
  refine ob_getI d_X9_coin_84 fl_X9_115 sh_53 rfl (by decide) ?_
  refine ob_ishl d_X9_coin_87 ?_
  refine ob_icmp_ge (tgt := 269) d_X9_coin_88 rfl (fun cc => ?_) (fun cc => ?_)
  · have k := k.1 cc
    refine ob_iload d_X9_coin_269 rfl ?_
    refine ob_if_ge (tgt := 278) d_X9_coin_271 rfl (fun cc => ?_) (fun cc => ?_)
    · have k := k.1 cc
      refine ob_iload d_X9_coin_278 rfl ?_
      refine ob_if_ne (tgt := 288) d_X9_coin_280 rfl (fun cc => ?_) (fun cc => ?_)
      · have k := k.1 cc
        refine ob_iload d_X9_coin_288 rfl ?_
        exact ob_iret d_X9_coin_290 rfl ⟨_, rfl, k⟩
      · have k := k.2 cc
        refine ob_iload d_X9_coin_283 rfl ?_
        refine ob_goto (tgt := 290) d_X9_coin_285 rfl ?_
        exact ob_iret d_X9_coin_290 rfl ⟨_, rfl, k⟩
    · have k := k.2 cc
      refine ob_iconst (v := -1) d_X9_coin_274 ci_m1 ?_
      refine ob_goto (tgt := 290) d_X9_coin_275 rfl ?_
      exact ob_iret d_X9_coin_290 rfl ⟨_, rfl, k⟩
  · have k := k.2 cc
    refine ob_iload d_X9_coin_91 rfl ?_
    refine ob_istore (ls' := [.ref 53, .int x1, .int x2, .int x3, .int x4, .int x5, .int x6, .int x7, .int x8, .int x5, .null, .null, .null]) d_X9_coin_93 (Nat.le_of_ble_eq_true rfl) rfl ?_
    refine ob_iconst (v := 0) d_X9_coin_95 ci_0 ?_
    refine ob_istore (ls' := [.ref 53, .int x1, .int x2, .int x3, .int x4, .int x5, .int x6, .int x7, .int x8, .int x5, .int (0 : Int32), .null, .null]) d_X9_coin_96 (Nat.le_of_ble_eq_true rfl) rfl ?_
    refine ob_iconst (v := 1) d_X9_coin_98 ci_1 ?_
    refine ob_istore (ls' := [.ref 53, .int x1, .int x2, .int x3, .int x4, .int x5, .int x6, .int x7, .int x8, .int x5, .int (0 : Int32), .int (1 : Int32), .null]) d_X9_coin_99 (Nat.le_of_ble_eq_true rfl) rfl ?_
    refine ob_iconst (v := 0) d_X9_coin_101 ci_0 ?_
    refine ob_istore (ls' := [.ref 53, .int x1, .int x2, .int x3, .int x4, .int x5, .int x6, .int x7, .int x8, .int x5, .int (0 : Int32), .int (1 : Int32), .int (0 : Int32)]) d_X9_coin_102 (Nat.le_of_ble_eq_true rfl) rfl ?_
    exact k
theorem b_X9_coin_104 {E : ob_E} {σ : ob_Mem} {Q : Int32 → ob_Mem → Prop} {x1 x2 x3 x4 x5 x6 x7 x8 x9 x10 x11 x12 : Int32} (k : (((σ.1 53 4) ≤ x12 → ((x11 = 0 → ob_RT shp E oX9_coin 232 [.ref 53, .int x1, .int x2, .int x3, .int x4, .int x5, .int x6, .int x7, .int x8, .int x9, .int x10, .int x11, .int x12] [] σ (ob_qI Q)) ∧ (¬ x11 = 0 → ((¬ x9 = x2 → ob_RT shp E oX9_coin 232 [.ref 53, .int x1, .int x2, .int x3, .int x4, .int x5, .int x6, .int x7, .int x8, .int x9, .int x10, .int x11, .int x12] [] σ (ob_qI Q)) ∧ (x9 = x2 → ((x6 < 0 → ob_RT shp E oX9_coin 228 [.ref 53, .int x1, .int x2, .int x3, .int x4, .int x5, .int x6, .int x7, .int x8, .int x9, .int x10, .int x11, .int x12] [] σ (ob_qI Q)) ∧ (¬ x6 < 0 → ((x7 ≤ x10 → ob_RT shp E oX9_coin 232 [.ref 53, .int x1, .int x2, .int x3, .int x4, .int x5, .int x6, .int x7, .int x8, .int x9, .int x10, .int x11, .int x12] [] σ (ob_qI Q)) ∧ (¬ x7 ≤ x10 → ob_RT shp E oX9_coin 228 [.ref 53, .int x1, .int x2, .int x3, .int x4, .int x5, .int x6, .int x7, .int x8, .int x9, .int x10, .int x11, .int x12] [] σ (ob_qI Q)))))))))) ∧ (¬ (σ.1 53 4) ≤ x12 → ob_RM shp E oX9_has [.int x8, .int x12] σ (ob_qI fun v2 σ1 => ((v2 = 0 → ob_RT shp E oX9_coin 104 [.ref 53, .int x1, .int x2, .int x3, .int x4, .int x5, .int x6, .int x7, .int x8, .int x9, .int x10, .int x11, .int (x12 + (1 : Int32))] [] σ1 (ob_qI Q)) ∧ (¬ v2 = 0 → ((x11 = 0 → ob_RT shp E oX9_coin 173 [.ref 53, .int x1, .int x2, .int x3, .int x4, .int x5, .int x6, .int x7, .int x8, .int x9, .int x10, .int x11, .int x12] [] σ1 (ob_qI Q)) ∧ (¬ x11 = 0 → (vp_in x12 8 ∧ (((σ1.1 63 (x12).toNatClampNeg) < 0 → ob_RT shp E oX9_coin 173 [.ref 53, .int x1, .int x2, .int x3, .int x4, .int x5, .int x6, .int x7, .int x8, .int x9, .int x10, .int x11, .int x12] [] σ1 (ob_qI Q)) ∧ (¬ (σ1.1 63 (x12).toNatClampNeg) < 0 → (vp_in x12 8 ∧ ((0 ≤ (σ1.1 64 (x12).toNatClampNeg) → ob_RT shp E oX9_coin 173 [.ref 53, .int x1, .int x2, .int x3, .int x4, .int x5, .int x6, .int x7, .int x8, .int x9, .int x10, .int x11, .int x12] [] σ1 (ob_qI Q)) ∧ (¬ 0 ≤ (σ1.1 64 (x12).toNatClampNeg) → (vp_in x12 8 ∧ (((σ1.1 63 (x12).toNatClampNeg) = x1 → ob_RT shp E oX9_coin 173 [.ref 53, .int x1, .int x2, .int x3, .int x4, .int x5, .int x6, .int x7, .int x8, .int x9, .int x10, .int x11, .int x12] [] σ1 (ob_qI Q)) ∧ (¬ (σ1.1 63 (x12).toNatClampNeg) = x1 → ob_RM shp E oX9_timesIn [.ref 53, .int x12, .int x3] σ1 (ob_qI fun v4 σ3 => ((v4 ≤ 0 → ob_RT shp E oX9_coin 173 [.ref 53, .int x1, .int x2, .int x3, .int x4, .int x5, .int x6, .int x7, .int x8, .int x9, .int x10, .int x11, .int x12] [] σ3 (ob_qI Q)) ∧ (¬ v4 ≤ 0 → ob_RT shp E oX9_coin 174 [.ref 53, .int x1, .int x2, .int x3, .int x4, .int x5, .int x6, .int x7, .int x8, .int x9, .int x10, .int x11, .int x12] [.int (1 : Int32)] σ3 (ob_qI Q))))))))))))))))))))) : ob_RT shp E oX9_coin 104 [.ref 53, .int x1, .int x2, .int x3, .int x4, .int x5, .int x6, .int x7, .int x8, .int x9, .int x10, .int x11, .int x12] [] σ (ob_qI Q) := by
  refine ob_iload d_X9_coin_104 rfl ?_
  refine ob_aload_n d_X9_coin_106 rfl ?_
  refine ob_getI d_X9_coin_107 fl_X9_115 sh_53 rfl (by decide) ?_
  refine ob_icmp_ge (tgt := 205) d_X9_coin_110 rfl (fun cc => ?_) (fun cc => ?_)
  · have k := k.1 cc
    refine ob_iload d_X9_coin_205 rfl ?_
    refine ob_if_eq (tgt := 232) d_X9_coin_207 rfl (fun cc => ?_) (fun cc => ?_)
    · have k := k.1 cc
      exact k
    · have k := k.2 cc
      refine ob_iload d_X9_coin_210 rfl ?_
      refine ob_iload_n d_X9_coin_212 rfl ?_
      refine ob_icmp_ne (tgt := 232) d_X9_coin_213 rfl (fun cc => ?_) (fun cc => ?_)
      · have k := k.1 cc
        exact k
      · have k := k.2 cc
        refine ob_iload d_X9_coin_216 rfl ?_
        refine ob_if_lt (tgt := 228) d_X9_coin_218 rfl (fun cc => ?_) (fun cc => ?_)
        · have k := k.1 cc
          exact k
        · have k := k.2 cc
          refine ob_iload d_X9_coin_221 rfl ?_
          refine ob_iload d_X9_coin_223 rfl ?_
          refine ob_icmp_ge (tgt := 232) d_X9_coin_225 rfl (fun cc => ?_) (fun cc => ?_)
          · have k := k.1 cc
            exact k
          · have k := k.2 cc
            exact k
  · have k := k.2 cc
    refine ob_iload d_X9_coin_113 rfl ?_
    refine ob_iload d_X9_coin_115 rfl ?_
    refine ob_callS [.int x8, .int x12] (z := oX9_has) (st := []) d_X9_coin_117 lk_X9_298 ms_X9_has rfl (Nat.le_of_ble_eq_true rfl) rfl k (ob_kI fun v2 σ1 k => ?_)
    refine ob_if_eq (tgt := 199) d_X9_coin_120 rfl (fun cc => ?_) (fun cc => ?_)
    · have k := k.1 cc
      refine ob_iinc (ls' := [.ref 53, .int x1, .int x2, .int x3, .int x4, .int x5, .int x6, .int x7, .int x8, .int x9, .int x10, .int x11, .int (x12 + (1 : Int32))]) (v := 1) d_X9_coin_199 rfl ci_1 (Nat.le_of_ble_eq_true rfl) rfl ?_
      refine ob_goto (tgt := 104) d_X9_coin_202 rfl ?_
      exact k
    · have k := k.2 cc
      refine ob_iload d_X9_coin_123 rfl ?_
      refine ob_if_eq (tgt := 173) d_X9_coin_125 rfl (fun cc => ?_) (fun cc => ?_)
      · have k := k.1 cc
        exact k
      · have k := k.2 cc
        refine ob_aload_n d_X9_coin_128 rfl ?_
        refine ob_getR d_X9_coin_129 fl_X9_42 sh_53 rfl rfl ?_
        refine ob_iload d_X9_coin_132 rfl ?_
        obtain ⟨hin, k⟩ := k
        refine ob_iald d_X9_coin_134 sh_63 hin ?_
        refine ob_if_lt (tgt := 173) d_X9_coin_135 rfl (fun cc => ?_) (fun cc => ?_)
        · have k := k.1 cc
          exact k
        · have k := k.2 cc
          refine ob_aload_n d_X9_coin_138 rfl ?_
          refine ob_getR d_X9_coin_139 fl_X9_45 sh_53 rfl rfl ?_
          refine ob_iload d_X9_coin_142 rfl ?_
          obtain ⟨hin, k⟩ := k
          refine ob_iald d_X9_coin_144 sh_64 hin ?_
          refine ob_if_ge (tgt := 173) d_X9_coin_145 rfl (fun cc => ?_) (fun cc => ?_)
          · have k := k.1 cc
            exact k
          · have k := k.2 cc
            refine ob_aload_n d_X9_coin_148 rfl ?_
            refine ob_getR d_X9_coin_149 fl_X9_42 sh_53 rfl rfl ?_
            refine ob_iload d_X9_coin_152 rfl ?_
            obtain ⟨hin, k⟩ := k
            refine ob_iald d_X9_coin_154 sh_63 hin ?_
            refine ob_iload_n d_X9_coin_155 rfl ?_
            refine ob_icmp_eq (tgt := 173) d_X9_coin_156 rfl (fun cc => ?_) (fun cc => ?_)
            · have k := k.1 cc
              exact k
            · have k := k.2 cc
              refine ob_aload_n d_X9_coin_159 rfl ?_
              refine ob_iload d_X9_coin_160 rfl ?_
              refine ob_iload_n d_X9_coin_162 rfl ?_
              refine ob_callV [.int x12, .int x3] (z := oX9_timesIn) (st := []) d_X9_coin_163 lk_X9_283 mv_X9_timesIn rfl sh_53 cl_9 rfl (Nat.le_of_ble_eq_true rfl) rfl k (ob_kI fun v4 σ3 k => ?_)
              refine ob_if_le (tgt := 173) d_X9_coin_166 rfl (fun cc => ?_) (fun cc => ?_)
              · have k := k.1 cc
                exact k
              · have k := k.2 cc
                refine ob_iconst (v := 1) d_X9_coin_169 ci_1 ?_
                refine ob_goto (tgt := 174) d_X9_coin_170 rfl ?_
                exact k
theorem b_X9_coin_173 {E : ob_E} {σ : ob_Mem} {Q : Int32 → ob_Mem → Prop} {x1 x2 x3 x4 x5 x6 x7 x8 x9 x10 x11 x12 : Int32} (k : ob_RT shp E oX9_coin 174 [.ref 53, .int x1, .int x2, .int x3, .int x4, .int x5, .int x6, .int x7, .int x8, .int x9, .int x10, .int x11, .int x12] [.int (0 : Int32)] σ (ob_qI Q)) : ob_RT shp E oX9_coin 173 [.ref 53, .int x1, .int x2, .int x3, .int x4, .int x5, .int x6, .int x7, .int x8, .int x9, .int x10, .int x11, .int x12] [] σ (ob_qI Q) := by
  refine ob_iconst (v := 0) d_X9_coin_173 ci_0 ?_
  exact k
theorem b_X9_coin_174 {E : ob_E} {σ : ob_Mem} {Q : Int32 → ob_Mem → Prop} {x1 x2 x3 x4 x5 x6 x7 x8 x9 x10 x11 x12 s0 : Int32} (k : ob_RM shp E oX9_timesIn [.ref 53, .int x12, .int x3] σ (ob_qI fun v2 σ1 => ob_RM shp E oX9_seasonOf [.ref 53, .int x12] σ1 (ob_qI fun v4 σ3 => ob_RT shp E oX9_coin 104 [.ref 53, .int x1, .int x2, .int x3, .int x4, .int x5, .int x6, .int x7, .int x8, .int (x9 + v2), .int (x10 + v4), .int s0, .int (x12 + (1 : Int32))] [] σ3 (ob_qI Q)))) : ob_RT shp E oX9_coin 174 [.ref 53, .int x1, .int x2, .int x3, .int x4, .int x5, .int x6, .int x7, .int x8, .int x9, .int x10, .int x11, .int x12] [.int s0] σ (ob_qI Q) := by
  refine ob_istore (ls' := [.ref 53, .int x1, .int x2, .int x3, .int x4, .int x5, .int x6, .int x7, .int x8, .int x9, .int x10, .int s0, .int x12]) d_X9_coin_174 (Nat.le_of_ble_eq_true rfl) rfl ?_
  refine ob_iload d_X9_coin_176 rfl ?_
  refine ob_aload_n d_X9_coin_178 rfl ?_
  refine ob_iload d_X9_coin_179 rfl ?_
  refine ob_iload_n d_X9_coin_181 rfl ?_
  refine ob_callV [.int x12, .int x3] (z := oX9_timesIn) (st := [.int x9]) d_X9_coin_182 lk_X9_283 mv_X9_timesIn rfl sh_53 cl_9 rfl (Nat.le_of_ble_eq_true rfl) rfl k (ob_kI fun v2 σ1 k => ?_)
  refine ob_iadd d_X9_coin_185 ?_
  refine ob_istore (ls' := [.ref 53, .int x1, .int x2, .int x3, .int x4, .int x5, .int x6, .int x7, .int x8, .int (x9 + v2), .int x10, .int s0, .int x12]) d_X9_coin_186 (Nat.le_of_ble_eq_true rfl) rfl ?_
  refine ob_iload d_X9_coin_188 rfl ?_
  refine ob_aload_n d_X9_coin_190 rfl ?_
  refine ob_iload d_X9_coin_191 rfl ?_
  refine ob_callV [.int x12] (z := oX9_seasonOf) (st := [.int x10]) d_X9_coin_193 lk_X9_254 mv_X9_seasonOf rfl sh_53 cl_9 rfl (Nat.le_of_ble_eq_true rfl) rfl k (ob_kI fun v4 σ3 k => ?_)
  refine ob_iadd d_X9_coin_196 ?_
  refine ob_istore (ls' := [.ref 53, .int x1, .int x2, .int x3, .int x4, .int x5, .int x6, .int x7, .int x8, .int (x9 + v2), .int (x10 + v4), .int s0, .int x12]) d_X9_coin_197 (Nat.le_of_ble_eq_true rfl) rfl ?_
  refine ob_iinc (ls' := [.ref 53, .int x1, .int x2, .int x3, .int x4, .int x5, .int x6, .int x7, .int x8, .int (x9 + v2), .int (x10 + v4), .int s0, .int (x12 + (1 : Int32))]) (v := 1) d_X9_coin_199 rfl ci_1 (Nat.le_of_ble_eq_true rfl) rfl ?_
  refine ob_goto (tgt := 104) d_X9_coin_202 rfl ?_
  exact k
theorem b_X9_coin_228 {E : ob_E} {σ : ob_Mem} {Q : Int32 → ob_Mem → Prop} {x1 x2 x3 x4 x5 x6 x7 x8 x9 x10 x11 x12 : Int32} (k : ob_RT shp E oX9_coin 233 [.ref 53, .int x1, .int x2, .int x3, .int x4, .int x5, .int x6, .int x7, .int x8, .int x9, .int x10, .int x11, .int x12] [.int (1 : Int32)] σ (ob_qI Q)) : ob_RT shp E oX9_coin 228 [.ref 53, .int x1, .int x2, .int x3, .int x4, .int x5, .int x6, .int x7, .int x8, .int x9, .int x10, .int x11, .int x12] [] σ (ob_qI Q) := by
  refine ob_iconst (v := 1) d_X9_coin_228 ci_1 ?_
  refine ob_goto (tgt := 233) d_X9_coin_229 rfl ?_
  exact k
theorem b_X9_coin_232 {E : ob_E} {σ : ob_Mem} {Q : Int32 → ob_Mem → Prop} {x1 x2 x3 x4 x5 x6 x7 x8 x9 x10 x11 x12 : Int32} (k : ob_RT shp E oX9_coin 233 [.ref 53, .int x1, .int x2, .int x3, .int x4, .int x5, .int x6, .int x7, .int x8, .int x9, .int x10, .int x11, .int x12] [.int (0 : Int32)] σ (ob_qI Q)) : ob_RT shp E oX9_coin 232 [.ref 53, .int x1, .int x2, .int x3, .int x4, .int x5, .int x6, .int x7, .int x8, .int x9, .int x10, .int x11, .int x12] [] σ (ob_qI Q) := by
  refine ob_iconst (v := 0) d_X9_coin_232 ci_0 ?_
  exact k
theorem b_X9_coin_233 {E : ob_E} {σ : ob_Mem} {Q : Int32 → ob_Mem → Prop} {x1 x2 x3 x4 x5 x6 x7 x8 x9 x10 x11 x12 s0 : Int32} (k : ((s0 = 0 → ob_RT shp E oX9_coin 247 [.ref 53, .int x1, .int x2, .int x3, .int x4, .int x5, .int x6, .int x7, .int x8, .int x9, .int x10, .int x11, .int s0] [.int x6] σ (ob_qI Q)) ∧ (¬ s0 = 0 → ob_RT shp E oX9_coin 247 [.ref 53, .int x1, .int x2, .int x3, .int x4, .int x5, .int x6, .int x7, .int x8, .int x9, .int x10, .int x11, .int s0] [.int x8] σ (ob_qI Q)))) : ob_RT shp E oX9_coin 233 [.ref 53, .int x1, .int x2, .int x3, .int x4, .int x5, .int x6, .int x7, .int x8, .int x9, .int x10, .int x11, .int x12] [.int s0] σ (ob_qI Q) := by
  refine ob_istore (ls' := [.ref 53, .int x1, .int x2, .int x3, .int x4, .int x5, .int x6, .int x7, .int x8, .int x9, .int x10, .int x11, .int s0]) d_X9_coin_233 (Nat.le_of_ble_eq_true rfl) rfl ?_
  refine ob_iload d_X9_coin_235 rfl ?_
  refine ob_if_eq (tgt := 245) d_X9_coin_237 rfl (fun cc => ?_) (fun cc => ?_)
  · have k := k.1 cc
    refine ob_iload d_X9_coin_245 rfl ?_
    exact k
  · have k := k.2 cc
    refine ob_iload d_X9_coin_240 rfl ?_
    refine ob_goto (tgt := 247) d_X9_coin_242 rfl ?_
    exact k
theorem b_X9_coin_247 {E : ob_E} {σ : ob_Mem} {Q : Int32 → ob_Mem → Prop} {x1 x2 x3 x4 x5 x6 x7 x8 x9 x10 x11 x12 s0 : Int32} (k : ((x12 = 0 → ob_RT shp E oX9_coin 80 [.ref 53, .int x1, .int x2, .int x3, .int x4, .int x5, .int s0, .int x7, .int (x8 + (1 : Int32)), .null, .null, .null, .null] [] σ (ob_qI Q)) ∧ (¬ x12 = 0 → ob_RT shp E oX9_coin 80 [.ref 53, .int x1, .int x2, .int x3, .int x4, .int x5, .int s0, .int x10, .int (x8 + (1 : Int32)), .null, .null, .null, .null] [] σ (ob_qI Q)))) : ob_RT shp E oX9_coin 247 [.ref 53, .int x1, .int x2, .int x3, .int x4, .int x5, .int x6, .int x7, .int x8, .int x9, .int x10, .int x11, .int x12] [.int s0] σ (ob_qI Q) := by
  refine ob_istore (ls' := [.ref 53, .int x1, .int x2, .int x3, .int x4, .int x5, .int s0, .int x7, .int x8, .int x9, .int x10, .int x11, .int x12]) d_X9_coin_247 (Nat.le_of_ble_eq_true rfl) rfl ?_
  refine ob_iload d_X9_coin_249 rfl ?_
  refine ob_if_eq (tgt := 259) d_X9_coin_251 rfl (fun cc => ?_) (fun cc => ?_)
  · have k := k.1 cc
    refine ob_iload d_X9_coin_259 rfl ?_
    refine ob_istore (ls' := [.ref 53, .int x1, .int x2, .int x3, .int x4, .int x5, .int s0, .int x7, .int x8, .int x9, .int x10, .int x11, .int x12]) d_X9_coin_261 (Nat.le_of_ble_eq_true rfl) rfl ?_
    refine ob_iinc (ls' := [.ref 53, .int x1, .int x2, .int x3, .int x4, .int x5, .int s0, .int x7, .int (x8 + (1 : Int32)), .int x9, .int x10, .int x11, .int x12]) (v := 1) d_X9_coin_263 rfl ci_1 (Nat.le_of_ble_eq_true rfl) rfl ?_
    refine ob_goto (tgt := 80) d_X9_coin_266 rfl ?_
    refine ob_drop 9 (ls' := [.ref 53, .int x1, .int x2, .int x3, .int x4, .int x5, .int s0, .int x7, .int (x8 + (1 : Int32)), .null, .int x10, .int x11, .int x12]) rfl ?_
    refine ob_drop 10 (ls' := [.ref 53, .int x1, .int x2, .int x3, .int x4, .int x5, .int s0, .int x7, .int (x8 + (1 : Int32)), .null, .null, .int x11, .int x12]) rfl ?_
    refine ob_drop 11 (ls' := [.ref 53, .int x1, .int x2, .int x3, .int x4, .int x5, .int s0, .int x7, .int (x8 + (1 : Int32)), .null, .null, .null, .int x12]) rfl ?_
    refine ob_drop 12 (ls' := [.ref 53, .int x1, .int x2, .int x3, .int x4, .int x5, .int s0, .int x7, .int (x8 + (1 : Int32)), .null, .null, .null, .null]) rfl ?_
    exact k
  · have k := k.2 cc
    refine ob_iload d_X9_coin_254 rfl ?_
    refine ob_goto (tgt := 261) d_X9_coin_256 rfl ?_
    refine ob_istore (ls' := [.ref 53, .int x1, .int x2, .int x3, .int x4, .int x5, .int s0, .int x10, .int x8, .int x9, .int x10, .int x11, .int x12]) d_X9_coin_261 (Nat.le_of_ble_eq_true rfl) rfl ?_
    refine ob_iinc (ls' := [.ref 53, .int x1, .int x2, .int x3, .int x4, .int x5, .int s0, .int x10, .int (x8 + (1 : Int32)), .int x9, .int x10, .int x11, .int x12]) (v := 1) d_X9_coin_263 rfl ci_1 (Nat.le_of_ble_eq_true rfl) rfl ?_
    refine ob_goto (tgt := 80) d_X9_coin_266 rfl ?_
    refine ob_drop 9 (ls' := [.ref 53, .int x1, .int x2, .int x3, .int x4, .int x5, .int s0, .int x10, .int (x8 + (1 : Int32)), .null, .int x10, .int x11, .int x12]) rfl ?_
    refine ob_drop 10 (ls' := [.ref 53, .int x1, .int x2, .int x3, .int x4, .int x5, .int s0, .int x10, .int (x8 + (1 : Int32)), .null, .null, .int x11, .int x12]) rfl ?_
    refine ob_drop 11 (ls' := [.ref 53, .int x1, .int x2, .int x3, .int x4, .int x5, .int s0, .int x10, .int (x8 + (1 : Int32)), .null, .null, .null, .int x12]) rfl ?_
    refine ob_drop 12 (ls' := [.ref 53, .int x1, .int x2, .int x3, .int x4, .int x5, .int s0, .int x10, .int (x8 + (1 : Int32)), .null, .null, .null, .null]) rfl ?_
    exact k
theorem d_X9_life_0 : decode oX9_life.2.1 0 = .ok (.aload_n 0, 1) := by decide +kernel
theorem d_X9_life_1 : decode oX9_life.2.1 1 = .ok (.iload_n 1, 1) := by decide +kernel
theorem d_X9_life_2 : decode oX9_life.2.1 2 = .ok (.invokevirtual 237, 3) := by decide +kernel
theorem d_X9_life_5 : decode oX9_life.2.1 5 = .ok (.ifCond .ne 6, 3) := by decide +kernel
theorem d_X9_life_8 : decode oX9_life.2.1 8 = .ok (.ldc 241, 2) := by decide +kernel
theorem d_X9_life_10 : decode oX9_life.2.1 10 = .ok (.ireturn, 1) := by decide +kernel
theorem d_X9_life_11 : decode oX9_life.2.1 11 = .ok (.iload_n 2, 1) := by decide +kernel
theorem d_X9_life_12 : decode oX9_life.2.1 12 = .ok (.i2l, 1) := by decide +kernel
theorem d_X9_life_13 : decode oX9_life.2.1 13 = .ok (.lconst 1, 1) := by decide +kernel
theorem d_X9_life_14 : decode oX9_life.2.1 14 = .ok (.ldc2_w 302, 3) := by decide +kernel
theorem d_X9_life_17 : decode oX9_life.2.1 17 = .ok (.invokestatic 111, 3) := by decide +kernel
theorem d_X9_life_20 : decode oX9_life.2.1 20 = .ok (.ifCond .ne 6, 3) := by decide +kernel
theorem d_X9_life_23 : decode oX9_life.2.1 23 = .ok (.ldc 123, 2) := by decide +kernel
theorem d_X9_life_25 : decode oX9_life.2.1 25 = .ok (.ireturn, 1) := by decide +kernel
theorem d_X9_life_26 : decode oX9_life.2.1 26 = .ok (.iload_n 2, 1) := by decide +kernel
theorem d_X9_life_27 : decode oX9_life.2.1 27 = .ok (.istore 4, 2) := by decide +kernel
theorem d_X9_life_29 : decode oX9_life.2.1 29 = .ok (.iload 4, 2) := by decide +kernel
theorem d_X9_life_31 : decode oX9_life.2.1 31 = .ok (.ifCond .lt 138, 3) := by decide +kernel
theorem d_X9_life_34 : decode oX9_life.2.1 34 = .ok (.iconst 0, 1) := by decide +kernel
theorem d_X9_life_35 : decode oX9_life.2.1 35 = .ok (.istore 5, 2) := by decide +kernel
theorem d_X9_life_37 : decode oX9_life.2.1 37 = .ok (.iload 5, 2) := by decide +kernel
theorem d_X9_life_39 : decode oX9_life.2.1 39 = .ok (.iload 4, 2) := by decide +kernel
theorem d_X9_life_41 : decode oX9_life.2.1 41 = .ok (.if_icmp .gt 122, 3) := by decide +kernel
theorem d_X9_life_44 : decode oX9_life.2.1 44 = .ok (.iload 4, 2) := by decide +kernel
theorem d_X9_life_46 : decode oX9_life.2.1 46 = .ok (.iload_n 2, 1) := by decide +kernel
theorem d_X9_life_47 : decode oX9_life.2.1 47 = .ok (.if_icmp .ne 7, 3) := by decide +kernel
theorem d_X9_life_50 : decode oX9_life.2.1 50 = .ok (.iconst 0, 1) := by decide +kernel
theorem d_X9_life_51 : decode oX9_life.2.1 51 = .ok (.goto 32, 3) := by decide +kernel
theorem d_X9_life_54 : decode oX9_life.2.1 54 = .ok (.aload_n 0, 1) := by decide +kernel
theorem d_X9_life_55 : decode oX9_life.2.1 55 = .ok (.aload_n 0, 1) := by decide +kernel
theorem d_X9_life_56 : decode oX9_life.2.1 56 = .ok (.getfield 32, 3) := by decide +kernel
theorem d_X9_life_59 : decode oX9_life.2.1 59 = .ok (.iload_n 1, 1) := by decide +kernel
theorem d_X9_life_60 : decode oX9_life.2.1 60 = .ok (.iaload, 1) := by decide +kernel
theorem d_X9_life_61 : decode oX9_life.2.1 61 = .ok (.iload 5, 2) := by decide +kernel
theorem d_X9_life_63 : decode oX9_life.2.1 63 = .ok (.iadd, 1) := by decide +kernel
theorem d_X9_life_64 : decode oX9_life.2.1 64 = .ok (.invokevirtual 259, 3) := by decide +kernel
theorem d_X9_life_67 : decode oX9_life.2.1 67 = .ok (.aload_n 0, 1) := by decide +kernel
theorem d_X9_life_68 : decode oX9_life.2.1 68 = .ok (.getfield 75, 3) := by decide +kernel
theorem d_X9_life_71 : decode oX9_life.2.1 71 = .ok (.bipush 61, 2) := by decide +kernel
theorem d_X9_life_73 : decode oX9_life.2.1 73 = .ok (.iload 4, 2) := by decide +kernel
theorem d_X9_life_75 : decode oX9_life.2.1 75 = .ok (.iconst 1, 1) := by decide +kernel
theorem d_X9_life_76 : decode oX9_life.2.1 76 = .ok (.iadd, 1) := by decide +kernel
theorem d_X9_life_77 : decode oX9_life.2.1 77 = .ok (.imul, 1) := by decide +kernel
theorem d_X9_life_78 : decode oX9_life.2.1 78 = .ok (.iload 5, 2) := by decide +kernel
theorem d_X9_life_80 : decode oX9_life.2.1 80 = .ok (.iadd, 1) := by decide +kernel
theorem d_X9_life_81 : decode oX9_life.2.1 81 = .ok (.iaload, 1) := by decide +kernel
theorem d_X9_life_82 : decode oX9_life.2.1 82 = .ok (.iadd, 1) := by decide +kernel
theorem d_X9_life_83 : decode oX9_life.2.1 83 = .ok (.istore 6, 2) := by decide +kernel
theorem d_X9_life_85 : decode oX9_life.2.1 85 = .ok (.iload 4, 2) := by decide +kernel
theorem d_X9_life_87 : decode oX9_life.2.1 87 = .ok (.iload_n 2, 1) := by decide +kernel
theorem d_X9_life_88 : decode oX9_life.2.1 88 = .ok (.if_icmp .ne 7, 3) := by decide +kernel
theorem d_X9_life_91 : decode oX9_life.2.1 91 = .ok (.iconst 0, 1) := by decide +kernel
theorem d_X9_life_92 : decode oX9_life.2.1 92 = .ok (.goto 36, 3) := by decide +kernel
theorem d_X9_life_95 : decode oX9_life.2.1 95 = .ok (.aload_n 0, 1) := by decide +kernel
theorem d_X9_life_96 : decode oX9_life.2.1 96 = .ok (.aload_n 0, 1) := by decide +kernel
theorem d_X9_life_97 : decode oX9_life.2.1 97 = .ok (.getfield 32, 3) := by decide +kernel
theorem d_X9_life_100 : decode oX9_life.2.1 100 = .ok (.iload_n 1, 1) := by decide +kernel
theorem d_X9_life_101 : decode oX9_life.2.1 101 = .ok (.iaload, 1) := by decide +kernel
theorem d_X9_life_102 : decode oX9_life.2.1 102 = .ok (.iload 5, 2) := by decide +kernel
theorem d_X9_life_104 : decode oX9_life.2.1 104 = .ok (.iadd, 1) := by decide +kernel
theorem d_X9_life_105 : decode oX9_life.2.1 105 = .ok (.iconst 1, 1) := by decide +kernel
theorem d_X9_life_106 : decode oX9_life.2.1 106 = .ok (.iadd, 1) := by decide +kernel
theorem d_X9_life_107 : decode oX9_life.2.1 107 = .ok (.invokevirtual 259, 3) := by decide +kernel
theorem d_X9_life_110 : decode oX9_life.2.1 110 = .ok (.aload_n 0, 1) := by decide +kernel
theorem d_X9_life_111 : decode oX9_life.2.1 111 = .ok (.getfield 75, 3) := by decide +kernel
theorem d_X9_life_114 : decode oX9_life.2.1 114 = .ok (.bipush 61, 2) := by decide +kernel
theorem d_X9_life_116 : decode oX9_life.2.1 116 = .ok (.iload 4, 2) := by decide +kernel
theorem d_X9_life_118 : decode oX9_life.2.1 118 = .ok (.iconst 1, 1) := by decide +kernel
theorem d_X9_life_119 : decode oX9_life.2.1 119 = .ok (.iadd, 1) := by decide +kernel
theorem d_X9_life_120 : decode oX9_life.2.1 120 = .ok (.imul, 1) := by decide +kernel
theorem d_X9_life_121 : decode oX9_life.2.1 121 = .ok (.iload 5, 2) := by decide +kernel
theorem d_X9_life_123 : decode oX9_life.2.1 123 = .ok (.iadd, 1) := by decide +kernel
theorem d_X9_life_124 : decode oX9_life.2.1 124 = .ok (.iconst 1, 1) := by decide +kernel
theorem d_X9_life_125 : decode oX9_life.2.1 125 = .ok (.iadd, 1) := by decide +kernel
theorem d_X9_life_126 : decode oX9_life.2.1 126 = .ok (.iaload, 1) := by decide +kernel
theorem d_X9_life_127 : decode oX9_life.2.1 127 = .ok (.iadd, 1) := by decide +kernel
theorem d_X9_life_128 : decode oX9_life.2.1 128 = .ok (.istore 7, 2) := by decide +kernel
theorem d_X9_life_130 : decode oX9_life.2.1 130 = .ok (.aload_n 0, 1) := by decide +kernel
theorem d_X9_life_131 : decode oX9_life.2.1 131 = .ok (.getfield 75, 3) := by decide +kernel
theorem d_X9_life_134 : decode oX9_life.2.1 134 = .ok (.bipush 61, 2) := by decide +kernel
theorem d_X9_life_136 : decode oX9_life.2.1 136 = .ok (.iload 4, 2) := by decide +kernel
theorem d_X9_life_138 : decode oX9_life.2.1 138 = .ok (.imul, 1) := by decide +kernel
theorem d_X9_life_139 : decode oX9_life.2.1 139 = .ok (.iload 5, 2) := by decide +kernel
theorem d_X9_life_141 : decode oX9_life.2.1 141 = .ok (.iadd, 1) := by decide +kernel
theorem d_X9_life_142 : decode oX9_life.2.1 142 = .ok (.iload 7, 2) := by decide +kernel
theorem d_X9_life_144 : decode oX9_life.2.1 144 = .ok (.iload 6, 2) := by decide +kernel
theorem d_X9_life_146 : decode oX9_life.2.1 146 = .ok (.if_icmp .le 8, 3) := by decide +kernel
theorem d_X9_life_149 : decode oX9_life.2.1 149 = .ok (.iload 7, 2) := by decide +kernel
theorem d_X9_life_151 : decode oX9_life.2.1 151 = .ok (.goto 5, 3) := by decide +kernel
theorem d_X9_life_154 : decode oX9_life.2.1 154 = .ok (.iload 6, 2) := by decide +kernel
theorem d_X9_life_156 : decode oX9_life.2.1 156 = .ok (.iastore, 1) := by decide +kernel
theorem d_X9_life_157 : decode oX9_life.2.1 157 = .ok (.iinc 5 1, 3) := by decide +kernel
theorem d_X9_life_160 : decode oX9_life.2.1 160 = .ok (.goto (-123), 3) := by decide +kernel
theorem d_X9_life_163 : decode oX9_life.2.1 163 = .ok (.iinc 4 (-1), 3) := by decide +kernel
theorem d_X9_life_166 : decode oX9_life.2.1 166 = .ok (.goto (-137), 3) := by decide +kernel
theorem d_X9_life_169 : decode oX9_life.2.1 169 = .ok (.iload_n 3, 1) := by decide +kernel
theorem d_X9_life_170 : decode oX9_life.2.1 170 = .ok (.iconst (-1), 1) := by decide +kernel
theorem d_X9_life_171 : decode oX9_life.2.1 171 = .ok (.if_icmp .ne 10, 3) := by decide +kernel
theorem d_X9_life_174 : decode oX9_life.2.1 174 = .ok (.aload_n 0, 1) := by decide +kernel
theorem d_X9_life_175 : decode oX9_life.2.1 175 = .ok (.getfield 75, 3) := by decide +kernel
theorem d_X9_life_178 : decode oX9_life.2.1 178 = .ok (.iconst 0, 1) := by decide +kernel
theorem d_X9_life_179 : decode oX9_life.2.1 179 = .ok (.iaload, 1) := by decide +kernel
theorem d_X9_life_180 : decode oX9_life.2.1 180 = .ok (.ireturn, 1) := by decide +kernel
theorem d_X9_life_181 : decode oX9_life.2.1 181 = .ok (.iload_n 3, 1) := by decide +kernel
theorem d_X9_life_182 : decode oX9_life.2.1 182 = .ok (.i2l, 1) := by decide +kernel
theorem d_X9_life_183 : decode oX9_life.2.1 183 = .ok (.lconst 0, 1) := by decide +kernel
theorem d_X9_life_184 : decode oX9_life.2.1 184 = .ok (.iload_n 2, 1) := by decide +kernel
theorem d_X9_life_185 : decode oX9_life.2.1 185 = .ok (.iconst 1, 1) := by decide +kernel
theorem d_X9_life_186 : decode oX9_life.2.1 186 = .ok (.isub, 1) := by decide +kernel
theorem d_X9_life_187 : decode oX9_life.2.1 187 = .ok (.i2l, 1) := by decide +kernel
theorem d_X9_life_188 : decode oX9_life.2.1 188 = .ok (.invokestatic 111, 3) := by decide +kernel
theorem d_X9_life_191 : decode oX9_life.2.1 191 = .ok (.ifCond .ne 5, 3) := by decide +kernel
theorem d_X9_life_194 : decode oX9_life.2.1 194 = .ok (.iconst (-1), 1) := by decide +kernel
theorem d_X9_life_195 : decode oX9_life.2.1 195 = .ok (.ireturn, 1) := by decide +kernel
theorem d_X9_life_196 : decode oX9_life.2.1 196 = .ok (.iconst 0, 1) := by decide +kernel
theorem d_X9_life_197 : decode oX9_life.2.1 197 = .ok (.istore 4, 2) := by decide +kernel
theorem d_X9_life_199 : decode oX9_life.2.1 199 = .ok (.iconst 0, 1) := by decide +kernel
theorem d_X9_life_200 : decode oX9_life.2.1 200 = .ok (.istore 5, 2) := by decide +kernel
theorem d_X9_life_202 : decode oX9_life.2.1 202 = .ok (.iconst 0, 1) := by decide +kernel
theorem d_X9_life_203 : decode oX9_life.2.1 203 = .ok (.istore 6, 2) := by decide +kernel
theorem d_X9_life_205 : decode oX9_life.2.1 205 = .ok (.iload 6, 2) := by decide +kernel
theorem d_X9_life_207 : decode oX9_life.2.1 207 = .ok (.iload_n 3, 1) := by decide +kernel
theorem d_X9_life_208 : decode oX9_life.2.1 208 = .ok (.if_icmp .gt 72, 3) := by decide +kernel
theorem d_X9_life_211 : decode oX9_life.2.1 211 = .ok (.aload_n 0, 1) := by decide +kernel
theorem d_X9_life_212 : decode oX9_life.2.1 212 = .ok (.aload_n 0, 1) := by decide +kernel
theorem d_X9_life_213 : decode oX9_life.2.1 213 = .ok (.getfield 32, 3) := by decide +kernel
theorem d_X9_life_216 : decode oX9_life.2.1 216 = .ok (.iload_n 1, 1) := by decide +kernel
theorem d_X9_life_217 : decode oX9_life.2.1 217 = .ok (.iaload, 1) := by decide +kernel
theorem d_X9_life_218 : decode oX9_life.2.1 218 = .ok (.iload 4, 2) := by decide +kernel
theorem d_X9_life_220 : decode oX9_life.2.1 220 = .ok (.iadd, 1) := by decide +kernel
theorem d_X9_life_221 : decode oX9_life.2.1 221 = .ok (.invokevirtual 259, 3) := by decide +kernel
theorem d_X9_life_224 : decode oX9_life.2.1 224 = .ok (.aload_n 0, 1) := by decide +kernel
theorem d_X9_life_225 : decode oX9_life.2.1 225 = .ok (.getfield 75, 3) := by decide +kernel
theorem d_X9_life_228 : decode oX9_life.2.1 228 = .ok (.bipush 61, 2) := by decide +kernel
theorem d_X9_life_230 : decode oX9_life.2.1 230 = .ok (.iload 6, 2) := by decide +kernel
theorem d_X9_life_232 : decode oX9_life.2.1 232 = .ok (.iconst 1, 1) := by decide +kernel
theorem d_X9_life_233 : decode oX9_life.2.1 233 = .ok (.iadd, 1) := by decide +kernel
theorem d_X9_life_234 : decode oX9_life.2.1 234 = .ok (.imul, 1) := by decide +kernel
theorem d_X9_life_235 : decode oX9_life.2.1 235 = .ok (.iload 4, 2) := by decide +kernel
theorem d_X9_life_237 : decode oX9_life.2.1 237 = .ok (.iadd, 1) := by decide +kernel
theorem d_X9_life_238 : decode oX9_life.2.1 238 = .ok (.iaload, 1) := by decide +kernel
theorem d_X9_life_239 : decode oX9_life.2.1 239 = .ok (.iadd, 1) := by decide +kernel
theorem d_X9_life_240 : decode oX9_life.2.1 240 = .ok (.istore 7, 2) := by decide +kernel
theorem d_X9_life_242 : decode oX9_life.2.1 242 = .ok (.iload 7, 2) := by decide +kernel
theorem d_X9_life_244 : decode oX9_life.2.1 244 = .ok (.aload_n 0, 1) := by decide +kernel
theorem d_X9_life_245 : decode oX9_life.2.1 245 = .ok (.getfield 75, 3) := by decide +kernel
theorem d_X9_life_248 : decode oX9_life.2.1 248 = .ok (.bipush 61, 2) := by decide +kernel
theorem d_X9_life_250 : decode oX9_life.2.1 250 = .ok (.iload 6, 2) := by decide +kernel
theorem d_X9_life_252 : decode oX9_life.2.1 252 = .ok (.imul, 1) := by decide +kernel
theorem d_X9_life_253 : decode oX9_life.2.1 253 = .ok (.iload 4, 2) := by decide +kernel
theorem d_X9_life_255 : decode oX9_life.2.1 255 = .ok (.iadd, 1) := by decide +kernel
theorem d_X9_life_256 : decode oX9_life.2.1 256 = .ok (.iaload, 1) := by decide +kernel
theorem d_X9_life_257 : decode oX9_life.2.1 257 = .ok (.if_icmp .ne 7, 3) := by decide +kernel
theorem d_X9_life_260 : decode oX9_life.2.1 260 = .ok (.iconst 0, 1) := by decide +kernel
theorem d_X9_life_261 : decode oX9_life.2.1 261 = .ok (.goto 4, 3) := by decide +kernel
theorem d_X9_life_264 : decode oX9_life.2.1 264 = .ok (.iconst 1, 1) := by decide +kernel
theorem d_X9_life_265 : decode oX9_life.2.1 265 = .ok (.istore 5, 2) := by decide +kernel
theorem d_X9_life_267 : decode oX9_life.2.1 267 = .ok (.iload 4, 2) := by decide +kernel
theorem d_X9_life_269 : decode oX9_life.2.1 269 = .ok (.iload 5, 2) := by decide +kernel
theorem d_X9_life_271 : decode oX9_life.2.1 271 = .ok (.iadd, 1) := by decide +kernel
theorem d_X9_life_272 : decode oX9_life.2.1 272 = .ok (.istore 4, 2) := by decide +kernel
theorem d_X9_life_274 : decode oX9_life.2.1 274 = .ok (.iinc 6 1, 3) := by decide +kernel
theorem d_X9_life_277 : decode oX9_life.2.1 277 = .ok (.goto (-72), 3) := by decide +kernel
theorem d_X9_life_280 : decode oX9_life.2.1 280 = .ok (.iload 5, 2) := by decide +kernel
theorem d_X9_life_282 : decode oX9_life.2.1 282 = .ok (.ireturn, 1) := by decide +kernel
theorem b_X9_life_0 {E : ob_E} {σ : ob_Mem} {Q : Int32 → ob_Mem → Prop} {x1 x2 x3 : Int32} (k : ob_RM shp E oX9_isPerson [.ref 53, .int x1] σ (ob_qI fun v2 σ1 => ((¬ v2 = 0 → ob_RM shp E oX9_in [.long (x2).toInt64, .long (1 : Int64), .long (60 : Int64)] σ1 (ob_qI fun v4 σ3 => ((¬ v4 = 0 → ob_RT shp E oX9_life 29 [.ref 53, .int x1, .int x2, .int x3, .int x2, .null, .null, .null] [] σ3 (ob_qI Q)) ∧ (v4 = 0 → Q (-1000000002 : Int32) σ3)))) ∧ (v2 = 0 → Q (-1000000001 : Int32) σ1)))) : ob_RT shp E oX9_life 0 [.ref 53, .int x1, .int x2, .int x3, .null, .null, .null, .null] [] σ (ob_qI Q) := by
  refine ob_aload_n d_X9_life_0 rfl ?_
  refine ob_iload_n d_X9_life_1 rfl ?_
  refine ob_callV [.int x1] (z := oX9_isPerson) (st := []) d_X9_life_2 lk_X9_237 mv_X9_isPerson rfl sh_53 cl_9 rfl (Nat.le_of_ble_eq_true rfl) rfl k (ob_kI fun v2 σ1 k => ?_)
  refine ob_if_ne (tgt := 11) d_X9_life_5 rfl (fun cc => ?_) (fun cc => ?_)
  · have k := k.1 cc
    refine ob_iload_n d_X9_life_11 rfl ?_
    refine ob_i2l d_X9_life_12 ?_
    refine ob_lconst (v := 1) d_X9_life_13 rfl ?_
    refine ob_ldc2 (v := 60) d_X9_life_14 k_X9_302 ?_
    refine ob_callS [.long (x2).toInt64, .long (1 : Int64), .long (60 : Int64)] (z := oX9_in) (st := []) d_X9_life_17 lk_X9_111 ms_X9_in rfl (Nat.le_of_ble_eq_true rfl) rfl k (ob_kI fun v4 σ3 k => ?_)
    refine ob_if_ne (tgt := 26) d_X9_life_20 rfl (fun cc => ?_) (fun cc => ?_)
    · have k := k.1 cc
      refine ob_iload_n d_X9_life_26 rfl ?_
      refine ob_istore (ls' := [.ref 53, .int x1, .int x2, .int x3, .int x2, .null, .null, .null]) d_X9_life_27 (Nat.le_of_ble_eq_true rfl) rfl ?_
      exact k
    · have k := k.2 cc
      refine ob_ldc (v := -1000000002) d_X9_life_23 k_X9_123 ?_
      exact ob_iret d_X9_life_25 rfl ⟨_, rfl, k⟩
  · have k := k.2 cc
    refine ob_ldc (v := -1000000001) d_X9_life_8 k_X9_241 ?_
    exact ob_iret d_X9_life_10 rfl ⟨_, rfl, k⟩
theorem b_X9_life_29 {E : ob_E} {σ : ob_Mem} {Q : Int32 → ob_Mem → Prop} {x1 x2 x3 x4 : Int32} (k : ((x4 < 0 → ((¬ x3 = (-1 : Int32) → ob_RM shp E oX9_in [.long (x3).toInt64, .long (0 : Int64), .long ((x2 - (1 : Int32))).toInt64] σ (ob_qI fun v2 σ1 => ((¬ v2 = 0 → ob_RT shp E oX9_life 205 [.ref 53, .int x1, .int x2, .int x3, .int (0 : Int32), .int (0 : Int32), .int (0 : Int32), .null] [] σ1 (ob_qI Q)) ∧ (v2 = 0 → Q (-1 : Int32) σ1)))) ∧ (x3 = (-1 : Int32) → Q (σ.1 73 ((0 : Int32)).toNatClampNeg) σ))) ∧ (¬ x4 < 0 → ob_RT shp E oX9_life 37 [.ref 53, .int x1, .int x2, .int x3, .int x4, .int (0 : Int32), .null, .null] [] σ (ob_qI Q)))) : ob_RT shp E oX9_life 29 [.ref 53, .int x1, .int x2, .int x3, .int x4, .null, .null, .null] [] σ (ob_qI Q) := by
  refine ob_iload d_X9_life_29 rfl ?_
  refine ob_if_lt (tgt := 169) d_X9_life_31 rfl (fun cc => ?_) (fun cc => ?_)
  · have k := k.1 cc
    refine ob_iload_n d_X9_life_169 rfl ?_
    refine ob_iconst (v := -1) d_X9_life_170 ci_m1 ?_
    refine ob_icmp_ne (tgt := 181) d_X9_life_171 rfl (fun cc => ?_) (fun cc => ?_)
    · have k := k.1 cc
      refine ob_iload_n d_X9_life_181 rfl ?_
      refine ob_i2l d_X9_life_182 ?_
      refine ob_lconst (v := 0) d_X9_life_183 rfl ?_
      refine ob_iload_n d_X9_life_184 rfl ?_
      refine ob_iconst (v := 1) d_X9_life_185 ci_1 ?_
      refine ob_isub d_X9_life_186 ?_
      refine ob_i2l d_X9_life_187 ?_
      refine ob_callS [.long (x3).toInt64, .long (0 : Int64), .long ((x2 - (1 : Int32))).toInt64] (z := oX9_in) (st := []) d_X9_life_188 lk_X9_111 ms_X9_in rfl (Nat.le_of_ble_eq_true rfl) rfl k (ob_kI fun v2 σ1 k => ?_)
      refine ob_if_ne (tgt := 196) d_X9_life_191 rfl (fun cc => ?_) (fun cc => ?_)
      · have k := k.1 cc
        refine ob_iconst (v := 0) d_X9_life_196 ci_0 ?_
        refine ob_istore (ls' := [.ref 53, .int x1, .int x2, .int x3, .int (0 : Int32), .null, .null, .null]) d_X9_life_197 (Nat.le_of_ble_eq_true rfl) rfl ?_
        refine ob_iconst (v := 0) d_X9_life_199 ci_0 ?_
        refine ob_istore (ls' := [.ref 53, .int x1, .int x2, .int x3, .int (0 : Int32), .int (0 : Int32), .null, .null]) d_X9_life_200 (Nat.le_of_ble_eq_true rfl) rfl ?_
        refine ob_iconst (v := 0) d_X9_life_202 ci_0 ?_
        refine ob_istore (ls' := [.ref 53, .int x1, .int x2, .int x3, .int (0 : Int32), .int (0 : Int32), .int (0 : Int32), .null]) d_X9_life_203 (Nat.le_of_ble_eq_true rfl) rfl ?_
        exact k
      · have k := k.2 cc
        refine ob_iconst (v := -1) d_X9_life_194 ci_m1 ?_
        exact ob_iret d_X9_life_195 rfl ⟨_, rfl, k⟩
    · have k := k.2 cc
      refine ob_aload_n d_X9_life_174 rfl ?_
      refine ob_getR d_X9_life_175 fl_X9_75 sh_53 rfl rfl ?_
      refine ob_iconst (v := 0) d_X9_life_178 ci_0 ?_
      refine ob_iald d_X9_life_179 sh_73 (by unfold vp_in; decide) ?_
      exact ob_iret d_X9_life_180 rfl ⟨_, rfl, k⟩
  · have k := k.2 cc
    refine ob_iconst (v := 0) d_X9_life_34 ci_0 ?_
    refine ob_istore (ls' := [.ref 53, .int x1, .int x2, .int x3, .int x4, .int (0 : Int32), .null, .null]) d_X9_life_35 (Nat.le_of_ble_eq_true rfl) rfl ?_
    exact k
theorem b_X9_life_37 {E : ob_E} {σ : ob_Mem} {Q : Int32 → ob_Mem → Prop} {x1 x2 x3 x4 x5 : Int32} (k : ((x4 < x5 → ob_RT shp E oX9_life 29 [.ref 53, .int x1, .int x2, .int x3, .int (x4 + (-1 : Int32)), .null, .null, .null] [] σ (ob_qI Q)) ∧ (¬ x4 < x5 → ((¬ x4 = x2 → (vp_in x1 6 ∧ ob_RM shp E oX9_goodOf [.ref 53, .int ((σ.1 60 (x1).toNatClampNeg) + x5)] σ (ob_qI fun v2 σ1 => (vp_in (((61 : Int32) * (x4 + (1 : Int32))) + x5) 3782 ∧ ob_RT shp E oX9_life 83 [.ref 53, .int x1, .int x2, .int x3, .int x4, .int x5, .null, .null] [.int (v2 + (σ1.1 73 ((((61 : Int32) * (x4 + (1 : Int32))) + x5)).toNatClampNeg))] σ1 (ob_qI Q))))) ∧ (x4 = x2 → ob_RT shp E oX9_life 83 [.ref 53, .int x1, .int x2, .int x3, .int x4, .int x5, .null, .null] [.int (0 : Int32)] σ (ob_qI Q)))))) : ob_RT shp E oX9_life 37 [.ref 53, .int x1, .int x2, .int x3, .int x4, .int x5, .null, .null] [] σ (ob_qI Q) := by
  refine ob_iload d_X9_life_37 rfl ?_
  refine ob_iload d_X9_life_39 rfl ?_
  refine ob_icmp_gt (tgt := 163) d_X9_life_41 rfl (fun cc => ?_) (fun cc => ?_)
  · have k := k.1 cc
    refine ob_iinc (ls' := [.ref 53, .int x1, .int x2, .int x3, .int (x4 + (-1 : Int32)), .int x5, .null, .null]) (v := -1) d_X9_life_163 rfl ci_m1 (Nat.le_of_ble_eq_true rfl) rfl ?_
    refine ob_goto (tgt := 29) d_X9_life_166 rfl ?_
    refine ob_drop 5 (ls' := [.ref 53, .int x1, .int x2, .int x3, .int (x4 + (-1 : Int32)), .null, .null, .null]) rfl ?_
    exact k
  · have k := k.2 cc
    refine ob_iload d_X9_life_44 rfl ?_
    refine ob_iload_n d_X9_life_46 rfl ?_
    refine ob_icmp_ne (tgt := 54) d_X9_life_47 rfl (fun cc => ?_) (fun cc => ?_)
    · have k := k.1 cc
      refine ob_aload_n d_X9_life_54 rfl ?_
      refine ob_aload_n d_X9_life_55 rfl ?_
      refine ob_getR d_X9_life_56 fl_X9_32 sh_53 rfl rfl ?_
      refine ob_iload_n d_X9_life_59 rfl ?_
      obtain ⟨hin, k⟩ := k
      refine ob_iald d_X9_life_60 sh_60 hin ?_
      refine ob_iload d_X9_life_61 rfl ?_
      refine ob_iadd d_X9_life_63 ?_
      refine ob_callV [.int ((σ.1 60 (x1).toNatClampNeg) + x5)] (z := oX9_goodOf) (st := []) d_X9_life_64 lk_X9_259 mv_X9_goodOf rfl sh_53 cl_9 rfl (Nat.le_of_ble_eq_true rfl) rfl k (ob_kI fun v2 σ1 k => ?_)
      refine ob_aload_n d_X9_life_67 rfl ?_
      refine ob_getR d_X9_life_68 fl_X9_75 sh_53 rfl rfl ?_
      refine ob_bipush (v := 61) d_X9_life_71 cb_61 ?_
      refine ob_iload d_X9_life_73 rfl ?_
      refine ob_iconst (v := 1) d_X9_life_75 ci_1 ?_
      refine ob_iadd d_X9_life_76 ?_
      refine ob_imul d_X9_life_77 ?_
      refine ob_iload d_X9_life_78 rfl ?_
      refine ob_iadd d_X9_life_80 ?_
      obtain ⟨hin, k⟩ := k
      refine ob_iald d_X9_life_81 sh_73 hin ?_
      refine ob_iadd d_X9_life_82 ?_
      exact k
    · have k := k.2 cc
      refine ob_iconst (v := 0) d_X9_life_50 ci_0 ?_
      refine ob_goto (tgt := 83) d_X9_life_51 rfl ?_
      exact k
theorem b_X9_life_83 {E : ob_E} {σ : ob_Mem} {Q : Int32 → ob_Mem → Prop} {x1 x2 x3 x4 x5 s0 : Int32} (k : ((¬ x4 = x2 → (vp_in x1 6 ∧ ob_RM shp E oX9_goodOf [.ref 53, .int (((σ.1 60 (x1).toNatClampNeg) + x5) + (1 : Int32))] σ (ob_qI fun v2 σ1 => (vp_in ((((61 : Int32) * (x4 + (1 : Int32))) + x5) + (1 : Int32)) 3782 ∧ ob_RT shp E oX9_life 128 [.ref 53, .int x1, .int x2, .int x3, .int x4, .int x5, .int s0, .null] [.int (v2 + (σ1.1 73 (((((61 : Int32) * (x4 + (1 : Int32))) + x5) + (1 : Int32))).toNatClampNeg))] σ1 (ob_qI Q))))) ∧ (x4 = x2 → ob_RT shp E oX9_life 128 [.ref 53, .int x1, .int x2, .int x3, .int x4, .int x5, .int s0, .null] [.int (0 : Int32)] σ (ob_qI Q)))) : ob_RT shp E oX9_life 83 [.ref 53, .int x1, .int x2, .int x3, .int x4, .int x5, .null, .null] [.int s0] σ (ob_qI Q) := by
  refine ob_istore (ls' := [.ref 53, .int x1, .int x2, .int x3, .int x4, .int x5, .int s0, .null]) d_X9_life_83 (Nat.le_of_ble_eq_true rfl) rfl ?_
  refine ob_iload d_X9_life_85 rfl ?_
  refine ob_iload_n d_X9_life_87 rfl ?_
  refine ob_icmp_ne (tgt := 95) d_X9_life_88 rfl (fun cc => ?_) (fun cc => ?_)
  · have k := k.1 cc
    refine ob_aload_n d_X9_life_95 rfl ?_
    refine ob_aload_n d_X9_life_96 rfl ?_
    refine ob_getR d_X9_life_97 fl_X9_32 sh_53 rfl rfl ?_
    refine ob_iload_n d_X9_life_100 rfl ?_
    obtain ⟨hin, k⟩ := k
    refine ob_iald d_X9_life_101 sh_60 hin ?_
    refine ob_iload d_X9_life_102 rfl ?_
    refine ob_iadd d_X9_life_104 ?_
    refine ob_iconst (v := 1) d_X9_life_105 ci_1 ?_
    refine ob_iadd d_X9_life_106 ?_
    refine ob_callV [.int (((σ.1 60 (x1).toNatClampNeg) + x5) + (1 : Int32))] (z := oX9_goodOf) (st := []) d_X9_life_107 lk_X9_259 mv_X9_goodOf rfl sh_53 cl_9 rfl (Nat.le_of_ble_eq_true rfl) rfl k (ob_kI fun v2 σ1 k => ?_)
    refine ob_aload_n d_X9_life_110 rfl ?_
    refine ob_getR d_X9_life_111 fl_X9_75 sh_53 rfl rfl ?_
    refine ob_bipush (v := 61) d_X9_life_114 cb_61 ?_
    refine ob_iload d_X9_life_116 rfl ?_
    refine ob_iconst (v := 1) d_X9_life_118 ci_1 ?_
    refine ob_iadd d_X9_life_119 ?_
    refine ob_imul d_X9_life_120 ?_
    refine ob_iload d_X9_life_121 rfl ?_
    refine ob_iadd d_X9_life_123 ?_
    refine ob_iconst (v := 1) d_X9_life_124 ci_1 ?_
    refine ob_iadd d_X9_life_125 ?_
    obtain ⟨hin, k⟩ := k
    refine ob_iald d_X9_life_126 sh_73 hin ?_
    refine ob_iadd d_X9_life_127 ?_
    exact k
  · have k := k.2 cc
    refine ob_iconst (v := 0) d_X9_life_91 ci_0 ?_
    refine ob_goto (tgt := 128) d_X9_life_92 rfl ?_
    exact k
theorem b_X9_life_128 {E : ob_E} {σ : ob_Mem} {Q : Int32 → ob_Mem → Prop} {x1 x2 x3 x4 x5 x6 s0 : Int32} (k : ((s0 ≤ x6 → (vp_in (((61 : Int32) * x4) + x5) 3782 ∧ ob_RT shp E oX9_life 37 [.ref 53, .int x1, .int x2, .int x3, .int x4, .int (x5 + (1 : Int32)), .null, .null] [] (ob_wI σ 73 ((((61 : Int32) * x4) + x5)).toNatClampNeg x6) (ob_qI Q))) ∧ (¬ s0 ≤ x6 → (vp_in (((61 : Int32) * x4) + x5) 3782 ∧ ob_RT shp E oX9_life 37 [.ref 53, .int x1, .int x2, .int x3, .int x4, .int (x5 + (1 : Int32)), .null, .null] [] (ob_wI σ 73 ((((61 : Int32) * x4) + x5)).toNatClampNeg s0) (ob_qI Q))))) : ob_RT shp E oX9_life 128 [.ref 53, .int x1, .int x2, .int x3, .int x4, .int x5, .int x6, .null] [.int s0] σ (ob_qI Q) := by
  refine ob_istore (ls' := [.ref 53, .int x1, .int x2, .int x3, .int x4, .int x5, .int x6, .int s0]) d_X9_life_128 (Nat.le_of_ble_eq_true rfl) rfl ?_
  refine ob_aload_n d_X9_life_130 rfl ?_
  refine ob_getR d_X9_life_131 fl_X9_75 sh_53 rfl rfl ?_
  refine ob_bipush (v := 61) d_X9_life_134 cb_61 ?_
  refine ob_iload d_X9_life_136 rfl ?_
  refine ob_imul d_X9_life_138 ?_
  refine ob_iload d_X9_life_139 rfl ?_
  refine ob_iadd d_X9_life_141 ?_
  refine ob_iload d_X9_life_142 rfl ?_
  refine ob_iload d_X9_life_144 rfl ?_
  refine ob_icmp_le (tgt := 154) d_X9_life_146 rfl (fun cc => ?_) (fun cc => ?_)
  · have k := k.1 cc
    refine ob_iload d_X9_life_154 rfl ?_
    obtain ⟨hin, k⟩ := k
    refine ob_iast d_X9_life_156 sh_73 hin ?_
    refine ob_iinc (ls' := [.ref 53, .int x1, .int x2, .int x3, .int x4, .int (x5 + (1 : Int32)), .int x6, .int s0]) (v := 1) d_X9_life_157 rfl ci_1 (Nat.le_of_ble_eq_true rfl) rfl ?_
    refine ob_goto (tgt := 37) d_X9_life_160 rfl ?_
    refine ob_drop 6 (ls' := [.ref 53, .int x1, .int x2, .int x3, .int x4, .int (x5 + (1 : Int32)), .null, .int s0]) rfl ?_
    refine ob_drop 7 (ls' := [.ref 53, .int x1, .int x2, .int x3, .int x4, .int (x5 + (1 : Int32)), .null, .null]) rfl ?_
    exact k
  · have k := k.2 cc
    refine ob_iload d_X9_life_149 rfl ?_
    refine ob_goto (tgt := 156) d_X9_life_151 rfl ?_
    obtain ⟨hin, k⟩ := k
    refine ob_iast d_X9_life_156 sh_73 hin ?_
    refine ob_iinc (ls' := [.ref 53, .int x1, .int x2, .int x3, .int x4, .int (x5 + (1 : Int32)), .int x6, .int s0]) (v := 1) d_X9_life_157 rfl ci_1 (Nat.le_of_ble_eq_true rfl) rfl ?_
    refine ob_goto (tgt := 37) d_X9_life_160 rfl ?_
    refine ob_drop 6 (ls' := [.ref 53, .int x1, .int x2, .int x3, .int x4, .int (x5 + (1 : Int32)), .null, .int s0]) rfl ?_
    refine ob_drop 7 (ls' := [.ref 53, .int x1, .int x2, .int x3, .int x4, .int (x5 + (1 : Int32)), .null, .null]) rfl ?_
    exact k
theorem b_X9_life_205 {E : ob_E} {σ : ob_Mem} {Q : Int32 → ob_Mem → Prop} {x1 x2 x3 x4 x5 x6 : Int32} (k : ((x3 < x6 → Q x5 σ) ∧ (¬ x3 < x6 → (vp_in x1 6 ∧ ob_RM shp E oX9_goodOf [.ref 53, .int ((σ.1 60 (x1).toNatClampNeg) + x4)] σ (ob_qI fun v2 σ1 => (vp_in (((61 : Int32) * (x6 + (1 : Int32))) + x4) 3782 ∧ (∀ w3 : Int32, w3 = (v2 + (σ1.1 73 ((((61 : Int32) * (x6 + (1 : Int32))) + x4)).toNatClampNeg)) → (vp_in (((61 : Int32) * x6) + x4) 3782 ∧ ((¬ w3 = (σ1.1 73 ((((61 : Int32) * x6) + x4)).toNatClampNeg) → ob_RT shp E oX9_life 205 [.ref 53, .int x1, .int x2, .int x3, .int (x4 + (1 : Int32)), .int (1 : Int32), .int (x6 + (1 : Int32)), .null] [] σ1 (ob_qI Q)) ∧ (w3 = (σ1.1 73 ((((61 : Int32) * x6) + x4)).toNatClampNeg) → ob_RT shp E oX9_life 205 [.ref 53, .int x1, .int x2, .int x3, .int (x4 + (0 : Int32)), .int (0 : Int32), .int (x6 + (1 : Int32)), .null] [] σ1 (ob_qI Q))))))))))) : ob_RT shp E oX9_life 205 [.ref 53, .int x1, .int x2, .int x3, .int x4, .int x5, .int x6, .null] [] σ (ob_qI Q) := by
  refine ob_iload d_X9_life_205 rfl ?_
  refine ob_iload_n d_X9_life_207 rfl ?_
  refine ob_icmp_gt (tgt := 280) d_X9_life_208 rfl (fun cc => ?_) (fun cc => ?_)
  · have k := k.1 cc
    refine ob_iload d_X9_life_280 rfl ?_
    exact ob_iret d_X9_life_282 rfl ⟨_, rfl, k⟩
  · have k := k.2 cc
    refine ob_aload_n d_X9_life_211 rfl ?_
    refine ob_aload_n d_X9_life_212 rfl ?_
    refine ob_getR d_X9_life_213 fl_X9_32 sh_53 rfl rfl ?_
    refine ob_iload_n d_X9_life_216 rfl ?_
    obtain ⟨hin, k⟩ := k
    refine ob_iald d_X9_life_217 sh_60 hin ?_
    refine ob_iload d_X9_life_218 rfl ?_
    refine ob_iadd d_X9_life_220 ?_
    refine ob_callV [.int ((σ.1 60 (x1).toNatClampNeg) + x4)] (z := oX9_goodOf) (st := []) d_X9_life_221 lk_X9_259 mv_X9_goodOf rfl sh_53 cl_9 rfl (Nat.le_of_ble_eq_true rfl) rfl k (ob_kI fun v2 σ1 k => ?_)
    refine ob_aload_n d_X9_life_224 rfl ?_
    refine ob_getR d_X9_life_225 fl_X9_75 sh_53 rfl rfl ?_
    refine ob_bipush (v := 61) d_X9_life_228 cb_61 ?_
    refine ob_iload d_X9_life_230 rfl ?_
    refine ob_iconst (v := 1) d_X9_life_232 ci_1 ?_
    refine ob_iadd d_X9_life_233 ?_
    refine ob_imul d_X9_life_234 ?_
    refine ob_iload d_X9_life_235 rfl ?_
    refine ob_iadd d_X9_life_237 ?_
    obtain ⟨hin, k⟩ := k
    refine ob_iald d_X9_life_238 sh_73 hin ?_
    refine ob_iadd d_X9_life_239 ?_
    refine ob_nmI (fun w3 hw3 => ?_)
    have k := k w3 hw3
    refine ob_istore (ls' := [.ref 53, .int x1, .int x2, .int x3, .int x4, .int x5, .int x6, .int w3]) d_X9_life_240 (Nat.le_of_ble_eq_true rfl) rfl ?_
    refine ob_iload d_X9_life_242 rfl ?_
    refine ob_aload_n d_X9_life_244 rfl ?_
    refine ob_getR d_X9_life_245 fl_X9_75 sh_53 rfl rfl ?_
    refine ob_bipush (v := 61) d_X9_life_248 cb_61 ?_
    refine ob_iload d_X9_life_250 rfl ?_
    refine ob_imul d_X9_life_252 ?_
    refine ob_iload d_X9_life_253 rfl ?_
    refine ob_iadd d_X9_life_255 ?_
    obtain ⟨hin, k⟩ := k
    refine ob_iald d_X9_life_256 sh_73 hin ?_
    refine ob_icmp_ne (tgt := 264) d_X9_life_257 rfl (fun cc => ?_) (fun cc => ?_)
    · have k := k.1 cc
      refine ob_iconst (v := 1) d_X9_life_264 ci_1 ?_
      refine ob_istore (ls' := [.ref 53, .int x1, .int x2, .int x3, .int x4, .int (1 : Int32), .int x6, .int w3]) d_X9_life_265 (Nat.le_of_ble_eq_true rfl) rfl ?_
      refine ob_iload d_X9_life_267 rfl ?_
      refine ob_iload d_X9_life_269 rfl ?_
      refine ob_iadd d_X9_life_271 ?_
      refine ob_istore (ls' := [.ref 53, .int x1, .int x2, .int x3, .int (x4 + (1 : Int32)), .int (1 : Int32), .int x6, .int w3]) d_X9_life_272 (Nat.le_of_ble_eq_true rfl) rfl ?_
      refine ob_iinc (ls' := [.ref 53, .int x1, .int x2, .int x3, .int (x4 + (1 : Int32)), .int (1 : Int32), .int (x6 + (1 : Int32)), .int w3]) (v := 1) d_X9_life_274 rfl ci_1 (Nat.le_of_ble_eq_true rfl) rfl ?_
      refine ob_goto (tgt := 205) d_X9_life_277 rfl ?_
      refine ob_drop 7 (ls' := [.ref 53, .int x1, .int x2, .int x3, .int (x4 + (1 : Int32)), .int (1 : Int32), .int (x6 + (1 : Int32)), .null]) rfl ?_
      exact k
    · have k := k.2 cc
      refine ob_iconst (v := 0) d_X9_life_260 ci_0 ?_
      refine ob_goto (tgt := 265) d_X9_life_261 rfl ?_
      refine ob_istore (ls' := [.ref 53, .int x1, .int x2, .int x3, .int x4, .int (0 : Int32), .int x6, .int w3]) d_X9_life_265 (Nat.le_of_ble_eq_true rfl) rfl ?_
      refine ob_iload d_X9_life_267 rfl ?_
      refine ob_iload d_X9_life_269 rfl ?_
      refine ob_iadd d_X9_life_271 ?_
      refine ob_istore (ls' := [.ref 53, .int x1, .int x2, .int x3, .int (x4 + (0 : Int32)), .int (0 : Int32), .int x6, .int w3]) d_X9_life_272 (Nat.le_of_ble_eq_true rfl) rfl ?_
      refine ob_iinc (ls' := [.ref 53, .int x1, .int x2, .int x3, .int (x4 + (0 : Int32)), .int (0 : Int32), .int (x6 + (1 : Int32)), .int w3]) (v := 1) d_X9_life_274 rfl ci_1 (Nat.le_of_ble_eq_true rfl) rfl ?_
      refine ob_goto (tgt := 205) d_X9_life_277 rfl ?_
      refine ob_drop 7 (ls' := [.ref 53, .int x1, .int x2, .int x3, .int (x4 + (0 : Int32)), .int (0 : Int32), .int (x6 + (1 : Int32)), .null]) rfl ?_
      exact k
theorem d_X9_votes_0 : decode oX9_votes.2.1 0 = .ok (.iload_n 1, 1) := by decide +kernel
theorem d_X9_votes_1 : decode oX9_votes.2.1 1 = .ok (.i2l, 1) := by decide +kernel
theorem d_X9_votes_2 : decode oX9_votes.2.1 2 = .ok (.lconst 0, 1) := by decide +kernel
theorem d_X9_votes_3 : decode oX9_votes.2.1 3 = .ok (.ldc2_w 257, 3) := by decide +kernel
theorem d_X9_votes_6 : decode oX9_votes.2.1 6 = .ok (.invokestatic 111, 3) := by decide +kernel
theorem d_X9_votes_9 : decode oX9_votes.2.1 9 = .ok (.ifCond .ne 6, 3) := by decide +kernel
theorem d_X9_votes_12 : decode oX9_votes.2.1 12 = .ok (.ldc 123, 2) := by decide +kernel
theorem d_X9_votes_14 : decode oX9_votes.2.1 14 = .ok (.ireturn, 1) := by decide +kernel
theorem d_X9_votes_15 : decode oX9_votes.2.1 15 = .ok (.iconst 0, 1) := by decide +kernel
theorem d_X9_votes_16 : decode oX9_votes.2.1 16 = .ok (.istore_n 2, 1) := by decide +kernel
theorem d_X9_votes_17 : decode oX9_votes.2.1 17 = .ok (.iconst 0, 1) := by decide +kernel
theorem d_X9_votes_18 : decode oX9_votes.2.1 18 = .ok (.istore_n 3, 1) := by decide +kernel
theorem d_X9_votes_19 : decode oX9_votes.2.1 19 = .ok (.iload_n 3, 1) := by decide +kernel
theorem d_X9_votes_20 : decode oX9_votes.2.1 20 = .ok (.aload_n 0, 1) := by decide +kernel
theorem d_X9_votes_21 : decode oX9_votes.2.1 21 = .ok (.getfield 108, 3) := by decide +kernel
theorem d_X9_votes_24 : decode oX9_votes.2.1 24 = .ok (.if_icmp .ge 38, 3) := by decide +kernel
theorem d_X9_votes_27 : decode oX9_votes.2.1 27 = .ok (.iload_n 2, 1) := by decide +kernel
theorem d_X9_votes_28 : decode oX9_votes.2.1 28 = .ok (.aload_n 0, 1) := by decide +kernel
theorem d_X9_votes_29 : decode oX9_votes.2.1 29 = .ok (.getfield 38, 3) := by decide +kernel
theorem d_X9_votes_32 : decode oX9_votes.2.1 32 = .ok (.iload_n 3, 1) := by decide +kernel
theorem d_X9_votes_33 : decode oX9_votes.2.1 33 = .ok (.baload, 1) := by decide +kernel
theorem d_X9_votes_34 : decode oX9_votes.2.1 34 = .ok (.ifCond .eq 19, 3) := by decide +kernel
theorem d_X9_votes_37 : decode oX9_votes.2.1 37 = .ok (.aload_n 0, 1) := by decide +kernel
theorem d_X9_votes_38 : decode oX9_votes.2.1 38 = .ok (.getfield 32, 3) := by decide +kernel
theorem d_X9_votes_41 : decode oX9_votes.2.1 41 = .ok (.iload_n 3, 1) := by decide +kernel
theorem d_X9_votes_42 : decode oX9_votes.2.1 42 = .ok (.iaload, 1) := by decide +kernel
theorem d_X9_votes_43 : decode oX9_votes.2.1 43 = .ok (.iload_n 1, 1) := by decide +kernel
theorem d_X9_votes_44 : decode oX9_votes.2.1 44 = .ok (.if_icmp .lt 9, 3) := by decide +kernel
theorem d_X9_votes_47 : decode oX9_votes.2.1 47 = .ok (.iconst 1, 1) := by decide +kernel
theorem d_X9_votes_48 : decode oX9_votes.2.1 48 = .ok (.iload_n 3, 1) := by decide +kernel
theorem d_X9_votes_49 : decode oX9_votes.2.1 49 = .ok (.ishl, 1) := by decide +kernel
theorem d_X9_votes_50 : decode oX9_votes.2.1 50 = .ok (.goto 4, 3) := by decide +kernel
theorem d_X9_votes_53 : decode oX9_votes.2.1 53 = .ok (.iconst 0, 1) := by decide +kernel
theorem d_X9_votes_54 : decode oX9_votes.2.1 54 = .ok (.ior, 1) := by decide +kernel
theorem d_X9_votes_55 : decode oX9_votes.2.1 55 = .ok (.istore_n 2, 1) := by decide +kernel
theorem d_X9_votes_56 : decode oX9_votes.2.1 56 = .ok (.iinc 3 1, 3) := by decide +kernel
theorem d_X9_votes_59 : decode oX9_votes.2.1 59 = .ok (.goto (-40), 3) := by decide +kernel
theorem d_X9_votes_62 : decode oX9_votes.2.1 62 = .ok (.iload_n 2, 1) := by decide +kernel
theorem d_X9_votes_63 : decode oX9_votes.2.1 63 = .ok (.ireturn, 1) := by decide +kernel
theorem b_X9_votes_0 {E : ob_E} {σ : ob_Mem} {Q : Int32 → ob_Mem → Prop} {x1 : Int32} (k : ob_RM shp E oX9_in [.long (x1).toInt64, .long (0 : Int64), .long (999 : Int64)] σ (ob_qI fun v2 σ1 => ((¬ v2 = 0 → ob_RT shp E oX9_votes 19 [.ref 53, .int x1, .int (0 : Int32), .int (0 : Int32)] [] σ1 (ob_qI Q)) ∧ (v2 = 0 → Q (-1000000002 : Int32) σ1)))) : ob_RT shp E oX9_votes 0 [.ref 53, .int x1, .null, .null] [] σ (ob_qI Q) := by
  refine ob_iload_n d_X9_votes_0 rfl ?_
  refine ob_i2l d_X9_votes_1 ?_
  refine ob_lconst (v := 0) d_X9_votes_2 rfl ?_
  refine ob_ldc2 (v := 999) d_X9_votes_3 k_X9_257 ?_
  refine ob_callS [.long (x1).toInt64, .long (0 : Int64), .long (999 : Int64)] (z := oX9_in) (st := []) d_X9_votes_6 lk_X9_111 ms_X9_in rfl (Nat.le_of_ble_eq_true rfl) rfl k (ob_kI fun v2 σ1 k => ?_)
  refine ob_if_ne (tgt := 15) d_X9_votes_9 rfl (fun cc => ?_) (fun cc => ?_)
  · have k := k.1 cc
    refine ob_iconst (v := 0) d_X9_votes_15 ci_0 ?_
    refine ob_istore_n (ls' := [.ref 53, .int x1, .int (0 : Int32), .null]) d_X9_votes_16 (Nat.le_of_ble_eq_true rfl) rfl ?_
    refine ob_iconst (v := 0) d_X9_votes_17 ci_0 ?_
    refine ob_istore_n (ls' := [.ref 53, .int x1, .int (0 : Int32), .int (0 : Int32)]) d_X9_votes_18 (Nat.le_of_ble_eq_true rfl) rfl ?_
    exact k
  · have k := k.2 cc
    refine ob_ldc (v := -1000000002) d_X9_votes_12 k_X9_123 ?_
    exact ob_iret d_X9_votes_14 rfl ⟨_, rfl, k⟩
theorem b_X9_votes_19 {E : ob_E} {σ : ob_Mem} {Q : Int32 → ob_Mem → Prop} {x1 x2 x3 : Int32} (k : (((σ.1 53 1) ≤ x3 → Q x2 σ) ∧ (¬ (σ.1 53 1) ≤ x3 → (vp_in x3 6 ∧ (((σ.1 62 (x3).toNatClampNeg) = 0 → ob_RT shp E oX9_votes 19 [.ref 53, .int x1, .int (x2 ||| (0 : Int32)), .int (x3 + (1 : Int32))] [] σ (ob_qI Q)) ∧ (¬ (σ.1 62 (x3).toNatClampNeg) = 0 → (vp_in x3 6 ∧ (((σ.1 60 (x3).toNatClampNeg) < x1 → ob_RT shp E oX9_votes 19 [.ref 53, .int x1, .int (x2 ||| (0 : Int32)), .int (x3 + (1 : Int32))] [] σ (ob_qI Q)) ∧ (¬ (σ.1 60 (x3).toNatClampNeg) < x1 → ob_RT shp E oX9_votes 19 [.ref 53, .int x1, .int (x2 ||| ((1 : Int32) <<< (x3 &&& 31))), .int (x3 + (1 : Int32))] [] σ (ob_qI Q)))))))))) : ob_RT shp E oX9_votes 19 [.ref 53, .int x1, .int x2, .int x3] [] σ (ob_qI Q) := by
  refine ob_iload_n d_X9_votes_19 rfl ?_
  refine ob_aload_n d_X9_votes_20 rfl ?_
  refine ob_getI d_X9_votes_21 fl_X9_108 sh_53 rfl (by decide) ?_
  refine ob_icmp_ge (tgt := 62) d_X9_votes_24 rfl (fun cc => ?_) (fun cc => ?_)
  · have k := k.1 cc
    refine ob_iload_n d_X9_votes_62 rfl ?_
    exact ob_iret d_X9_votes_63 rfl ⟨_, rfl, k⟩
  · have k := k.2 cc
    refine ob_iload_n d_X9_votes_27 rfl ?_
    refine ob_aload_n d_X9_votes_28 rfl ?_
    refine ob_getR d_X9_votes_29 fl_X9_38 sh_53 rfl rfl ?_
    refine ob_iload_n d_X9_votes_32 rfl ?_
    obtain ⟨hin, k⟩ := k
    refine ob_zald d_X9_votes_33 sh_62 hin ?_
    refine ob_if_eq (tgt := 53) d_X9_votes_34 rfl (fun cc => ?_) (fun cc => ?_)
    · have k := k.1 cc
      refine ob_iconst (v := 0) d_X9_votes_53 ci_0 ?_
      refine ob_ior d_X9_votes_54 ?_
      refine ob_istore_n (ls' := [.ref 53, .int x1, .int (x2 ||| (0 : Int32)), .int x3]) d_X9_votes_55 (Nat.le_of_ble_eq_true rfl) rfl ?_
      refine ob_iinc (ls' := [.ref 53, .int x1, .int (x2 ||| (0 : Int32)), .int (x3 + (1 : Int32))]) (v := 1) d_X9_votes_56 rfl ci_1 (Nat.le_of_ble_eq_true rfl) rfl ?_
      refine ob_goto (tgt := 19) d_X9_votes_59 rfl ?_
      exact k
    · have k := k.2 cc
      refine ob_aload_n d_X9_votes_37 rfl ?_
      refine ob_getR d_X9_votes_38 fl_X9_32 sh_53 rfl rfl ?_
      refine ob_iload_n d_X9_votes_41 rfl ?_
      obtain ⟨hin, k⟩ := k
      refine ob_iald d_X9_votes_42 sh_60 hin ?_
      refine ob_iload_n d_X9_votes_43 rfl ?_
      refine ob_icmp_lt (tgt := 53) d_X9_votes_44 rfl (fun cc => ?_) (fun cc => ?_)
      · have k := k.1 cc
        refine ob_iconst (v := 0) d_X9_votes_53 ci_0 ?_
        refine ob_ior d_X9_votes_54 ?_
        refine ob_istore_n (ls' := [.ref 53, .int x1, .int (x2 ||| (0 : Int32)), .int x3]) d_X9_votes_55 (Nat.le_of_ble_eq_true rfl) rfl ?_
        refine ob_iinc (ls' := [.ref 53, .int x1, .int (x2 ||| (0 : Int32)), .int (x3 + (1 : Int32))]) (v := 1) d_X9_votes_56 rfl ci_1 (Nat.le_of_ble_eq_true rfl) rfl ?_
        refine ob_goto (tgt := 19) d_X9_votes_59 rfl ?_
        exact k
      · have k := k.2 cc
        refine ob_iconst (v := 1) d_X9_votes_47 ci_1 ?_
        refine ob_iload_n d_X9_votes_48 rfl ?_
        refine ob_ishl d_X9_votes_49 ?_
        refine ob_goto (tgt := 54) d_X9_votes_50 rfl ?_
        refine ob_ior d_X9_votes_54 ?_
        refine ob_istore_n (ls' := [.ref 53, .int x1, .int (x2 ||| ((1 : Int32) <<< (x3 &&& 31))), .int x3]) d_X9_votes_55 (Nat.le_of_ble_eq_true rfl) rfl ?_
        refine ob_iinc (ls' := [.ref 53, .int x1, .int (x2 ||| ((1 : Int32) <<< (x3 &&& 31))), .int (x3 + (1 : Int32))]) (v := 1) d_X9_votes_56 rfl ci_1 (Nat.le_of_ble_eq_true rfl) rfl ?_
        refine ob_goto (tgt := 19) d_X9_votes_59 rfl ?_
        exact k
