/-! code of X6: the decode rows and a row for each piece between cut points (printed by wip/whole/mk.py) -/
theorem d_X6_startAnew_0 : decode oX6_startAnew.2.1 0 = .ok (.aload_n 0, 1) := by decide +kernel
theorem d_X6_startAnew_1 : decode oX6_startAnew.2.1 1 = .ok (.getfield 9, 3) := by decide +kernel
theorem d_X6_startAnew_4 : decode oX6_startAnew.2.1 4 = .ok (.getfield 31, 3) := by decide +kernel
theorem d_X6_startAnew_7 : decode oX6_startAnew.2.1 7 = .ok (.iconst 0, 1) := by decide +kernel
theorem d_X6_startAnew_8 : decode oX6_startAnew.2.1 8 = .ok (.aload_n 0, 1) := by decide +kernel
theorem d_X6_startAnew_9 : decode oX6_startAnew.2.1 9 = .ok (.getfield 15, 3) := by decide +kernel
theorem d_X6_startAnew_12 : decode oX6_startAnew.2.1 12 = .ok (.iconst 0, 1) := by decide +kernel
theorem d_X6_startAnew_13 : decode oX6_startAnew.2.1 13 = .ok (.bipush 6, 2) := by decide +kernel
theorem d_X6_startAnew_15 : decode oX6_startAnew.2.1 15 = .ok (.invokestatic 36, 3) := by decide +kernel
theorem d_X6_startAnew_18 : decode oX6_startAnew.2.1 18 = .ok (.aload_n 0, 1) := by decide +kernel
theorem d_X6_startAnew_19 : decode oX6_startAnew.2.1 19 = .ok (.getfield 9, 3) := by decide +kernel
theorem d_X6_startAnew_22 : decode oX6_startAnew.2.1 22 = .ok (.getfield 42, 3) := by decide +kernel
theorem d_X6_startAnew_25 : decode oX6_startAnew.2.1 25 = .ok (.iconst 0, 1) := by decide +kernel
theorem d_X6_startAnew_26 : decode oX6_startAnew.2.1 26 = .ok (.aload_n 0, 1) := by decide +kernel
theorem d_X6_startAnew_27 : decode oX6_startAnew.2.1 27 = .ok (.getfield 19, 3) := by decide +kernel
theorem d_X6_startAnew_30 : decode oX6_startAnew.2.1 30 = .ok (.iconst 0, 1) := by decide +kernel
theorem d_X6_startAnew_31 : decode oX6_startAnew.2.1 31 = .ok (.bipush 6, 2) := by decide +kernel
theorem d_X6_startAnew_33 : decode oX6_startAnew.2.1 33 = .ok (.invokestatic 36, 3) := by decide +kernel
theorem d_X6_startAnew_36 : decode oX6_startAnew.2.1 36 = .ok (.aload_n 0, 1) := by decide +kernel
theorem d_X6_startAnew_37 : decode oX6_startAnew.2.1 37 = .ok (.getfield 9, 3) := by decide +kernel
theorem d_X6_startAnew_40 : decode oX6_startAnew.2.1 40 = .ok (.getfield 45, 3) := by decide +kernel
theorem d_X6_startAnew_43 : decode oX6_startAnew.2.1 43 = .ok (.iconst 0, 1) := by decide +kernel
theorem d_X6_startAnew_44 : decode oX6_startAnew.2.1 44 = .ok (.aload_n 0, 1) := by decide +kernel
theorem d_X6_startAnew_45 : decode oX6_startAnew.2.1 45 = .ok (.getfield 22, 3) := by decide +kernel
theorem d_X6_startAnew_48 : decode oX6_startAnew.2.1 48 = .ok (.iconst 0, 1) := by decide +kernel
theorem d_X6_startAnew_49 : decode oX6_startAnew.2.1 49 = .ok (.bipush 8, 2) := by decide +kernel
theorem d_X6_startAnew_51 : decode oX6_startAnew.2.1 51 = .ok (.invokestatic 36, 3) := by decide +kernel
theorem d_X6_startAnew_54 : decode oX6_startAnew.2.1 54 = .ok (.aload_n 0, 1) := by decide +kernel
theorem d_X6_startAnew_55 : decode oX6_startAnew.2.1 55 = .ok (.getfield 25, 3) := by decide +kernel
theorem d_X6_startAnew_58 : decode oX6_startAnew.2.1 58 = .ok (.iconst (-1), 1) := by decide +kernel
theorem d_X6_startAnew_59 : decode oX6_startAnew.2.1 59 = .ok (.invokestatic 48, 3) := by decide +kernel
theorem d_X6_startAnew_62 : decode oX6_startAnew.2.1 62 = .ok (.aload_n 0, 1) := by decide +kernel
theorem d_X6_startAnew_63 : decode oX6_startAnew.2.1 63 = .ok (.getfield 28, 3) := by decide +kernel
theorem d_X6_startAnew_66 : decode oX6_startAnew.2.1 66 = .ok (.iconst (-1), 1) := by decide +kernel
theorem d_X6_startAnew_67 : decode oX6_startAnew.2.1 67 = .ok (.invokestatic 48, 3) := by decide +kernel
theorem d_X6_startAnew_70 : decode oX6_startAnew.2.1 70 = .ok (.aload_n 0, 1) := by decide +kernel
theorem d_X6_startAnew_71 : decode oX6_startAnew.2.1 71 = .ok (.iconst 1, 1) := by decide +kernel
theorem d_X6_startAnew_72 : decode oX6_startAnew.2.1 72 = .ok (.aload_n 0, 1) := by decide +kernel
theorem d_X6_startAnew_73 : decode oX6_startAnew.2.1 73 = .ok (.getfield 9, 3) := by decide +kernel
theorem d_X6_startAnew_76 : decode oX6_startAnew.2.1 76 = .ok (.getfield 54, 3) := by decide +kernel
theorem d_X6_startAnew_79 : decode oX6_startAnew.2.1 79 = .ok (.ishl, 1) := by decide +kernel
theorem d_X6_startAnew_80 : decode oX6_startAnew.2.1 80 = .ok (.iconst 1, 1) := by decide +kernel
theorem d_X6_startAnew_81 : decode oX6_startAnew.2.1 81 = .ok (.isub, 1) := by decide +kernel
theorem d_X6_startAnew_82 : decode oX6_startAnew.2.1 82 = .ok (.putfield 58, 3) := by decide +kernel
theorem d_X6_startAnew_85 : decode oX6_startAnew.2.1 85 = .ok (.aload_n 0, 1) := by decide +kernel
theorem d_X6_startAnew_86 : decode oX6_startAnew.2.1 86 = .ok (.iconst 0, 1) := by decide +kernel
theorem d_X6_startAnew_87 : decode oX6_startAnew.2.1 87 = .ok (.putfield 61, 3) := by decide +kernel
theorem d_X6_startAnew_90 : decode oX6_startAnew.2.1 90 = .ok (.return_, 1) := by decide +kernel
theorem b_X6_startAnew_0 {E : ob_E} {σ : ob_Mem} {Q : ob_Mem → Prop} (k : ob_RM shp E oJ7_fill_53178 [.ref 21, .int (-1 : Int32)] (ob_cp (ob_cp (ob_cp σ 11 18 6) 12 19 6) 14 20 8) (ob_qV fun σ1 => ob_RM shp E oJ7_fill_53178 [.ref 22, .int (-1 : Int32)] σ1 (ob_qV fun σ2 => Q (ob_wI (ob_wI σ2 17 6 (((1 : Int32) <<< ((σ2.1 10 7) &&& 31)) - (1 : Int32))) 17 7 (0 : Int32))))) : ob_RT shp E oX6_startAnew 0 [.ref 17] [] σ (ob_qV Q) := by
  refine ob_aload_n d_X6_startAnew_0 rfl ?_
  refine ob_getR d_X6_startAnew_1 fl_X6_9 sh_17 rfl rfl ?_
  refine ob_getR d_X6_startAnew_4 fl_X6_31 sh_10 rfl rfl ?_
  refine ob_iconst (v := 0) d_X6_startAnew_7 ci_0 ?_
  refine ob_aload_n d_X6_startAnew_8 rfl ?_
  refine ob_getR d_X6_startAnew_9 fl_X6_15 sh_17 rfl rfl ?_
  refine ob_iconst (v := 0) d_X6_startAnew_12 ci_0 ?_
  refine ob_bipush (v := 6) d_X6_startAnew_13 cb_6 ?_
  refine ob_copy0 (N := 6) d_X6_startAnew_15 lk_X6_36 ac_native ac_static ac_init sh_11 sh_18 (by decide) (by decide) (by decide) (by decide) (Nat.le_of_ble_eq_true rfl) (by decide +kernel) ?_
  refine ob_aload_n d_X6_startAnew_18 rfl ?_
  refine ob_getR d_X6_startAnew_19 fl_X6_9 sh_17 rfl rfl ?_
  refine ob_getR d_X6_startAnew_22 fl_X6_42 sh_10 rfl rfl ?_
  refine ob_iconst (v := 0) d_X6_startAnew_25 ci_0 ?_
  refine ob_aload_n d_X6_startAnew_26 rfl ?_
  refine ob_getR d_X6_startAnew_27 fl_X6_19 sh_17 rfl rfl ?_
  refine ob_iconst (v := 0) d_X6_startAnew_30 ci_0 ?_
  refine ob_bipush (v := 6) d_X6_startAnew_31 cb_6 ?_
  refine ob_copy0 (N := 6) d_X6_startAnew_33 lk_X6_36 ac_native ac_static ac_init sh_12 sh_19 (by decide) (by decide) (by decide) (by decide) (Nat.le_of_ble_eq_true rfl) (by decide +kernel) ?_
  refine ob_aload_n d_X6_startAnew_36 rfl ?_
  refine ob_getR d_X6_startAnew_37 fl_X6_9 sh_17 rfl rfl ?_
  refine ob_getR d_X6_startAnew_40 fl_X6_45 sh_10 rfl rfl ?_
  refine ob_iconst (v := 0) d_X6_startAnew_43 ci_0 ?_
  refine ob_aload_n d_X6_startAnew_44 rfl ?_
  refine ob_getR d_X6_startAnew_45 fl_X6_22 sh_17 rfl rfl ?_
  refine ob_iconst (v := 0) d_X6_startAnew_48 ci_0 ?_
  refine ob_bipush (v := 8) d_X6_startAnew_49 cb_8 ?_
  refine ob_copy0 (N := 8) d_X6_startAnew_51 lk_X6_36 ac_native ac_static ac_init sh_14 sh_20 (by decide) (by decide) (by decide) (by decide) (Nat.le_of_ble_eq_true rfl) (by decide +kernel) ?_
  refine ob_aload_n d_X6_startAnew_54 rfl ?_
  refine ob_getR d_X6_startAnew_55 fl_X6_25 sh_17 rfl rfl ?_
  refine ob_iconst (v := -1) d_X6_startAnew_58 ci_m1 ?_
  refine ob_callS [.ref 21, .int (-1 : Int32)] (z := oJ7_fill_53178) (st := []) d_X6_startAnew_59 lk_X6_48 ms_J7_fill_53178 rfl (Nat.le_of_ble_eq_true rfl) rfl k (ob_kV fun σ1 k => ?_)
  refine ob_aload_n d_X6_startAnew_62 rfl ?_
  refine ob_getR d_X6_startAnew_63 fl_X6_28 sh_17 rfl rfl ?_
  refine ob_iconst (v := -1) d_X6_startAnew_66 ci_m1 ?_
  refine ob_callS [.ref 22, .int (-1 : Int32)] (z := oJ7_fill_53178) (st := []) d_X6_startAnew_67 lk_X6_48 ms_J7_fill_53178 rfl (Nat.le_of_ble_eq_true rfl) rfl k (ob_kV fun σ2 k => ?_)
  refine ob_aload_n d_X6_startAnew_70 rfl ?_
  refine ob_iconst (v := 1) d_X6_startAnew_71 ci_1 ?_
  refine ob_aload_n d_X6_startAnew_72 rfl ?_
  refine ob_getR d_X6_startAnew_73 fl_X6_9 sh_17 rfl rfl ?_
  refine ob_getI d_X6_startAnew_76 fl_X6_54 sh_10 rfl (by decide) ?_
  refine ob_ishl d_X6_startAnew_79 ?_
  refine ob_iconst (v := 1) d_X6_startAnew_80 ci_1 ?_
  refine ob_isub d_X6_startAnew_81 ?_
  refine ob_putI d_X6_startAnew_82 fp_X6_58 sh_17 rfl rfl ?_
  refine ob_aload_n d_X6_startAnew_85 rfl ?_
  refine ob_iconst (v := 0) d_X6_startAnew_86 ci_0 ?_
  refine ob_putI d_X6_startAnew_87 fp_X6_61 sh_17 rfl rfl ?_
  exact ob_vret d_X6_startAnew_90 rfl ⟨rfl, k⟩
theorem d_X6_lentSet_0 : decode oX6_lentSet.2.1 0 = .ok (.iconst 0, 1) := by decide +kernel
theorem d_X6_lentSet_1 : decode oX6_lentSet.2.1 1 = .ok (.istore_n 1, 1) := by decide +kernel
theorem d_X6_lentSet_2 : decode oX6_lentSet.2.1 2 = .ok (.iconst 0, 1) := by decide +kernel
theorem d_X6_lentSet_3 : decode oX6_lentSet.2.1 3 = .ok (.istore_n 2, 1) := by decide +kernel
theorem d_X6_lentSet_4 : decode oX6_lentSet.2.1 4 = .ok (.iload_n 2, 1) := by decide +kernel
theorem d_X6_lentSet_5 : decode oX6_lentSet.2.1 5 = .ok (.aload_n 0, 1) := by decide +kernel
theorem d_X6_lentSet_6 : decode oX6_lentSet.2.1 6 = .ok (.getfield 9, 3) := by decide +kernel
theorem d_X6_lentSet_9 : decode oX6_lentSet.2.1 9 = .ok (.getfield 74, 3) := by decide +kernel
theorem d_X6_lentSet_12 : decode oX6_lentSet.2.1 12 = .ok (.if_icmp .ge 23, 3) := by decide +kernel
theorem d_X6_lentSet_15 : decode oX6_lentSet.2.1 15 = .ok (.aload_n 0, 1) := by decide +kernel
theorem d_X6_lentSet_16 : decode oX6_lentSet.2.1 16 = .ok (.iload_n 2, 1) := by decide +kernel
theorem d_X6_lentSet_17 : decode oX6_lentSet.2.1 17 = .ok (.invokevirtual 71, 3) := by decide +kernel
theorem d_X6_lentSet_20 : decode oX6_lentSet.2.1 20 = .ok (.ifCond .eq 9, 3) := by decide +kernel
theorem d_X6_lentSet_23 : decode oX6_lentSet.2.1 23 = .ok (.iload_n 1, 1) := by decide +kernel
theorem d_X6_lentSet_24 : decode oX6_lentSet.2.1 24 = .ok (.iconst 1, 1) := by decide +kernel
theorem d_X6_lentSet_25 : decode oX6_lentSet.2.1 25 = .ok (.iload_n 2, 1) := by decide +kernel
theorem d_X6_lentSet_26 : decode oX6_lentSet.2.1 26 = .ok (.ishl, 1) := by decide +kernel
theorem d_X6_lentSet_27 : decode oX6_lentSet.2.1 27 = .ok (.ior, 1) := by decide +kernel
theorem d_X6_lentSet_28 : decode oX6_lentSet.2.1 28 = .ok (.istore_n 1, 1) := by decide +kernel
theorem d_X6_lentSet_29 : decode oX6_lentSet.2.1 29 = .ok (.iinc 2 1, 3) := by decide +kernel
theorem d_X6_lentSet_32 : decode oX6_lentSet.2.1 32 = .ok (.goto (-28), 3) := by decide +kernel
theorem d_X6_lentSet_35 : decode oX6_lentSet.2.1 35 = .ok (.iload_n 1, 1) := by decide +kernel
theorem d_X6_lentSet_36 : decode oX6_lentSet.2.1 36 = .ok (.ireturn, 1) := by decide +kernel
theorem b_X6_lentSet_0 {E : ob_E} {σ : ob_Mem} {Q : Int32 → ob_Mem → Prop} (k : ob_RT shp E oX6_lentSet 4 [.ref 17, .int (0 : Int32), .int (0 : Int32)] [] σ (ob_qI Q)) : ob_RT shp E oX6_lentSet 0 [.ref 17, .null, .null] [] σ (ob_qI Q) := by
  refine ob_iconst (v := 0) d_X6_lentSet_0 ci_0 ?_
  refine ob_istore_n (ls' := [.ref 17, .int (0 : Int32), .null]) d_X6_lentSet_1 (Nat.le_of_ble_eq_true rfl) rfl ?_
  refine ob_iconst (v := 0) d_X6_lentSet_2 ci_0 ?_
  refine ob_istore_n (ls' := [.ref 17, .int (0 : Int32), .int (0 : Int32)]) d_X6_lentSet_3 (Nat.le_of_ble_eq_true rfl) rfl ?_
  exact k
theorem b_X6_lentSet_4 {E : ob_E} {σ : ob_Mem} {Q : Int32 → ob_Mem → Prop} {x1 x2 : Int32} (k : (((σ.1 10 8) ≤ x2 → Q x1 σ) ∧ (¬ (σ.1 10 8) ≤ x2 → ob_RM shp E oX6_isLent [.ref 17, .int x2] σ (ob_qI fun v2 σ1 => ((v2 = 0 → ob_RT shp E oX6_lentSet 4 [.ref 17, .int x1, .int (x2 + (1 : Int32))] [] σ1 (ob_qI Q)) ∧ (¬ v2 = 0 → ob_RT shp E oX6_lentSet 4 [.ref 17, .int (x1 ||| ((1 : Int32) <<< (x2 &&& 31))), .int (x2 + (1 : Int32))] [] σ1 (ob_qI Q))))))) : ob_RT shp E oX6_lentSet 4 [.ref 17, .int x1, .int x2] [] σ (ob_qI Q) := by
  refine ob_iload_n d_X6_lentSet_4 rfl ?_
  refine ob_aload_n d_X6_lentSet_5 rfl ?_
  refine ob_getR d_X6_lentSet_6 fl_X6_9 sh_17 rfl rfl ?_
  refine ob_getI d_X6_lentSet_9 fl_X6_74 sh_10 rfl (by decide) ?_
  refine ob_icmp_ge (tgt := 35) d_X6_lentSet_12 rfl (fun cc => ?_) (fun cc => ?_)
  · have k := k.1 cc
    refine ob_iload_n d_X6_lentSet_35 rfl ?_
    exact ob_iret d_X6_lentSet_36 rfl ⟨_, rfl, k⟩
  · have k := k.2 cc
    refine ob_aload_n d_X6_lentSet_15 rfl ?_
    refine ob_iload_n d_X6_lentSet_16 rfl ?_
    refine ob_callV [.int x2] (z := oX6_isLent) (st := []) d_X6_lentSet_17 lk_X6_71 mv_X6_isLent rfl sh_17 cl_6 rfl (Nat.le_of_ble_eq_true rfl) rfl k (ob_kI fun v2 σ1 k => ?_)
    refine ob_if_eq (tgt := 29) d_X6_lentSet_20 rfl (fun cc => ?_) (fun cc => ?_)
    · have k := k.1 cc
      refine ob_iinc (ls' := [.ref 17, .int x1, .int (x2 + (1 : Int32))]) (v := 1) d_X6_lentSet_29 rfl ci_1 (Nat.le_of_ble_eq_true rfl) rfl ?_
      refine ob_goto (tgt := 4) d_X6_lentSet_32 rfl ?_
      exact k
    · have k := k.2 cc
      refine ob_iload_n d_X6_lentSet_23 rfl ?_
      refine ob_iconst (v := 1) d_X6_lentSet_24 ci_1 ?_
      refine ob_iload_n d_X6_lentSet_25 rfl ?_
      refine ob_ishl d_X6_lentSet_26 ?_
      refine ob_ior d_X6_lentSet_27 ?_
      refine ob_istore_n (ls' := [.ref 17, .int (x1 ||| ((1 : Int32) <<< (x2 &&& 31))), .int x2]) d_X6_lentSet_28 (Nat.le_of_ble_eq_true rfl) rfl ?_
      refine ob_iinc (ls' := [.ref 17, .int (x1 ||| ((1 : Int32) <<< (x2 &&& 31))), .int (x2 + (1 : Int32))]) (v := 1) d_X6_lentSet_29 rfl ci_1 (Nat.le_of_ble_eq_true rfl) rfl ?_
      refine ob_goto (tgt := 4) d_X6_lentSet_32 rfl ?_
      exact k
theorem d_X6_lives_0 : decode oX6_lives.2.1 0 = .ok (.aload_n 0, 1) := by decide +kernel
theorem d_X6_lives_1 : decode oX6_lives.2.1 1 = .ok (.getfield 9, 3) := by decide +kernel
theorem d_X6_lives_4 : decode oX6_lives.2.1 4 = .ok (.iload_n 1, 1) := by decide +kernel
theorem d_X6_lives_5 : decode oX6_lives.2.1 5 = .ok (.invokevirtual 67, 3) := by decide +kernel
theorem d_X6_lives_8 : decode oX6_lives.2.1 8 = .ok (.ifCond .eq 19, 3) := by decide +kernel
theorem d_X6_lives_11 : decode oX6_lives.2.1 11 = .ok (.aload_n 0, 1) := by decide +kernel
theorem d_X6_lives_12 : decode oX6_lives.2.1 12 = .ok (.getfield 58, 3) := by decide +kernel
theorem d_X6_lives_15 : decode oX6_lives.2.1 15 = .ok (.iload_n 1, 1) := by decide +kernel
theorem d_X6_lives_16 : decode oX6_lives.2.1 16 = .ok (.ishr, 1) := by decide +kernel
theorem d_X6_lives_17 : decode oX6_lives.2.1 17 = .ok (.iconst 1, 1) := by decide +kernel
theorem d_X6_lives_18 : decode oX6_lives.2.1 18 = .ok (.iand, 1) := by decide +kernel
theorem d_X6_lives_19 : decode oX6_lives.2.1 19 = .ok (.iconst 1, 1) := by decide +kernel
theorem d_X6_lives_20 : decode oX6_lives.2.1 20 = .ok (.if_icmp .ne 7, 3) := by decide +kernel
theorem d_X6_lives_23 : decode oX6_lives.2.1 23 = .ok (.iconst 1, 1) := by decide +kernel
theorem d_X6_lives_24 : decode oX6_lives.2.1 24 = .ok (.goto 4, 3) := by decide +kernel
theorem d_X6_lives_27 : decode oX6_lives.2.1 27 = .ok (.iconst 0, 1) := by decide +kernel
theorem d_X6_lives_28 : decode oX6_lives.2.1 28 = .ok (.ireturn, 1) := by decide +kernel
theorem b_X6_lives_0 {E : ob_E} {σ : ob_Mem} {Q : Int32 → ob_Mem → Prop} {x1 : Int32} (k : ob_RM shp E oX2_hasPerson [.ref 10, .int x1] σ (ob_qI fun v2 σ1 => ((v2 = 0 → Q (0 : Int32) σ1) ∧ (¬ v2 = 0 → ((¬ (((σ1.1 17 6) >>> (x1 &&& 31)) &&& (1 : Int32)) = (1 : Int32) → Q (0 : Int32) σ1) ∧ ((((σ1.1 17 6) >>> (x1 &&& 31)) &&& (1 : Int32)) = (1 : Int32) → Q (1 : Int32) σ1)))))) : ob_RT shp E oX6_lives 0 [.ref 17, .int x1] [] σ (ob_qI Q) := by
  refine ob_aload_n d_X6_lives_0 rfl ?_
  refine ob_getR d_X6_lives_1 fl_X6_9 sh_17 rfl rfl ?_
  refine ob_iload_n d_X6_lives_4 rfl ?_
  refine ob_callV [.int x1] (z := oX2_hasPerson) (st := []) d_X6_lives_5 lk_X6_67 mv_X2_hasPerson rfl sh_10 cl_2 rfl (Nat.le_of_ble_eq_true rfl) rfl k (ob_kI fun v2 σ1 k => ?_)
  refine ob_if_eq (tgt := 27) d_X6_lives_8 rfl (fun cc => ?_) (fun cc => ?_)
  · have k := k.1 cc
    refine ob_iconst (v := 0) d_X6_lives_27 ci_0 ?_
    exact ob_zret d_X6_lives_28 rfl rfl ⟨_, rfl, k⟩
  · have k := k.2 cc
    refine ob_aload_n d_X6_lives_11 rfl ?_
    refine ob_getI d_X6_lives_12 fl_X6_58 sh_17 rfl (by decide) ?_
    refine ob_iload_n d_X6_lives_15 rfl ?_
    refine ob_ishr d_X6_lives_16 ?_
    refine ob_iconst (v := 1) d_X6_lives_17 ci_1 ?_
    refine ob_iand d_X6_lives_18 ?_
    refine ob_iconst (v := 1) d_X6_lives_19 ci_1 ?_
    refine ob_icmp_ne (tgt := 27) d_X6_lives_20 rfl (fun cc => ?_) (fun cc => ?_)
    · have k := k.1 cc
      refine ob_iconst (v := 0) d_X6_lives_27 ci_0 ?_
      exact ob_zret d_X6_lives_28 rfl rfl ⟨_, rfl, k⟩
    · have k := k.2 cc
      refine ob_iconst (v := 1) d_X6_lives_23 ci_1 ?_
      refine ob_goto (tgt := 28) d_X6_lives_24 rfl ?_
      exact ob_zret d_X6_lives_28 rfl rfl ⟨_, rfl, k⟩
theorem d_X6_ownedSet_0 : decode oX6_ownedSet.2.1 0 = .ok (.iconst 0, 1) := by decide +kernel
theorem d_X6_ownedSet_1 : decode oX6_ownedSet.2.1 1 = .ok (.istore_n 2, 1) := by decide +kernel
theorem d_X6_ownedSet_2 : decode oX6_ownedSet.2.1 2 = .ok (.iconst 0, 1) := by decide +kernel
theorem d_X6_ownedSet_3 : decode oX6_ownedSet.2.1 3 = .ok (.istore_n 3, 1) := by decide +kernel
theorem d_X6_ownedSet_4 : decode oX6_ownedSet.2.1 4 = .ok (.iload_n 3, 1) := by decide +kernel
theorem d_X6_ownedSet_5 : decode oX6_ownedSet.2.1 5 = .ok (.aload_n 0, 1) := by decide +kernel
theorem d_X6_ownedSet_6 : decode oX6_ownedSet.2.1 6 = .ok (.getfield 9, 3) := by decide +kernel
theorem d_X6_ownedSet_9 : decode oX6_ownedSet.2.1 9 = .ok (.getfield 74, 3) := by decide +kernel
theorem d_X6_ownedSet_12 : decode oX6_ownedSet.2.1 12 = .ok (.if_icmp .ge 25, 3) := by decide +kernel
theorem d_X6_ownedSet_15 : decode oX6_ownedSet.2.1 15 = .ok (.aload_n 0, 1) := by decide +kernel
theorem d_X6_ownedSet_16 : decode oX6_ownedSet.2.1 16 = .ok (.getfield 22, 3) := by decide +kernel
theorem d_X6_ownedSet_19 : decode oX6_ownedSet.2.1 19 = .ok (.iload_n 3, 1) := by decide +kernel
theorem d_X6_ownedSet_20 : decode oX6_ownedSet.2.1 20 = .ok (.iaload, 1) := by decide +kernel
theorem d_X6_ownedSet_21 : decode oX6_ownedSet.2.1 21 = .ok (.iload_n 1, 1) := by decide +kernel
theorem d_X6_ownedSet_22 : decode oX6_ownedSet.2.1 22 = .ok (.if_icmp .ne 9, 3) := by decide +kernel
theorem d_X6_ownedSet_25 : decode oX6_ownedSet.2.1 25 = .ok (.iload_n 2, 1) := by decide +kernel
theorem d_X6_ownedSet_26 : decode oX6_ownedSet.2.1 26 = .ok (.iconst 1, 1) := by decide +kernel
theorem d_X6_ownedSet_27 : decode oX6_ownedSet.2.1 27 = .ok (.iload_n 3, 1) := by decide +kernel
theorem d_X6_ownedSet_28 : decode oX6_ownedSet.2.1 28 = .ok (.ishl, 1) := by decide +kernel
theorem d_X6_ownedSet_29 : decode oX6_ownedSet.2.1 29 = .ok (.ior, 1) := by decide +kernel
theorem d_X6_ownedSet_30 : decode oX6_ownedSet.2.1 30 = .ok (.istore_n 2, 1) := by decide +kernel
theorem d_X6_ownedSet_31 : decode oX6_ownedSet.2.1 31 = .ok (.iinc 3 1, 3) := by decide +kernel
theorem d_X6_ownedSet_34 : decode oX6_ownedSet.2.1 34 = .ok (.goto (-30), 3) := by decide +kernel
theorem d_X6_ownedSet_37 : decode oX6_ownedSet.2.1 37 = .ok (.iload_n 2, 1) := by decide +kernel
theorem d_X6_ownedSet_38 : decode oX6_ownedSet.2.1 38 = .ok (.ireturn, 1) := by decide +kernel
theorem b_X6_ownedSet_0 {E : ob_E} {σ : ob_Mem} {Q : Int32 → ob_Mem → Prop} {x1 : Int32} (k : ob_RT shp E oX6_ownedSet 4 [.ref 17, .int x1, .int (0 : Int32), .int (0 : Int32)] [] σ (ob_qI Q)) : ob_RT shp E oX6_ownedSet 0 [.ref 17, .int x1, .null, .null] [] σ (ob_qI Q) := by
  refine ob_iconst (v := 0) d_X6_ownedSet_0 ci_0 ?_
  refine ob_istore_n (ls' := [.ref 17, .int x1, .int (0 : Int32), .null]) d_X6_ownedSet_1 (Nat.le_of_ble_eq_true rfl) rfl ?_
  refine ob_iconst (v := 0) d_X6_ownedSet_2 ci_0 ?_
  refine ob_istore_n (ls' := [.ref 17, .int x1, .int (0 : Int32), .int (0 : Int32)]) d_X6_ownedSet_3 (Nat.le_of_ble_eq_true rfl) rfl ?_
  exact k
theorem b_X6_ownedSet_4 {E : ob_E} {σ : ob_Mem} {Q : Int32 → ob_Mem → Prop} {x1 x2 x3 : Int32} (k : (((σ.1 10 8) ≤ x3 → Q x2 σ) ∧ (¬ (σ.1 10 8) ≤ x3 → (vp_in x3 8 ∧ ((¬ (σ.1 20 (x3).toNatClampNeg) = x1 → ob_RT shp E oX6_ownedSet 4 [.ref 17, .int x1, .int x2, .int (x3 + (1 : Int32))] [] σ (ob_qI Q)) ∧ ((σ.1 20 (x3).toNatClampNeg) = x1 → ob_RT shp E oX6_ownedSet 4 [.ref 17, .int x1, .int (x2 ||| ((1 : Int32) <<< (x3 &&& 31))), .int (x3 + (1 : Int32))] [] σ (ob_qI Q))))))) : ob_RT shp E oX6_ownedSet 4 [.ref 17, .int x1, .int x2, .int x3] [] σ (ob_qI Q) := by
  refine ob_iload_n d_X6_ownedSet_4 rfl ?_
  refine ob_aload_n d_X6_ownedSet_5 rfl ?_
  refine ob_getR d_X6_ownedSet_6 fl_X6_9 sh_17 rfl rfl ?_
  refine ob_getI d_X6_ownedSet_9 fl_X6_74 sh_10 rfl (by decide) ?_
  refine ob_icmp_ge (tgt := 37) d_X6_ownedSet_12 rfl (fun cc => ?_) (fun cc => ?_)
  · have k := k.1 cc
    refine ob_iload_n d_X6_ownedSet_37 rfl ?_
    exact ob_iret d_X6_ownedSet_38 rfl ⟨_, rfl, k⟩
  · have k := k.2 cc
    refine ob_aload_n d_X6_ownedSet_15 rfl ?_
    refine ob_getR d_X6_ownedSet_16 fl_X6_22 sh_17 rfl rfl ?_
    refine ob_iload_n d_X6_ownedSet_19 rfl ?_
    obtain ⟨hin, k⟩ := k
    refine ob_iald d_X6_ownedSet_20 sh_20 hin ?_
    refine ob_iload_n d_X6_ownedSet_21 rfl ?_
    refine ob_icmp_ne (tgt := 31) d_X6_ownedSet_22 rfl (fun cc => ?_) (fun cc => ?_)
    · have k := k.1 cc
      refine ob_iinc (ls' := [.ref 17, .int x1, .int x2, .int (x3 + (1 : Int32))]) (v := 1) d_X6_ownedSet_31 rfl ci_1 (Nat.le_of_ble_eq_true rfl) rfl ?_
      refine ob_goto (tgt := 4) d_X6_ownedSet_34 rfl ?_
      exact k
    · have k := k.2 cc
      refine ob_iload_n d_X6_ownedSet_25 rfl ?_
      refine ob_iconst (v := 1) d_X6_ownedSet_26 ci_1 ?_
      refine ob_iload_n d_X6_ownedSet_27 rfl ?_
      refine ob_ishl d_X6_ownedSet_28 ?_
      refine ob_ior d_X6_ownedSet_29 ?_
      refine ob_istore_n (ls' := [.ref 17, .int x1, .int (x2 ||| ((1 : Int32) <<< (x3 &&& 31))), .int x3]) d_X6_ownedSet_30 (Nat.le_of_ble_eq_true rfl) rfl ?_
      refine ob_iinc (ls' := [.ref 17, .int x1, .int (x2 ||| ((1 : Int32) <<< (x3 &&& 31))), .int (x3 + (1 : Int32))]) (v := 1) d_X6_ownedSet_31 rfl ci_1 (Nat.le_of_ble_eq_true rfl) rfl ?_
      refine ob_goto (tgt := 4) d_X6_ownedSet_34 rfl ?_
      exact k
theorem d_X6_usedSet_0 : decode oX6_usedSet.2.1 0 = .ok (.iconst 0, 1) := by decide +kernel
theorem d_X6_usedSet_1 : decode oX6_usedSet.2.1 1 = .ok (.istore_n 2, 1) := by decide +kernel
theorem d_X6_usedSet_2 : decode oX6_usedSet.2.1 2 = .ok (.iconst 0, 1) := by decide +kernel
theorem d_X6_usedSet_3 : decode oX6_usedSet.2.1 3 = .ok (.istore_n 3, 1) := by decide +kernel
theorem d_X6_usedSet_4 : decode oX6_usedSet.2.1 4 = .ok (.iload_n 3, 1) := by decide +kernel
theorem d_X6_usedSet_5 : decode oX6_usedSet.2.1 5 = .ok (.aload_n 0, 1) := by decide +kernel
theorem d_X6_usedSet_6 : decode oX6_usedSet.2.1 6 = .ok (.getfield 9, 3) := by decide +kernel
theorem d_X6_usedSet_9 : decode oX6_usedSet.2.1 9 = .ok (.getfield 74, 3) := by decide +kernel
theorem d_X6_usedSet_12 : decode oX6_usedSet.2.1 12 = .ok (.if_icmp .ge 24, 3) := by decide +kernel
theorem d_X6_usedSet_15 : decode oX6_usedSet.2.1 15 = .ok (.aload_n 0, 1) := by decide +kernel
theorem d_X6_usedSet_16 : decode oX6_usedSet.2.1 16 = .ok (.iload_n 3, 1) := by decide +kernel
theorem d_X6_usedSet_17 : decode oX6_usedSet.2.1 17 = .ok (.invokevirtual 77, 3) := by decide +kernel
theorem d_X6_usedSet_20 : decode oX6_usedSet.2.1 20 = .ok (.iload_n 1, 1) := by decide +kernel
theorem d_X6_usedSet_21 : decode oX6_usedSet.2.1 21 = .ok (.if_icmp .ne 9, 3) := by decide +kernel
theorem d_X6_usedSet_24 : decode oX6_usedSet.2.1 24 = .ok (.iload_n 2, 1) := by decide +kernel
theorem d_X6_usedSet_25 : decode oX6_usedSet.2.1 25 = .ok (.iconst 1, 1) := by decide +kernel
theorem d_X6_usedSet_26 : decode oX6_usedSet.2.1 26 = .ok (.iload_n 3, 1) := by decide +kernel
theorem d_X6_usedSet_27 : decode oX6_usedSet.2.1 27 = .ok (.ishl, 1) := by decide +kernel
theorem d_X6_usedSet_28 : decode oX6_usedSet.2.1 28 = .ok (.ior, 1) := by decide +kernel
theorem d_X6_usedSet_29 : decode oX6_usedSet.2.1 29 = .ok (.istore_n 2, 1) := by decide +kernel
theorem d_X6_usedSet_30 : decode oX6_usedSet.2.1 30 = .ok (.iinc 3 1, 3) := by decide +kernel
theorem d_X6_usedSet_33 : decode oX6_usedSet.2.1 33 = .ok (.goto (-29), 3) := by decide +kernel
theorem d_X6_usedSet_36 : decode oX6_usedSet.2.1 36 = .ok (.iload_n 2, 1) := by decide +kernel
theorem d_X6_usedSet_37 : decode oX6_usedSet.2.1 37 = .ok (.ireturn, 1) := by decide +kernel
theorem b_X6_usedSet_0 {E : ob_E} {σ : ob_Mem} {Q : Int32 → ob_Mem → Prop} {x1 : Int32} (k : ob_RT shp E oX6_usedSet 4 [.ref 17, .int x1, .int (0 : Int32), .int (0 : Int32)] [] σ (ob_qI Q)) : ob_RT shp E oX6_usedSet 0 [.ref 17, .int x1, .null, .null] [] σ (ob_qI Q) := by
  refine ob_iconst (v := 0) d_X6_usedSet_0 ci_0 ?_
  refine ob_istore_n (ls' := [.ref 17, .int x1, .int (0 : Int32), .null]) d_X6_usedSet_1 (Nat.le_of_ble_eq_true rfl) rfl ?_
  refine ob_iconst (v := 0) d_X6_usedSet_2 ci_0 ?_
  refine ob_istore_n (ls' := [.ref 17, .int x1, .int (0 : Int32), .int (0 : Int32)]) d_X6_usedSet_3 (Nat.le_of_ble_eq_true rfl) rfl ?_
  exact k
theorem b_X6_usedSet_4 {E : ob_E} {σ : ob_Mem} {Q : Int32 → ob_Mem → Prop} {x1 x2 x3 : Int32} (k : (((σ.1 10 8) ≤ x3 → Q x2 σ) ∧ (¬ (σ.1 10 8) ≤ x3 → ob_RM shp E oX6_userOf [.ref 17, .int x3] σ (ob_qI fun v2 σ1 => ((¬ v2 = x1 → ob_RT shp E oX6_usedSet 4 [.ref 17, .int x1, .int x2, .int (x3 + (1 : Int32))] [] σ1 (ob_qI Q)) ∧ (v2 = x1 → ob_RT shp E oX6_usedSet 4 [.ref 17, .int x1, .int (x2 ||| ((1 : Int32) <<< (x3 &&& 31))), .int (x3 + (1 : Int32))] [] σ1 (ob_qI Q))))))) : ob_RT shp E oX6_usedSet 4 [.ref 17, .int x1, .int x2, .int x3] [] σ (ob_qI Q) := by
  refine ob_iload_n d_X6_usedSet_4 rfl ?_
  refine ob_aload_n d_X6_usedSet_5 rfl ?_
  refine ob_getR d_X6_usedSet_6 fl_X6_9 sh_17 rfl rfl ?_
  refine ob_getI d_X6_usedSet_9 fl_X6_74 sh_10 rfl (by decide) ?_
  refine ob_icmp_ge (tgt := 36) d_X6_usedSet_12 rfl (fun cc => ?_) (fun cc => ?_)
  · have k := k.1 cc
    refine ob_iload_n d_X6_usedSet_36 rfl ?_
    exact ob_iret d_X6_usedSet_37 rfl ⟨_, rfl, k⟩
  · have k := k.2 cc
    refine ob_aload_n d_X6_usedSet_15 rfl ?_
    refine ob_iload_n d_X6_usedSet_16 rfl ?_
    refine ob_callV [.int x3] (z := oX6_userOf) (st := []) d_X6_usedSet_17 lk_X6_77 mv_X6_userOf rfl sh_17 cl_6 rfl (Nat.le_of_ble_eq_true rfl) rfl k (ob_kI fun v2 σ1 k => ?_)
    refine ob_iload_n d_X6_usedSet_20 rfl ?_
    refine ob_icmp_ne (tgt := 30) d_X6_usedSet_21 rfl (fun cc => ?_) (fun cc => ?_)
    · have k := k.1 cc
      refine ob_iinc (ls' := [.ref 17, .int x1, .int x2, .int (x3 + (1 : Int32))]) (v := 1) d_X6_usedSet_30 rfl ci_1 (Nat.le_of_ble_eq_true rfl) rfl ?_
      refine ob_goto (tgt := 4) d_X6_usedSet_33 rfl ?_
      exact k
    · have k := k.2 cc
      refine ob_iload_n d_X6_usedSet_24 rfl ?_
      refine ob_iconst (v := 1) d_X6_usedSet_25 ci_1 ?_
      refine ob_iload_n d_X6_usedSet_26 rfl ?_
      refine ob_ishl d_X6_usedSet_27 ?_
      refine ob_ior d_X6_usedSet_28 ?_
      refine ob_istore_n (ls' := [.ref 17, .int x1, .int (x2 ||| ((1 : Int32) <<< (x3 &&& 31))), .int x3]) d_X6_usedSet_29 (Nat.le_of_ble_eq_true rfl) rfl ?_
      refine ob_iinc (ls' := [.ref 17, .int x1, .int (x2 ||| ((1 : Int32) <<< (x3 &&& 31))), .int (x3 + (1 : Int32))]) (v := 1) d_X6_usedSet_30 rfl ci_1 (Nat.le_of_ble_eq_true rfl) rfl ?_
      refine ob_goto (tgt := 4) d_X6_usedSet_33 rfl ?_
      exact k
theorem d_X6_userOf_0 : decode oX6_userOf.2.1 0 = .ok (.aload_n 0, 1) := by decide +kernel
theorem d_X6_userOf_1 : decode oX6_userOf.2.1 1 = .ok (.iload_n 1, 1) := by decide +kernel
theorem d_X6_userOf_2 : decode oX6_userOf.2.1 2 = .ok (.invokevirtual 71, 3) := by decide +kernel
theorem d_X6_userOf_5 : decode oX6_userOf.2.1 5 = .ok (.ifCond .eq 12, 3) := by decide +kernel
theorem d_X6_userOf_8 : decode oX6_userOf.2.1 8 = .ok (.aload_n 0, 1) := by decide +kernel
theorem d_X6_userOf_9 : decode oX6_userOf.2.1 9 = .ok (.getfield 25, 3) := by decide +kernel
theorem d_X6_userOf_12 : decode oX6_userOf.2.1 12 = .ok (.iload_n 1, 1) := by decide +kernel
theorem d_X6_userOf_13 : decode oX6_userOf.2.1 13 = .ok (.iaload, 1) := by decide +kernel
theorem d_X6_userOf_14 : decode oX6_userOf.2.1 14 = .ok (.goto 9, 3) := by decide +kernel
theorem d_X6_userOf_17 : decode oX6_userOf.2.1 17 = .ok (.aload_n 0, 1) := by decide +kernel
theorem d_X6_userOf_18 : decode oX6_userOf.2.1 18 = .ok (.getfield 22, 3) := by decide +kernel
theorem d_X6_userOf_21 : decode oX6_userOf.2.1 21 = .ok (.iload_n 1, 1) := by decide +kernel
theorem d_X6_userOf_22 : decode oX6_userOf.2.1 22 = .ok (.iaload, 1) := by decide +kernel
theorem d_X6_userOf_23 : decode oX6_userOf.2.1 23 = .ok (.ireturn, 1) := by decide +kernel
theorem b_X6_userOf_0 {E : ob_E} {σ : ob_Mem} {Q : Int32 → ob_Mem → Prop} {x1 : Int32} (k : ob_RM shp E oX6_isLent [.ref 17, .int x1] σ (ob_qI fun v2 σ1 => ((v2 = 0 → (vp_in x1 8 ∧ Q (σ1.1 20 (x1).toNatClampNeg) σ1)) ∧ (¬ v2 = 0 → (vp_in x1 8 ∧ Q (σ1.1 21 (x1).toNatClampNeg) σ1))))) : ob_RT shp E oX6_userOf 0 [.ref 17, .int x1] [] σ (ob_qI Q) := by
  refine ob_aload_n d_X6_userOf_0 rfl ?_
  refine ob_iload_n d_X6_userOf_1 rfl ?_
  refine ob_callV [.int x1] (z := oX6_isLent) (st := []) d_X6_userOf_2 lk_X6_71 mv_X6_isLent rfl sh_17 cl_6 rfl (Nat.le_of_ble_eq_true rfl) rfl k (ob_kI fun v2 σ1 k => ?_)
  refine ob_if_eq (tgt := 17) d_X6_userOf_5 rfl (fun cc => ?_) (fun cc => ?_)
  · have k := k.1 cc
    refine ob_aload_n d_X6_userOf_17 rfl ?_
    refine ob_getR d_X6_userOf_18 fl_X6_22 sh_17 rfl rfl ?_
    refine ob_iload_n d_X6_userOf_21 rfl ?_
    obtain ⟨hin, k⟩ := k
    refine ob_iald d_X6_userOf_22 sh_20 hin ?_
    exact ob_iret d_X6_userOf_23 rfl ⟨_, rfl, k⟩
  · have k := k.2 cc
    refine ob_aload_n d_X6_userOf_8 rfl ?_
    refine ob_getR d_X6_userOf_9 fl_X6_25 sh_17 rfl rfl ?_
    refine ob_iload_n d_X6_userOf_12 rfl ?_
    obtain ⟨hin, k⟩ := k
    refine ob_iald d_X6_userOf_13 sh_21 hin ?_
    refine ob_goto (tgt := 23) d_X6_userOf_14 rfl ?_
    exact ob_iret d_X6_userOf_23 rfl ⟨_, rfl, k⟩
theorem d_X6_daysTill_0 : decode oX6_daysTill.2.1 0 = .ok (.aload_n 0, 1) := by decide +kernel
theorem d_X6_daysTill_1 : decode oX6_daysTill.2.1 1 = .ok (.getfield 9, 3) := by decide +kernel
theorem d_X6_daysTill_4 : decode oX6_daysTill.2.1 4 = .ok (.getfield 81, 3) := by decide +kernel
theorem d_X6_daysTill_7 : decode oX6_daysTill.2.1 7 = .ok (.istore_n 2, 1) := by decide +kernel
theorem d_X6_daysTill_8 : decode oX6_daysTill.2.1 8 = .ok (.iload_n 2, 1) := by decide +kernel
theorem d_X6_daysTill_9 : decode oX6_daysTill.2.1 9 = .ok (.iconst 1, 1) := by decide +kernel
theorem d_X6_daysTill_10 : decode oX6_daysTill.2.1 10 = .ok (.if_icmp .ge 5, 3) := by decide +kernel
theorem d_X6_daysTill_13 : decode oX6_daysTill.2.1 13 = .ok (.iconst 1, 1) := by decide +kernel
theorem d_X6_daysTill_14 : decode oX6_daysTill.2.1 14 = .ok (.ireturn, 1) := by decide +kernel
theorem d_X6_daysTill_15 : decode oX6_daysTill.2.1 15 = .ok (.aload_n 0, 1) := by decide +kernel
theorem d_X6_daysTill_16 : decode oX6_daysTill.2.1 16 = .ok (.getfield 9, 3) := by decide +kernel
theorem d_X6_daysTill_19 : decode oX6_daysTill.2.1 19 = .ok (.getfield 84, 3) := by decide +kernel
theorem d_X6_daysTill_22 : decode oX6_daysTill.2.1 22 = .ok (.iload_n 1, 1) := by decide +kernel
theorem d_X6_daysTill_23 : decode oX6_daysTill.2.1 23 = .ok (.iaload, 1) := by decide +kernel
theorem d_X6_daysTill_24 : decode oX6_daysTill.2.1 24 = .ok (.iload_n 2, 1) := by decide +kernel
theorem d_X6_daysTill_25 : decode oX6_daysTill.2.1 25 = .ok (.iadd, 1) := by decide +kernel
theorem d_X6_daysTill_26 : decode oX6_daysTill.2.1 26 = .ok (.aload_n 0, 1) := by decide +kernel
theorem d_X6_daysTill_27 : decode oX6_daysTill.2.1 27 = .ok (.getfield 61, 3) := by decide +kernel
theorem d_X6_daysTill_30 : decode oX6_daysTill.2.1 30 = .ok (.iload_n 2, 1) := by decide +kernel
theorem d_X6_daysTill_31 : decode oX6_daysTill.2.1 31 = .ok (.irem, 1) := by decide +kernel
theorem d_X6_daysTill_32 : decode oX6_daysTill.2.1 32 = .ok (.isub, 1) := by decide +kernel
theorem d_X6_daysTill_33 : decode oX6_daysTill.2.1 33 = .ok (.iload_n 2, 1) := by decide +kernel
theorem d_X6_daysTill_34 : decode oX6_daysTill.2.1 34 = .ok (.irem, 1) := by decide +kernel
theorem d_X6_daysTill_35 : decode oX6_daysTill.2.1 35 = .ok (.istore_n 3, 1) := by decide +kernel
theorem d_X6_daysTill_36 : decode oX6_daysTill.2.1 36 = .ok (.iload_n 3, 1) := by decide +kernel
theorem d_X6_daysTill_37 : decode oX6_daysTill.2.1 37 = .ok (.ifCond .ne 7, 3) := by decide +kernel
theorem d_X6_daysTill_40 : decode oX6_daysTill.2.1 40 = .ok (.iload_n 2, 1) := by decide +kernel
theorem d_X6_daysTill_41 : decode oX6_daysTill.2.1 41 = .ok (.goto 4, 3) := by decide +kernel
theorem d_X6_daysTill_44 : decode oX6_daysTill.2.1 44 = .ok (.iload_n 3, 1) := by decide +kernel
theorem d_X6_daysTill_45 : decode oX6_daysTill.2.1 45 = .ok (.ireturn, 1) := by decide +kernel
theorem b_X6_daysTill_0 {E : ob_E} {σ : ob_Mem} {Q : Int32 → ob_Mem → Prop} {x1 : Int32} (k : (((1 : Int32) ≤ (σ.1 10 6) → (vp_in x1 8 ∧ (¬ (σ.1 10 6) = 0 ∧ (¬ (σ.1 10 6) = 0 ∧ (∀ w1 : Int32, w1 = (ob_rem (((σ.1 13 (x1).toNatClampNeg) + (σ.1 10 6)) - (ob_rem (σ.1 17 7) (σ.1 10 6))) (σ.1 10 6)) → ((¬ w1 = 0 → Q w1 σ) ∧ (w1 = 0 → Q (σ.1 10 6) σ))))))) ∧ (¬ (1 : Int32) ≤ (σ.1 10 6) → Q (1 : Int32) σ))) : ob_RT shp E oX6_daysTill 0 [.ref 17, .int x1, .null, .null] [] σ (ob_qI Q) := by
  refine ob_aload_n d_X6_daysTill_0 rfl ?_
  refine ob_getR d_X6_daysTill_1 fl_X6_9 sh_17 rfl rfl ?_
  refine ob_getI d_X6_daysTill_4 fl_X6_81 sh_10 rfl (by decide) ?_
  refine ob_istore_n (ls' := [.ref 17, .int x1, .int (σ.1 10 6), .null]) d_X6_daysTill_7 (Nat.le_of_ble_eq_true rfl) rfl ?_
  refine ob_iload_n d_X6_daysTill_8 rfl ?_
  refine ob_iconst (v := 1) d_X6_daysTill_9 ci_1 ?_
  refine ob_icmp_ge (tgt := 15) d_X6_daysTill_10 rfl (fun cc => ?_) (fun cc => ?_)
  · have k := k.1 cc
    refine ob_aload_n d_X6_daysTill_15 rfl ?_
    refine ob_getR d_X6_daysTill_16 fl_X6_9 sh_17 rfl rfl ?_
    refine ob_getR d_X6_daysTill_19 fl_X6_84 sh_10 rfl rfl ?_
    refine ob_iload_n d_X6_daysTill_22 rfl ?_
    obtain ⟨hin, k⟩ := k
    refine ob_iald d_X6_daysTill_23 sh_13 hin ?_
    refine ob_iload_n d_X6_daysTill_24 rfl ?_
    refine ob_iadd d_X6_daysTill_25 ?_
    refine ob_aload_n d_X6_daysTill_26 rfl ?_
    refine ob_getI d_X6_daysTill_27 fl_X6_61 sh_17 rfl (by decide) ?_
    refine ob_iload_n d_X6_daysTill_30 rfl ?_
    obtain ⟨hne, k⟩ := k
    refine ob_irem d_X6_daysTill_31 hne ?_
    refine ob_isub d_X6_daysTill_32 ?_
    refine ob_iload_n d_X6_daysTill_33 rfl ?_
    obtain ⟨hne, k⟩ := k
    refine ob_irem d_X6_daysTill_34 hne ?_
    refine ob_nmI (fun w1 hw1 => ?_)
    have k := k w1 hw1
    refine ob_istore_n (ls' := [.ref 17, .int x1, .int (σ.1 10 6), .int w1]) d_X6_daysTill_35 (Nat.le_of_ble_eq_true rfl) rfl ?_
    refine ob_iload_n d_X6_daysTill_36 rfl ?_
    refine ob_if_ne (tgt := 44) d_X6_daysTill_37 rfl (fun cc => ?_) (fun cc => ?_)
    · have k := k.1 cc
      refine ob_iload_n d_X6_daysTill_44 rfl ?_
      exact ob_iret d_X6_daysTill_45 rfl ⟨_, rfl, k⟩
    · have k := k.2 cc
      refine ob_iload_n d_X6_daysTill_40 rfl ?_
      refine ob_goto (tgt := 45) d_X6_daysTill_41 rfl ?_
      exact ob_iret d_X6_daysTill_45 rfl ⟨_, rfl, k⟩
  · have k := k.2 cc
    refine ob_iconst (v := 1) d_X6_daysTill_13 ci_1 ?_
    exact ob_iret d_X6_daysTill_14 rfl ⟨_, rfl, k⟩
theorem d_X6_seasonOf_0 : decode oX6_seasonOf.2.1 0 = .ok (.aload_n 0, 1) := by decide +kernel
theorem d_X6_seasonOf_1 : decode oX6_seasonOf.2.1 1 = .ok (.getfield 9, 3) := by decide +kernel
theorem d_X6_seasonOf_4 : decode oX6_seasonOf.2.1 4 = .ok (.getfield 81, 3) := by decide +kernel
theorem d_X6_seasonOf_7 : decode oX6_seasonOf.2.1 7 = .ok (.istore_n 2, 1) := by decide +kernel
theorem d_X6_seasonOf_8 : decode oX6_seasonOf.2.1 8 = .ok (.iload_n 2, 1) := by decide +kernel
theorem d_X6_seasonOf_9 : decode oX6_seasonOf.2.1 9 = .ok (.iconst 1, 1) := by decide +kernel
theorem d_X6_seasonOf_10 : decode oX6_seasonOf.2.1 10 = .ok (.if_icmp .ge 13, 3) := by decide +kernel
theorem d_X6_seasonOf_13 : decode oX6_seasonOf.2.1 13 = .ok (.aload_n 0, 1) := by decide +kernel
theorem d_X6_seasonOf_14 : decode oX6_seasonOf.2.1 14 = .ok (.getfield 9, 3) := by decide +kernel
theorem d_X6_seasonOf_17 : decode oX6_seasonOf.2.1 17 = .ok (.getfield 87, 3) := by decide +kernel
theorem d_X6_seasonOf_20 : decode oX6_seasonOf.2.1 20 = .ok (.iload_n 1, 1) := by decide +kernel
theorem d_X6_seasonOf_21 : decode oX6_seasonOf.2.1 21 = .ok (.iaload, 1) := by decide +kernel
theorem d_X6_seasonOf_22 : decode oX6_seasonOf.2.1 22 = .ok (.ireturn, 1) := by decide +kernel
theorem d_X6_seasonOf_23 : decode oX6_seasonOf.2.1 23 = .ok (.aload_n 0, 1) := by decide +kernel
theorem d_X6_seasonOf_24 : decode oX6_seasonOf.2.1 24 = .ok (.getfield 9, 3) := by decide +kernel
theorem d_X6_seasonOf_27 : decode oX6_seasonOf.2.1 27 = .ok (.getfield 87, 3) := by decide +kernel
theorem d_X6_seasonOf_30 : decode oX6_seasonOf.2.1 30 = .ok (.iload_n 1, 1) := by decide +kernel
theorem d_X6_seasonOf_31 : decode oX6_seasonOf.2.1 31 = .ok (.iaload, 1) := by decide +kernel
theorem d_X6_seasonOf_32 : decode oX6_seasonOf.2.1 32 = .ok (.aload_n 0, 1) := by decide +kernel
theorem d_X6_seasonOf_33 : decode oX6_seasonOf.2.1 33 = .ok (.getfield 9, 3) := by decide +kernel
theorem d_X6_seasonOf_36 : decode oX6_seasonOf.2.1 36 = .ok (.getfield 87, 3) := by decide +kernel
theorem d_X6_seasonOf_39 : decode oX6_seasonOf.2.1 39 = .ok (.iload_n 1, 1) := by decide +kernel
theorem d_X6_seasonOf_40 : decode oX6_seasonOf.2.1 40 = .ok (.iaload, 1) := by decide +kernel
theorem d_X6_seasonOf_41 : decode oX6_seasonOf.2.1 41 = .ok (.iload_n 2, 1) := by decide +kernel
theorem d_X6_seasonOf_42 : decode oX6_seasonOf.2.1 42 = .ok (.aload_n 0, 1) := by decide +kernel
theorem d_X6_seasonOf_43 : decode oX6_seasonOf.2.1 43 = .ok (.iload_n 1, 1) := by decide +kernel
theorem d_X6_seasonOf_44 : decode oX6_seasonOf.2.1 44 = .ok (.invokevirtual 90, 3) := by decide +kernel
theorem d_X6_seasonOf_47 : decode oX6_seasonOf.2.1 47 = .ok (.isub, 1) := by decide +kernel
theorem d_X6_seasonOf_48 : decode oX6_seasonOf.2.1 48 = .ok (.imul, 1) := by decide +kernel
theorem d_X6_seasonOf_49 : decode oX6_seasonOf.2.1 49 = .ok (.iload_n 2, 1) := by decide +kernel
theorem d_X6_seasonOf_50 : decode oX6_seasonOf.2.1 50 = .ok (.idiv, 1) := by decide +kernel
theorem d_X6_seasonOf_51 : decode oX6_seasonOf.2.1 51 = .ok (.iadd, 1) := by decide +kernel
theorem d_X6_seasonOf_52 : decode oX6_seasonOf.2.1 52 = .ok (.ireturn, 1) := by decide +kernel
theorem b_X6_seasonOf_0 {E : ob_E} {σ : ob_Mem} {Q : Int32 → ob_Mem → Prop} {x1 : Int32} (k : (((1 : Int32) ≤ (σ.1 10 6) → (vp_in x1 8 ∧ (vp_in x1 8 ∧ ob_RM shp E oX6_daysTill [.ref 17, .int x1] σ (ob_qI fun v2 σ1 => (¬ (σ.1 10 6) = 0 ∧ Q ((σ.1 15 (x1).toNatClampNeg) + (((σ.1 15 (x1).toNatClampNeg) * ((σ.1 10 6) - v2)) / (σ.1 10 6))) σ1))))) ∧ (¬ (1 : Int32) ≤ (σ.1 10 6) → (vp_in x1 8 ∧ Q (σ.1 15 (x1).toNatClampNeg) σ)))) : ob_RT shp E oX6_seasonOf 0 [.ref 17, .int x1, .null] [] σ (ob_qI Q) := by
  refine ob_aload_n d_X6_seasonOf_0 rfl ?_
  refine ob_getR d_X6_seasonOf_1 fl_X6_9 sh_17 rfl rfl ?_
  refine ob_getI d_X6_seasonOf_4 fl_X6_81 sh_10 rfl (by decide) ?_
  refine ob_istore_n (ls' := [.ref 17, .int x1, .int (σ.1 10 6)]) d_X6_seasonOf_7 (Nat.le_of_ble_eq_true rfl) rfl ?_
  refine ob_iload_n d_X6_seasonOf_8 rfl ?_
  refine ob_iconst (v := 1) d_X6_seasonOf_9 ci_1 ?_
  refine ob_icmp_ge (tgt := 23) d_X6_seasonOf_10 rfl (fun cc => ?_) (fun cc => ?_)
  · have k := k.1 cc
    refine ob_aload_n d_X6_seasonOf_23 rfl ?_
    refine ob_getR d_X6_seasonOf_24 fl_X6_9 sh_17 rfl rfl ?_
    refine ob_getR d_X6_seasonOf_27 fl_X6_87 sh_10 rfl rfl ?_
    refine ob_iload_n d_X6_seasonOf_30 rfl ?_
    obtain ⟨hin, k⟩ := k
    refine ob_iald d_X6_seasonOf_31 sh_15 hin ?_
    refine ob_aload_n d_X6_seasonOf_32 rfl ?_
    refine ob_getR d_X6_seasonOf_33 fl_X6_9 sh_17 rfl rfl ?_
    refine ob_getR d_X6_seasonOf_36 fl_X6_87 sh_10 rfl rfl ?_
    refine ob_iload_n d_X6_seasonOf_39 rfl ?_
    obtain ⟨hin, k⟩ := k
    refine ob_iald d_X6_seasonOf_40 sh_15 hin ?_
    refine ob_iload_n d_X6_seasonOf_41 rfl ?_
    refine ob_aload_n d_X6_seasonOf_42 rfl ?_
    refine ob_iload_n d_X6_seasonOf_43 rfl ?_
    refine ob_callV [.int x1] (z := oX6_daysTill) (st := [.int (σ.1 10 6), .int (σ.1 15 (x1).toNatClampNeg), .int (σ.1 15 (x1).toNatClampNeg)]) d_X6_seasonOf_44 lk_X6_90 mv_X6_daysTill rfl sh_17 cl_6 rfl (Nat.le_of_ble_eq_true rfl) rfl k (ob_kI fun v2 σ1 k => ?_)
    refine ob_isub d_X6_seasonOf_47 ?_
    refine ob_imul d_X6_seasonOf_48 ?_
    refine ob_iload_n d_X6_seasonOf_49 rfl ?_
    obtain ⟨hne, k⟩ := k
    refine ob_idiv d_X6_seasonOf_50 hne ?_
    refine ob_iadd d_X6_seasonOf_51 ?_
    exact ob_iret d_X6_seasonOf_52 rfl ⟨_, rfl, k⟩
  · have k := k.2 cc
    refine ob_aload_n d_X6_seasonOf_13 rfl ?_
    refine ob_getR d_X6_seasonOf_14 fl_X6_9 sh_17 rfl rfl ?_
    refine ob_getR d_X6_seasonOf_17 fl_X6_87 sh_10 rfl rfl ?_
    refine ob_iload_n d_X6_seasonOf_20 rfl ?_
    obtain ⟨hin, k⟩ := k
    refine ob_iald d_X6_seasonOf_21 sh_15 hin ?_
    exact ob_iret d_X6_seasonOf_22 rfl ⟨_, rfl, k⟩
theorem d_X6_passDays_0 : decode oX6_passDays.2.1 0 = .ok (.iconst 0, 1) := by decide +kernel
theorem d_X6_passDays_1 : decode oX6_passDays.2.1 1 = .ok (.istore_n 2, 1) := by decide +kernel
theorem d_X6_passDays_2 : decode oX6_passDays.2.1 2 = .ok (.iload_n 2, 1) := by decide +kernel
theorem d_X6_passDays_3 : decode oX6_passDays.2.1 3 = .ok (.aload_n 0, 1) := by decide +kernel
theorem d_X6_passDays_4 : decode oX6_passDays.2.1 4 = .ok (.getfield 9, 3) := by decide +kernel
theorem d_X6_passDays_7 : decode oX6_passDays.2.1 7 = .ok (.getfield 74, 3) := by decide +kernel
theorem d_X6_passDays_10 : decode oX6_passDays.2.1 10 = .ok (.if_icmp .ge 50, 3) := by decide +kernel
theorem d_X6_passDays_13 : decode oX6_passDays.2.1 13 = .ok (.aload_n 0, 1) := by decide +kernel
theorem d_X6_passDays_14 : decode oX6_passDays.2.1 14 = .ok (.iload_n 2, 1) := by decide +kernel
theorem d_X6_passDays_15 : decode oX6_passDays.2.1 15 = .ok (.aload_n 0, 1) := by decide +kernel
theorem d_X6_passDays_16 : decode oX6_passDays.2.1 16 = .ok (.iload_n 2, 1) := by decide +kernel
theorem d_X6_passDays_17 : decode oX6_passDays.2.1 17 = .ok (.iload_n 1, 1) := by decide +kernel
theorem d_X6_passDays_18 : decode oX6_passDays.2.1 18 = .ok (.invokevirtual 102, 3) := by decide +kernel
theorem d_X6_passDays_21 : decode oX6_passDays.2.1 21 = .ok (.invokevirtual 99, 3) := by decide +kernel
theorem d_X6_passDays_24 : decode oX6_passDays.2.1 24 = .ok (.istore_n 3, 1) := by decide +kernel
theorem d_X6_passDays_25 : decode oX6_passDays.2.1 25 = .ok (.aload_n 0, 1) := by decide +kernel
theorem d_X6_passDays_26 : decode oX6_passDays.2.1 26 = .ok (.aload_n 0, 1) := by decide +kernel
theorem d_X6_passDays_27 : decode oX6_passDays.2.1 27 = .ok (.getfield 25, 3) := by decide +kernel
theorem d_X6_passDays_30 : decode oX6_passDays.2.1 30 = .ok (.iload_n 2, 1) := by decide +kernel
theorem d_X6_passDays_31 : decode oX6_passDays.2.1 31 = .ok (.iaload, 1) := by decide +kernel
theorem d_X6_passDays_32 : decode oX6_passDays.2.1 32 = .ok (.iload_n 3, 1) := by decide +kernel
theorem d_X6_passDays_33 : decode oX6_passDays.2.1 33 = .ok (.invokevirtual 112, 3) := by decide +kernel
theorem d_X6_passDays_36 : decode oX6_passDays.2.1 36 = .ok (.aload_n 0, 1) := by decide +kernel
theorem d_X6_passDays_37 : decode oX6_passDays.2.1 37 = .ok (.aload_n 0, 1) := by decide +kernel
theorem d_X6_passDays_38 : decode oX6_passDays.2.1 38 = .ok (.getfield 22, 3) := by decide +kernel
theorem d_X6_passDays_41 : decode oX6_passDays.2.1 41 = .ok (.iload_n 2, 1) := by decide +kernel
theorem d_X6_passDays_42 : decode oX6_passDays.2.1 42 = .ok (.iaload, 1) := by decide +kernel
theorem d_X6_passDays_43 : decode oX6_passDays.2.1 43 = .ok (.aload_n 0, 1) := by decide +kernel
theorem d_X6_passDays_44 : decode oX6_passDays.2.1 44 = .ok (.iload_n 2, 1) := by decide +kernel
theorem d_X6_passDays_45 : decode oX6_passDays.2.1 45 = .ok (.iload_n 1, 1) := by decide +kernel
theorem d_X6_passDays_46 : decode oX6_passDays.2.1 46 = .ok (.invokevirtual 99, 3) := by decide +kernel
theorem d_X6_passDays_49 : decode oX6_passDays.2.1 49 = .ok (.iload_n 3, 1) := by decide +kernel
theorem d_X6_passDays_50 : decode oX6_passDays.2.1 50 = .ok (.isub, 1) := by decide +kernel
theorem d_X6_passDays_51 : decode oX6_passDays.2.1 51 = .ok (.invokevirtual 112, 3) := by decide +kernel
theorem d_X6_passDays_54 : decode oX6_passDays.2.1 54 = .ok (.iinc 2 1, 3) := by decide +kernel
theorem d_X6_passDays_57 : decode oX6_passDays.2.1 57 = .ok (.goto (-55), 3) := by decide +kernel
theorem d_X6_passDays_60 : decode oX6_passDays.2.1 60 = .ok (.aload_n 0, 1) := by decide +kernel
theorem d_X6_passDays_61 : decode oX6_passDays.2.1 61 = .ok (.dup, 1) := by decide +kernel
theorem d_X6_passDays_62 : decode oX6_passDays.2.1 62 = .ok (.getfield 61, 3) := by decide +kernel
theorem d_X6_passDays_65 : decode oX6_passDays.2.1 65 = .ok (.iload_n 1, 1) := by decide +kernel
theorem d_X6_passDays_66 : decode oX6_passDays.2.1 66 = .ok (.iadd, 1) := by decide +kernel
theorem d_X6_passDays_67 : decode oX6_passDays.2.1 67 = .ok (.putfield 61, 3) := by decide +kernel
theorem d_X6_passDays_70 : decode oX6_passDays.2.1 70 = .ok (.iconst 0, 1) := by decide +kernel
theorem d_X6_passDays_71 : decode oX6_passDays.2.1 71 = .ok (.istore_n 2, 1) := by decide +kernel
theorem d_X6_passDays_72 : decode oX6_passDays.2.1 72 = .ok (.iload_n 2, 1) := by decide +kernel
theorem d_X6_passDays_73 : decode oX6_passDays.2.1 73 = .ok (.aload_n 0, 1) := by decide +kernel
theorem d_X6_passDays_74 : decode oX6_passDays.2.1 74 = .ok (.getfield 9, 3) := by decide +kernel
theorem d_X6_passDays_77 : decode oX6_passDays.2.1 77 = .ok (.getfield 74, 3) := by decide +kernel
theorem d_X6_passDays_80 : decode oX6_passDays.2.1 80 = .ok (.if_icmp .ge 35, 3) := by decide +kernel
theorem d_X6_passDays_83 : decode oX6_passDays.2.1 83 = .ok (.aload_n 0, 1) := by decide +kernel
theorem d_X6_passDays_84 : decode oX6_passDays.2.1 84 = .ok (.iload_n 2, 1) := by decide +kernel
theorem d_X6_passDays_85 : decode oX6_passDays.2.1 85 = .ok (.invokevirtual 71, 3) := by decide +kernel
theorem d_X6_passDays_88 : decode oX6_passDays.2.1 88 = .ok (.ifCond .eq 21, 3) := by decide +kernel
theorem d_X6_passDays_91 : decode oX6_passDays.2.1 91 = .ok (.aload_n 0, 1) := by decide +kernel
theorem d_X6_passDays_92 : decode oX6_passDays.2.1 92 = .ok (.getfield 28, 3) := by decide +kernel
theorem d_X6_passDays_95 : decode oX6_passDays.2.1 95 = .ok (.iload_n 2, 1) := by decide +kernel
theorem d_X6_passDays_96 : decode oX6_passDays.2.1 96 = .ok (.iaload, 1) := by decide +kernel
theorem d_X6_passDays_97 : decode oX6_passDays.2.1 97 = .ok (.aload_n 0, 1) := by decide +kernel
theorem d_X6_passDays_98 : decode oX6_passDays.2.1 98 = .ok (.getfield 61, 3) := by decide +kernel
theorem d_X6_passDays_101 : decode oX6_passDays.2.1 101 = .ok (.if_icmp .gt 8, 3) := by decide +kernel
theorem d_X6_passDays_104 : decode oX6_passDays.2.1 104 = .ok (.aload_n 0, 1) := by decide +kernel
theorem d_X6_passDays_105 : decode oX6_passDays.2.1 105 = .ok (.iload_n 2, 1) := by decide +kernel
theorem d_X6_passDays_106 : decode oX6_passDays.2.1 106 = .ok (.invokevirtual 116, 3) := by decide +kernel
theorem d_X6_passDays_109 : decode oX6_passDays.2.1 109 = .ok (.iinc 2 1, 3) := by decide +kernel
theorem d_X6_passDays_112 : decode oX6_passDays.2.1 112 = .ok (.goto (-40), 3) := by decide +kernel
theorem d_X6_passDays_115 : decode oX6_passDays.2.1 115 = .ok (.return_, 1) := by decide +kernel
theorem b_X6_passDays_0 {E : ob_E} {σ : ob_Mem} {Q : ob_Mem → Prop} {x1 : Int32} (k : ob_RT shp E oX6_passDays 2 [.ref 17, .int x1, .int (0 : Int32), .null] [] σ (ob_qV Q)) : ob_RT shp E oX6_passDays 0 [.ref 17, .int x1, .null, .null] [] σ (ob_qV Q) := by
  refine ob_iconst (v := 0) d_X6_passDays_0 ci_0 ?_
  refine ob_istore_n (ls' := [.ref 17, .int x1, .int (0 : Int32), .null]) d_X6_passDays_1 (Nat.le_of_ble_eq_true rfl) rfl ?_
  exact k
theorem b_X6_passDays_2 {E : ob_E} {σ : ob_Mem} {Q : ob_Mem → Prop} {x1 x2 : Int32} (k : (((σ.1 10 8) ≤ x2 → ob_RT shp E oX6_passDays 72 [.ref 17, .int x1, .int (0 : Int32), .null] [] (ob_wI σ 17 7 ((σ.1 17 7) + x1)) (ob_qV Q)) ∧ (¬ (σ.1 10 8) ≤ x2 → ob_RM shp E oX6_daysLent [.ref 17, .int x2, .int x1] σ (ob_qI fun v2 σ1 => ob_RM shp E oX6_comings [.ref 17, .int x2, .int v2] σ1 (ob_qI fun v4 σ3 => (vp_in x2 8 ∧ ob_RM shp E oX6_growOlder [.ref 17, .int (σ3.1 21 (x2).toNatClampNeg), .int v4] σ3 (ob_qV fun σ5 => (vp_in x2 8 ∧ ob_RM shp E oX6_comings [.ref 17, .int x2, .int x1] σ5 (ob_qI fun v7 σ6 => ob_RM shp E oX6_growOlder [.ref 17, .int (σ5.1 20 (x2).toNatClampNeg), .int (v7 - v4)] σ6 (ob_qV fun σ8 => ob_RT shp E oX6_passDays 2 [.ref 17, .int x1, .int (x2 + (1 : Int32)), .null] [] σ8 (ob_qV Q))))))))))) : ob_RT shp E oX6_passDays 2 [.ref 17, .int x1, .int x2, .null] [] σ (ob_qV Q) := by
  refine ob_iload_n d_X6_passDays_2 rfl ?_
  refine ob_aload_n d_X6_passDays_3 rfl ?_
  refine ob_getR d_X6_passDays_4 fl_X6_9 sh_17 rfl rfl ?_
  refine ob_getI d_X6_passDays_7 fl_X6_74 sh_10 rfl (by decide) ?_
  refine ob_icmp_ge (tgt := 60) d_X6_passDays_10 rfl (fun cc => ?_) (fun cc => ?_)
  · have k := k.1 cc
    refine ob_aload_n d_X6_passDays_60 rfl ?_
    refine ob_dup d_X6_passDays_61 rfl ?_
    refine ob_getI d_X6_passDays_62 fl_X6_61 sh_17 rfl (by decide) ?_
    refine ob_iload_n d_X6_passDays_65 rfl ?_
    refine ob_iadd d_X6_passDays_66 ?_
    refine ob_putI d_X6_passDays_67 fp_X6_61 sh_17 rfl rfl ?_
    refine ob_iconst (v := 0) d_X6_passDays_70 ci_0 ?_
    refine ob_istore_n (ls' := [.ref 17, .int x1, .int (0 : Int32), .null]) d_X6_passDays_71 (Nat.le_of_ble_eq_true rfl) rfl ?_
    exact k
  · have k := k.2 cc
    refine ob_aload_n d_X6_passDays_13 rfl ?_
    refine ob_iload_n d_X6_passDays_14 rfl ?_
    refine ob_aload_n d_X6_passDays_15 rfl ?_
    refine ob_iload_n d_X6_passDays_16 rfl ?_
    refine ob_iload_n d_X6_passDays_17 rfl ?_
    refine ob_callV [.int x2, .int x1] (z := oX6_daysLent) (st := [.int x2, .ref 17]) d_X6_passDays_18 lk_X6_102 mv_X6_daysLent rfl sh_17 cl_6 rfl (Nat.le_of_ble_eq_true rfl) rfl k (ob_kI fun v2 σ1 k => ?_)
    refine ob_callV [.int x2, .int v2] (z := oX6_comings) (st := []) d_X6_passDays_21 lk_X6_99 mv_X6_comings rfl sh_17 cl_6 rfl (Nat.le_of_ble_eq_true rfl) rfl k (ob_kI fun v4 σ3 k => ?_)
    refine ob_istore_n (ls' := [.ref 17, .int x1, .int x2, .int v4]) d_X6_passDays_24 (Nat.le_of_ble_eq_true rfl) rfl ?_
    refine ob_aload_n d_X6_passDays_25 rfl ?_
    refine ob_aload_n d_X6_passDays_26 rfl ?_
    refine ob_getR d_X6_passDays_27 fl_X6_25 sh_17 rfl rfl ?_
    refine ob_iload_n d_X6_passDays_30 rfl ?_
    obtain ⟨hin, k⟩ := k
    refine ob_iald d_X6_passDays_31 sh_21 hin ?_
    refine ob_iload_n d_X6_passDays_32 rfl ?_
    refine ob_callV [.int (σ3.1 21 (x2).toNatClampNeg), .int v4] (z := oX6_growOlder) (st := []) d_X6_passDays_33 lk_X6_112 mv_X6_growOlder rfl sh_17 cl_6 rfl (Nat.le_of_ble_eq_true rfl) rfl k (ob_kV fun σ5 k => ?_)
    refine ob_aload_n d_X6_passDays_36 rfl ?_
    refine ob_aload_n d_X6_passDays_37 rfl ?_
    refine ob_getR d_X6_passDays_38 fl_X6_22 sh_17 rfl rfl ?_
    refine ob_iload_n d_X6_passDays_41 rfl ?_
    obtain ⟨hin, k⟩ := k
    refine ob_iald d_X6_passDays_42 sh_20 hin ?_
    refine ob_aload_n d_X6_passDays_43 rfl ?_
    refine ob_iload_n d_X6_passDays_44 rfl ?_
    refine ob_iload_n d_X6_passDays_45 rfl ?_
    refine ob_callV [.int x2, .int x1] (z := oX6_comings) (st := [.int (σ5.1 20 (x2).toNatClampNeg), .ref 17]) d_X6_passDays_46 lk_X6_99 mv_X6_comings rfl sh_17 cl_6 rfl (Nat.le_of_ble_eq_true rfl) rfl k (ob_kI fun v7 σ6 k => ?_)
    refine ob_iload_n d_X6_passDays_49 rfl ?_
    refine ob_isub d_X6_passDays_50 ?_
    refine ob_callV [.int (σ5.1 20 (x2).toNatClampNeg), .int (v7 - v4)] (z := oX6_growOlder) (st := []) d_X6_passDays_51 lk_X6_112 mv_X6_growOlder rfl sh_17 cl_6 rfl (Nat.le_of_ble_eq_true rfl) rfl k (ob_kV fun σ8 k => ?_)
    refine ob_iinc (ls' := [.ref 17, .int x1, .int (x2 + (1 : Int32)), .int v4]) (v := 1) d_X6_passDays_54 rfl ci_1 (Nat.le_of_ble_eq_true rfl) rfl ?_
    refine ob_goto (tgt := 2) d_X6_passDays_57 rfl ?_
    refine ob_drop 3 (ls' := [.ref 17, .int x1, .int (x2 + (1 : Int32)), .null]) rfl ?_
    exact k
theorem b_X6_passDays_72 {E : ob_E} {σ : ob_Mem} {Q : ob_Mem → Prop} {x1 x2 : Int32} (k : (((σ.1 10 8) ≤ x2 → Q σ) ∧ (¬ (σ.1 10 8) ≤ x2 → ob_RM shp E oX6_isLent [.ref 17, .int x2] σ (ob_qI fun v2 σ1 => ((v2 = 0 → ob_RT shp E oX6_passDays 72 [.ref 17, .int x1, .int (x2 + (1 : Int32)), .null] [] σ1 (ob_qV Q)) ∧ (¬ v2 = 0 → (vp_in x2 8 ∧ (((σ1.1 17 7) < (σ1.1 22 (x2).toNatClampNeg) → ob_RT shp E oX6_passDays 72 [.ref 17, .int x1, .int (x2 + (1 : Int32)), .null] [] σ1 (ob_qV Q)) ∧ (¬ (σ1.1 17 7) < (σ1.1 22 (x2).toNatClampNeg) → ob_RM shp E oX6_endLoan [.ref 17, .int x2] σ1 (ob_qV fun σ3 => ob_RT shp E oX6_passDays 72 [.ref 17, .int x1, .int (x2 + (1 : Int32)), .null] [] σ3 (ob_qV Q))))))))))) : ob_RT shp E oX6_passDays 72 [.ref 17, .int x1, .int x2, .null] [] σ (ob_qV Q) := by
  refine ob_iload_n d_X6_passDays_72 rfl ?_
  refine ob_aload_n d_X6_passDays_73 rfl ?_
  refine ob_getR d_X6_passDays_74 fl_X6_9 sh_17 rfl rfl ?_
  refine ob_getI d_X6_passDays_77 fl_X6_74 sh_10 rfl (by decide) ?_
  refine ob_icmp_ge (tgt := 115) d_X6_passDays_80 rfl (fun cc => ?_) (fun cc => ?_)
  · have k := k.1 cc
    exact ob_vret d_X6_passDays_115 rfl ⟨rfl, k⟩
  · have k := k.2 cc
    refine ob_aload_n d_X6_passDays_83 rfl ?_
    refine ob_iload_n d_X6_passDays_84 rfl ?_
    refine ob_callV [.int x2] (z := oX6_isLent) (st := []) d_X6_passDays_85 lk_X6_71 mv_X6_isLent rfl sh_17 cl_6 rfl (Nat.le_of_ble_eq_true rfl) rfl k (ob_kI fun v2 σ1 k => ?_)
    refine ob_if_eq (tgt := 109) d_X6_passDays_88 rfl (fun cc => ?_) (fun cc => ?_)
    · have k := k.1 cc
      refine ob_iinc (ls' := [.ref 17, .int x1, .int (x2 + (1 : Int32)), .null]) (v := 1) d_X6_passDays_109 rfl ci_1 (Nat.le_of_ble_eq_true rfl) rfl ?_
      refine ob_goto (tgt := 72) d_X6_passDays_112 rfl ?_
      exact k
    · have k := k.2 cc
      refine ob_aload_n d_X6_passDays_91 rfl ?_
      refine ob_getR d_X6_passDays_92 fl_X6_28 sh_17 rfl rfl ?_
      refine ob_iload_n d_X6_passDays_95 rfl ?_
      obtain ⟨hin, k⟩ := k
      refine ob_iald d_X6_passDays_96 sh_22 hin ?_
      refine ob_aload_n d_X6_passDays_97 rfl ?_
      refine ob_getI d_X6_passDays_98 fl_X6_61 sh_17 rfl (by decide) ?_
      refine ob_icmp_gt (tgt := 109) d_X6_passDays_101 rfl (fun cc => ?_) (fun cc => ?_)
      · have k := k.1 cc
        refine ob_iinc (ls' := [.ref 17, .int x1, .int (x2 + (1 : Int32)), .null]) (v := 1) d_X6_passDays_109 rfl ci_1 (Nat.le_of_ble_eq_true rfl) rfl ?_
        refine ob_goto (tgt := 72) d_X6_passDays_112 rfl ?_
        exact k
      · have k := k.2 cc
        refine ob_aload_n d_X6_passDays_104 rfl ?_
        refine ob_iload_n d_X6_passDays_105 rfl ?_
        refine ob_callV [.int x2] (z := oX6_endLoan) (st := []) d_X6_passDays_106 lk_X6_116 mv_X6_endLoan rfl sh_17 cl_6 rfl (Nat.le_of_ble_eq_true rfl) rfl k (ob_kV fun σ3 k => ?_)
        refine ob_iinc (ls' := [.ref 17, .int x1, .int (x2 + (1 : Int32)), .null]) (v := 1) d_X6_passDays_109 rfl ci_1 (Nat.le_of_ble_eq_true rfl) rfl ?_
        refine ob_goto (tgt := 72) d_X6_passDays_112 rfl ?_
        exact k
theorem d_X6_mayDeal_0 : decode oX6_mayDeal.2.1 0 = .ok (.aload_n 0, 1) := by decide +kernel
theorem d_X6_mayDeal_1 : decode oX6_mayDeal.2.1 1 = .ok (.getfield 22, 3) := by decide +kernel
theorem d_X6_mayDeal_4 : decode oX6_mayDeal.2.1 4 = .ok (.iload_n 1, 1) := by decide +kernel
theorem d_X6_mayDeal_5 : decode oX6_mayDeal.2.1 5 = .ok (.iaload, 1) := by decide +kernel
theorem d_X6_mayDeal_6 : decode oX6_mayDeal.2.1 6 = .ok (.iconst (-1), 1) := by decide +kernel
theorem d_X6_mayDeal_7 : decode oX6_mayDeal.2.1 7 = .ok (.if_icmp .eq 43, 3) := by decide +kernel
theorem d_X6_mayDeal_10 : decode oX6_mayDeal.2.1 10 = .ok (.aload_n 0, 1) := by decide +kernel
theorem d_X6_mayDeal_11 : decode oX6_mayDeal.2.1 11 = .ok (.getfield 22, 3) := by decide +kernel
theorem d_X6_mayDeal_14 : decode oX6_mayDeal.2.1 14 = .ok (.iload_n 1, 1) := by decide +kernel
theorem d_X6_mayDeal_15 : decode oX6_mayDeal.2.1 15 = .ok (.iaload, 1) := by decide +kernel
theorem d_X6_mayDeal_16 : decode oX6_mayDeal.2.1 16 = .ok (.iload_n 2, 1) := by decide +kernel
theorem d_X6_mayDeal_17 : decode oX6_mayDeal.2.1 17 = .ok (.if_icmp .eq 33, 3) := by decide +kernel
theorem d_X6_mayDeal_20 : decode oX6_mayDeal.2.1 20 = .ok (.aload_n 0, 1) := by decide +kernel
theorem d_X6_mayDeal_21 : decode oX6_mayDeal.2.1 21 = .ok (.iload_n 1, 1) := by decide +kernel
theorem d_X6_mayDeal_22 : decode oX6_mayDeal.2.1 22 = .ok (.invokevirtual 71, 3) := by decide +kernel
theorem d_X6_mayDeal_25 : decode oX6_mayDeal.2.1 25 = .ok (.ifCond .ne 25, 3) := by decide +kernel
theorem d_X6_mayDeal_28 : decode oX6_mayDeal.2.1 28 = .ok (.aload_n 0, 1) := by decide +kernel
theorem d_X6_mayDeal_29 : decode oX6_mayDeal.2.1 29 = .ok (.iload_n 2, 1) := by decide +kernel
theorem d_X6_mayDeal_30 : decode oX6_mayDeal.2.1 30 = .ok (.invokevirtual 120, 3) := by decide +kernel
theorem d_X6_mayDeal_33 : decode oX6_mayDeal.2.1 33 = .ok (.ifCond .eq 17, 3) := by decide +kernel
theorem d_X6_mayDeal_36 : decode oX6_mayDeal.2.1 36 = .ok (.aload_n 0, 1) := by decide +kernel
theorem d_X6_mayDeal_37 : decode oX6_mayDeal.2.1 37 = .ok (.getfield 19, 3) := by decide +kernel
theorem d_X6_mayDeal_40 : decode oX6_mayDeal.2.1 40 = .ok (.iload_n 2, 1) := by decide +kernel
theorem d_X6_mayDeal_41 : decode oX6_mayDeal.2.1 41 = .ok (.iaload, 1) := by decide +kernel
theorem d_X6_mayDeal_42 : decode oX6_mayDeal.2.1 42 = .ok (.iload_n 3, 1) := by decide +kernel
theorem d_X6_mayDeal_43 : decode oX6_mayDeal.2.1 43 = .ok (.if_icmp .lt 7, 3) := by decide +kernel
theorem d_X6_mayDeal_46 : decode oX6_mayDeal.2.1 46 = .ok (.iconst 1, 1) := by decide +kernel
theorem d_X6_mayDeal_47 : decode oX6_mayDeal.2.1 47 = .ok (.goto 4, 3) := by decide +kernel
theorem d_X6_mayDeal_50 : decode oX6_mayDeal.2.1 50 = .ok (.iconst 0, 1) := by decide +kernel
theorem d_X6_mayDeal_51 : decode oX6_mayDeal.2.1 51 = .ok (.ireturn, 1) := by decide +kernel
theorem b_X6_mayDeal_0 {E : ob_E} {σ : ob_Mem} {Q : Int32 → ob_Mem → Prop} {x1 x2 x3 : Int32} (k : (vp_in x1 8 ∧ (((σ.1 20 (x1).toNatClampNeg) = (-1 : Int32) → Q (0 : Int32) σ) ∧ (¬ (σ.1 20 (x1).toNatClampNeg) = (-1 : Int32) → (vp_in x1 8 ∧ (((σ.1 20 (x1).toNatClampNeg) = x2 → Q (0 : Int32) σ) ∧ (¬ (σ.1 20 (x1).toNatClampNeg) = x2 → ob_RM shp E oX6_isLent [.ref 17, .int x1] σ (ob_qI fun v2 σ1 => ((¬ v2 = 0 → Q (0 : Int32) σ1) ∧ (v2 = 0 → ob_RM shp E oX6_lives [.ref 17, .int x2] σ1 (ob_qI fun v4 σ3 => ((v4 = 0 → Q (0 : Int32) σ3) ∧ (¬ v4 = 0 → (vp_in x2 6 ∧ (((σ3.1 19 (x2).toNatClampNeg) < x3 → Q (0 : Int32) σ3) ∧ (¬ (σ3.1 19 (x2).toNatClampNeg) < x3 → Q (1 : Int32) σ3)))))))))))))))) : ob_RT shp E oX6_mayDeal 0 [.ref 17, .int x1, .int x2, .int x3] [] σ (ob_qI Q) := by
  refine ob_aload_n d_X6_mayDeal_0 rfl ?_
  refine ob_getR d_X6_mayDeal_1 fl_X6_22 sh_17 rfl rfl ?_
  refine ob_iload_n d_X6_mayDeal_4 rfl ?_
  obtain ⟨hin, k⟩ := k
  refine ob_iald d_X6_mayDeal_5 sh_20 hin ?_
  refine ob_iconst (v := -1) d_X6_mayDeal_6 ci_m1 ?_
  refine ob_icmp_eq (tgt := 50) d_X6_mayDeal_7 rfl (fun cc => ?_) (fun cc => ?_)
  · have k := k.1 cc
    refine ob_iconst (v := 0) d_X6_mayDeal_50 ci_0 ?_
    exact ob_zret d_X6_mayDeal_51 rfl rfl ⟨_, rfl, k⟩
  · have k := k.2 cc
    refine ob_aload_n d_X6_mayDeal_10 rfl ?_
    refine ob_getR d_X6_mayDeal_11 fl_X6_22 sh_17 rfl rfl ?_
    refine ob_iload_n d_X6_mayDeal_14 rfl ?_
    obtain ⟨hin, k⟩ := k
    refine ob_iald d_X6_mayDeal_15 sh_20 hin ?_
    refine ob_iload_n d_X6_mayDeal_16 rfl ?_
    refine ob_icmp_eq (tgt := 50) d_X6_mayDeal_17 rfl (fun cc => ?_) (fun cc => ?_)
    · have k := k.1 cc
      refine ob_iconst (v := 0) d_X6_mayDeal_50 ci_0 ?_
      exact ob_zret d_X6_mayDeal_51 rfl rfl ⟨_, rfl, k⟩
    · have k := k.2 cc
      refine ob_aload_n d_X6_mayDeal_20 rfl ?_
      refine ob_iload_n d_X6_mayDeal_21 rfl ?_
      refine ob_callV [.int x1] (z := oX6_isLent) (st := []) d_X6_mayDeal_22 lk_X6_71 mv_X6_isLent rfl sh_17 cl_6 rfl (Nat.le_of_ble_eq_true rfl) rfl k (ob_kI fun v2 σ1 k => ?_)
      refine ob_if_ne (tgt := 50) d_X6_mayDeal_25 rfl (fun cc => ?_) (fun cc => ?_)
      · have k := k.1 cc
        refine ob_iconst (v := 0) d_X6_mayDeal_50 ci_0 ?_
        exact ob_zret d_X6_mayDeal_51 rfl rfl ⟨_, rfl, k⟩
      · have k := k.2 cc
        refine ob_aload_n d_X6_mayDeal_28 rfl ?_
        refine ob_iload_n d_X6_mayDeal_29 rfl ?_
        refine ob_callV [.int x2] (z := oX6_lives) (st := []) d_X6_mayDeal_30 lk_X6_120 mv_X6_lives rfl sh_17 cl_6 rfl (Nat.le_of_ble_eq_true rfl) rfl k (ob_kI fun v4 σ3 k => ?_)
        refine ob_if_eq (tgt := 50) d_X6_mayDeal_33 rfl (fun cc => ?_) (fun cc => ?_)
        · have k := k.1 cc
          refine ob_iconst (v := 0) d_X6_mayDeal_50 ci_0 ?_
          exact ob_zret d_X6_mayDeal_51 rfl rfl ⟨_, rfl, k⟩
        · have k := k.2 cc
          refine ob_aload_n d_X6_mayDeal_36 rfl ?_
          refine ob_getR d_X6_mayDeal_37 fl_X6_19 sh_17 rfl rfl ?_
          refine ob_iload_n d_X6_mayDeal_40 rfl ?_
          obtain ⟨hin, k⟩ := k
          refine ob_iald d_X6_mayDeal_41 sh_19 hin ?_
          refine ob_iload_n d_X6_mayDeal_42 rfl ?_
          refine ob_icmp_lt (tgt := 50) d_X6_mayDeal_43 rfl (fun cc => ?_) (fun cc => ?_)
          · have k := k.1 cc
            refine ob_iconst (v := 0) d_X6_mayDeal_50 ci_0 ?_
            exact ob_zret d_X6_mayDeal_51 rfl rfl ⟨_, rfl, k⟩
          · have k := k.2 cc
            refine ob_iconst (v := 1) d_X6_mayDeal_46 ci_1 ?_
            refine ob_goto (tgt := 51) d_X6_mayDeal_47 rfl ?_
            exact ob_zret d_X6_mayDeal_51 rfl rfl ⟨_, rfl, k⟩
theorem d_X6_sellTo_0 : decode oX6_sellTo.2.1 0 = .ok (.aload_n 0, 1) := by decide +kernel
theorem d_X6_sellTo_1 : decode oX6_sellTo.2.1 1 = .ok (.iload_n 1, 1) := by decide +kernel
theorem d_X6_sellTo_2 : decode oX6_sellTo.2.1 2 = .ok (.iload_n 2, 1) := by decide +kernel
theorem d_X6_sellTo_3 : decode oX6_sellTo.2.1 3 = .ok (.iload_n 3, 1) := by decide +kernel
theorem d_X6_sellTo_4 : decode oX6_sellTo.2.1 4 = .ok (.invokevirtual 123, 3) := by decide +kernel
theorem d_X6_sellTo_7 : decode oX6_sellTo.2.1 7 = .ok (.aload_n 0, 1) := by decide +kernel
theorem d_X6_sellTo_8 : decode oX6_sellTo.2.1 8 = .ok (.getfield 22, 3) := by decide +kernel
theorem d_X6_sellTo_11 : decode oX6_sellTo.2.1 11 = .ok (.iload_n 1, 1) := by decide +kernel
theorem d_X6_sellTo_12 : decode oX6_sellTo.2.1 12 = .ok (.iload_n 2, 1) := by decide +kernel
theorem d_X6_sellTo_13 : decode oX6_sellTo.2.1 13 = .ok (.iastore, 1) := by decide +kernel
theorem d_X6_sellTo_14 : decode oX6_sellTo.2.1 14 = .ok (.return_, 1) := by decide +kernel
theorem b_X6_sellTo_0 {E : ob_E} {σ : ob_Mem} {Q : ob_Mem → Prop} {x1 x2 x3 : Int32} (k : ob_RM shp E oX6_payOwner [.ref 17, .int x1, .int x2, .int x3] σ (ob_qV fun σ1 => (vp_in x1 8 ∧ Q (ob_wI σ1 20 (x1).toNatClampNeg x2)))) : ob_RT shp E oX6_sellTo 0 [.ref 17, .int x1, .int x2, .int x3] [] σ (ob_qV Q) := by
  refine ob_aload_n d_X6_sellTo_0 rfl ?_
  refine ob_iload_n d_X6_sellTo_1 rfl ?_
  refine ob_iload_n d_X6_sellTo_2 rfl ?_
  refine ob_iload_n d_X6_sellTo_3 rfl ?_
  refine ob_callV [.int x1, .int x2, .int x3] (z := oX6_payOwner) (st := []) d_X6_sellTo_4 lk_X6_123 mv_X6_payOwner rfl sh_17 cl_6 rfl (Nat.le_of_ble_eq_true rfl) rfl k (ob_kV fun σ1 k => ?_)
  refine ob_aload_n d_X6_sellTo_7 rfl ?_
  refine ob_getR d_X6_sellTo_8 fl_X6_22 sh_17 rfl rfl ?_
  refine ob_iload_n d_X6_sellTo_11 rfl ?_
  refine ob_iload_n d_X6_sellTo_12 rfl ?_
  obtain ⟨hin, k⟩ := k
  refine ob_iast d_X6_sellTo_13 sh_20 hin ?_
  exact ob_vret d_X6_sellTo_14 rfl ⟨rfl, k⟩
theorem d_X6_lendTo_0 : decode oX6_lendTo.2.1 0 = .ok (.aload_n 0, 1) := by decide +kernel
theorem d_X6_lendTo_1 : decode oX6_lendTo.2.1 1 = .ok (.iload_n 1, 1) := by decide +kernel
theorem d_X6_lendTo_2 : decode oX6_lendTo.2.1 2 = .ok (.iload_n 2, 1) := by decide +kernel
theorem d_X6_lendTo_3 : decode oX6_lendTo.2.1 3 = .ok (.iload 4, 2) := by decide +kernel
theorem d_X6_lendTo_5 : decode oX6_lendTo.2.1 5 = .ok (.invokevirtual 123, 3) := by decide +kernel
theorem d_X6_lendTo_8 : decode oX6_lendTo.2.1 8 = .ok (.aload_n 0, 1) := by decide +kernel
theorem d_X6_lendTo_9 : decode oX6_lendTo.2.1 9 = .ok (.getfield 25, 3) := by decide +kernel
theorem d_X6_lendTo_12 : decode oX6_lendTo.2.1 12 = .ok (.iload_n 1, 1) := by decide +kernel
theorem d_X6_lendTo_13 : decode oX6_lendTo.2.1 13 = .ok (.iload_n 2, 1) := by decide +kernel
theorem d_X6_lendTo_14 : decode oX6_lendTo.2.1 14 = .ok (.iastore, 1) := by decide +kernel
theorem d_X6_lendTo_15 : decode oX6_lendTo.2.1 15 = .ok (.aload_n 0, 1) := by decide +kernel
theorem d_X6_lendTo_16 : decode oX6_lendTo.2.1 16 = .ok (.getfield 28, 3) := by decide +kernel
theorem d_X6_lendTo_19 : decode oX6_lendTo.2.1 19 = .ok (.iload_n 1, 1) := by decide +kernel
theorem d_X6_lendTo_20 : decode oX6_lendTo.2.1 20 = .ok (.aload_n 0, 1) := by decide +kernel
theorem d_X6_lendTo_21 : decode oX6_lendTo.2.1 21 = .ok (.getfield 61, 3) := by decide +kernel
theorem d_X6_lendTo_24 : decode oX6_lendTo.2.1 24 = .ok (.iload_n 3, 1) := by decide +kernel
theorem d_X6_lendTo_25 : decode oX6_lendTo.2.1 25 = .ok (.iadd, 1) := by decide +kernel
theorem d_X6_lendTo_26 : decode oX6_lendTo.2.1 26 = .ok (.iastore, 1) := by decide +kernel
theorem d_X6_lendTo_27 : decode oX6_lendTo.2.1 27 = .ok (.return_, 1) := by decide +kernel
theorem b_X6_lendTo_0 {E : ob_E} {σ : ob_Mem} {Q : ob_Mem → Prop} {x1 x2 x3 x4 : Int32} (k : ob_RM shp E oX6_payOwner [.ref 17, .int x1, .int x2, .int x4] σ (ob_qV fun σ1 => (vp_in x1 8 ∧ (vp_in x1 8 ∧ Q (ob_wI (ob_wI σ1 21 (x1).toNatClampNeg x2) 22 (x1).toNatClampNeg (((ob_wI σ1 21 (x1).toNatClampNeg x2).1 17 7) + x3)))))) : ob_RT shp E oX6_lendTo 0 [.ref 17, .int x1, .int x2, .int x3, .int x4] [] σ (ob_qV Q) := by
  refine ob_aload_n d_X6_lendTo_0 rfl ?_
  refine ob_iload_n d_X6_lendTo_1 rfl ?_
  refine ob_iload_n d_X6_lendTo_2 rfl ?_
  refine ob_iload d_X6_lendTo_3 rfl ?_
  refine ob_callV [.int x1, .int x2, .int x4] (z := oX6_payOwner) (st := []) d_X6_lendTo_5 lk_X6_123 mv_X6_payOwner rfl sh_17 cl_6 rfl (Nat.le_of_ble_eq_true rfl) rfl k (ob_kV fun σ1 k => ?_)
  refine ob_aload_n d_X6_lendTo_8 rfl ?_
  refine ob_getR d_X6_lendTo_9 fl_X6_25 sh_17 rfl rfl ?_
  refine ob_iload_n d_X6_lendTo_12 rfl ?_
  refine ob_iload_n d_X6_lendTo_13 rfl ?_
  obtain ⟨hin, k⟩ := k
  refine ob_iast d_X6_lendTo_14 sh_21 hin ?_
  refine ob_aload_n d_X6_lendTo_15 rfl ?_
  refine ob_getR d_X6_lendTo_16 fl_X6_28 sh_17 rfl rfl ?_
  refine ob_iload_n d_X6_lendTo_19 rfl ?_
  refine ob_aload_n d_X6_lendTo_20 rfl ?_
  refine ob_getI d_X6_lendTo_21 fl_X6_61 sh_17 rfl (by decide) ?_
  refine ob_iload_n d_X6_lendTo_24 rfl ?_
  refine ob_iadd d_X6_lendTo_25 ?_
  obtain ⟨hin, k⟩ := k
  refine ob_iast d_X6_lendTo_26 sh_22 hin ?_
  exact ob_vret d_X6_lendTo_27 rfl ⟨rfl, k⟩
theorem d_X6_endLife_0 : decode oX6_endLife.2.1 0 = .ok (.aload_n 0, 1) := by decide +kernel
theorem d_X6_endLife_1 : decode oX6_endLife.2.1 1 = .ok (.dup, 1) := by decide +kernel
theorem d_X6_endLife_2 : decode oX6_endLife.2.1 2 = .ok (.getfield 58, 3) := by decide +kernel
theorem d_X6_endLife_5 : decode oX6_endLife.2.1 5 = .ok (.iconst 1, 1) := by decide +kernel
theorem d_X6_endLife_6 : decode oX6_endLife.2.1 6 = .ok (.iload_n 1, 1) := by decide +kernel
theorem d_X6_endLife_7 : decode oX6_endLife.2.1 7 = .ok (.ishl, 1) := by decide +kernel
theorem d_X6_endLife_8 : decode oX6_endLife.2.1 8 = .ok (.iconst (-1), 1) := by decide +kernel
theorem d_X6_endLife_9 : decode oX6_endLife.2.1 9 = .ok (.ixor, 1) := by decide +kernel
theorem d_X6_endLife_10 : decode oX6_endLife.2.1 10 = .ok (.iand, 1) := by decide +kernel
theorem d_X6_endLife_11 : decode oX6_endLife.2.1 11 = .ok (.putfield 58, 3) := by decide +kernel
theorem d_X6_endLife_14 : decode oX6_endLife.2.1 14 = .ok (.aload_n 0, 1) := by decide +kernel
theorem d_X6_endLife_15 : decode oX6_endLife.2.1 15 = .ok (.invokevirtual 127, 3) := by decide +kernel
theorem d_X6_endLife_18 : decode oX6_endLife.2.1 18 = .ok (.istore_n 2, 1) := by decide +kernel
theorem d_X6_endLife_19 : decode oX6_endLife.2.1 19 = .ok (.iconst 0, 1) := by decide +kernel
theorem d_X6_endLife_20 : decode oX6_endLife.2.1 20 = .ok (.istore_n 3, 1) := by decide +kernel
theorem d_X6_endLife_21 : decode oX6_endLife.2.1 21 = .ok (.iload_n 3, 1) := by decide +kernel
theorem d_X6_endLife_22 : decode oX6_endLife.2.1 22 = .ok (.aload_n 0, 1) := by decide +kernel
theorem d_X6_endLife_23 : decode oX6_endLife.2.1 23 = .ok (.getfield 9, 3) := by decide +kernel
theorem d_X6_endLife_26 : decode oX6_endLife.2.1 26 = .ok (.getfield 74, 3) := by decide +kernel
theorem d_X6_endLife_29 : decode oX6_endLife.2.1 29 = .ok (.if_icmp .ge 56, 3) := by decide +kernel
theorem d_X6_endLife_32 : decode oX6_endLife.2.1 32 = .ok (.aload_n 0, 1) := by decide +kernel
theorem d_X6_endLife_33 : decode oX6_endLife.2.1 33 = .ok (.getfield 25, 3) := by decide +kernel
theorem d_X6_endLife_36 : decode oX6_endLife.2.1 36 = .ok (.iload_n 3, 1) := by decide +kernel
theorem d_X6_endLife_37 : decode oX6_endLife.2.1 37 = .ok (.iaload, 1) := by decide +kernel
theorem d_X6_endLife_38 : decode oX6_endLife.2.1 38 = .ok (.iload_n 1, 1) := by decide +kernel
theorem d_X6_endLife_39 : decode oX6_endLife.2.1 39 = .ok (.if_icmp .ne 8, 3) := by decide +kernel
theorem d_X6_endLife_42 : decode oX6_endLife.2.1 42 = .ok (.aload_n 0, 1) := by decide +kernel
theorem d_X6_endLife_43 : decode oX6_endLife.2.1 43 = .ok (.iload_n 3, 1) := by decide +kernel
theorem d_X6_endLife_44 : decode oX6_endLife.2.1 44 = .ok (.invokevirtual 116, 3) := by decide +kernel
theorem d_X6_endLife_47 : decode oX6_endLife.2.1 47 = .ok (.aload_n 0, 1) := by decide +kernel
theorem d_X6_endLife_48 : decode oX6_endLife.2.1 48 = .ok (.getfield 22, 3) := by decide +kernel
theorem d_X6_endLife_51 : decode oX6_endLife.2.1 51 = .ok (.iload_n 3, 1) := by decide +kernel
theorem d_X6_endLife_52 : decode oX6_endLife.2.1 52 = .ok (.iaload, 1) := by decide +kernel
theorem d_X6_endLife_53 : decode oX6_endLife.2.1 53 = .ok (.iload_n 1, 1) := by decide +kernel
theorem d_X6_endLife_54 : decode oX6_endLife.2.1 54 = .ok (.if_icmp .ne 25, 3) := by decide +kernel
theorem d_X6_endLife_57 : decode oX6_endLife.2.1 57 = .ok (.aload_n 0, 1) := by decide +kernel
theorem d_X6_endLife_58 : decode oX6_endLife.2.1 58 = .ok (.getfield 22, 3) := by decide +kernel
theorem d_X6_endLife_61 : decode oX6_endLife.2.1 61 = .ok (.iload_n 3, 1) := by decide +kernel
theorem d_X6_endLife_62 : decode oX6_endLife.2.1 62 = .ok (.iload_n 2, 1) := by decide +kernel
theorem d_X6_endLife_63 : decode oX6_endLife.2.1 63 = .ok (.iastore, 1) := by decide +kernel
theorem d_X6_endLife_64 : decode oX6_endLife.2.1 64 = .ok (.aload_n 0, 1) := by decide +kernel
theorem d_X6_endLife_65 : decode oX6_endLife.2.1 65 = .ok (.getfield 25, 3) := by decide +kernel
theorem d_X6_endLife_68 : decode oX6_endLife.2.1 68 = .ok (.iload_n 3, 1) := by decide +kernel
theorem d_X6_endLife_69 : decode oX6_endLife.2.1 69 = .ok (.iaload, 1) := by decide +kernel
theorem d_X6_endLife_70 : decode oX6_endLife.2.1 70 = .ok (.iload_n 2, 1) := by decide +kernel
theorem d_X6_endLife_71 : decode oX6_endLife.2.1 71 = .ok (.if_icmp .ne 8, 3) := by decide +kernel
theorem d_X6_endLife_74 : decode oX6_endLife.2.1 74 = .ok (.aload_n 0, 1) := by decide +kernel
theorem d_X6_endLife_75 : decode oX6_endLife.2.1 75 = .ok (.iload_n 3, 1) := by decide +kernel
theorem d_X6_endLife_76 : decode oX6_endLife.2.1 76 = .ok (.invokevirtual 116, 3) := by decide +kernel
theorem d_X6_endLife_79 : decode oX6_endLife.2.1 79 = .ok (.iinc 3 1, 3) := by decide +kernel
theorem d_X6_endLife_82 : decode oX6_endLife.2.1 82 = .ok (.goto (-61), 3) := by decide +kernel
theorem d_X6_endLife_85 : decode oX6_endLife.2.1 85 = .ok (.aload_n 0, 1) := by decide +kernel
theorem d_X6_endLife_86 : decode oX6_endLife.2.1 86 = .ok (.getfield 9, 3) := by decide +kernel
theorem d_X6_endLife_89 : decode oX6_endLife.2.1 89 = .ok (.iload_n 2, 1) := by decide +kernel
theorem d_X6_endLife_90 : decode oX6_endLife.2.1 90 = .ok (.invokevirtual 67, 3) := by decide +kernel
theorem d_X6_endLife_93 : decode oX6_endLife.2.1 93 = .ok (.ifCond .eq 18, 3) := by decide +kernel
theorem d_X6_endLife_96 : decode oX6_endLife.2.1 96 = .ok (.aload_n 0, 1) := by decide +kernel
theorem d_X6_endLife_97 : decode oX6_endLife.2.1 97 = .ok (.getfield 19, 3) := by decide +kernel
theorem d_X6_endLife_100 : decode oX6_endLife.2.1 100 = .ok (.iload_n 2, 1) := by decide +kernel
theorem d_X6_endLife_101 : decode oX6_endLife.2.1 101 = .ok (.dup2, 1) := by decide +kernel
theorem d_X6_endLife_102 : decode oX6_endLife.2.1 102 = .ok (.iaload, 1) := by decide +kernel
theorem d_X6_endLife_103 : decode oX6_endLife.2.1 103 = .ok (.aload_n 0, 1) := by decide +kernel
theorem d_X6_endLife_104 : decode oX6_endLife.2.1 104 = .ok (.getfield 19, 3) := by decide +kernel
theorem d_X6_endLife_107 : decode oX6_endLife.2.1 107 = .ok (.iload_n 1, 1) := by decide +kernel
theorem d_X6_endLife_108 : decode oX6_endLife.2.1 108 = .ok (.iaload, 1) := by decide +kernel
theorem d_X6_endLife_109 : decode oX6_endLife.2.1 109 = .ok (.iadd, 1) := by decide +kernel
theorem d_X6_endLife_110 : decode oX6_endLife.2.1 110 = .ok (.iastore, 1) := by decide +kernel
theorem d_X6_endLife_111 : decode oX6_endLife.2.1 111 = .ok (.aload_n 0, 1) := by decide +kernel
theorem d_X6_endLife_112 : decode oX6_endLife.2.1 112 = .ok (.getfield 19, 3) := by decide +kernel
theorem d_X6_endLife_115 : decode oX6_endLife.2.1 115 = .ok (.iload_n 1, 1) := by decide +kernel
theorem d_X6_endLife_116 : decode oX6_endLife.2.1 116 = .ok (.iconst 0, 1) := by decide +kernel
theorem d_X6_endLife_117 : decode oX6_endLife.2.1 117 = .ok (.iastore, 1) := by decide +kernel
theorem d_X6_endLife_118 : decode oX6_endLife.2.1 118 = .ok (.iload_n 2, 1) := by decide +kernel
theorem d_X6_endLife_119 : decode oX6_endLife.2.1 119 = .ok (.ireturn, 1) := by decide +kernel
theorem b_X6_endLife_0 {E : ob_E} {σ : ob_Mem} {Q : Int32 → ob_Mem → Prop} {x1 : Int32} (k : (∀ σ1, σ1 = (ob_wI σ 17 6 ((σ.1 17 6) &&& (((1 : Int32) <<< (x1 &&& 31)) ^^^ (-1 : Int32)))) → ob_RM shp E oX6_youngestAlive [.ref 17] σ1 (ob_qI fun v3 σ2 => ob_RT shp E oX6_endLife 21 [.ref 17, .int x1, .int v3, .int (0 : Int32)] [] σ2 (ob_qI Q)))) : ob_RT shp E oX6_endLife 0 [.ref 17, .int x1, .null, .null] [] σ (ob_qI Q) := by
  refine ob_aload_n d_X6_endLife_0 rfl ?_
  refine ob_dup d_X6_endLife_1 rfl ?_
  refine ob_getI d_X6_endLife_2 fl_X6_58 sh_17 rfl (by decide) ?_
  refine ob_iconst (v := 1) d_X6_endLife_5 ci_1 ?_
  refine ob_iload_n d_X6_endLife_6 rfl ?_
  refine ob_ishl d_X6_endLife_7 ?_
  refine ob_iconst (v := -1) d_X6_endLife_8 ci_m1 ?_
  refine ob_ixor d_X6_endLife_9 ?_
  refine ob_iand d_X6_endLife_10 ?_
  refine ob_putI d_X6_endLife_11 fp_X6_58 sh_17 rfl rfl ?_
  refine ob_nmM (fun σ1 hσ1 => ?_)
  have k := k σ1 hσ1
  refine ob_aload_n d_X6_endLife_14 rfl ?_
  refine ob_callV [] (z := oX6_youngestAlive) (st := []) d_X6_endLife_15 lk_X6_127 mv_X6_youngestAlive rfl sh_17 cl_6 rfl (Nat.le_of_ble_eq_true rfl) rfl k (ob_kI fun v3 σ2 k => ?_)
  refine ob_istore_n (ls' := [.ref 17, .int x1, .int v3, .null]) d_X6_endLife_18 (Nat.le_of_ble_eq_true rfl) rfl ?_
  refine ob_iconst (v := 0) d_X6_endLife_19 ci_0 ?_
  refine ob_istore_n (ls' := [.ref 17, .int x1, .int v3, .int (0 : Int32)]) d_X6_endLife_20 (Nat.le_of_ble_eq_true rfl) rfl ?_
  exact k
theorem b_X6_endLife_21 {E : ob_E} {σ : ob_Mem} {Q : Int32 → ob_Mem → Prop} {x1 x2 x3 : Int32} (k : (((σ.1 10 8) ≤ x3 → ob_RM shp E oX2_hasPerson [.ref 10, .int x2] σ (ob_qI fun v2 σ1 => ((v2 = 0 → (vp_in x1 6 ∧ Q x2 (ob_wI σ1 19 (x1).toNatClampNeg (0 : Int32)))) ∧ (¬ v2 = 0 → (vp_in x2 6 ∧ (vp_in x1 6 ∧ (vp_in x2 6 ∧ (∀ σ3, σ3 = (ob_wI σ1 19 (x2).toNatClampNeg ((σ1.1 19 (x2).toNatClampNeg) + (σ1.1 19 (x1).toNatClampNeg))) → (vp_in x1 6 ∧ Q x2 (ob_wI σ3 19 (x1).toNatClampNeg (0 : Int32))))))))))) ∧ (¬ (σ.1 10 8) ≤ x3 → (vp_in x3 8 ∧ ((¬ (σ.1 21 (x3).toNatClampNeg) = x1 → ob_RT shp E oX6_endLife 47 [.ref 17, .int x1, .int x2, .int x3] [] σ (ob_qI Q)) ∧ ((σ.1 21 (x3).toNatClampNeg) = x1 → ob_RM shp E oX6_endLoan [.ref 17, .int x3] σ (ob_qV fun σ4 => ob_RT shp E oX6_endLife 47 [.ref 17, .int x1, .int x2, .int x3] [] σ4 (ob_qI Q)))))))) : ob_RT shp E oX6_endLife 21 [.ref 17, .int x1, .int x2, .int x3] [] σ (ob_qI Q) := by
  refine ob_iload_n d_X6_endLife_21 rfl ?_
  refine ob_aload_n d_X6_endLife_22 rfl ?_
  refine ob_getR d_X6_endLife_23 fl_X6_9 sh_17 rfl rfl ?_
  refine ob_getI d_X6_endLife_26 fl_X6_74 sh_10 rfl (by decide) ?_
  refine ob_icmp_ge (tgt := 85) d_X6_endLife_29 rfl (fun cc => ?_) (fun cc => ?_)
  · have k := k.1 cc
    refine ob_aload_n d_X6_endLife_85 rfl ?_
    refine ob_getR d_X6_endLife_86 fl_X6_9 sh_17 rfl rfl ?_
    refine ob_iload_n d_X6_endLife_89 rfl ?_
    refine ob_callV [.int x2] (z := oX2_hasPerson) (st := []) d_X6_endLife_90 lk_X6_67 mv_X2_hasPerson rfl sh_10 cl_2 rfl (Nat.le_of_ble_eq_true rfl) rfl k (ob_kI fun v2 σ1 k => ?_)
    refine ob_if_eq (tgt := 111) d_X6_endLife_93 rfl (fun cc => ?_) (fun cc => ?_)
    · have k := k.1 cc
      refine ob_aload_n d_X6_endLife_111 rfl ?_
      refine ob_getR d_X6_endLife_112 fl_X6_19 sh_17 rfl rfl ?_
      refine ob_iload_n d_X6_endLife_115 rfl ?_
      refine ob_iconst (v := 0) d_X6_endLife_116 ci_0 ?_
      obtain ⟨hin, k⟩ := k
      refine ob_iast d_X6_endLife_117 sh_19 hin ?_
      refine ob_iload_n d_X6_endLife_118 rfl ?_
      exact ob_iret d_X6_endLife_119 rfl ⟨_, rfl, k⟩
    · have k := k.2 cc
      refine ob_aload_n d_X6_endLife_96 rfl ?_
      refine ob_getR d_X6_endLife_97 fl_X6_19 sh_17 rfl rfl ?_
      refine ob_iload_n d_X6_endLife_100 rfl ?_
      refine ob_dup2 d_X6_endLife_101 rfl rfl ?_
      obtain ⟨hin, k⟩ := k
      refine ob_iald d_X6_endLife_102 sh_19 hin ?_
      refine ob_aload_n d_X6_endLife_103 rfl ?_
      refine ob_getR d_X6_endLife_104 fl_X6_19 sh_17 rfl rfl ?_
      refine ob_iload_n d_X6_endLife_107 rfl ?_
      obtain ⟨hin, k⟩ := k
      refine ob_iald d_X6_endLife_108 sh_19 hin ?_
      refine ob_iadd d_X6_endLife_109 ?_
      obtain ⟨hin, k⟩ := k
      refine ob_iast d_X6_endLife_110 sh_19 hin ?_
      refine ob_nmM (fun σ3 hσ3 => ?_)
      have k := k σ3 hσ3
      refine ob_aload_n d_X6_endLife_111 rfl ?_
      refine ob_getR d_X6_endLife_112 fl_X6_19 sh_17 rfl rfl ?_
      refine ob_iload_n d_X6_endLife_115 rfl ?_
      refine ob_iconst (v := 0) d_X6_endLife_116 ci_0 ?_
      obtain ⟨hin, k⟩ := k
      refine ob_iast d_X6_endLife_117 sh_19 hin ?_
      refine ob_iload_n d_X6_endLife_118 rfl ?_
      exact ob_iret d_X6_endLife_119 rfl ⟨_, rfl, k⟩
  · have k := k.2 cc
    refine ob_aload_n d_X6_endLife_32 rfl ?_
    refine ob_getR d_X6_endLife_33 fl_X6_25 sh_17 rfl rfl ?_
    refine ob_iload_n d_X6_endLife_36 rfl ?_
    obtain ⟨hin, k⟩ := k
    refine ob_iald d_X6_endLife_37 sh_21 hin ?_
    refine ob_iload_n d_X6_endLife_38 rfl ?_
    refine ob_icmp_ne (tgt := 47) d_X6_endLife_39 rfl (fun cc => ?_) (fun cc => ?_)
    · have k := k.1 cc
      exact k
    · have k := k.2 cc
      refine ob_aload_n d_X6_endLife_42 rfl ?_
      refine ob_iload_n d_X6_endLife_43 rfl ?_
      refine ob_callV [.int x3] (z := oX6_endLoan) (st := []) d_X6_endLife_44 lk_X6_116 mv_X6_endLoan rfl sh_17 cl_6 rfl (Nat.le_of_ble_eq_true rfl) rfl k (ob_kV fun σ4 k => ?_)
      exact k
theorem b_X6_endLife_47 {E : ob_E} {σ : ob_Mem} {Q : Int32 → ob_Mem → Prop} {x1 x2 x3 : Int32} (k : (vp_in x3 8 ∧ ((¬ (σ.1 20 (x3).toNatClampNeg) = x1 → ob_RT shp E oX6_endLife 21 [.ref 17, .int x1, .int x2, .int (x3 + (1 : Int32))] [] σ (ob_qI Q)) ∧ ((σ.1 20 (x3).toNatClampNeg) = x1 → (vp_in x3 8 ∧ (vp_in x3 8 ∧ ((¬ ((ob_wI σ 20 (x3).toNatClampNeg x2).1 21 (x3).toNatClampNeg) = x2 → ob_RT shp E oX6_endLife 21 [.ref 17, .int x1, .int x2, .int (x3 + (1 : Int32))] [] (ob_wI σ 20 (x3).toNatClampNeg x2) (ob_qI Q)) ∧ (((ob_wI σ 20 (x3).toNatClampNeg x2).1 21 (x3).toNatClampNeg) = x2 → ob_RM shp E oX6_endLoan [.ref 17, .int x3] (ob_wI σ 20 (x3).toNatClampNeg x2) (ob_qV fun σ1 => ob_RT shp E oX6_endLife 21 [.ref 17, .int x1, .int x2, .int (x3 + (1 : Int32))] [] σ1 (ob_qI Q)))))))))) : ob_RT shp E oX6_endLife 47 [.ref 17, .int x1, .int x2, .int x3] [] σ (ob_qI Q) := by
  refine ob_aload_n d_X6_endLife_47 rfl ?_
  refine ob_getR d_X6_endLife_48 fl_X6_22 sh_17 rfl rfl ?_
  refine ob_iload_n d_X6_endLife_51 rfl ?_
  obtain ⟨hin, k⟩ := k
  refine ob_iald d_X6_endLife_52 sh_20 hin ?_
  refine ob_iload_n d_X6_endLife_53 rfl ?_
  refine ob_icmp_ne (tgt := 79) d_X6_endLife_54 rfl (fun cc => ?_) (fun cc => ?_)
  · have k := k.1 cc
    refine ob_iinc (ls' := [.ref 17, .int x1, .int x2, .int (x3 + (1 : Int32))]) (v := 1) d_X6_endLife_79 rfl ci_1 (Nat.le_of_ble_eq_true rfl) rfl ?_
    refine ob_goto (tgt := 21) d_X6_endLife_82 rfl ?_
    exact k
  · have k := k.2 cc
    refine ob_aload_n d_X6_endLife_57 rfl ?_
    refine ob_getR d_X6_endLife_58 fl_X6_22 sh_17 rfl rfl ?_
    refine ob_iload_n d_X6_endLife_61 rfl ?_
    refine ob_iload_n d_X6_endLife_62 rfl ?_
    obtain ⟨hin, k⟩ := k
    refine ob_iast d_X6_endLife_63 sh_20 hin ?_
    refine ob_aload_n d_X6_endLife_64 rfl ?_
    refine ob_getR d_X6_endLife_65 fl_X6_25 sh_17 rfl rfl ?_
    refine ob_iload_n d_X6_endLife_68 rfl ?_
    obtain ⟨hin, k⟩ := k
    refine ob_iald d_X6_endLife_69 sh_21 hin ?_
    refine ob_iload_n d_X6_endLife_70 rfl ?_
    refine ob_icmp_ne (tgt := 79) d_X6_endLife_71 rfl (fun cc => ?_) (fun cc => ?_)
    · have k := k.1 cc
      refine ob_iinc (ls' := [.ref 17, .int x1, .int x2, .int (x3 + (1 : Int32))]) (v := 1) d_X6_endLife_79 rfl ci_1 (Nat.le_of_ble_eq_true rfl) rfl ?_
      refine ob_goto (tgt := 21) d_X6_endLife_82 rfl ?_
      exact k
    · have k := k.2 cc
      refine ob_aload_n d_X6_endLife_74 rfl ?_
      refine ob_iload_n d_X6_endLife_75 rfl ?_
      refine ob_callV [.int x3] (z := oX6_endLoan) (st := []) d_X6_endLife_76 lk_X6_116 mv_X6_endLoan rfl sh_17 cl_6 rfl (Nat.le_of_ble_eq_true rfl) rfl k (ob_kV fun σ1 k => ?_)
      refine ob_iinc (ls' := [.ref 17, .int x1, .int x2, .int (x3 + (1 : Int32))]) (v := 1) d_X6_endLife_79 rfl ci_1 (Nat.le_of_ble_eq_true rfl) rfl ?_
      refine ob_goto (tgt := 21) d_X6_endLife_82 rfl ?_
      exact k
theorem d_X6_ageBehind_0 : decode oX6_ageBehind.2.1 0 = .ok (.sipush 999, 3) := by decide +kernel
theorem d_X6_ageBehind_3 : decode oX6_ageBehind.2.1 3 = .ok (.aload_n 0, 1) := by decide +kernel
theorem d_X6_ageBehind_4 : decode oX6_ageBehind.2.1 4 = .ok (.getfield 15, 3) := by decide +kernel
theorem d_X6_ageBehind_7 : decode oX6_ageBehind.2.1 7 = .ok (.iload_n 1, 1) := by decide +kernel
theorem d_X6_ageBehind_8 : decode oX6_ageBehind.2.1 8 = .ok (.iaload, 1) := by decide +kernel
theorem d_X6_ageBehind_9 : decode oX6_ageBehind.2.1 9 = .ok (.aload_n 0, 1) := by decide +kernel
theorem d_X6_ageBehind_10 : decode oX6_ageBehind.2.1 10 = .ok (.iload_n 1, 1) := by decide +kernel
theorem d_X6_ageBehind_11 : decode oX6_ageBehind.2.1 11 = .ok (.iload_n 2, 1) := by decide +kernel
theorem d_X6_ageBehind_12 : decode oX6_ageBehind.2.1 12 = .ok (.iload_n 3, 1) := by decide +kernel
theorem d_X6_ageBehind_13 : decode oX6_ageBehind.2.1 13 = .ok (.invokevirtual 109, 3) := by decide +kernel
theorem d_X6_ageBehind_16 : decode oX6_ageBehind.2.1 16 = .ok (.iadd, 1) := by decide +kernel
theorem d_X6_ageBehind_17 : decode oX6_ageBehind.2.1 17 = .ok (.invokestatic 93, 3) := by decide +kernel
theorem d_X6_ageBehind_20 : decode oX6_ageBehind.2.1 20 = .ok (.ireturn, 1) := by decide +kernel
theorem b_X6_ageBehind_0 {E : ob_E} {σ : ob_Mem} {Q : Int32 → ob_Mem → Prop} {x1 x2 x3 : Int32} (k : (vp_in x1 6 ∧ ob_RM shp E oX6_yearsBehind [.ref 17, .int x1, .int x2, .int x3] σ (ob_qI fun v2 σ1 => Q (ob_min (999 : Int32) ((σ.1 18 (x1).toNatClampNeg) + v2)) σ1))) : ob_RT shp E oX6_ageBehind 0 [.ref 17, .int x1, .int x2, .int x3] [] σ (ob_qI Q) := by
  refine ob_sipush (v := 999) d_X6_ageBehind_0 cs_999 ?_
  refine ob_aload_n d_X6_ageBehind_3 rfl ?_
  refine ob_getR d_X6_ageBehind_4 fl_X6_15 sh_17 rfl rfl ?_
  refine ob_iload_n d_X6_ageBehind_7 rfl ?_
  obtain ⟨hin, k⟩ := k
  refine ob_iald d_X6_ageBehind_8 sh_18 hin ?_
  refine ob_aload_n d_X6_ageBehind_9 rfl ?_
  refine ob_iload_n d_X6_ageBehind_10 rfl ?_
  refine ob_iload_n d_X6_ageBehind_11 rfl ?_
  refine ob_iload_n d_X6_ageBehind_12 rfl ?_
  refine ob_callV [.int x1, .int x2, .int x3] (z := oX6_yearsBehind) (st := [.int (σ.1 18 (x1).toNatClampNeg), .int (999 : Int32)]) d_X6_ageBehind_13 lk_X6_109 mv_X6_yearsBehind rfl sh_17 cl_6 rfl (Nat.le_of_ble_eq_true rfl) rfl k (ob_kI fun v2 σ1 k => ?_)
  refine ob_iadd d_X6_ageBehind_16 ?_
  refine ob_mmin (st := []) d_X6_ageBehind_17 ml_X6_93 (Nat.le_of_ble_eq_true rfl) (Nat.le_of_ble_eq_true rfl) ?_
  exact ob_iret d_X6_ageBehind_20 rfl ⟨_, rfl, k⟩
theorem d_X6_passDaysByDraws_0 : decode oX6_passDaysByDraws.2.1 0 = .ok (.iconst 0, 1) := by decide +kernel
theorem d_X6_passDaysByDraws_1 : decode oX6_passDaysByDraws.2.1 1 = .ok (.istore_n 2, 1) := by decide +kernel
theorem d_X6_passDaysByDraws_2 : decode oX6_passDaysByDraws.2.1 2 = .ok (.iconst 0, 1) := by decide +kernel
theorem d_X6_passDaysByDraws_3 : decode oX6_passDaysByDraws.2.1 3 = .ok (.istore_n 3, 1) := by decide +kernel
theorem d_X6_passDaysByDraws_4 : decode oX6_passDaysByDraws.2.1 4 = .ok (.iload_n 3, 1) := by decide +kernel
theorem d_X6_passDaysByDraws_5 : decode oX6_passDaysByDraws.2.1 5 = .ok (.iload_n 1, 1) := by decide +kernel
theorem d_X6_passDaysByDraws_6 : decode oX6_passDaysByDraws.2.1 6 = .ok (.if_icmp .ge 41, 3) := by decide +kernel
theorem d_X6_passDaysByDraws_9 : decode oX6_passDaysByDraws.2.1 9 = .ok (.aload_n 0, 1) := by decide +kernel
theorem d_X6_passDaysByDraws_10 : decode oX6_passDaysByDraws.2.1 10 = .ok (.getfield 9, 3) := by decide +kernel
theorem d_X6_passDaysByDraws_13 : decode oX6_passDaysByDraws.2.1 13 = .ok (.getfield 74, 3) := by decide +kernel
theorem d_X6_passDaysByDraws_16 : decode oX6_passDaysByDraws.2.1 16 = .ok (.ifCond .le 22, 3) := by decide +kernel
theorem d_X6_passDaysByDraws_19 : decode oX6_passDaysByDraws.2.1 19 = .ok (.aload_n 0, 1) := by decide +kernel
theorem d_X6_passDaysByDraws_20 : decode oX6_passDaysByDraws.2.1 20 = .ok (.iconst 4, 1) := by decide +kernel
theorem d_X6_passDaysByDraws_21 : decode oX6_passDaysByDraws.2.1 21 = .ok (.invokevirtual 131, 3) := by decide +kernel
theorem d_X6_passDaysByDraws_24 : decode oX6_passDaysByDraws.2.1 24 = .ok (.ifCond .ne 14, 3) := by decide +kernel
theorem d_X6_passDaysByDraws_27 : decode oX6_passDaysByDraws.2.1 27 = .ok (.aload_n 0, 1) := by decide +kernel
theorem d_X6_passDaysByDraws_28 : decode oX6_passDaysByDraws.2.1 28 = .ok (.iload_n 2, 1) := by decide +kernel
theorem d_X6_passDaysByDraws_29 : decode oX6_passDaysByDraws.2.1 29 = .ok (.invokevirtual 134, 3) := by decide +kernel
theorem d_X6_passDaysByDraws_32 : decode oX6_passDaysByDraws.2.1 32 = .ok (.iconst 0, 1) := by decide +kernel
theorem d_X6_passDaysByDraws_33 : decode oX6_passDaysByDraws.2.1 33 = .ok (.istore_n 2, 1) := by decide +kernel
theorem d_X6_passDaysByDraws_34 : decode oX6_passDaysByDraws.2.1 34 = .ok (.aload_n 0, 1) := by decide +kernel
theorem d_X6_passDaysByDraws_35 : decode oX6_passDaysByDraws.2.1 35 = .ok (.invokevirtual 137, 3) := by decide +kernel
theorem d_X6_passDaysByDraws_38 : decode oX6_passDaysByDraws.2.1 38 = .ok (.iinc 2 1, 3) := by decide +kernel
theorem d_X6_passDaysByDraws_41 : decode oX6_passDaysByDraws.2.1 41 = .ok (.iinc 3 1, 3) := by decide +kernel
theorem d_X6_passDaysByDraws_44 : decode oX6_passDaysByDraws.2.1 44 = .ok (.goto (-40), 3) := by decide +kernel
theorem d_X6_passDaysByDraws_47 : decode oX6_passDaysByDraws.2.1 47 = .ok (.aload_n 0, 1) := by decide +kernel
theorem d_X6_passDaysByDraws_48 : decode oX6_passDaysByDraws.2.1 48 = .ok (.iload_n 2, 1) := by decide +kernel
theorem d_X6_passDaysByDraws_49 : decode oX6_passDaysByDraws.2.1 49 = .ok (.invokevirtual 134, 3) := by decide +kernel
theorem d_X6_passDaysByDraws_52 : decode oX6_passDaysByDraws.2.1 52 = .ok (.return_, 1) := by decide +kernel
theorem b_X6_passDaysByDraws_0 {E : ob_E} {σ : ob_Mem} {Q : ob_Mem → Prop} {x1 : Int32} (k : ob_RT shp E oX6_passDaysByDraws 4 [.ref 17, .int x1, .int (0 : Int32), .int (0 : Int32)] [] σ (ob_qV Q)) : ob_RT shp E oX6_passDaysByDraws 0 [.ref 17, .int x1, .null, .null] [] σ (ob_qV Q) := by
  refine ob_iconst (v := 0) d_X6_passDaysByDraws_0 ci_0 ?_
  refine ob_istore_n (ls' := [.ref 17, .int x1, .int (0 : Int32), .null]) d_X6_passDaysByDraws_1 (Nat.le_of_ble_eq_true rfl) rfl ?_
  refine ob_iconst (v := 0) d_X6_passDaysByDraws_2 ci_0 ?_
  refine ob_istore_n (ls' := [.ref 17, .int x1, .int (0 : Int32), .int (0 : Int32)]) d_X6_passDaysByDraws_3 (Nat.le_of_ble_eq_true rfl) rfl ?_
  exact k
theorem b_X6_passDaysByDraws_4 {E : ob_E} {σ : ob_Mem} {Q : ob_Mem → Prop} {x1 x2 x3 : Int32} (k : ((x1 ≤ x3 → ob_RM shp E oX6_passDays [.ref 17, .int x2] σ (ob_qV fun σ1 => Q σ1)) ∧ (¬ x1 ≤ x3 → (((σ.1 10 8) ≤ 0 → ob_RT shp E oX6_passDaysByDraws 4 [.ref 17, .int x1, .int (x2 + (1 : Int32)), .int (x3 + (1 : Int32))] [] σ (ob_qV Q)) ∧ (¬ (σ.1 10 8) ≤ 0 → ob_RM shp E oX6_draw [.ref 17, .int (4 : Int32)] σ (ob_qI fun v3 σ2 => ((¬ v3 = 0 → ob_RT shp E oX6_passDaysByDraws 4 [.ref 17, .int x1, .int (x2 + (1 : Int32)), .int (x3 + (1 : Int32))] [] σ2 (ob_qV Q)) ∧ (v3 = 0 → ob_RM shp E oX6_passDays [.ref 17, .int x2] σ2 (ob_qV fun σ4 => ob_RM shp E oX6_sellByDraws [.ref 17] σ4 (ob_qV fun σ5 => ob_RT shp E oX6_passDaysByDraws 4 [.ref 17, .int x1, .int ((0 : Int32) + (1 : Int32)), .int (x3 + (1 : Int32))] [] σ5 (ob_qV Q))))))))))) : ob_RT shp E oX6_passDaysByDraws 4 [.ref 17, .int x1, .int x2, .int x3] [] σ (ob_qV Q) := by
  refine ob_iload_n d_X6_passDaysByDraws_4 rfl ?_
  refine ob_iload_n d_X6_passDaysByDraws_5 rfl ?_
  refine ob_icmp_ge (tgt := 47) d_X6_passDaysByDraws_6 rfl (fun cc => ?_) (fun cc => ?_)
  · have k := k.1 cc
    refine ob_aload_n d_X6_passDaysByDraws_47 rfl ?_
    refine ob_iload_n d_X6_passDaysByDraws_48 rfl ?_
    refine ob_callV [.int x2] (z := oX6_passDays) (st := []) d_X6_passDaysByDraws_49 lk_X6_134 mv_X6_passDays rfl sh_17 cl_6 rfl (Nat.le_of_ble_eq_true rfl) rfl k (ob_kV fun σ1 k => ?_)
    exact ob_vret d_X6_passDaysByDraws_52 rfl ⟨rfl, k⟩
  · have k := k.2 cc
    refine ob_aload_n d_X6_passDaysByDraws_9 rfl ?_
    refine ob_getR d_X6_passDaysByDraws_10 fl_X6_9 sh_17 rfl rfl ?_
    refine ob_getI d_X6_passDaysByDraws_13 fl_X6_74 sh_10 rfl (by decide) ?_
    refine ob_if_le (tgt := 38) d_X6_passDaysByDraws_16 rfl (fun cc => ?_) (fun cc => ?_)
    · have k := k.1 cc
      refine ob_iinc (ls' := [.ref 17, .int x1, .int (x2 + (1 : Int32)), .int x3]) (v := 1) d_X6_passDaysByDraws_38 rfl ci_1 (Nat.le_of_ble_eq_true rfl) rfl ?_
      refine ob_iinc (ls' := [.ref 17, .int x1, .int (x2 + (1 : Int32)), .int (x3 + (1 : Int32))]) (v := 1) d_X6_passDaysByDraws_41 rfl ci_1 (Nat.le_of_ble_eq_true rfl) rfl ?_
      refine ob_goto (tgt := 4) d_X6_passDaysByDraws_44 rfl ?_
      exact k
    · have k := k.2 cc
      refine ob_aload_n d_X6_passDaysByDraws_19 rfl ?_
      refine ob_iconst (v := 4) d_X6_passDaysByDraws_20 ci_4 ?_
      refine ob_callV [.int (4 : Int32)] (z := oX6_draw) (st := []) d_X6_passDaysByDraws_21 lk_X6_131 mv_X6_draw rfl sh_17 cl_6 rfl (Nat.le_of_ble_eq_true rfl) rfl k (ob_kI fun v3 σ2 k => ?_)
      refine ob_if_ne (tgt := 38) d_X6_passDaysByDraws_24 rfl (fun cc => ?_) (fun cc => ?_)
      · have k := k.1 cc
        refine ob_iinc (ls' := [.ref 17, .int x1, .int (x2 + (1 : Int32)), .int x3]) (v := 1) d_X6_passDaysByDraws_38 rfl ci_1 (Nat.le_of_ble_eq_true rfl) rfl ?_
        refine ob_iinc (ls' := [.ref 17, .int x1, .int (x2 + (1 : Int32)), .int (x3 + (1 : Int32))]) (v := 1) d_X6_passDaysByDraws_41 rfl ci_1 (Nat.le_of_ble_eq_true rfl) rfl ?_
        refine ob_goto (tgt := 4) d_X6_passDaysByDraws_44 rfl ?_
        exact k
      · have k := k.2 cc
        refine ob_aload_n d_X6_passDaysByDraws_27 rfl ?_
        refine ob_iload_n d_X6_passDaysByDraws_28 rfl ?_
        refine ob_callV [.int x2] (z := oX6_passDays) (st := []) d_X6_passDaysByDraws_29 lk_X6_134 mv_X6_passDays rfl sh_17 cl_6 rfl (Nat.le_of_ble_eq_true rfl) rfl k (ob_kV fun σ4 k => ?_)
        refine ob_iconst (v := 0) d_X6_passDaysByDraws_32 ci_0 ?_
        refine ob_istore_n (ls' := [.ref 17, .int x1, .int (0 : Int32), .int x3]) d_X6_passDaysByDraws_33 (Nat.le_of_ble_eq_true rfl) rfl ?_
        refine ob_aload_n d_X6_passDaysByDraws_34 rfl ?_
        refine ob_callV [] (z := oX6_sellByDraws) (st := []) d_X6_passDaysByDraws_35 lk_X6_137 mv_X6_sellByDraws rfl sh_17 cl_6 rfl (Nat.le_of_ble_eq_true rfl) rfl k (ob_kV fun σ5 k => ?_)
        refine ob_iinc (ls' := [.ref 17, .int x1, .int ((0 : Int32) + (1 : Int32)), .int x3]) (v := 1) d_X6_passDaysByDraws_38 rfl ci_1 (Nat.le_of_ble_eq_true rfl) rfl ?_
        refine ob_iinc (ls' := [.ref 17, .int x1, .int ((0 : Int32) + (1 : Int32)), .int (x3 + (1 : Int32))]) (v := 1) d_X6_passDaysByDraws_41 rfl ci_1 (Nat.le_of_ble_eq_true rfl) rfl ?_
        refine ob_goto (tgt := 4) d_X6_passDaysByDraws_44 rfl ?_
        exact k
theorem d_X6_becomeLike_0 : decode oX6_becomeLike.2.1 0 = .ok (.aload_n 1, 1) := by decide +kernel
theorem d_X6_becomeLike_1 : decode oX6_becomeLike.2.1 1 = .ok (.getfield 15, 3) := by decide +kernel
theorem d_X6_becomeLike_4 : decode oX6_becomeLike.2.1 4 = .ok (.iconst 0, 1) := by decide +kernel
theorem d_X6_becomeLike_5 : decode oX6_becomeLike.2.1 5 = .ok (.aload_n 0, 1) := by decide +kernel
theorem d_X6_becomeLike_6 : decode oX6_becomeLike.2.1 6 = .ok (.getfield 15, 3) := by decide +kernel
theorem d_X6_becomeLike_9 : decode oX6_becomeLike.2.1 9 = .ok (.iconst 0, 1) := by decide +kernel
theorem d_X6_becomeLike_10 : decode oX6_becomeLike.2.1 10 = .ok (.bipush 6, 2) := by decide +kernel
theorem d_X6_becomeLike_12 : decode oX6_becomeLike.2.1 12 = .ok (.invokestatic 36, 3) := by decide +kernel
theorem d_X6_becomeLike_15 : decode oX6_becomeLike.2.1 15 = .ok (.aload_n 1, 1) := by decide +kernel
theorem d_X6_becomeLike_16 : decode oX6_becomeLike.2.1 16 = .ok (.getfield 19, 3) := by decide +kernel
theorem d_X6_becomeLike_19 : decode oX6_becomeLike.2.1 19 = .ok (.iconst 0, 1) := by decide +kernel
theorem d_X6_becomeLike_20 : decode oX6_becomeLike.2.1 20 = .ok (.aload_n 0, 1) := by decide +kernel
theorem d_X6_becomeLike_21 : decode oX6_becomeLike.2.1 21 = .ok (.getfield 19, 3) := by decide +kernel
theorem d_X6_becomeLike_24 : decode oX6_becomeLike.2.1 24 = .ok (.iconst 0, 1) := by decide +kernel
theorem d_X6_becomeLike_25 : decode oX6_becomeLike.2.1 25 = .ok (.bipush 6, 2) := by decide +kernel
theorem d_X6_becomeLike_27 : decode oX6_becomeLike.2.1 27 = .ok (.invokestatic 36, 3) := by decide +kernel
theorem d_X6_becomeLike_30 : decode oX6_becomeLike.2.1 30 = .ok (.aload_n 1, 1) := by decide +kernel
theorem d_X6_becomeLike_31 : decode oX6_becomeLike.2.1 31 = .ok (.getfield 22, 3) := by decide +kernel
theorem d_X6_becomeLike_34 : decode oX6_becomeLike.2.1 34 = .ok (.iconst 0, 1) := by decide +kernel
theorem d_X6_becomeLike_35 : decode oX6_becomeLike.2.1 35 = .ok (.aload_n 0, 1) := by decide +kernel
theorem d_X6_becomeLike_36 : decode oX6_becomeLike.2.1 36 = .ok (.getfield 22, 3) := by decide +kernel
theorem d_X6_becomeLike_39 : decode oX6_becomeLike.2.1 39 = .ok (.iconst 0, 1) := by decide +kernel
theorem d_X6_becomeLike_40 : decode oX6_becomeLike.2.1 40 = .ok (.bipush 8, 2) := by decide +kernel
theorem d_X6_becomeLike_42 : decode oX6_becomeLike.2.1 42 = .ok (.invokestatic 36, 3) := by decide +kernel
theorem d_X6_becomeLike_45 : decode oX6_becomeLike.2.1 45 = .ok (.aload_n 1, 1) := by decide +kernel
theorem d_X6_becomeLike_46 : decode oX6_becomeLike.2.1 46 = .ok (.getfield 25, 3) := by decide +kernel
theorem d_X6_becomeLike_49 : decode oX6_becomeLike.2.1 49 = .ok (.iconst 0, 1) := by decide +kernel
theorem d_X6_becomeLike_50 : decode oX6_becomeLike.2.1 50 = .ok (.aload_n 0, 1) := by decide +kernel
theorem d_X6_becomeLike_51 : decode oX6_becomeLike.2.1 51 = .ok (.getfield 25, 3) := by decide +kernel
theorem d_X6_becomeLike_54 : decode oX6_becomeLike.2.1 54 = .ok (.iconst 0, 1) := by decide +kernel
theorem d_X6_becomeLike_55 : decode oX6_becomeLike.2.1 55 = .ok (.bipush 8, 2) := by decide +kernel
theorem d_X6_becomeLike_57 : decode oX6_becomeLike.2.1 57 = .ok (.invokestatic 36, 3) := by decide +kernel
theorem d_X6_becomeLike_60 : decode oX6_becomeLike.2.1 60 = .ok (.aload_n 1, 1) := by decide +kernel
theorem d_X6_becomeLike_61 : decode oX6_becomeLike.2.1 61 = .ok (.getfield 28, 3) := by decide +kernel
theorem d_X6_becomeLike_64 : decode oX6_becomeLike.2.1 64 = .ok (.iconst 0, 1) := by decide +kernel
theorem d_X6_becomeLike_65 : decode oX6_becomeLike.2.1 65 = .ok (.aload_n 0, 1) := by decide +kernel
theorem d_X6_becomeLike_66 : decode oX6_becomeLike.2.1 66 = .ok (.getfield 28, 3) := by decide +kernel
theorem d_X6_becomeLike_69 : decode oX6_becomeLike.2.1 69 = .ok (.iconst 0, 1) := by decide +kernel
theorem d_X6_becomeLike_70 : decode oX6_becomeLike.2.1 70 = .ok (.bipush 8, 2) := by decide +kernel
theorem d_X6_becomeLike_72 : decode oX6_becomeLike.2.1 72 = .ok (.invokestatic 36, 3) := by decide +kernel
theorem d_X6_becomeLike_75 : decode oX6_becomeLike.2.1 75 = .ok (.aload_n 0, 1) := by decide +kernel
theorem d_X6_becomeLike_76 : decode oX6_becomeLike.2.1 76 = .ok (.aload_n 1, 1) := by decide +kernel
theorem d_X6_becomeLike_77 : decode oX6_becomeLike.2.1 77 = .ok (.getfield 58, 3) := by decide +kernel
theorem d_X6_becomeLike_80 : decode oX6_becomeLike.2.1 80 = .ok (.putfield 58, 3) := by decide +kernel
theorem d_X6_becomeLike_83 : decode oX6_becomeLike.2.1 83 = .ok (.aload_n 0, 1) := by decide +kernel
theorem d_X6_becomeLike_84 : decode oX6_becomeLike.2.1 84 = .ok (.aload_n 1, 1) := by decide +kernel
theorem d_X6_becomeLike_85 : decode oX6_becomeLike.2.1 85 = .ok (.getfield 61, 3) := by decide +kernel
theorem d_X6_becomeLike_88 : decode oX6_becomeLike.2.1 88 = .ok (.putfield 61, 3) := by decide +kernel
theorem d_X6_becomeLike_91 : decode oX6_becomeLike.2.1 91 = .ok (.aload_n 0, 1) := by decide +kernel
theorem d_X6_becomeLike_92 : decode oX6_becomeLike.2.1 92 = .ok (.aload_n 1, 1) := by decide +kernel
theorem d_X6_becomeLike_93 : decode oX6_becomeLike.2.1 93 = .ok (.getfield 64, 3) := by decide +kernel
theorem d_X6_becomeLike_96 : decode oX6_becomeLike.2.1 96 = .ok (.putfield 64, 3) := by decide +kernel
theorem d_X6_becomeLike_99 : decode oX6_becomeLike.2.1 99 = .ok (.return_, 1) := by decide +kernel
theorem b_X6_becomeLike_23_17_0 {E : ob_E} {σ : ob_Mem} {Q : ob_Mem → Prop} (k : (∀ σ1, σ1 = (ob_cp (ob_cp (ob_cp (ob_cp (ob_cp σ 18 24 6) 19 25 6) 20 26 8) 21 27 8) 22 28 8) → (∀ σ2, σ2 = (ob_wI (ob_wI σ1 23 6 (σ1.1 17 6)) 23 7 ((ob_wI σ1 23 6 (σ1.1 17 6)).1 17 7)) → Q (ob_wI σ2 23 8 (σ2.1 17 8))))) : ob_RT shp E oX6_becomeLike 0 [.ref 23, .ref 17] [] σ (ob_qV Q) := by
  refine ob_aload_n d_X6_becomeLike_0 rfl ?_
  refine ob_getR d_X6_becomeLike_1 fl_X6_15 sh_17 rfl rfl ?_
  refine ob_iconst (v := 0) d_X6_becomeLike_4 ci_0 ?_
  refine ob_aload_n d_X6_becomeLike_5 rfl ?_
  refine ob_getR d_X6_becomeLike_6 fl_X6_15 sh_23 rfl rfl ?_
  refine ob_iconst (v := 0) d_X6_becomeLike_9 ci_0 ?_
  refine ob_bipush (v := 6) d_X6_becomeLike_10 cb_6 ?_
  refine ob_copy0 (N := 6) d_X6_becomeLike_12 lk_X6_36 ac_native ac_static ac_init sh_18 sh_24 (by decide) (by decide) (by decide) (by decide) (Nat.le_of_ble_eq_true rfl) (by decide +kernel) ?_
  refine ob_aload_n d_X6_becomeLike_15 rfl ?_
  refine ob_getR d_X6_becomeLike_16 fl_X6_19 sh_17 rfl rfl ?_
  refine ob_iconst (v := 0) d_X6_becomeLike_19 ci_0 ?_
  refine ob_aload_n d_X6_becomeLike_20 rfl ?_
  refine ob_getR d_X6_becomeLike_21 fl_X6_19 sh_23 rfl rfl ?_
  refine ob_iconst (v := 0) d_X6_becomeLike_24 ci_0 ?_
  refine ob_bipush (v := 6) d_X6_becomeLike_25 cb_6 ?_
  refine ob_copy0 (N := 6) d_X6_becomeLike_27 lk_X6_36 ac_native ac_static ac_init sh_19 sh_25 (by decide) (by decide) (by decide) (by decide) (Nat.le_of_ble_eq_true rfl) (by decide +kernel) ?_
  refine ob_aload_n d_X6_becomeLike_30 rfl ?_
  refine ob_getR d_X6_becomeLike_31 fl_X6_22 sh_17 rfl rfl ?_
  refine ob_iconst (v := 0) d_X6_becomeLike_34 ci_0 ?_
  refine ob_aload_n d_X6_becomeLike_35 rfl ?_
  refine ob_getR d_X6_becomeLike_36 fl_X6_22 sh_23 rfl rfl ?_
  refine ob_iconst (v := 0) d_X6_becomeLike_39 ci_0 ?_
  refine ob_bipush (v := 8) d_X6_becomeLike_40 cb_8 ?_
  refine ob_copy0 (N := 8) d_X6_becomeLike_42 lk_X6_36 ac_native ac_static ac_init sh_20 sh_26 (by decide) (by decide) (by decide) (by decide) (Nat.le_of_ble_eq_true rfl) (by decide +kernel) ?_
  refine ob_aload_n d_X6_becomeLike_45 rfl ?_
  refine ob_getR d_X6_becomeLike_46 fl_X6_25 sh_17 rfl rfl ?_
  refine ob_iconst (v := 0) d_X6_becomeLike_49 ci_0 ?_
  refine ob_aload_n d_X6_becomeLike_50 rfl ?_
  refine ob_getR d_X6_becomeLike_51 fl_X6_25 sh_23 rfl rfl ?_
  refine ob_iconst (v := 0) d_X6_becomeLike_54 ci_0 ?_
  refine ob_bipush (v := 8) d_X6_becomeLike_55 cb_8 ?_
  refine ob_copy0 (N := 8) d_X6_becomeLike_57 lk_X6_36 ac_native ac_static ac_init sh_21 sh_27 (by decide) (by decide) (by decide) (by decide) (Nat.le_of_ble_eq_true rfl) (by decide +kernel) ?_
  refine ob_aload_n d_X6_becomeLike_60 rfl ?_
  refine ob_getR d_X6_becomeLike_61 fl_X6_28 sh_17 rfl rfl ?_
  refine ob_iconst (v := 0) d_X6_becomeLike_64 ci_0 ?_
  refine ob_aload_n d_X6_becomeLike_65 rfl ?_
  refine ob_getR d_X6_becomeLike_66 fl_X6_28 sh_23 rfl rfl ?_
  refine ob_iconst (v := 0) d_X6_becomeLike_69 ci_0 ?_
  refine ob_bipush (v := 8) d_X6_becomeLike_70 cb_8 ?_
  refine ob_copy0 (N := 8) d_X6_becomeLike_72 lk_X6_36 ac_native ac_static ac_init sh_22 sh_28 (by decide) (by decide) (by decide) (by decide) (Nat.le_of_ble_eq_true rfl) (by decide +kernel) ?_
  refine ob_nmM (fun σ1 hσ1 => ?_)
  have k := k σ1 hσ1
  refine ob_aload_n d_X6_becomeLike_75 rfl ?_
  refine ob_aload_n d_X6_becomeLike_76 rfl ?_
  refine ob_getI d_X6_becomeLike_77 fl_X6_58 sh_17 rfl (by decide) ?_
  refine ob_putI d_X6_becomeLike_80 fp_X6_58 sh_23 rfl rfl ?_
  refine ob_aload_n d_X6_becomeLike_83 rfl ?_
  refine ob_aload_n d_X6_becomeLike_84 rfl ?_
  refine ob_getI d_X6_becomeLike_85 fl_X6_61 sh_17 rfl (by decide) ?_
  refine ob_putI d_X6_becomeLike_88 fp_X6_61 sh_23 rfl rfl ?_
  refine ob_nmM (fun σ2 hσ2 => ?_)
  have k := k σ2 hσ2
  refine ob_aload_n d_X6_becomeLike_91 rfl ?_
  refine ob_aload_n d_X6_becomeLike_92 rfl ?_
  refine ob_getI d_X6_becomeLike_93 fl_X6_64 sh_17 rfl (by decide) ?_
  refine ob_putI d_X6_becomeLike_96 fp_X6_64 sh_23 rfl rfl ?_
  exact ob_vret d_X6_becomeLike_99 rfl ⟨rfl, k⟩
theorem b_X6_becomeLike_29_17_0 {E : ob_E} {σ : ob_Mem} {Q : ob_Mem → Prop} (k : (∀ σ1, σ1 = (ob_cp (ob_cp (ob_cp (ob_cp (ob_cp σ 18 30 6) 19 31 6) 20 32 8) 21 33 8) 22 34 8) → (∀ σ2, σ2 = (ob_wI (ob_wI σ1 29 6 (σ1.1 17 6)) 29 7 ((ob_wI σ1 29 6 (σ1.1 17 6)).1 17 7)) → Q (ob_wI σ2 29 8 (σ2.1 17 8))))) : ob_RT shp E oX6_becomeLike 0 [.ref 29, .ref 17] [] σ (ob_qV Q) := by
  refine ob_aload_n d_X6_becomeLike_0 rfl ?_
  refine ob_getR d_X6_becomeLike_1 fl_X6_15 sh_17 rfl rfl ?_
  refine ob_iconst (v := 0) d_X6_becomeLike_4 ci_0 ?_
  refine ob_aload_n d_X6_becomeLike_5 rfl ?_
  refine ob_getR d_X6_becomeLike_6 fl_X6_15 sh_29 rfl rfl ?_
  refine ob_iconst (v := 0) d_X6_becomeLike_9 ci_0 ?_
  refine ob_bipush (v := 6) d_X6_becomeLike_10 cb_6 ?_
  refine ob_copy0 (N := 6) d_X6_becomeLike_12 lk_X6_36 ac_native ac_static ac_init sh_18 sh_30 (by decide) (by decide) (by decide) (by decide) (Nat.le_of_ble_eq_true rfl) (by decide +kernel) ?_
  refine ob_aload_n d_X6_becomeLike_15 rfl ?_
  refine ob_getR d_X6_becomeLike_16 fl_X6_19 sh_17 rfl rfl ?_
  refine ob_iconst (v := 0) d_X6_becomeLike_19 ci_0 ?_
  refine ob_aload_n d_X6_becomeLike_20 rfl ?_
  refine ob_getR d_X6_becomeLike_21 fl_X6_19 sh_29 rfl rfl ?_
  refine ob_iconst (v := 0) d_X6_becomeLike_24 ci_0 ?_
  refine ob_bipush (v := 6) d_X6_becomeLike_25 cb_6 ?_
  refine ob_copy0 (N := 6) d_X6_becomeLike_27 lk_X6_36 ac_native ac_static ac_init sh_19 sh_31 (by decide) (by decide) (by decide) (by decide) (Nat.le_of_ble_eq_true rfl) (by decide +kernel) ?_
  refine ob_aload_n d_X6_becomeLike_30 rfl ?_
  refine ob_getR d_X6_becomeLike_31 fl_X6_22 sh_17 rfl rfl ?_
  refine ob_iconst (v := 0) d_X6_becomeLike_34 ci_0 ?_
  refine ob_aload_n d_X6_becomeLike_35 rfl ?_
  refine ob_getR d_X6_becomeLike_36 fl_X6_22 sh_29 rfl rfl ?_
  refine ob_iconst (v := 0) d_X6_becomeLike_39 ci_0 ?_
  refine ob_bipush (v := 8) d_X6_becomeLike_40 cb_8 ?_
  refine ob_copy0 (N := 8) d_X6_becomeLike_42 lk_X6_36 ac_native ac_static ac_init sh_20 sh_32 (by decide) (by decide) (by decide) (by decide) (Nat.le_of_ble_eq_true rfl) (by decide +kernel) ?_
  refine ob_aload_n d_X6_becomeLike_45 rfl ?_
  refine ob_getR d_X6_becomeLike_46 fl_X6_25 sh_17 rfl rfl ?_
  refine ob_iconst (v := 0) d_X6_becomeLike_49 ci_0 ?_
  refine ob_aload_n d_X6_becomeLike_50 rfl ?_
  refine ob_getR d_X6_becomeLike_51 fl_X6_25 sh_29 rfl rfl ?_
  refine ob_iconst (v := 0) d_X6_becomeLike_54 ci_0 ?_
  refine ob_bipush (v := 8) d_X6_becomeLike_55 cb_8 ?_
  refine ob_copy0 (N := 8) d_X6_becomeLike_57 lk_X6_36 ac_native ac_static ac_init sh_21 sh_33 (by decide) (by decide) (by decide) (by decide) (Nat.le_of_ble_eq_true rfl) (by decide +kernel) ?_
  refine ob_aload_n d_X6_becomeLike_60 rfl ?_
  refine ob_getR d_X6_becomeLike_61 fl_X6_28 sh_17 rfl rfl ?_
  refine ob_iconst (v := 0) d_X6_becomeLike_64 ci_0 ?_
  refine ob_aload_n d_X6_becomeLike_65 rfl ?_
  refine ob_getR d_X6_becomeLike_66 fl_X6_28 sh_29 rfl rfl ?_
  refine ob_iconst (v := 0) d_X6_becomeLike_69 ci_0 ?_
  refine ob_bipush (v := 8) d_X6_becomeLike_70 cb_8 ?_
  refine ob_copy0 (N := 8) d_X6_becomeLike_72 lk_X6_36 ac_native ac_static ac_init sh_22 sh_34 (by decide) (by decide) (by decide) (by decide) (Nat.le_of_ble_eq_true rfl) (by decide +kernel) ?_
  refine ob_nmM (fun σ1 hσ1 => ?_)
  have k := k σ1 hσ1
  refine ob_aload_n d_X6_becomeLike_75 rfl ?_
  refine ob_aload_n d_X6_becomeLike_76 rfl ?_
  refine ob_getI d_X6_becomeLike_77 fl_X6_58 sh_17 rfl (by decide) ?_
  refine ob_putI d_X6_becomeLike_80 fp_X6_58 sh_29 rfl rfl ?_
  refine ob_aload_n d_X6_becomeLike_83 rfl ?_
  refine ob_aload_n d_X6_becomeLike_84 rfl ?_
  refine ob_getI d_X6_becomeLike_85 fl_X6_61 sh_17 rfl (by decide) ?_
  refine ob_putI d_X6_becomeLike_88 fp_X6_61 sh_29 rfl rfl ?_
  refine ob_nmM (fun σ2 hσ2 => ?_)
  have k := k σ2 hσ2
  refine ob_aload_n d_X6_becomeLike_91 rfl ?_
  refine ob_aload_n d_X6_becomeLike_92 rfl ?_
  refine ob_getI d_X6_becomeLike_93 fl_X6_64 sh_17 rfl (by decide) ?_
  refine ob_putI d_X6_becomeLike_96 fp_X6_64 sh_29 rfl rfl ?_
  exact ob_vret d_X6_becomeLike_99 rfl ⟨rfl, k⟩
theorem b_X6_becomeLike_17_23_0 {E : ob_E} {σ : ob_Mem} {Q : ob_Mem → Prop} (k : (∀ σ1, σ1 = (ob_cp (ob_cp (ob_cp (ob_cp (ob_cp σ 24 18 6) 25 19 6) 26 20 8) 27 21 8) 28 22 8) → (∀ σ2, σ2 = (ob_wI (ob_wI σ1 17 6 (σ1.1 23 6)) 17 7 ((ob_wI σ1 17 6 (σ1.1 23 6)).1 23 7)) → Q (ob_wI σ2 17 8 (σ2.1 23 8))))) : ob_RT shp E oX6_becomeLike 0 [.ref 17, .ref 23] [] σ (ob_qV Q) := by
  refine ob_aload_n d_X6_becomeLike_0 rfl ?_
  refine ob_getR d_X6_becomeLike_1 fl_X6_15 sh_23 rfl rfl ?_
  refine ob_iconst (v := 0) d_X6_becomeLike_4 ci_0 ?_
  refine ob_aload_n d_X6_becomeLike_5 rfl ?_
  refine ob_getR d_X6_becomeLike_6 fl_X6_15 sh_17 rfl rfl ?_
  refine ob_iconst (v := 0) d_X6_becomeLike_9 ci_0 ?_
  refine ob_bipush (v := 6) d_X6_becomeLike_10 cb_6 ?_
  refine ob_copy0 (N := 6) d_X6_becomeLike_12 lk_X6_36 ac_native ac_static ac_init sh_24 sh_18 (by decide) (by decide) (by decide) (by decide) (Nat.le_of_ble_eq_true rfl) (by decide +kernel) ?_
  refine ob_aload_n d_X6_becomeLike_15 rfl ?_
  refine ob_getR d_X6_becomeLike_16 fl_X6_19 sh_23 rfl rfl ?_
  refine ob_iconst (v := 0) d_X6_becomeLike_19 ci_0 ?_
  refine ob_aload_n d_X6_becomeLike_20 rfl ?_
  refine ob_getR d_X6_becomeLike_21 fl_X6_19 sh_17 rfl rfl ?_
  refine ob_iconst (v := 0) d_X6_becomeLike_24 ci_0 ?_
  refine ob_bipush (v := 6) d_X6_becomeLike_25 cb_6 ?_
  refine ob_copy0 (N := 6) d_X6_becomeLike_27 lk_X6_36 ac_native ac_static ac_init sh_25 sh_19 (by decide) (by decide) (by decide) (by decide) (Nat.le_of_ble_eq_true rfl) (by decide +kernel) ?_
  refine ob_aload_n d_X6_becomeLike_30 rfl ?_
  refine ob_getR d_X6_becomeLike_31 fl_X6_22 sh_23 rfl rfl ?_
  refine ob_iconst (v := 0) d_X6_becomeLike_34 ci_0 ?_
  refine ob_aload_n d_X6_becomeLike_35 rfl ?_
  refine ob_getR d_X6_becomeLike_36 fl_X6_22 sh_17 rfl rfl ?_
  refine ob_iconst (v := 0) d_X6_becomeLike_39 ci_0 ?_
  refine ob_bipush (v := 8) d_X6_becomeLike_40 cb_8 ?_
  refine ob_copy0 (N := 8) d_X6_becomeLike_42 lk_X6_36 ac_native ac_static ac_init sh_26 sh_20 (by decide) (by decide) (by decide) (by decide) (Nat.le_of_ble_eq_true rfl) (by decide +kernel) ?_
  refine ob_aload_n d_X6_becomeLike_45 rfl ?_
  refine ob_getR d_X6_becomeLike_46 fl_X6_25 sh_23 rfl rfl ?_
  refine ob_iconst (v := 0) d_X6_becomeLike_49 ci_0 ?_
  refine ob_aload_n d_X6_becomeLike_50 rfl ?_
  refine ob_getR d_X6_becomeLike_51 fl_X6_25 sh_17 rfl rfl ?_
  refine ob_iconst (v := 0) d_X6_becomeLike_54 ci_0 ?_
  refine ob_bipush (v := 8) d_X6_becomeLike_55 cb_8 ?_
  refine ob_copy0 (N := 8) d_X6_becomeLike_57 lk_X6_36 ac_native ac_static ac_init sh_27 sh_21 (by decide) (by decide) (by decide) (by decide) (Nat.le_of_ble_eq_true rfl) (by decide +kernel) ?_
  refine ob_aload_n d_X6_becomeLike_60 rfl ?_
  refine ob_getR d_X6_becomeLike_61 fl_X6_28 sh_23 rfl rfl ?_
  refine ob_iconst (v := 0) d_X6_becomeLike_64 ci_0 ?_
  refine ob_aload_n d_X6_becomeLike_65 rfl ?_
  refine ob_getR d_X6_becomeLike_66 fl_X6_28 sh_17 rfl rfl ?_
  refine ob_iconst (v := 0) d_X6_becomeLike_69 ci_0 ?_
  refine ob_bipush (v := 8) d_X6_becomeLike_70 cb_8 ?_
  refine ob_copy0 (N := 8) d_X6_becomeLike_72 lk_X6_36 ac_native ac_static ac_init sh_28 sh_22 (by decide) (by decide) (by decide) (by decide) (Nat.le_of_ble_eq_true rfl) (by decide +kernel) ?_
  refine ob_nmM (fun σ1 hσ1 => ?_)
  have k := k σ1 hσ1
  refine ob_aload_n d_X6_becomeLike_75 rfl ?_
  refine ob_aload_n d_X6_becomeLike_76 rfl ?_
  refine ob_getI d_X6_becomeLike_77 fl_X6_58 sh_23 rfl (by decide) ?_
  refine ob_putI d_X6_becomeLike_80 fp_X6_58 sh_17 rfl rfl ?_
  refine ob_aload_n d_X6_becomeLike_83 rfl ?_
  refine ob_aload_n d_X6_becomeLike_84 rfl ?_
  refine ob_getI d_X6_becomeLike_85 fl_X6_61 sh_23 rfl (by decide) ?_
  refine ob_putI d_X6_becomeLike_88 fp_X6_61 sh_17 rfl rfl ?_
  refine ob_nmM (fun σ2 hσ2 => ?_)
  have k := k σ2 hσ2
  refine ob_aload_n d_X6_becomeLike_91 rfl ?_
  refine ob_aload_n d_X6_becomeLike_92 rfl ?_
  refine ob_getI d_X6_becomeLike_93 fl_X6_64 sh_23 rfl (by decide) ?_
  refine ob_putI d_X6_becomeLike_96 fp_X6_64 sh_17 rfl rfl ?_
  exact ob_vret d_X6_becomeLike_99 rfl ⟨rfl, k⟩
theorem b_X6_becomeLike_17_29_0 {E : ob_E} {σ : ob_Mem} {Q : ob_Mem → Prop} (k : (∀ σ1, σ1 = (ob_cp (ob_cp (ob_cp (ob_cp (ob_cp σ 30 18 6) 31 19 6) 32 20 8) 33 21 8) 34 22 8) → (∀ σ2, σ2 = (ob_wI (ob_wI σ1 17 6 (σ1.1 29 6)) 17 7 ((ob_wI σ1 17 6 (σ1.1 29 6)).1 29 7)) → Q (ob_wI σ2 17 8 (σ2.1 29 8))))) : ob_RT shp E oX6_becomeLike 0 [.ref 17, .ref 29] [] σ (ob_qV Q) := by
  refine ob_aload_n d_X6_becomeLike_0 rfl ?_
  refine ob_getR d_X6_becomeLike_1 fl_X6_15 sh_29 rfl rfl ?_
  refine ob_iconst (v := 0) d_X6_becomeLike_4 ci_0 ?_
  refine ob_aload_n d_X6_becomeLike_5 rfl ?_
  refine ob_getR d_X6_becomeLike_6 fl_X6_15 sh_17 rfl rfl ?_
  refine ob_iconst (v := 0) d_X6_becomeLike_9 ci_0 ?_
  refine ob_bipush (v := 6) d_X6_becomeLike_10 cb_6 ?_
  refine ob_copy0 (N := 6) d_X6_becomeLike_12 lk_X6_36 ac_native ac_static ac_init sh_30 sh_18 (by decide) (by decide) (by decide) (by decide) (Nat.le_of_ble_eq_true rfl) (by decide +kernel) ?_
  refine ob_aload_n d_X6_becomeLike_15 rfl ?_
  refine ob_getR d_X6_becomeLike_16 fl_X6_19 sh_29 rfl rfl ?_
  refine ob_iconst (v := 0) d_X6_becomeLike_19 ci_0 ?_
  refine ob_aload_n d_X6_becomeLike_20 rfl ?_
  refine ob_getR d_X6_becomeLike_21 fl_X6_19 sh_17 rfl rfl ?_
  refine ob_iconst (v := 0) d_X6_becomeLike_24 ci_0 ?_
  refine ob_bipush (v := 6) d_X6_becomeLike_25 cb_6 ?_
  refine ob_copy0 (N := 6) d_X6_becomeLike_27 lk_X6_36 ac_native ac_static ac_init sh_31 sh_19 (by decide) (by decide) (by decide) (by decide) (Nat.le_of_ble_eq_true rfl) (by decide +kernel) ?_
  refine ob_aload_n d_X6_becomeLike_30 rfl ?_
  refine ob_getR d_X6_becomeLike_31 fl_X6_22 sh_29 rfl rfl ?_
  refine ob_iconst (v := 0) d_X6_becomeLike_34 ci_0 ?_
  refine ob_aload_n d_X6_becomeLike_35 rfl ?_
  refine ob_getR d_X6_becomeLike_36 fl_X6_22 sh_17 rfl rfl ?_
  refine ob_iconst (v := 0) d_X6_becomeLike_39 ci_0 ?_
  refine ob_bipush (v := 8) d_X6_becomeLike_40 cb_8 ?_
  refine ob_copy0 (N := 8) d_X6_becomeLike_42 lk_X6_36 ac_native ac_static ac_init sh_32 sh_20 (by decide) (by decide) (by decide) (by decide) (Nat.le_of_ble_eq_true rfl) (by decide +kernel) ?_
  refine ob_aload_n d_X6_becomeLike_45 rfl ?_
  refine ob_getR d_X6_becomeLike_46 fl_X6_25 sh_29 rfl rfl ?_
  refine ob_iconst (v := 0) d_X6_becomeLike_49 ci_0 ?_
  refine ob_aload_n d_X6_becomeLike_50 rfl ?_
  refine ob_getR d_X6_becomeLike_51 fl_X6_25 sh_17 rfl rfl ?_
  refine ob_iconst (v := 0) d_X6_becomeLike_54 ci_0 ?_
  refine ob_bipush (v := 8) d_X6_becomeLike_55 cb_8 ?_
  refine ob_copy0 (N := 8) d_X6_becomeLike_57 lk_X6_36 ac_native ac_static ac_init sh_33 sh_21 (by decide) (by decide) (by decide) (by decide) (Nat.le_of_ble_eq_true rfl) (by decide +kernel) ?_
  refine ob_aload_n d_X6_becomeLike_60 rfl ?_
  refine ob_getR d_X6_becomeLike_61 fl_X6_28 sh_29 rfl rfl ?_
  refine ob_iconst (v := 0) d_X6_becomeLike_64 ci_0 ?_
  refine ob_aload_n d_X6_becomeLike_65 rfl ?_
  refine ob_getR d_X6_becomeLike_66 fl_X6_28 sh_17 rfl rfl ?_
  refine ob_iconst (v := 0) d_X6_becomeLike_69 ci_0 ?_
  refine ob_bipush (v := 8) d_X6_becomeLike_70 cb_8 ?_
  refine ob_copy0 (N := 8) d_X6_becomeLike_72 lk_X6_36 ac_native ac_static ac_init sh_34 sh_22 (by decide) (by decide) (by decide) (by decide) (Nat.le_of_ble_eq_true rfl) (by decide +kernel) ?_
  refine ob_nmM (fun σ1 hσ1 => ?_)
  have k := k σ1 hσ1
  refine ob_aload_n d_X6_becomeLike_75 rfl ?_
  refine ob_aload_n d_X6_becomeLike_76 rfl ?_
  refine ob_getI d_X6_becomeLike_77 fl_X6_58 sh_29 rfl (by decide) ?_
  refine ob_putI d_X6_becomeLike_80 fp_X6_58 sh_17 rfl rfl ?_
  refine ob_aload_n d_X6_becomeLike_83 rfl ?_
  refine ob_aload_n d_X6_becomeLike_84 rfl ?_
  refine ob_getI d_X6_becomeLike_85 fl_X6_61 sh_29 rfl (by decide) ?_
  refine ob_putI d_X6_becomeLike_88 fp_X6_61 sh_17 rfl rfl ?_
  refine ob_nmM (fun σ2 hσ2 => ?_)
  have k := k σ2 hσ2
  refine ob_aload_n d_X6_becomeLike_91 rfl ?_
  refine ob_aload_n d_X6_becomeLike_92 rfl ?_
  refine ob_getI d_X6_becomeLike_93 fl_X6_64 sh_29 rfl (by decide) ?_
  refine ob_putI d_X6_becomeLike_96 fp_X6_64 sh_17 rfl rfl ?_
  exact ob_vret d_X6_becomeLike_99 rfl ⟨rfl, k⟩
theorem d_X6_isLent_0 : decode oX6_isLent.2.1 0 = .ok (.aload_n 0, 1) := by decide +kernel
theorem d_X6_isLent_1 : decode oX6_isLent.2.1 1 = .ok (.getfield 25, 3) := by decide +kernel
theorem d_X6_isLent_4 : decode oX6_isLent.2.1 4 = .ok (.iload_n 1, 1) := by decide +kernel
theorem d_X6_isLent_5 : decode oX6_isLent.2.1 5 = .ok (.iaload, 1) := by decide +kernel
theorem d_X6_isLent_6 : decode oX6_isLent.2.1 6 = .ok (.iconst (-1), 1) := by decide +kernel
theorem d_X6_isLent_7 : decode oX6_isLent.2.1 7 = .ok (.if_icmp .eq 7, 3) := by decide +kernel
theorem d_X6_isLent_10 : decode oX6_isLent.2.1 10 = .ok (.iconst 1, 1) := by decide +kernel
theorem d_X6_isLent_11 : decode oX6_isLent.2.1 11 = .ok (.goto 4, 3) := by decide +kernel
theorem d_X6_isLent_14 : decode oX6_isLent.2.1 14 = .ok (.iconst 0, 1) := by decide +kernel
theorem d_X6_isLent_15 : decode oX6_isLent.2.1 15 = .ok (.ireturn, 1) := by decide +kernel
theorem b_X6_isLent_0 {E : ob_E} {σ : ob_Mem} {Q : Int32 → ob_Mem → Prop} {x1 : Int32} (k : (vp_in x1 8 ∧ (((σ.1 21 (x1).toNatClampNeg) = (-1 : Int32) → Q (0 : Int32) σ) ∧ (¬ (σ.1 21 (x1).toNatClampNeg) = (-1 : Int32) → Q (1 : Int32) σ)))) : ob_RT shp E oX6_isLent 0 [.ref 17, .int x1] [] σ (ob_qI Q) := by
  refine ob_aload_n d_X6_isLent_0 rfl ?_
  refine ob_getR d_X6_isLent_1 fl_X6_25 sh_17 rfl rfl ?_
  refine ob_iload_n d_X6_isLent_4 rfl ?_
  obtain ⟨hin, k⟩ := k
  refine ob_iald d_X6_isLent_5 sh_21 hin ?_
  refine ob_iconst (v := -1) d_X6_isLent_6 ci_m1 ?_
  refine ob_icmp_eq (tgt := 14) d_X6_isLent_7 rfl (fun cc => ?_) (fun cc => ?_)
  · have k := k.1 cc
    refine ob_iconst (v := 0) d_X6_isLent_14 ci_0 ?_
    exact ob_zret d_X6_isLent_15 rfl rfl ⟨_, rfl, k⟩
  · have k := k.2 cc
    refine ob_iconst (v := 1) d_X6_isLent_10 ci_1 ?_
    refine ob_goto (tgt := 15) d_X6_isLent_11 rfl ?_
    exact ob_zret d_X6_isLent_15 rfl rfl ⟨_, rfl, k⟩
theorem d_X6_daysLent_0 : decode oX6_daysLent.2.1 0 = .ok (.aload_n 0, 1) := by decide +kernel
theorem d_X6_daysLent_1 : decode oX6_daysLent.2.1 1 = .ok (.iload_n 1, 1) := by decide +kernel
theorem d_X6_daysLent_2 : decode oX6_daysLent.2.1 2 = .ok (.invokevirtual 71, 3) := by decide +kernel
theorem d_X6_daysLent_5 : decode oX6_daysLent.2.1 5 = .ok (.ifCond .eq 21, 3) := by decide +kernel
theorem d_X6_daysLent_8 : decode oX6_daysLent.2.1 8 = .ok (.iload_n 2, 1) := by decide +kernel
theorem d_X6_daysLent_9 : decode oX6_daysLent.2.1 9 = .ok (.aload_n 0, 1) := by decide +kernel
theorem d_X6_daysLent_10 : decode oX6_daysLent.2.1 10 = .ok (.getfield 28, 3) := by decide +kernel
theorem d_X6_daysLent_13 : decode oX6_daysLent.2.1 13 = .ok (.iload_n 1, 1) := by decide +kernel
theorem d_X6_daysLent_14 : decode oX6_daysLent.2.1 14 = .ok (.iaload, 1) := by decide +kernel
theorem d_X6_daysLent_15 : decode oX6_daysLent.2.1 15 = .ok (.aload_n 0, 1) := by decide +kernel
theorem d_X6_daysLent_16 : decode oX6_daysLent.2.1 16 = .ok (.getfield 61, 3) := by decide +kernel
theorem d_X6_daysLent_19 : decode oX6_daysLent.2.1 19 = .ok (.isub, 1) := by decide +kernel
theorem d_X6_daysLent_20 : decode oX6_daysLent.2.1 20 = .ok (.invokestatic 93, 3) := by decide +kernel
theorem d_X6_daysLent_23 : decode oX6_daysLent.2.1 23 = .ok (.goto 4, 3) := by decide +kernel
theorem d_X6_daysLent_26 : decode oX6_daysLent.2.1 26 = .ok (.iconst 0, 1) := by decide +kernel
theorem d_X6_daysLent_27 : decode oX6_daysLent.2.1 27 = .ok (.ireturn, 1) := by decide +kernel
theorem b_X6_daysLent_0 {E : ob_E} {σ : ob_Mem} {Q : Int32 → ob_Mem → Prop} {x1 x2 : Int32} (k : ob_RM shp E oX6_isLent [.ref 17, .int x1] σ (ob_qI fun v2 σ1 => ((v2 = 0 → Q (0 : Int32) σ1) ∧ (¬ v2 = 0 → (vp_in x1 8 ∧ Q (ob_min x2 ((σ1.1 22 (x1).toNatClampNeg) - (σ1.1 17 7))) σ1))))) : ob_RT shp E oX6_daysLent 0 [.ref 17, .int x1, .int x2] [] σ (ob_qI Q) := by
  refine ob_aload_n d_X6_daysLent_0 rfl ?_
  refine ob_iload_n d_X6_daysLent_1 rfl ?_
  refine ob_callV [.int x1] (z := oX6_isLent) (st := []) d_X6_daysLent_2 lk_X6_71 mv_X6_isLent rfl sh_17 cl_6 rfl (Nat.le_of_ble_eq_true rfl) rfl k (ob_kI fun v2 σ1 k => ?_)
  refine ob_if_eq (tgt := 26) d_X6_daysLent_5 rfl (fun cc => ?_) (fun cc => ?_)
  · have k := k.1 cc
    refine ob_iconst (v := 0) d_X6_daysLent_26 ci_0 ?_
    exact ob_iret d_X6_daysLent_27 rfl ⟨_, rfl, k⟩
  · have k := k.2 cc
    refine ob_iload_n d_X6_daysLent_8 rfl ?_
    refine ob_aload_n d_X6_daysLent_9 rfl ?_
    refine ob_getR d_X6_daysLent_10 fl_X6_28 sh_17 rfl rfl ?_
    refine ob_iload_n d_X6_daysLent_13 rfl ?_
    obtain ⟨hin, k⟩ := k
    refine ob_iald d_X6_daysLent_14 sh_22 hin ?_
    refine ob_aload_n d_X6_daysLent_15 rfl ?_
    refine ob_getI d_X6_daysLent_16 fl_X6_61 sh_17 rfl (by decide) ?_
    refine ob_isub d_X6_daysLent_19 ?_
    refine ob_mmin (st := []) d_X6_daysLent_20 ml_X6_93 (Nat.le_of_ble_eq_true rfl) (Nat.le_of_ble_eq_true rfl) ?_
    refine ob_goto (tgt := 27) d_X6_daysLent_23 rfl ?_
    exact ob_iret d_X6_daysLent_27 rfl ⟨_, rfl, k⟩
theorem d_X6_comings_0 : decode oX6_comings.2.1 0 = .ok (.aload_n 0, 1) := by decide +kernel
theorem d_X6_comings_1 : decode oX6_comings.2.1 1 = .ok (.getfield 9, 3) := by decide +kernel
theorem d_X6_comings_4 : decode oX6_comings.2.1 4 = .ok (.getfield 81, 3) := by decide +kernel
theorem d_X6_comings_7 : decode oX6_comings.2.1 7 = .ok (.istore_n 3, 1) := by decide +kernel
theorem d_X6_comings_8 : decode oX6_comings.2.1 8 = .ok (.iload_n 2, 1) := by decide +kernel
theorem d_X6_comings_9 : decode oX6_comings.2.1 9 = .ok (.iconst 1, 1) := by decide +kernel
theorem d_X6_comings_10 : decode oX6_comings.2.1 10 = .ok (.if_icmp .lt 8, 3) := by decide +kernel
theorem d_X6_comings_13 : decode oX6_comings.2.1 13 = .ok (.iload_n 3, 1) := by decide +kernel
theorem d_X6_comings_14 : decode oX6_comings.2.1 14 = .ok (.iconst 1, 1) := by decide +kernel
theorem d_X6_comings_15 : decode oX6_comings.2.1 15 = .ok (.if_icmp .ge 5, 3) := by decide +kernel
theorem d_X6_comings_18 : decode oX6_comings.2.1 18 = .ok (.iconst 0, 1) := by decide +kernel
theorem d_X6_comings_19 : decode oX6_comings.2.1 19 = .ok (.ireturn, 1) := by decide +kernel
theorem d_X6_comings_20 : decode oX6_comings.2.1 20 = .ok (.aload_n 0, 1) := by decide +kernel
theorem d_X6_comings_21 : decode oX6_comings.2.1 21 = .ok (.iload_n 1, 1) := by decide +kernel
theorem d_X6_comings_22 : decode oX6_comings.2.1 22 = .ok (.invokevirtual 90, 3) := by decide +kernel
theorem d_X6_comings_25 : decode oX6_comings.2.1 25 = .ok (.istore 4, 2) := by decide +kernel
theorem d_X6_comings_27 : decode oX6_comings.2.1 27 = .ok (.iload_n 2, 1) := by decide +kernel
theorem d_X6_comings_28 : decode oX6_comings.2.1 28 = .ok (.iload 4, 2) := by decide +kernel
theorem d_X6_comings_30 : decode oX6_comings.2.1 30 = .ok (.if_icmp .ge 7, 3) := by decide +kernel
theorem d_X6_comings_33 : decode oX6_comings.2.1 33 = .ok (.iconst 0, 1) := by decide +kernel
theorem d_X6_comings_34 : decode oX6_comings.2.1 34 = .ok (.goto 11, 3) := by decide +kernel
theorem d_X6_comings_37 : decode oX6_comings.2.1 37 = .ok (.iconst 1, 1) := by decide +kernel
theorem d_X6_comings_38 : decode oX6_comings.2.1 38 = .ok (.iload_n 2, 1) := by decide +kernel
theorem d_X6_comings_39 : decode oX6_comings.2.1 39 = .ok (.iload 4, 2) := by decide +kernel
theorem d_X6_comings_41 : decode oX6_comings.2.1 41 = .ok (.isub, 1) := by decide +kernel
theorem d_X6_comings_42 : decode oX6_comings.2.1 42 = .ok (.iload_n 3, 1) := by decide +kernel
theorem d_X6_comings_43 : decode oX6_comings.2.1 43 = .ok (.idiv, 1) := by decide +kernel
theorem d_X6_comings_44 : decode oX6_comings.2.1 44 = .ok (.iadd, 1) := by decide +kernel
theorem d_X6_comings_45 : decode oX6_comings.2.1 45 = .ok (.ireturn, 1) := by decide +kernel
theorem b_X6_comings_0 {E : ob_E} {σ : ob_Mem} {Q : Int32 → ob_Mem → Prop} {x1 x2 : Int32} (k : ((x2 < (1 : Int32) → Q (0 : Int32) σ) ∧ (¬ x2 < (1 : Int32) → (((1 : Int32) ≤ (σ.1 10 6) → ob_RM shp E oX6_daysTill [.ref 17, .int x1] σ (ob_qI fun v2 σ1 => ((v2 ≤ x2 → (¬ (σ.1 10 6) = 0 ∧ Q ((1 : Int32) + ((x2 - v2) / (σ.1 10 6))) σ1)) ∧ (¬ v2 ≤ x2 → Q (0 : Int32) σ1)))) ∧ (¬ (1 : Int32) ≤ (σ.1 10 6) → Q (0 : Int32) σ))))) : ob_RT shp E oX6_comings 0 [.ref 17, .int x1, .int x2, .null, .null] [] σ (ob_qI Q) := by
  refine ob_aload_n d_X6_comings_0 rfl ?_
  refine ob_getR d_X6_comings_1 fl_X6_9 sh_17 rfl rfl ?_
  refine ob_getI d_X6_comings_4 fl_X6_81 sh_10 rfl (by decide) ?_
  refine ob_istore_n (ls' := [.ref 17, .int x1, .int x2, .int (σ.1 10 6), .null]) d_X6_comings_7 (Nat.le_of_ble_eq_true rfl) rfl ?_
  refine ob_iload_n d_X6_comings_8 rfl ?_
  refine ob_iconst (v := 1) d_X6_comings_9 ci_1 ?_
  refine ob_icmp_lt (tgt := 18) d_X6_comings_10 rfl (fun cc => ?_) (fun cc => ?_)
  · have k := k.1 cc
    refine ob_iconst (v := 0) d_X6_comings_18 ci_0 ?_
    exact ob_iret d_X6_comings_19 rfl ⟨_, rfl, k⟩
  · have k := k.2 cc
    refine ob_iload_n d_X6_comings_13 rfl ?_
    refine ob_iconst (v := 1) d_X6_comings_14 ci_1 ?_
    refine ob_icmp_ge (tgt := 20) d_X6_comings_15 rfl (fun cc => ?_) (fun cc => ?_)
    · have k := k.1 cc
      refine ob_aload_n d_X6_comings_20 rfl ?_
      refine ob_iload_n d_X6_comings_21 rfl ?_
      refine ob_callV [.int x1] (z := oX6_daysTill) (st := []) d_X6_comings_22 lk_X6_90 mv_X6_daysTill rfl sh_17 cl_6 rfl (Nat.le_of_ble_eq_true rfl) rfl k (ob_kI fun v2 σ1 k => ?_)
      refine ob_istore (ls' := [.ref 17, .int x1, .int x2, .int (σ.1 10 6), .int v2]) d_X6_comings_25 (Nat.le_of_ble_eq_true rfl) rfl ?_
      refine ob_iload_n d_X6_comings_27 rfl ?_
      refine ob_iload d_X6_comings_28 rfl ?_
      refine ob_icmp_ge (tgt := 37) d_X6_comings_30 rfl (fun cc => ?_) (fun cc => ?_)
      · have k := k.1 cc
        refine ob_iconst (v := 1) d_X6_comings_37 ci_1 ?_
        refine ob_iload_n d_X6_comings_38 rfl ?_
        refine ob_iload d_X6_comings_39 rfl ?_
        refine ob_isub d_X6_comings_41 ?_
        refine ob_iload_n d_X6_comings_42 rfl ?_
        obtain ⟨hne, k⟩ := k
        refine ob_idiv d_X6_comings_43 hne ?_
        refine ob_iadd d_X6_comings_44 ?_
        exact ob_iret d_X6_comings_45 rfl ⟨_, rfl, k⟩
      · have k := k.2 cc
        refine ob_iconst (v := 0) d_X6_comings_33 ci_0 ?_
        refine ob_goto (tgt := 45) d_X6_comings_34 rfl ?_
        exact ob_iret d_X6_comings_45 rfl ⟨_, rfl, k⟩
    · have k := k.2 cc
      refine ob_iconst (v := 0) d_X6_comings_18 ci_0 ?_
      exact ob_iret d_X6_comings_19 rfl ⟨_, rfl, k⟩
theorem d_X6_growOlder_0 : decode oX6_growOlder.2.1 0 = .ok (.aload_n 0, 1) := by decide +kernel
theorem d_X6_growOlder_1 : decode oX6_growOlder.2.1 1 = .ok (.getfield 9, 3) := by decide +kernel
theorem d_X6_growOlder_4 : decode oX6_growOlder.2.1 4 = .ok (.iload_n 1, 1) := by decide +kernel
theorem d_X6_growOlder_5 : decode oX6_growOlder.2.1 5 = .ok (.invokevirtual 67, 3) := by decide +kernel
theorem d_X6_growOlder_8 : decode oX6_growOlder.2.1 8 = .ok (.ifCond .eq 23, 3) := by decide +kernel
theorem d_X6_growOlder_11 : decode oX6_growOlder.2.1 11 = .ok (.aload_n 0, 1) := by decide +kernel
theorem d_X6_growOlder_12 : decode oX6_growOlder.2.1 12 = .ok (.getfield 15, 3) := by decide +kernel
theorem d_X6_growOlder_15 : decode oX6_growOlder.2.1 15 = .ok (.iload_n 1, 1) := by decide +kernel
theorem d_X6_growOlder_16 : decode oX6_growOlder.2.1 16 = .ok (.sipush 999, 3) := by decide +kernel
theorem d_X6_growOlder_19 : decode oX6_growOlder.2.1 19 = .ok (.aload_n 0, 1) := by decide +kernel
theorem d_X6_growOlder_20 : decode oX6_growOlder.2.1 20 = .ok (.getfield 15, 3) := by decide +kernel
theorem d_X6_growOlder_23 : decode oX6_growOlder.2.1 23 = .ok (.iload_n 1, 1) := by decide +kernel
theorem d_X6_growOlder_24 : decode oX6_growOlder.2.1 24 = .ok (.iaload, 1) := by decide +kernel
theorem d_X6_growOlder_25 : decode oX6_growOlder.2.1 25 = .ok (.iload_n 2, 1) := by decide +kernel
theorem d_X6_growOlder_26 : decode oX6_growOlder.2.1 26 = .ok (.iadd, 1) := by decide +kernel
theorem d_X6_growOlder_27 : decode oX6_growOlder.2.1 27 = .ok (.invokestatic 93, 3) := by decide +kernel
theorem d_X6_growOlder_30 : decode oX6_growOlder.2.1 30 = .ok (.iastore, 1) := by decide +kernel
theorem d_X6_growOlder_31 : decode oX6_growOlder.2.1 31 = .ok (.return_, 1) := by decide +kernel
theorem b_X6_growOlder_0 {E : ob_E} {σ : ob_Mem} {Q : ob_Mem → Prop} {x1 x2 : Int32} (k : ob_RM shp E oX2_hasPerson [.ref 10, .int x1] σ (ob_qI fun v2 σ1 => ((v2 = 0 → Q σ1) ∧ (¬ v2 = 0 → (vp_in x1 6 ∧ (vp_in x1 6 ∧ Q (ob_wI σ1 18 (x1).toNatClampNeg (ob_min (999 : Int32) ((σ1.1 18 (x1).toNatClampNeg) + x2))))))))) : ob_RT shp E oX6_growOlder 0 [.ref 17, .int x1, .int x2] [] σ (ob_qV Q) := by
  refine ob_aload_n d_X6_growOlder_0 rfl ?_
  refine ob_getR d_X6_growOlder_1 fl_X6_9 sh_17 rfl rfl ?_
  refine ob_iload_n d_X6_growOlder_4 rfl ?_
  refine ob_callV [.int x1] (z := oX2_hasPerson) (st := []) d_X6_growOlder_5 lk_X6_67 mv_X2_hasPerson rfl sh_10 cl_2 rfl (Nat.le_of_ble_eq_true rfl) rfl k (ob_kI fun v2 σ1 k => ?_)
  refine ob_if_eq (tgt := 31) d_X6_growOlder_8 rfl (fun cc => ?_) (fun cc => ?_)
  · have k := k.1 cc
    exact ob_vret d_X6_growOlder_31 rfl ⟨rfl, k⟩
  · have k := k.2 cc
    refine ob_aload_n d_X6_growOlder_11 rfl ?_
    refine ob_getR d_X6_growOlder_12 fl_X6_15 sh_17 rfl rfl ?_
    refine ob_iload_n d_X6_growOlder_15 rfl ?_
    refine ob_sipush (v := 999) d_X6_growOlder_16 cs_999 ?_
    refine ob_aload_n d_X6_growOlder_19 rfl ?_
    refine ob_getR d_X6_growOlder_20 fl_X6_15 sh_17 rfl rfl ?_
    refine ob_iload_n d_X6_growOlder_23 rfl ?_
    obtain ⟨hin, k⟩ := k
    refine ob_iald d_X6_growOlder_24 sh_18 hin ?_
    refine ob_iload_n d_X6_growOlder_25 rfl ?_
    refine ob_iadd d_X6_growOlder_26 ?_
    refine ob_mmin (st := [.int x1, .ref 18]) d_X6_growOlder_27 ml_X6_93 (Nat.le_of_ble_eq_true rfl) (Nat.le_of_ble_eq_true rfl) ?_
    obtain ⟨hin, k⟩ := k
    refine ob_iast d_X6_growOlder_30 sh_18 hin ?_
    exact ob_vret d_X6_growOlder_31 rfl ⟨rfl, k⟩
theorem d_X6_endLoan_0 : decode oX6_endLoan.2.1 0 = .ok (.aload_n 0, 1) := by decide +kernel
theorem d_X6_endLoan_1 : decode oX6_endLoan.2.1 1 = .ok (.getfield 25, 3) := by decide +kernel
theorem d_X6_endLoan_4 : decode oX6_endLoan.2.1 4 = .ok (.iload_n 1, 1) := by decide +kernel
theorem d_X6_endLoan_5 : decode oX6_endLoan.2.1 5 = .ok (.iconst (-1), 1) := by decide +kernel
theorem d_X6_endLoan_6 : decode oX6_endLoan.2.1 6 = .ok (.iastore, 1) := by decide +kernel
theorem d_X6_endLoan_7 : decode oX6_endLoan.2.1 7 = .ok (.aload_n 0, 1) := by decide +kernel
theorem d_X6_endLoan_8 : decode oX6_endLoan.2.1 8 = .ok (.getfield 28, 3) := by decide +kernel
theorem d_X6_endLoan_11 : decode oX6_endLoan.2.1 11 = .ok (.iload_n 1, 1) := by decide +kernel
theorem d_X6_endLoan_12 : decode oX6_endLoan.2.1 12 = .ok (.iconst (-1), 1) := by decide +kernel
theorem d_X6_endLoan_13 : decode oX6_endLoan.2.1 13 = .ok (.iastore, 1) := by decide +kernel
theorem d_X6_endLoan_14 : decode oX6_endLoan.2.1 14 = .ok (.return_, 1) := by decide +kernel
theorem b_X6_endLoan_0 {E : ob_E} {σ : ob_Mem} {Q : ob_Mem → Prop} {x1 : Int32} (k : (vp_in x1 8 ∧ (vp_in x1 8 ∧ Q (ob_wI (ob_wI σ 21 (x1).toNatClampNeg (-1 : Int32)) 22 (x1).toNatClampNeg (-1 : Int32))))) : ob_RT shp E oX6_endLoan 0 [.ref 17, .int x1] [] σ (ob_qV Q) := by
  refine ob_aload_n d_X6_endLoan_0 rfl ?_
  refine ob_getR d_X6_endLoan_1 fl_X6_25 sh_17 rfl rfl ?_
  refine ob_iload_n d_X6_endLoan_4 rfl ?_
  refine ob_iconst (v := -1) d_X6_endLoan_5 ci_m1 ?_
  obtain ⟨hin, k⟩ := k
  refine ob_iast d_X6_endLoan_6 sh_21 hin ?_
  refine ob_aload_n d_X6_endLoan_7 rfl ?_
  refine ob_getR d_X6_endLoan_8 fl_X6_28 sh_17 rfl rfl ?_
  refine ob_iload_n d_X6_endLoan_11 rfl ?_
  refine ob_iconst (v := -1) d_X6_endLoan_12 ci_m1 ?_
  obtain ⟨hin, k⟩ := k
  refine ob_iast d_X6_endLoan_13 sh_22 hin ?_
  exact ob_vret d_X6_endLoan_14 rfl ⟨rfl, k⟩
theorem d_X6_payOwner_0 : decode oX6_payOwner.2.1 0 = .ok (.aload_n 0, 1) := by decide +kernel
theorem d_X6_payOwner_1 : decode oX6_payOwner.2.1 1 = .ok (.getfield 9, 3) := by decide +kernel
theorem d_X6_payOwner_4 : decode oX6_payOwner.2.1 4 = .ok (.aload_n 0, 1) := by decide +kernel
theorem d_X6_payOwner_5 : decode oX6_payOwner.2.1 5 = .ok (.getfield 22, 3) := by decide +kernel
theorem d_X6_payOwner_8 : decode oX6_payOwner.2.1 8 = .ok (.iload_n 1, 1) := by decide +kernel
theorem d_X6_payOwner_9 : decode oX6_payOwner.2.1 9 = .ok (.iaload, 1) := by decide +kernel
theorem d_X6_payOwner_10 : decode oX6_payOwner.2.1 10 = .ok (.invokevirtual 67, 3) := by decide +kernel
theorem d_X6_payOwner_13 : decode oX6_payOwner.2.1 13 = .ok (.ifCond .eq 28, 3) := by decide +kernel
theorem d_X6_payOwner_16 : decode oX6_payOwner.2.1 16 = .ok (.aload_n 0, 1) := by decide +kernel
theorem d_X6_payOwner_17 : decode oX6_payOwner.2.1 17 = .ok (.getfield 19, 3) := by decide +kernel
theorem d_X6_payOwner_20 : decode oX6_payOwner.2.1 20 = .ok (.iload_n 2, 1) := by decide +kernel
theorem d_X6_payOwner_21 : decode oX6_payOwner.2.1 21 = .ok (.dup2, 1) := by decide +kernel
theorem d_X6_payOwner_22 : decode oX6_payOwner.2.1 22 = .ok (.iaload, 1) := by decide +kernel
theorem d_X6_payOwner_23 : decode oX6_payOwner.2.1 23 = .ok (.iload_n 3, 1) := by decide +kernel
theorem d_X6_payOwner_24 : decode oX6_payOwner.2.1 24 = .ok (.isub, 1) := by decide +kernel
theorem d_X6_payOwner_25 : decode oX6_payOwner.2.1 25 = .ok (.iastore, 1) := by decide +kernel
theorem d_X6_payOwner_26 : decode oX6_payOwner.2.1 26 = .ok (.aload_n 0, 1) := by decide +kernel
theorem d_X6_payOwner_27 : decode oX6_payOwner.2.1 27 = .ok (.getfield 19, 3) := by decide +kernel
theorem d_X6_payOwner_30 : decode oX6_payOwner.2.1 30 = .ok (.aload_n 0, 1) := by decide +kernel
theorem d_X6_payOwner_31 : decode oX6_payOwner.2.1 31 = .ok (.getfield 22, 3) := by decide +kernel
theorem d_X6_payOwner_34 : decode oX6_payOwner.2.1 34 = .ok (.iload_n 1, 1) := by decide +kernel
theorem d_X6_payOwner_35 : decode oX6_payOwner.2.1 35 = .ok (.iaload, 1) := by decide +kernel
theorem d_X6_payOwner_36 : decode oX6_payOwner.2.1 36 = .ok (.dup2, 1) := by decide +kernel
theorem d_X6_payOwner_37 : decode oX6_payOwner.2.1 37 = .ok (.iaload, 1) := by decide +kernel
theorem d_X6_payOwner_38 : decode oX6_payOwner.2.1 38 = .ok (.iload_n 3, 1) := by decide +kernel
theorem d_X6_payOwner_39 : decode oX6_payOwner.2.1 39 = .ok (.iadd, 1) := by decide +kernel
theorem d_X6_payOwner_40 : decode oX6_payOwner.2.1 40 = .ok (.iastore, 1) := by decide +kernel
theorem d_X6_payOwner_41 : decode oX6_payOwner.2.1 41 = .ok (.return_, 1) := by decide +kernel
theorem b_X6_payOwner_0 {E : ob_E} {σ : ob_Mem} {Q : ob_Mem → Prop} {x1 x2 x3 : Int32} (k : (vp_in x1 8 ∧ ob_RM shp E oX2_hasPerson [.ref 10, .int (σ.1 20 (x1).toNatClampNeg)] σ (ob_qI fun v2 σ1 => ((v2 = 0 → Q σ1) ∧ (¬ v2 = 0 → (vp_in x2 6 ∧ (vp_in x2 6 ∧ (vp_in x1 8 ∧ (vp_in ((ob_wI σ1 19 (x2).toNatClampNeg ((σ1.1 19 (x2).toNatClampNeg) - x3)).1 20 (x1).toNatClampNeg) 6 ∧ (vp_in ((ob_wI σ1 19 (x2).toNatClampNeg ((σ1.1 19 (x2).toNatClampNeg) - x3)).1 20 (x1).toNatClampNeg) 6 ∧ Q (ob_wI (ob_wI σ1 19 (x2).toNatClampNeg ((σ1.1 19 (x2).toNatClampNeg) - x3)) 19 (((ob_wI σ1 19 (x2).toNatClampNeg ((σ1.1 19 (x2).toNatClampNeg) - x3)).1 20 (x1).toNatClampNeg)).toNatClampNeg (((ob_wI σ1 19 (x2).toNatClampNeg ((σ1.1 19 (x2).toNatClampNeg) - x3)).1 19 (((ob_wI σ1 19 (x2).toNatClampNeg ((σ1.1 19 (x2).toNatClampNeg) - x3)).1 20 (x1).toNatClampNeg)).toNatClampNeg) + x3)))))))))))) : ob_RT shp E oX6_payOwner 0 [.ref 17, .int x1, .int x2, .int x3] [] σ (ob_qV Q) := by
  refine ob_aload_n d_X6_payOwner_0 rfl ?_
  refine ob_getR d_X6_payOwner_1 fl_X6_9 sh_17 rfl rfl ?_
  refine ob_aload_n d_X6_payOwner_4 rfl ?_
  refine ob_getR d_X6_payOwner_5 fl_X6_22 sh_17 rfl rfl ?_
  refine ob_iload_n d_X6_payOwner_8 rfl ?_
  obtain ⟨hin, k⟩ := k
  refine ob_iald d_X6_payOwner_9 sh_20 hin ?_
  refine ob_callV [.int (σ.1 20 (x1).toNatClampNeg)] (z := oX2_hasPerson) (st := []) d_X6_payOwner_10 lk_X6_67 mv_X2_hasPerson rfl sh_10 cl_2 rfl (Nat.le_of_ble_eq_true rfl) rfl k (ob_kI fun v2 σ1 k => ?_)
  refine ob_if_eq (tgt := 41) d_X6_payOwner_13 rfl (fun cc => ?_) (fun cc => ?_)
  · have k := k.1 cc
    exact ob_vret d_X6_payOwner_41 rfl ⟨rfl, k⟩
  · have k := k.2 cc
    refine ob_aload_n d_X6_payOwner_16 rfl ?_
    refine ob_getR d_X6_payOwner_17 fl_X6_19 sh_17 rfl rfl ?_
    refine ob_iload_n d_X6_payOwner_20 rfl ?_
    refine ob_dup2 d_X6_payOwner_21 rfl rfl ?_
    obtain ⟨hin, k⟩ := k
    refine ob_iald d_X6_payOwner_22 sh_19 hin ?_
    refine ob_iload_n d_X6_payOwner_23 rfl ?_
    refine ob_isub d_X6_payOwner_24 ?_
    obtain ⟨hin, k⟩ := k
    refine ob_iast d_X6_payOwner_25 sh_19 hin ?_
    refine ob_aload_n d_X6_payOwner_26 rfl ?_
    refine ob_getR d_X6_payOwner_27 fl_X6_19 sh_17 rfl rfl ?_
    refine ob_aload_n d_X6_payOwner_30 rfl ?_
    refine ob_getR d_X6_payOwner_31 fl_X6_22 sh_17 rfl rfl ?_
    refine ob_iload_n d_X6_payOwner_34 rfl ?_
    obtain ⟨hin, k⟩ := k
    refine ob_iald d_X6_payOwner_35 sh_20 hin ?_
    refine ob_dup2 d_X6_payOwner_36 rfl rfl ?_
    obtain ⟨hin, k⟩ := k
    refine ob_iald d_X6_payOwner_37 sh_19 hin ?_
    refine ob_iload_n d_X6_payOwner_38 rfl ?_
    refine ob_iadd d_X6_payOwner_39 ?_
    obtain ⟨hin, k⟩ := k
    refine ob_iast d_X6_payOwner_40 sh_19 hin ?_
    exact ob_vret d_X6_payOwner_41 rfl ⟨rfl, k⟩
theorem d_X6_youngestAlive_0 : decode oX6_youngestAlive.2.1 0 = .ok (.iconst (-1), 1) := by decide +kernel
theorem d_X6_youngestAlive_1 : decode oX6_youngestAlive.2.1 1 = .ok (.istore_n 1, 1) := by decide +kernel
theorem d_X6_youngestAlive_2 : decode oX6_youngestAlive.2.1 2 = .ok (.iconst 0, 1) := by decide +kernel
theorem d_X6_youngestAlive_3 : decode oX6_youngestAlive.2.1 3 = .ok (.istore_n 2, 1) := by decide +kernel
theorem d_X6_youngestAlive_4 : decode oX6_youngestAlive.2.1 4 = .ok (.iload_n 2, 1) := by decide +kernel
theorem d_X6_youngestAlive_5 : decode oX6_youngestAlive.2.1 5 = .ok (.aload_n 0, 1) := by decide +kernel
theorem d_X6_youngestAlive_6 : decode oX6_youngestAlive.2.1 6 = .ok (.getfield 9, 3) := by decide +kernel
theorem d_X6_youngestAlive_9 : decode oX6_youngestAlive.2.1 9 = .ok (.getfield 54, 3) := by decide +kernel
theorem d_X6_youngestAlive_12 : decode oX6_youngestAlive.2.1 12 = .ok (.if_icmp .ge 39, 3) := by decide +kernel
theorem d_X6_youngestAlive_15 : decode oX6_youngestAlive.2.1 15 = .ok (.aload_n 0, 1) := by decide +kernel
theorem d_X6_youngestAlive_16 : decode oX6_youngestAlive.2.1 16 = .ok (.iload_n 2, 1) := by decide +kernel
theorem d_X6_youngestAlive_17 : decode oX6_youngestAlive.2.1 17 = .ok (.invokevirtual 120, 3) := by decide +kernel
theorem d_X6_youngestAlive_20 : decode oX6_youngestAlive.2.1 20 = .ok (.ifCond .eq 25, 3) := by decide +kernel
theorem d_X6_youngestAlive_23 : decode oX6_youngestAlive.2.1 23 = .ok (.iload_n 1, 1) := by decide +kernel
theorem d_X6_youngestAlive_24 : decode oX6_youngestAlive.2.1 24 = .ok (.iconst (-1), 1) := by decide +kernel
theorem d_X6_youngestAlive_25 : decode oX6_youngestAlive.2.1 25 = .ok (.if_icmp .eq 18, 3) := by decide +kernel
theorem d_X6_youngestAlive_28 : decode oX6_youngestAlive.2.1 28 = .ok (.aload_n 0, 1) := by decide +kernel
theorem d_X6_youngestAlive_29 : decode oX6_youngestAlive.2.1 29 = .ok (.getfield 15, 3) := by decide +kernel
theorem d_X6_youngestAlive_32 : decode oX6_youngestAlive.2.1 32 = .ok (.iload_n 2, 1) := by decide +kernel
theorem d_X6_youngestAlive_33 : decode oX6_youngestAlive.2.1 33 = .ok (.iaload, 1) := by decide +kernel
theorem d_X6_youngestAlive_34 : decode oX6_youngestAlive.2.1 34 = .ok (.aload_n 0, 1) := by decide +kernel
theorem d_X6_youngestAlive_35 : decode oX6_youngestAlive.2.1 35 = .ok (.getfield 15, 3) := by decide +kernel
theorem d_X6_youngestAlive_38 : decode oX6_youngestAlive.2.1 38 = .ok (.iload_n 1, 1) := by decide +kernel
theorem d_X6_youngestAlive_39 : decode oX6_youngestAlive.2.1 39 = .ok (.iaload, 1) := by decide +kernel
theorem d_X6_youngestAlive_40 : decode oX6_youngestAlive.2.1 40 = .ok (.if_icmp .ge 5, 3) := by decide +kernel
theorem d_X6_youngestAlive_43 : decode oX6_youngestAlive.2.1 43 = .ok (.iload_n 2, 1) := by decide +kernel
theorem d_X6_youngestAlive_44 : decode oX6_youngestAlive.2.1 44 = .ok (.istore_n 1, 1) := by decide +kernel
theorem d_X6_youngestAlive_45 : decode oX6_youngestAlive.2.1 45 = .ok (.iinc 2 1, 3) := by decide +kernel
theorem d_X6_youngestAlive_48 : decode oX6_youngestAlive.2.1 48 = .ok (.goto (-44), 3) := by decide +kernel
theorem d_X6_youngestAlive_51 : decode oX6_youngestAlive.2.1 51 = .ok (.iload_n 1, 1) := by decide +kernel
theorem d_X6_youngestAlive_52 : decode oX6_youngestAlive.2.1 52 = .ok (.ireturn, 1) := by decide +kernel
theorem b_X6_youngestAlive_0 {E : ob_E} {σ : ob_Mem} {Q : Int32 → ob_Mem → Prop} (k : ob_RT shp E oX6_youngestAlive 4 [.ref 17, .int (-1 : Int32), .int (0 : Int32)] [] σ (ob_qI Q)) : ob_RT shp E oX6_youngestAlive 0 [.ref 17, .null, .null] [] σ (ob_qI Q) := by
  refine ob_iconst (v := -1) d_X6_youngestAlive_0 ci_m1 ?_
  refine ob_istore_n (ls' := [.ref 17, .int (-1 : Int32), .null]) d_X6_youngestAlive_1 (Nat.le_of_ble_eq_true rfl) rfl ?_
  refine ob_iconst (v := 0) d_X6_youngestAlive_2 ci_0 ?_
  refine ob_istore_n (ls' := [.ref 17, .int (-1 : Int32), .int (0 : Int32)]) d_X6_youngestAlive_3 (Nat.le_of_ble_eq_true rfl) rfl ?_
  exact k
theorem b_X6_youngestAlive_4 {E : ob_E} {σ : ob_Mem} {Q : Int32 → ob_Mem → Prop} {x1 x2 : Int32} (k : (((σ.1 10 7) ≤ x2 → Q x1 σ) ∧ (¬ (σ.1 10 7) ≤ x2 → ob_RM shp E oX6_lives [.ref 17, .int x2] σ (ob_qI fun v2 σ1 => ((v2 = 0 → ob_RT shp E oX6_youngestAlive 4 [.ref 17, .int x1, .int (x2 + (1 : Int32))] [] σ1 (ob_qI Q)) ∧ (¬ v2 = 0 → ((x1 = (-1 : Int32) → ob_RT shp E oX6_youngestAlive 4 [.ref 17, .int x2, .int (x2 + (1 : Int32))] [] σ1 (ob_qI Q)) ∧ (¬ x1 = (-1 : Int32) → (vp_in x2 6 ∧ (vp_in x1 6 ∧ (((σ1.1 18 (x1).toNatClampNeg) ≤ (σ1.1 18 (x2).toNatClampNeg) → ob_RT shp E oX6_youngestAlive 4 [.ref 17, .int x1, .int (x2 + (1 : Int32))] [] σ1 (ob_qI Q)) ∧ (¬ (σ1.1 18 (x1).toNatClampNeg) ≤ (σ1.1 18 (x2).toNatClampNeg) → ob_RT shp E oX6_youngestAlive 4 [.ref 17, .int x2, .int (x2 + (1 : Int32))] [] σ1 (ob_qI Q))))))))))))) : ob_RT shp E oX6_youngestAlive 4 [.ref 17, .int x1, .int x2] [] σ (ob_qI Q) := by
  refine ob_iload_n d_X6_youngestAlive_4 rfl ?_
  refine ob_aload_n d_X6_youngestAlive_5 rfl ?_
  refine ob_getR d_X6_youngestAlive_6 fl_X6_9 sh_17 rfl rfl ?_
  refine ob_getI d_X6_youngestAlive_9 fl_X6_54 sh_10 rfl (by decide) ?_
  refine ob_icmp_ge (tgt := 51) d_X6_youngestAlive_12 rfl (fun cc => ?_) (fun cc => ?_)
  · have k := k.1 cc
    refine ob_iload_n d_X6_youngestAlive_51 rfl ?_
    exact ob_iret d_X6_youngestAlive_52 rfl ⟨_, rfl, k⟩
  · have k := k.2 cc
    refine ob_aload_n d_X6_youngestAlive_15 rfl ?_
    refine ob_iload_n d_X6_youngestAlive_16 rfl ?_
    refine ob_callV [.int x2] (z := oX6_lives) (st := []) d_X6_youngestAlive_17 lk_X6_120 mv_X6_lives rfl sh_17 cl_6 rfl (Nat.le_of_ble_eq_true rfl) rfl k (ob_kI fun v2 σ1 k => ?_)
    refine ob_if_eq (tgt := 45) d_X6_youngestAlive_20 rfl (fun cc => ?_) (fun cc => ?_)
    · have k := k.1 cc
      refine ob_iinc (ls' := [.ref 17, .int x1, .int (x2 + (1 : Int32))]) (v := 1) d_X6_youngestAlive_45 rfl ci_1 (Nat.le_of_ble_eq_true rfl) rfl ?_
      refine ob_goto (tgt := 4) d_X6_youngestAlive_48 rfl ?_
      exact k
    · have k := k.2 cc
      refine ob_iload_n d_X6_youngestAlive_23 rfl ?_
      refine ob_iconst (v := -1) d_X6_youngestAlive_24 ci_m1 ?_
      refine ob_icmp_eq (tgt := 43) d_X6_youngestAlive_25 rfl (fun cc => ?_) (fun cc => ?_)
      · have k := k.1 cc
        refine ob_iload_n d_X6_youngestAlive_43 rfl ?_
        refine ob_istore_n (ls' := [.ref 17, .int x2, .int x2]) d_X6_youngestAlive_44 (Nat.le_of_ble_eq_true rfl) rfl ?_
        refine ob_iinc (ls' := [.ref 17, .int x2, .int (x2 + (1 : Int32))]) (v := 1) d_X6_youngestAlive_45 rfl ci_1 (Nat.le_of_ble_eq_true rfl) rfl ?_
        refine ob_goto (tgt := 4) d_X6_youngestAlive_48 rfl ?_
        exact k
      · have k := k.2 cc
        refine ob_aload_n d_X6_youngestAlive_28 rfl ?_
        refine ob_getR d_X6_youngestAlive_29 fl_X6_15 sh_17 rfl rfl ?_
        refine ob_iload_n d_X6_youngestAlive_32 rfl ?_
        obtain ⟨hin, k⟩ := k
        refine ob_iald d_X6_youngestAlive_33 sh_18 hin ?_
        refine ob_aload_n d_X6_youngestAlive_34 rfl ?_
        refine ob_getR d_X6_youngestAlive_35 fl_X6_15 sh_17 rfl rfl ?_
        refine ob_iload_n d_X6_youngestAlive_38 rfl ?_
        obtain ⟨hin, k⟩ := k
        refine ob_iald d_X6_youngestAlive_39 sh_18 hin ?_
        refine ob_icmp_ge (tgt := 45) d_X6_youngestAlive_40 rfl (fun cc => ?_) (fun cc => ?_)
        · have k := k.1 cc
          refine ob_iinc (ls' := [.ref 17, .int x1, .int (x2 + (1 : Int32))]) (v := 1) d_X6_youngestAlive_45 rfl ci_1 (Nat.le_of_ble_eq_true rfl) rfl ?_
          refine ob_goto (tgt := 4) d_X6_youngestAlive_48 rfl ?_
          exact k
        · have k := k.2 cc
          refine ob_iload_n d_X6_youngestAlive_43 rfl ?_
          refine ob_istore_n (ls' := [.ref 17, .int x2, .int x2]) d_X6_youngestAlive_44 (Nat.le_of_ble_eq_true rfl) rfl ?_
          refine ob_iinc (ls' := [.ref 17, .int x2, .int (x2 + (1 : Int32))]) (v := 1) d_X6_youngestAlive_45 rfl ci_1 (Nat.le_of_ble_eq_true rfl) rfl ?_
          refine ob_goto (tgt := 4) d_X6_youngestAlive_48 rfl ?_
          exact k
theorem d_X6_yearsBehind_0 : decode oX6_yearsBehind.2.1 0 = .ok (.iconst 0, 1) := by decide +kernel
theorem d_X6_yearsBehind_1 : decode oX6_yearsBehind.2.1 1 = .ok (.istore 4, 2) := by decide +kernel
theorem d_X6_yearsBehind_3 : decode oX6_yearsBehind.2.1 3 = .ok (.iconst 0, 1) := by decide +kernel
theorem d_X6_yearsBehind_4 : decode oX6_yearsBehind.2.1 4 = .ok (.istore 5, 2) := by decide +kernel
theorem d_X6_yearsBehind_6 : decode oX6_yearsBehind.2.1 6 = .ok (.iload 5, 2) := by decide +kernel
theorem d_X6_yearsBehind_8 : decode oX6_yearsBehind.2.1 8 = .ok (.aload_n 0, 1) := by decide +kernel
theorem d_X6_yearsBehind_9 : decode oX6_yearsBehind.2.1 9 = .ok (.getfield 9, 3) := by decide +kernel
theorem d_X6_yearsBehind_12 : decode oX6_yearsBehind.2.1 12 = .ok (.getfield 74, 3) := by decide +kernel
theorem d_X6_yearsBehind_15 : decode oX6_yearsBehind.2.1 15 = .ok (.if_icmp .ge 28, 3) := by decide +kernel
theorem d_X6_yearsBehind_18 : decode oX6_yearsBehind.2.1 18 = .ok (.iload 5, 2) := by decide +kernel
theorem d_X6_yearsBehind_20 : decode oX6_yearsBehind.2.1 20 = .ok (.iload_n 3, 1) := by decide +kernel
theorem d_X6_yearsBehind_21 : decode oX6_yearsBehind.2.1 21 = .ok (.if_icmp .eq 16, 3) := by decide +kernel
theorem d_X6_yearsBehind_24 : decode oX6_yearsBehind.2.1 24 = .ok (.iload 4, 2) := by decide +kernel
theorem d_X6_yearsBehind_26 : decode oX6_yearsBehind.2.1 26 = .ok (.aload_n 0, 1) := by decide +kernel
theorem d_X6_yearsBehind_27 : decode oX6_yearsBehind.2.1 27 = .ok (.iload 5, 2) := by decide +kernel
theorem d_X6_yearsBehind_29 : decode oX6_yearsBehind.2.1 29 = .ok (.iload_n 1, 1) := by decide +kernel
theorem d_X6_yearsBehind_30 : decode oX6_yearsBehind.2.1 30 = .ok (.iload_n 2, 1) := by decide +kernel
theorem d_X6_yearsBehind_31 : decode oX6_yearsBehind.2.1 31 = .ok (.invokevirtual 105, 3) := by decide +kernel
theorem d_X6_yearsBehind_34 : decode oX6_yearsBehind.2.1 34 = .ok (.iadd, 1) := by decide +kernel
theorem d_X6_yearsBehind_35 : decode oX6_yearsBehind.2.1 35 = .ok (.istore 4, 2) := by decide +kernel
theorem d_X6_yearsBehind_37 : decode oX6_yearsBehind.2.1 37 = .ok (.iinc 5 1, 3) := by decide +kernel
theorem d_X6_yearsBehind_40 : decode oX6_yearsBehind.2.1 40 = .ok (.goto (-34), 3) := by decide +kernel
theorem d_X6_yearsBehind_43 : decode oX6_yearsBehind.2.1 43 = .ok (.iload 4, 2) := by decide +kernel
theorem d_X6_yearsBehind_45 : decode oX6_yearsBehind.2.1 45 = .ok (.ireturn, 1) := by decide +kernel
theorem b_X6_yearsBehind_0 {E : ob_E} {σ : ob_Mem} {Q : Int32 → ob_Mem → Prop} {x1 x2 x3 : Int32} (k : ob_RT shp E oX6_yearsBehind 6 [.ref 17, .int x1, .int x2, .int x3, .int (0 : Int32), .int (0 : Int32)] [] σ (ob_qI Q)) : ob_RT shp E oX6_yearsBehind 0 [.ref 17, .int x1, .int x2, .int x3, .null, .null] [] σ (ob_qI Q) := by
  refine ob_iconst (v := 0) d_X6_yearsBehind_0 ci_0 ?_
  refine ob_istore (ls' := [.ref 17, .int x1, .int x2, .int x3, .int (0 : Int32), .null]) d_X6_yearsBehind_1 (Nat.le_of_ble_eq_true rfl) rfl ?_
  refine ob_iconst (v := 0) d_X6_yearsBehind_3 ci_0 ?_
  refine ob_istore (ls' := [.ref 17, .int x1, .int x2, .int x3, .int (0 : Int32), .int (0 : Int32)]) d_X6_yearsBehind_4 (Nat.le_of_ble_eq_true rfl) rfl ?_
  exact k
theorem b_X6_yearsBehind_6 {E : ob_E} {σ : ob_Mem} {Q : Int32 → ob_Mem → Prop} {x1 x2 x3 x4 x5 : Int32} (k : (((σ.1 10 8) ≤ x5 → Q x4 σ) ∧ (¬ (σ.1 10 8) ≤ x5 → ((x5 = x3 → ob_RT shp E oX6_yearsBehind 6 [.ref 17, .int x1, .int x2, .int x3, .int x4, .int (x5 + (1 : Int32))] [] σ (ob_qI Q)) ∧ (¬ x5 = x3 → ob_RM shp E oX6_yearsFor [.ref 17, .int x5, .int x1, .int x2] σ (ob_qI fun v2 σ1 => ob_RT shp E oX6_yearsBehind 6 [.ref 17, .int x1, .int x2, .int x3, .int (x4 + v2), .int (x5 + (1 : Int32))] [] σ1 (ob_qI Q))))))) : ob_RT shp E oX6_yearsBehind 6 [.ref 17, .int x1, .int x2, .int x3, .int x4, .int x5] [] σ (ob_qI Q) := by
  refine ob_iload d_X6_yearsBehind_6 rfl ?_
  refine ob_aload_n d_X6_yearsBehind_8 rfl ?_
  refine ob_getR d_X6_yearsBehind_9 fl_X6_9 sh_17 rfl rfl ?_
  refine ob_getI d_X6_yearsBehind_12 fl_X6_74 sh_10 rfl (by decide) ?_
  refine ob_icmp_ge (tgt := 43) d_X6_yearsBehind_15 rfl (fun cc => ?_) (fun cc => ?_)
  · have k := k.1 cc
    refine ob_iload d_X6_yearsBehind_43 rfl ?_
    exact ob_iret d_X6_yearsBehind_45 rfl ⟨_, rfl, k⟩
  · have k := k.2 cc
    refine ob_iload d_X6_yearsBehind_18 rfl ?_
    refine ob_iload_n d_X6_yearsBehind_20 rfl ?_
    refine ob_icmp_eq (tgt := 37) d_X6_yearsBehind_21 rfl (fun cc => ?_) (fun cc => ?_)
    · have k := k.1 cc
      refine ob_iinc (ls' := [.ref 17, .int x1, .int x2, .int x3, .int x4, .int (x5 + (1 : Int32))]) (v := 1) d_X6_yearsBehind_37 rfl ci_1 (Nat.le_of_ble_eq_true rfl) rfl ?_
      refine ob_goto (tgt := 6) d_X6_yearsBehind_40 rfl ?_
      exact k
    · have k := k.2 cc
      refine ob_iload d_X6_yearsBehind_24 rfl ?_
      refine ob_aload_n d_X6_yearsBehind_26 rfl ?_
      refine ob_iload d_X6_yearsBehind_27 rfl ?_
      refine ob_iload_n d_X6_yearsBehind_29 rfl ?_
      refine ob_iload_n d_X6_yearsBehind_30 rfl ?_
      refine ob_callV [.int x5, .int x1, .int x2] (z := oX6_yearsFor) (st := [.int x4]) d_X6_yearsBehind_31 lk_X6_105 mv_X6_yearsFor rfl sh_17 cl_6 rfl (Nat.le_of_ble_eq_true rfl) rfl k (ob_kI fun v2 σ1 k => ?_)
      refine ob_iadd d_X6_yearsBehind_34 ?_
      refine ob_istore (ls' := [.ref 17, .int x1, .int x2, .int x3, .int (x4 + v2), .int x5]) d_X6_yearsBehind_35 (Nat.le_of_ble_eq_true rfl) rfl ?_
      refine ob_iinc (ls' := [.ref 17, .int x1, .int x2, .int x3, .int (x4 + v2), .int (x5 + (1 : Int32))]) (v := 1) d_X6_yearsBehind_37 rfl ci_1 (Nat.le_of_ble_eq_true rfl) rfl ?_
      refine ob_goto (tgt := 6) d_X6_yearsBehind_40 rfl ?_
      exact k
theorem d_X6_draw_0 : decode oX6_draw.2.1 0 = .ok (.iload_n 1, 1) := by decide +kernel
theorem d_X6_draw_1 : decode oX6_draw.2.1 1 = .ok (.iconst 1, 1) := by decide +kernel
theorem d_X6_draw_2 : decode oX6_draw.2.1 2 = .ok (.if_icmp .ge 5, 3) := by decide +kernel
theorem d_X6_draw_5 : decode oX6_draw.2.1 5 = .ok (.iconst 0, 1) := by decide +kernel
theorem d_X6_draw_6 : decode oX6_draw.2.1 6 = .ok (.ireturn, 1) := by decide +kernel
theorem d_X6_draw_7 : decode oX6_draw.2.1 7 = .ok (.aload_n 0, 1) := by decide +kernel
theorem d_X6_draw_8 : decode oX6_draw.2.1 8 = .ok (.aload_n 0, 1) := by decide +kernel
theorem d_X6_draw_9 : decode oX6_draw.2.1 9 = .ok (.getfield 64, 3) := by decide +kernel
theorem d_X6_draw_12 : decode oX6_draw.2.1 12 = .ok (.i2l, 1) := by decide +kernel
theorem d_X6_draw_13 : decode oX6_draw.2.1 13 = .ok (.ldc2_w 150, 3) := by decide +kernel
theorem d_X6_draw_16 : decode oX6_draw.2.1 16 = .ok (.lmul, 1) := by decide +kernel
theorem d_X6_draw_17 : decode oX6_draw.2.1 17 = .ok (.ldc2_w 152, 3) := by decide +kernel
theorem d_X6_draw_20 : decode oX6_draw.2.1 20 = .ok (.ladd, 1) := by decide +kernel
theorem d_X6_draw_21 : decode oX6_draw.2.1 21 = .ok (.ldc2_w 156, 3) := by decide +kernel
theorem d_X6_draw_24 : decode oX6_draw.2.1 24 = .ok (.land, 1) := by decide +kernel
theorem d_X6_draw_25 : decode oX6_draw.2.1 25 = .ok (.l2i, 1) := by decide +kernel
theorem d_X6_draw_26 : decode oX6_draw.2.1 26 = .ok (.putfield 64, 3) := by decide +kernel
theorem d_X6_draw_29 : decode oX6_draw.2.1 29 = .ok (.aload_n 0, 1) := by decide +kernel
theorem d_X6_draw_30 : decode oX6_draw.2.1 30 = .ok (.getfield 64, 3) := by decide +kernel
theorem d_X6_draw_33 : decode oX6_draw.2.1 33 = .ok (.ldc 158, 2) := by decide +kernel
theorem d_X6_draw_35 : decode oX6_draw.2.1 35 = .ok (.idiv, 1) := by decide +kernel
theorem d_X6_draw_36 : decode oX6_draw.2.1 36 = .ok (.iload_n 1, 1) := by decide +kernel
theorem d_X6_draw_37 : decode oX6_draw.2.1 37 = .ok (.irem, 1) := by decide +kernel
theorem d_X6_draw_38 : decode oX6_draw.2.1 38 = .ok (.ireturn, 1) := by decide +kernel
theorem b_X6_draw_0 {E : ob_E} {σ : ob_Mem} {Q : Int32 → ob_Mem → Prop} {x1 : Int32} (k : (((1 : Int32) ≤ x1 → (∀ σ1, σ1 = (ob_wI σ 17 8 ((((((σ.1 17 8)).toInt64 * (1103515245 : Int64)) + (12345 : Int64)) &&& (2147483647 : Int64))).toInt32) → (¬ x1 = 0 ∧ Q (ob_rem ((σ1.1 17 8) / (65536 : Int32)) x1) σ1))) ∧ (¬ (1 : Int32) ≤ x1 → Q (0 : Int32) σ))) : ob_RT shp E oX6_draw 0 [.ref 17, .int x1] [] σ (ob_qI Q) := by
  refine ob_iload_n d_X6_draw_0 rfl ?_
  refine ob_iconst (v := 1) d_X6_draw_1 ci_1 ?_
  refine ob_icmp_ge (tgt := 7) d_X6_draw_2 rfl (fun cc => ?_) (fun cc => ?_)
  · have k := k.1 cc
    refine ob_aload_n d_X6_draw_7 rfl ?_
    refine ob_aload_n d_X6_draw_8 rfl ?_
    refine ob_getI d_X6_draw_9 fl_X6_64 sh_17 rfl (by decide) ?_
    refine ob_i2l d_X6_draw_12 ?_
    refine ob_ldc2 (v := 1103515245) d_X6_draw_13 k_X6_150 ?_
    refine ob_lmul d_X6_draw_16 ?_
    refine ob_ldc2 (v := 12345) d_X6_draw_17 k_X6_152 ?_
    refine ob_ladd d_X6_draw_20 ?_
    refine ob_ldc2 (v := 2147483647) d_X6_draw_21 k_X6_156 ?_
    refine ob_land d_X6_draw_24 ?_
    refine ob_l2i d_X6_draw_25 ?_
    refine ob_putI d_X6_draw_26 fp_X6_64 sh_17 rfl rfl ?_
    refine ob_nmM (fun σ1 hσ1 => ?_)
    have k := k σ1 hσ1
    refine ob_aload_n d_X6_draw_29 rfl ?_
    refine ob_getI d_X6_draw_30 fl_X6_64 sh_17 rfl (by decide) ?_
    refine ob_ldc (v := 65536) d_X6_draw_33 k_X6_158 ?_
    refine ob_idiv d_X6_draw_35 (by decide) ?_
    refine ob_iload_n d_X6_draw_36 rfl ?_
    obtain ⟨hne, k⟩ := k
    refine ob_irem d_X6_draw_37 hne ?_
    exact ob_iret d_X6_draw_38 rfl ⟨_, rfl, k⟩
  · have k := k.2 cc
    refine ob_iconst (v := 0) d_X6_draw_5 ci_0 ?_
    exact ob_iret d_X6_draw_6 rfl ⟨_, rfl, k⟩
theorem d_X6_sellByDraws_0 : decode oX6_sellByDraws.2.1 0 = .ok (.aload_n 0, 1) := by decide +kernel
theorem d_X6_sellByDraws_1 : decode oX6_sellByDraws.2.1 1 = .ok (.aload_n 0, 1) := by decide +kernel
theorem d_X6_sellByDraws_2 : decode oX6_sellByDraws.2.1 2 = .ok (.getfield 9, 3) := by decide +kernel
theorem d_X6_sellByDraws_5 : decode oX6_sellByDraws.2.1 5 = .ok (.getfield 74, 3) := by decide +kernel
theorem d_X6_sellByDraws_8 : decode oX6_sellByDraws.2.1 8 = .ok (.invokevirtual 131, 3) := by decide +kernel
theorem d_X6_sellByDraws_11 : decode oX6_sellByDraws.2.1 11 = .ok (.istore_n 1, 1) := by decide +kernel
theorem d_X6_sellByDraws_12 : decode oX6_sellByDraws.2.1 12 = .ok (.aload_n 0, 1) := by decide +kernel
theorem d_X6_sellByDraws_13 : decode oX6_sellByDraws.2.1 13 = .ok (.aload_n 0, 1) := by decide +kernel
theorem d_X6_sellByDraws_14 : decode oX6_sellByDraws.2.1 14 = .ok (.getfield 9, 3) := by decide +kernel
theorem d_X6_sellByDraws_17 : decode oX6_sellByDraws.2.1 17 = .ok (.getfield 54, 3) := by decide +kernel
theorem d_X6_sellByDraws_20 : decode oX6_sellByDraws.2.1 20 = .ok (.invokevirtual 131, 3) := by decide +kernel
theorem d_X6_sellByDraws_23 : decode oX6_sellByDraws.2.1 23 = .ok (.istore_n 2, 1) := by decide +kernel
theorem d_X6_sellByDraws_24 : decode oX6_sellByDraws.2.1 24 = .ok (.aload_n 0, 1) := by decide +kernel
theorem d_X6_sellByDraws_25 : decode oX6_sellByDraws.2.1 25 = .ok (.iload_n 1, 1) := by decide +kernel
theorem d_X6_sellByDraws_26 : decode oX6_sellByDraws.2.1 26 = .ok (.invokevirtual 140, 3) := by decide +kernel
theorem d_X6_sellByDraws_29 : decode oX6_sellByDraws.2.1 29 = .ok (.istore_n 3, 1) := by decide +kernel
theorem d_X6_sellByDraws_30 : decode oX6_sellByDraws.2.1 30 = .ok (.aload_n 0, 1) := by decide +kernel
theorem d_X6_sellByDraws_31 : decode oX6_sellByDraws.2.1 31 = .ok (.iload_n 1, 1) := by decide +kernel
theorem d_X6_sellByDraws_32 : decode oX6_sellByDraws.2.1 32 = .ok (.iload_n 2, 1) := by decide +kernel
theorem d_X6_sellByDraws_33 : decode oX6_sellByDraws.2.1 33 = .ok (.iload_n 3, 1) := by decide +kernel
theorem d_X6_sellByDraws_34 : decode oX6_sellByDraws.2.1 34 = .ok (.invokevirtual 143, 3) := by decide +kernel
theorem d_X6_sellByDraws_37 : decode oX6_sellByDraws.2.1 37 = .ok (.ifCond .eq 10, 3) := by decide +kernel
theorem d_X6_sellByDraws_40 : decode oX6_sellByDraws.2.1 40 = .ok (.aload_n 0, 1) := by decide +kernel
theorem d_X6_sellByDraws_41 : decode oX6_sellByDraws.2.1 41 = .ok (.iload_n 1, 1) := by decide +kernel
theorem d_X6_sellByDraws_42 : decode oX6_sellByDraws.2.1 42 = .ok (.iload_n 2, 1) := by decide +kernel
theorem d_X6_sellByDraws_43 : decode oX6_sellByDraws.2.1 43 = .ok (.iload_n 3, 1) := by decide +kernel
theorem d_X6_sellByDraws_44 : decode oX6_sellByDraws.2.1 44 = .ok (.invokevirtual 147, 3) := by decide +kernel
theorem d_X6_sellByDraws_47 : decode oX6_sellByDraws.2.1 47 = .ok (.return_, 1) := by decide +kernel
theorem b_X6_sellByDraws_0 {E : ob_E} {σ : ob_Mem} {Q : ob_Mem → Prop} (k : ob_RM shp E oX6_draw [.ref 17, .int (σ.1 10 8)] σ (ob_qI fun v2 σ1 => ob_RM shp E oX6_draw [.ref 17, .int (σ1.1 10 7)] σ1 (ob_qI fun v4 σ3 => ob_RM shp E oX6_seasonOf [.ref 17, .int v2] σ3 (ob_qI fun v6 σ5 => ob_RM shp E oX6_mayDeal [.ref 17, .int v2, .int v4, .int v6] σ5 (ob_qI fun v8 σ7 => ((v8 = 0 → Q σ7) ∧ (¬ v8 = 0 → ob_RM shp E oX6_sellTo [.ref 17, .int v2, .int v4, .int v6] σ7 (ob_qV fun σ9 => Q σ9)))))))) : ob_RT shp E oX6_sellByDraws 0 [.ref 17, .null, .null, .null] [] σ (ob_qV Q) := by
  refine ob_aload_n d_X6_sellByDraws_0 rfl ?_
  refine ob_aload_n d_X6_sellByDraws_1 rfl ?_
  refine ob_getR d_X6_sellByDraws_2 fl_X6_9 sh_17 rfl rfl ?_
  refine ob_getI d_X6_sellByDraws_5 fl_X6_74 sh_10 rfl (by decide) ?_
  refine ob_callV [.int (σ.1 10 8)] (z := oX6_draw) (st := []) d_X6_sellByDraws_8 lk_X6_131 mv_X6_draw rfl sh_17 cl_6 rfl (Nat.le_of_ble_eq_true rfl) rfl k (ob_kI fun v2 σ1 k => ?_)
  refine ob_istore_n (ls' := [.ref 17, .int v2, .null, .null]) d_X6_sellByDraws_11 (Nat.le_of_ble_eq_true rfl) rfl ?_
  refine ob_aload_n d_X6_sellByDraws_12 rfl ?_
  refine ob_aload_n d_X6_sellByDraws_13 rfl ?_
  refine ob_getR d_X6_sellByDraws_14 fl_X6_9 sh_17 rfl rfl ?_
  refine ob_getI d_X6_sellByDraws_17 fl_X6_54 sh_10 rfl (by decide) ?_
  refine ob_callV [.int (σ1.1 10 7)] (z := oX6_draw) (st := []) d_X6_sellByDraws_20 lk_X6_131 mv_X6_draw rfl sh_17 cl_6 rfl (Nat.le_of_ble_eq_true rfl) rfl k (ob_kI fun v4 σ3 k => ?_)
  refine ob_istore_n (ls' := [.ref 17, .int v2, .int v4, .null]) d_X6_sellByDraws_23 (Nat.le_of_ble_eq_true rfl) rfl ?_
  refine ob_aload_n d_X6_sellByDraws_24 rfl ?_
  refine ob_iload_n d_X6_sellByDraws_25 rfl ?_
  refine ob_callV [.int v2] (z := oX6_seasonOf) (st := []) d_X6_sellByDraws_26 lk_X6_140 mv_X6_seasonOf rfl sh_17 cl_6 rfl (Nat.le_of_ble_eq_true rfl) rfl k (ob_kI fun v6 σ5 k => ?_)
  refine ob_istore_n (ls' := [.ref 17, .int v2, .int v4, .int v6]) d_X6_sellByDraws_29 (Nat.le_of_ble_eq_true rfl) rfl ?_
  refine ob_aload_n d_X6_sellByDraws_30 rfl ?_
  refine ob_iload_n d_X6_sellByDraws_31 rfl ?_
  refine ob_iload_n d_X6_sellByDraws_32 rfl ?_
  refine ob_iload_n d_X6_sellByDraws_33 rfl ?_
  refine ob_callV [.int v2, .int v4, .int v6] (z := oX6_mayDeal) (st := []) d_X6_sellByDraws_34 lk_X6_143 mv_X6_mayDeal rfl sh_17 cl_6 rfl (Nat.le_of_ble_eq_true rfl) rfl k (ob_kI fun v8 σ7 k => ?_)
  refine ob_if_eq (tgt := 47) d_X6_sellByDraws_37 rfl (fun cc => ?_) (fun cc => ?_)
  · have k := k.1 cc
    exact ob_vret d_X6_sellByDraws_47 rfl ⟨rfl, k⟩
  · have k := k.2 cc
    refine ob_aload_n d_X6_sellByDraws_40 rfl ?_
    refine ob_iload_n d_X6_sellByDraws_41 rfl ?_
    refine ob_iload_n d_X6_sellByDraws_42 rfl ?_
    refine ob_iload_n d_X6_sellByDraws_43 rfl ?_
    refine ob_callV [.int v2, .int v4, .int v6] (z := oX6_sellTo) (st := []) d_X6_sellByDraws_44 lk_X6_147 mv_X6_sellTo rfl sh_17 cl_6 rfl (Nat.le_of_ble_eq_true rfl) rfl k (ob_kV fun σ9 k => ?_)
    exact ob_vret d_X6_sellByDraws_47 rfl ⟨rfl, k⟩
theorem d_X6_yearsFor_0 : decode oX6_yearsFor.2.1 0 = .ok (.iload_n 2, 1) := by decide +kernel
theorem d_X6_yearsFor_1 : decode oX6_yearsFor.2.1 1 = .ok (.aload_n 0, 1) := by decide +kernel
theorem d_X6_yearsFor_2 : decode oX6_yearsFor.2.1 2 = .ok (.getfield 22, 3) := by decide +kernel
theorem d_X6_yearsFor_5 : decode oX6_yearsFor.2.1 5 = .ok (.iload_n 1, 1) := by decide +kernel
theorem d_X6_yearsFor_6 : decode oX6_yearsFor.2.1 6 = .ok (.iaload, 1) := by decide +kernel
theorem d_X6_yearsFor_7 : decode oX6_yearsFor.2.1 7 = .ok (.if_icmp .ne 22, 3) := by decide +kernel
theorem d_X6_yearsFor_10 : decode oX6_yearsFor.2.1 10 = .ok (.aload_n 0, 1) := by decide +kernel
theorem d_X6_yearsFor_11 : decode oX6_yearsFor.2.1 11 = .ok (.iload_n 1, 1) := by decide +kernel
theorem d_X6_yearsFor_12 : decode oX6_yearsFor.2.1 12 = .ok (.iload_n 3, 1) := by decide +kernel
theorem d_X6_yearsFor_13 : decode oX6_yearsFor.2.1 13 = .ok (.invokevirtual 99, 3) := by decide +kernel
theorem d_X6_yearsFor_16 : decode oX6_yearsFor.2.1 16 = .ok (.aload_n 0, 1) := by decide +kernel
theorem d_X6_yearsFor_17 : decode oX6_yearsFor.2.1 17 = .ok (.iload_n 1, 1) := by decide +kernel
theorem d_X6_yearsFor_18 : decode oX6_yearsFor.2.1 18 = .ok (.aload_n 0, 1) := by decide +kernel
theorem d_X6_yearsFor_19 : decode oX6_yearsFor.2.1 19 = .ok (.iload_n 1, 1) := by decide +kernel
theorem d_X6_yearsFor_20 : decode oX6_yearsFor.2.1 20 = .ok (.iload_n 3, 1) := by decide +kernel
theorem d_X6_yearsFor_21 : decode oX6_yearsFor.2.1 21 = .ok (.invokevirtual 102, 3) := by decide +kernel
theorem d_X6_yearsFor_24 : decode oX6_yearsFor.2.1 24 = .ok (.invokevirtual 99, 3) := by decide +kernel
theorem d_X6_yearsFor_27 : decode oX6_yearsFor.2.1 27 = .ok (.isub, 1) := by decide +kernel
theorem d_X6_yearsFor_28 : decode oX6_yearsFor.2.1 28 = .ok (.ireturn, 1) := by decide +kernel
theorem d_X6_yearsFor_29 : decode oX6_yearsFor.2.1 29 = .ok (.iload_n 2, 1) := by decide +kernel
theorem d_X6_yearsFor_30 : decode oX6_yearsFor.2.1 30 = .ok (.aload_n 0, 1) := by decide +kernel
theorem d_X6_yearsFor_31 : decode oX6_yearsFor.2.1 31 = .ok (.getfield 25, 3) := by decide +kernel
theorem d_X6_yearsFor_34 : decode oX6_yearsFor.2.1 34 = .ok (.iload_n 1, 1) := by decide +kernel
theorem d_X6_yearsFor_35 : decode oX6_yearsFor.2.1 35 = .ok (.iaload, 1) := by decide +kernel
theorem d_X6_yearsFor_36 : decode oX6_yearsFor.2.1 36 = .ok (.if_icmp .ne 17, 3) := by decide +kernel
theorem d_X6_yearsFor_39 : decode oX6_yearsFor.2.1 39 = .ok (.aload_n 0, 1) := by decide +kernel
theorem d_X6_yearsFor_40 : decode oX6_yearsFor.2.1 40 = .ok (.iload_n 1, 1) := by decide +kernel
theorem d_X6_yearsFor_41 : decode oX6_yearsFor.2.1 41 = .ok (.aload_n 0, 1) := by decide +kernel
theorem d_X6_yearsFor_42 : decode oX6_yearsFor.2.1 42 = .ok (.iload_n 1, 1) := by decide +kernel
theorem d_X6_yearsFor_43 : decode oX6_yearsFor.2.1 43 = .ok (.iload_n 3, 1) := by decide +kernel
theorem d_X6_yearsFor_44 : decode oX6_yearsFor.2.1 44 = .ok (.invokevirtual 102, 3) := by decide +kernel
theorem d_X6_yearsFor_47 : decode oX6_yearsFor.2.1 47 = .ok (.invokevirtual 99, 3) := by decide +kernel
theorem d_X6_yearsFor_50 : decode oX6_yearsFor.2.1 50 = .ok (.goto 4, 3) := by decide +kernel
theorem d_X6_yearsFor_53 : decode oX6_yearsFor.2.1 53 = .ok (.iconst 0, 1) := by decide +kernel
theorem d_X6_yearsFor_54 : decode oX6_yearsFor.2.1 54 = .ok (.ireturn, 1) := by decide +kernel
theorem b_X6_yearsFor_0 {E : ob_E} {σ : ob_Mem} {Q : Int32 → ob_Mem → Prop} {x1 x2 x3 : Int32} (k : (vp_in x1 8 ∧ ((¬ x2 = (σ.1 20 (x1).toNatClampNeg) → (vp_in x1 8 ∧ ((¬ x2 = (σ.1 21 (x1).toNatClampNeg) → Q (0 : Int32) σ) ∧ (x2 = (σ.1 21 (x1).toNatClampNeg) → ob_RM shp E oX6_daysLent [.ref 17, .int x1, .int x3] σ (ob_qI fun v2 σ1 => ob_RM shp E oX6_comings [.ref 17, .int x1, .int v2] σ1 (ob_qI fun v4 σ3 => Q v4 σ3)))))) ∧ (x2 = (σ.1 20 (x1).toNatClampNeg) → ob_RM shp E oX6_comings [.ref 17, .int x1, .int x3] σ (ob_qI fun v6 σ5 => ob_RM shp E oX6_daysLent [.ref 17, .int x1, .int x3] σ5 (ob_qI fun v8 σ7 => ob_RM shp E oX6_comings [.ref 17, .int x1, .int v8] σ7 (ob_qI fun v10 σ9 => Q (v6 - v10) σ9))))))) : ob_RT shp E oX6_yearsFor 0 [.ref 17, .int x1, .int x2, .int x3] [] σ (ob_qI Q) := by
  refine ob_iload_n d_X6_yearsFor_0 rfl ?_
  refine ob_aload_n d_X6_yearsFor_1 rfl ?_
  refine ob_getR d_X6_yearsFor_2 fl_X6_22 sh_17 rfl rfl ?_
  refine ob_iload_n d_X6_yearsFor_5 rfl ?_
  obtain ⟨hin, k⟩ := k
  refine ob_iald d_X6_yearsFor_6 sh_20 hin ?_
  refine ob_icmp_ne (tgt := 29) d_X6_yearsFor_7 rfl (fun cc => ?_) (fun cc => ?_)
  · have k := k.1 cc
    refine ob_iload_n d_X6_yearsFor_29 rfl ?_
    refine ob_aload_n d_X6_yearsFor_30 rfl ?_
    refine ob_getR d_X6_yearsFor_31 fl_X6_25 sh_17 rfl rfl ?_
    refine ob_iload_n d_X6_yearsFor_34 rfl ?_
    obtain ⟨hin, k⟩ := k
    refine ob_iald d_X6_yearsFor_35 sh_21 hin ?_
    refine ob_icmp_ne (tgt := 53) d_X6_yearsFor_36 rfl (fun cc => ?_) (fun cc => ?_)
    · have k := k.1 cc
      refine ob_iconst (v := 0) d_X6_yearsFor_53 ci_0 ?_
      exact ob_iret d_X6_yearsFor_54 rfl ⟨_, rfl, k⟩
    · have k := k.2 cc
      refine ob_aload_n d_X6_yearsFor_39 rfl ?_
      refine ob_iload_n d_X6_yearsFor_40 rfl ?_
      refine ob_aload_n d_X6_yearsFor_41 rfl ?_
      refine ob_iload_n d_X6_yearsFor_42 rfl ?_
      refine ob_iload_n d_X6_yearsFor_43 rfl ?_
      refine ob_callV [.int x1, .int x3] (z := oX6_daysLent) (st := [.int x1, .ref 17]) d_X6_yearsFor_44 lk_X6_102 mv_X6_daysLent rfl sh_17 cl_6 rfl (Nat.le_of_ble_eq_true rfl) rfl k (ob_kI fun v2 σ1 k => ?_)
      refine ob_callV [.int x1, .int v2] (z := oX6_comings) (st := []) d_X6_yearsFor_47 lk_X6_99 mv_X6_comings rfl sh_17 cl_6 rfl (Nat.le_of_ble_eq_true rfl) rfl k (ob_kI fun v4 σ3 k => ?_)
      refine ob_goto (tgt := 54) d_X6_yearsFor_50 rfl ?_
      exact ob_iret d_X6_yearsFor_54 rfl ⟨_, rfl, k⟩
  · have k := k.2 cc
    refine ob_aload_n d_X6_yearsFor_10 rfl ?_
    refine ob_iload_n d_X6_yearsFor_11 rfl ?_
    refine ob_iload_n d_X6_yearsFor_12 rfl ?_
    refine ob_callV [.int x1, .int x3] (z := oX6_comings) (st := []) d_X6_yearsFor_13 lk_X6_99 mv_X6_comings rfl sh_17 cl_6 rfl (Nat.le_of_ble_eq_true rfl) rfl k (ob_kI fun v6 σ5 k => ?_)
    refine ob_aload_n d_X6_yearsFor_16 rfl ?_
    refine ob_iload_n d_X6_yearsFor_17 rfl ?_
    refine ob_aload_n d_X6_yearsFor_18 rfl ?_
    refine ob_iload_n d_X6_yearsFor_19 rfl ?_
    refine ob_iload_n d_X6_yearsFor_20 rfl ?_
    refine ob_callV [.int x1, .int x3] (z := oX6_daysLent) (st := [.int x1, .ref 17, .int v6]) d_X6_yearsFor_21 lk_X6_102 mv_X6_daysLent rfl sh_17 cl_6 rfl (Nat.le_of_ble_eq_true rfl) rfl k (ob_kI fun v8 σ7 k => ?_)
    refine ob_callV [.int x1, .int v8] (z := oX6_comings) (st := [.int v6]) d_X6_yearsFor_24 lk_X6_99 mv_X6_comings rfl sh_17 cl_6 rfl (Nat.le_of_ble_eq_true rfl) rfl k (ob_kI fun v10 σ9 k => ?_)
    refine ob_isub d_X6_yearsFor_27 ?_
    exact ob_iret d_X6_yearsFor_28 rfl ⟨_, rfl, k⟩
