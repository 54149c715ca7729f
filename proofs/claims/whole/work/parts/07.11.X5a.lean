/-! code of X5: the decode rows and a row for each piece between cut points (printed by wip/whole/mk.py) -/
theorem d_X5_run_0 : decode oX5_run.2.1 0 = .ok (.aload_n 0, 1) := by decide +kernel
theorem d_X5_run_1 : decode oX5_run.2.1 1 = .ok (.iconst 0, 1) := by decide +kernel
theorem d_X5_run_2 : decode oX5_run.2.1 2 = .ok (.putfield 18, 3) := by decide +kernel
theorem d_X5_run_5 : decode oX5_run.2.1 5 = .ok (.aload_n 1, 1) := by decide +kernel
theorem d_X5_run_6 : decode oX5_run.2.1 6 = .ok (.getfield 22, 3) := by decide +kernel
theorem d_X5_run_9 : decode oX5_run.2.1 9 = .ok (.iconst 0, 1) := by decide +kernel
theorem d_X5_run_10 : decode oX5_run.2.1 10 = .ok (.aload_n 0, 1) := by decide +kernel
theorem d_X5_run_11 : decode oX5_run.2.1 11 = .ok (.getfield 9, 3) := by decide +kernel
theorem d_X5_run_14 : decode oX5_run.2.1 14 = .ok (.iconst 0, 1) := by decide +kernel
theorem d_X5_run_15 : decode oX5_run.2.1 15 = .ok (.bipush 8, 2) := by decide +kernel
theorem d_X5_run_17 : decode oX5_run.2.1 17 = .ok (.invokestatic 25, 3) := by decide +kernel
theorem d_X5_run_20 : decode oX5_run.2.1 20 = .ok (.iconst 0, 1) := by decide +kernel
theorem d_X5_run_21 : decode oX5_run.2.1 21 = .ok (.istore_n 2, 1) := by decide +kernel
theorem d_X5_run_22 : decode oX5_run.2.1 22 = .ok (.iload_n 2, 1) := by decide +kernel
theorem d_X5_run_23 : decode oX5_run.2.1 23 = .ok (.bipush 6, 2) := by decide +kernel
theorem d_X5_run_25 : decode oX5_run.2.1 25 = .ok (.if_icmp .ge 23, 3) := by decide +kernel
theorem d_X5_run_28 : decode oX5_run.2.1 28 = .ok (.aload_n 0, 1) := by decide +kernel
theorem d_X5_run_29 : decode oX5_run.2.1 29 = .ok (.getfield 15, 3) := by decide +kernel
theorem d_X5_run_32 : decode oX5_run.2.1 32 = .ok (.iload_n 2, 1) := by decide +kernel
theorem d_X5_run_33 : decode oX5_run.2.1 33 = .ok (.aload_n 1, 1) := by decide +kernel
theorem d_X5_run_34 : decode oX5_run.2.1 34 = .ok (.iload_n 2, 1) := by decide +kernel
theorem d_X5_run_35 : decode oX5_run.2.1 35 = .ok (.invokevirtual 31, 3) := by decide +kernel
theorem d_X5_run_38 : decode oX5_run.2.1 38 = .ok (.invokestatic 35, 3) := by decide +kernel
theorem d_X5_run_41 : decode oX5_run.2.1 41 = .ok (.iastore, 1) := by decide +kernel
theorem d_X5_run_42 : decode oX5_run.2.1 42 = .ok (.iinc 2 1, 3) := by decide +kernel
theorem d_X5_run_45 : decode oX5_run.2.1 45 = .ok (.goto (-23), 3) := by decide +kernel
theorem d_X5_run_48 : decode oX5_run.2.1 48 = .ok (.aload_n 0, 1) := by decide +kernel
theorem d_X5_run_49 : decode oX5_run.2.1 49 = .ok (.getfield 18, 3) := by decide +kernel
theorem d_X5_run_52 : decode oX5_run.2.1 52 = .ok (.bipush 40, 2) := by decide +kernel
theorem d_X5_run_54 : decode oX5_run.2.1 54 = .ok (.if_icmp .ge 24, 3) := by decide +kernel
theorem d_X5_run_57 : decode oX5_run.2.1 57 = .ok (.aload_n 0, 1) := by decide +kernel
theorem d_X5_run_58 : decode oX5_run.2.1 58 = .ok (.aload_n 1, 1) := by decide +kernel
theorem d_X5_run_59 : decode oX5_run.2.1 59 = .ok (.invokevirtual 40, 3) := by decide +kernel
theorem d_X5_run_62 : decode oX5_run.2.1 62 = .ok (.ifCond .eq 16, 3) := by decide +kernel
theorem d_X5_run_65 : decode oX5_run.2.1 65 = .ok (.aload_n 0, 1) := by decide +kernel
theorem d_X5_run_66 : decode oX5_run.2.1 66 = .ok (.dup, 1) := by decide +kernel
theorem d_X5_run_67 : decode oX5_run.2.1 67 = .ok (.getfield 18, 3) := by decide +kernel
theorem d_X5_run_70 : decode oX5_run.2.1 70 = .ok (.iconst 1, 1) := by decide +kernel
theorem d_X5_run_71 : decode oX5_run.2.1 71 = .ok (.iadd, 1) := by decide +kernel
theorem d_X5_run_72 : decode oX5_run.2.1 72 = .ok (.putfield 18, 3) := by decide +kernel
theorem d_X5_run_75 : decode oX5_run.2.1 75 = .ok (.goto (-27), 3) := by decide +kernel
theorem d_X5_run_78 : decode oX5_run.2.1 78 = .ok (.return_, 1) := by decide +kernel
theorem b_X5_run_0 {E : ob_E} {σ : ob_Mem} {Q : ob_Mem → Prop} (k : ob_RT shp E oX5_run 22 [.ref 50, .ref 17, .int (0 : Int32)] [] (ob_cp (ob_wI σ 50 2 (0 : Int32)) 20 51 8) (ob_qV Q)) : ob_RT shp E oX5_run 0 [.ref 50, .ref 17, .null] [] σ (ob_qV Q) := by
  refine ob_aload_n d_X5_run_0 rfl ?_
  refine ob_iconst (v := 0) d_X5_run_1 ci_0 ?_
  refine ob_putI d_X5_run_2 fp_X5_18 sh_50 rfl rfl ?_
  refine ob_aload_n d_X5_run_5 rfl ?_
  refine ob_getR d_X5_run_6 fl_X5_22 sh_17 rfl rfl ?_
  refine ob_iconst (v := 0) d_X5_run_9 ci_0 ?_
  refine ob_aload_n d_X5_run_10 rfl ?_
  refine ob_getR d_X5_run_11 fl_X5_9 sh_50 rfl rfl ?_
  refine ob_iconst (v := 0) d_X5_run_14 ci_0 ?_
  refine ob_bipush (v := 8) d_X5_run_15 cb_8 ?_
  refine ob_copy0 (N := 8) d_X5_run_17 lk_X5_25 ac_native ac_static ac_init sh_20 sh_51 (by decide) (by decide) (by decide) (by decide) (Nat.le_of_ble_eq_true rfl) (by decide +kernel) ?_
  refine ob_iconst (v := 0) d_X5_run_20 ci_0 ?_
  refine ob_istore_n (ls' := [.ref 50, .ref 17, .int (0 : Int32)]) d_X5_run_21 (Nat.le_of_ble_eq_true rfl) rfl ?_
  exact k
theorem b_X5_run_22 {E : ob_E} {σ : ob_Mem} {Q : ob_Mem → Prop} {x2 : Int32} (k : (((6 : Int32) ≤ x2 → ob_RT shp E oX5_run 48 [.ref 50, .ref 17, .int x2] [] σ (ob_qV Q)) ∧ (¬ (6 : Int32) ≤ x2 → ob_RM shp E oX6_ownedSet [.ref 17, .int x2] σ (ob_qI fun v2 σ1 => ob_RM shp E oJ6_bitCount_0f7a4 [.int v2] σ1 (ob_qI fun v4 σ3 => (vp_in x2 6 ∧ ob_RT shp E oX5_run 22 [.ref 50, .ref 17, .int (x2 + (1 : Int32))] [] (ob_wI σ3 52 (x2).toNatClampNeg v4) (ob_qV Q))))))) : ob_RT shp E oX5_run 22 [.ref 50, .ref 17, .int x2] [] σ (ob_qV Q) := by
  refine ob_iload_n d_X5_run_22 rfl ?_
  refine ob_bipush (v := 6) d_X5_run_23 cb_6 ?_
  refine ob_icmp_ge (tgt := 48) d_X5_run_25 rfl (fun cc => ?_) (fun cc => ?_)
  · have k := k.1 cc
    exact k
  · have k := k.2 cc
    refine ob_aload_n d_X5_run_28 rfl ?_
    refine ob_getR d_X5_run_29 fl_X5_15 sh_50 rfl rfl ?_
    refine ob_iload_n d_X5_run_32 rfl ?_
    refine ob_aload_n d_X5_run_33 rfl ?_
    refine ob_iload_n d_X5_run_34 rfl ?_
    refine ob_callV [.int x2] (z := oX6_ownedSet) (st := [.int x2, .ref 52]) d_X5_run_35 lk_X5_31 mv_X6_ownedSet rfl sh_17 cl_6 rfl (Nat.le_of_ble_eq_true rfl) rfl k (ob_kI fun v2 σ1 k => ?_)
    refine ob_callS [.int v2] (z := oJ6_bitCount_0f7a4) (st := [.int x2, .ref 52]) d_X5_run_38 lk_X5_35 ms_J6_bitCount_0f7a4 rfl (Nat.le_of_ble_eq_true rfl) rfl k (ob_kI fun v4 σ3 k => ?_)
    obtain ⟨hin, k⟩ := k
    refine ob_iast d_X5_run_41 sh_52 hin ?_
    refine ob_iinc (ls' := [.ref 50, .ref 17, .int (x2 + (1 : Int32))]) (v := 1) d_X5_run_42 rfl ci_1 (Nat.le_of_ble_eq_true rfl) rfl ?_
    refine ob_goto (tgt := 22) d_X5_run_45 rfl ?_
    exact k
theorem b_X5_run_48 {E : ob_E} {σ : ob_Mem} {Q : ob_Mem → Prop} {x2 : Int32} (k : (((40 : Int32) ≤ (σ.1 50 2) → Q σ) ∧ (¬ (40 : Int32) ≤ (σ.1 50 2) → ob_RM shp E oX5_moveFirst [.ref 50, .ref 17] σ (ob_qI fun v2 σ1 => ((v2 = 0 → Q σ1) ∧ (¬ v2 = 0 → ob_RT shp E oX5_run 48 [.ref 50, .ref 17, .int x2] [] (ob_wI σ1 50 2 ((σ1.1 50 2) + (1 : Int32))) (ob_qV Q))))))) : ob_RT shp E oX5_run 48 [.ref 50, .ref 17, .int x2] [] σ (ob_qV Q) := by
  refine ob_aload_n d_X5_run_48 rfl ?_
  refine ob_getI d_X5_run_49 fl_X5_18 sh_50 rfl (by decide) ?_
  refine ob_bipush (v := 40) d_X5_run_52 cb_40 ?_
  refine ob_icmp_ge (tgt := 78) d_X5_run_54 rfl (fun cc => ?_) (fun cc => ?_)
  · have k := k.1 cc
    exact ob_vret d_X5_run_78 rfl ⟨rfl, k⟩
  · have k := k.2 cc
    refine ob_aload_n d_X5_run_57 rfl ?_
    refine ob_aload_n d_X5_run_58 rfl ?_
    refine ob_callV [.ref 17] (z := oX5_moveFirst) (st := []) d_X5_run_59 lk_X5_40 mv_X5_moveFirst rfl sh_50 cl_5 rfl (Nat.le_of_ble_eq_true rfl) rfl k (ob_kI fun v2 σ1 k => ?_)
    refine ob_if_eq (tgt := 78) d_X5_run_62 rfl (fun cc => ?_) (fun cc => ?_)
    · have k := k.1 cc
      exact ob_vret d_X5_run_78 rfl ⟨rfl, k⟩
    · have k := k.2 cc
      refine ob_aload_n d_X5_run_65 rfl ?_
      refine ob_dup d_X5_run_66 rfl ?_
      refine ob_getI d_X5_run_67 fl_X5_18 sh_50 rfl (by decide) ?_
      refine ob_iconst (v := 1) d_X5_run_70 ci_1 ?_
      refine ob_iadd d_X5_run_71 ?_
      refine ob_putI d_X5_run_72 fp_X5_18 sh_50 rfl rfl ?_
      refine ob_goto (tgt := 48) d_X5_run_75 rfl ?_
      exact k
theorem d_X5_moveFirst_0 : decode oX5_moveFirst.2.1 0 = .ok (.iconst 0, 1) := by decide +kernel
theorem d_X5_moveFirst_1 : decode oX5_moveFirst.2.1 1 = .ok (.istore_n 2, 1) := by decide +kernel
theorem d_X5_moveFirst_2 : decode oX5_moveFirst.2.1 2 = .ok (.iload_n 2, 1) := by decide +kernel
theorem d_X5_moveFirst_3 : decode oX5_moveFirst.2.1 3 = .ok (.aload_n 1, 1) := by decide +kernel
theorem d_X5_moveFirst_4 : decode oX5_moveFirst.2.1 4 = .ok (.getfield 44, 3) := by decide +kernel
theorem d_X5_moveFirst_7 : decode oX5_moveFirst.2.1 7 = .ok (.getfield 48, 3) := by decide +kernel
theorem d_X5_moveFirst_10 : decode oX5_moveFirst.2.1 10 = .ok (.if_icmp .ge 78, 3) := by decide +kernel
theorem d_X5_moveFirst_13 : decode oX5_moveFirst.2.1 13 = .ok (.aload_n 0, 1) := by decide +kernel
theorem d_X5_moveFirst_14 : decode oX5_moveFirst.2.1 14 = .ok (.getfield 9, 3) := by decide +kernel
theorem d_X5_moveFirst_17 : decode oX5_moveFirst.2.1 17 = .ok (.iload_n 2, 1) := by decide +kernel
theorem d_X5_moveFirst_18 : decode oX5_moveFirst.2.1 18 = .ok (.iaload, 1) := by decide +kernel
theorem d_X5_moveFirst_19 : decode oX5_moveFirst.2.1 19 = .ok (.istore_n 3, 1) := by decide +kernel
theorem d_X5_moveFirst_20 : decode oX5_moveFirst.2.1 20 = .ok (.aload_n 0, 1) := by decide +kernel
theorem d_X5_moveFirst_21 : decode oX5_moveFirst.2.1 21 = .ok (.aload_n 1, 1) := by decide +kernel
theorem d_X5_moveFirst_22 : decode oX5_moveFirst.2.1 22 = .ok (.iload_n 3, 1) := by decide +kernel
theorem d_X5_moveFirst_23 : decode oX5_moveFirst.2.1 23 = .ok (.invokevirtual 53, 3) := by decide +kernel
theorem d_X5_moveFirst_26 : decode oX5_moveFirst.2.1 26 = .ok (.istore 4, 2) := by decide +kernel
theorem d_X5_moveFirst_28 : decode oX5_moveFirst.2.1 28 = .ok (.aload_n 1, 1) := by decide +kernel
theorem d_X5_moveFirst_29 : decode oX5_moveFirst.2.1 29 = .ok (.getfield 44, 3) := by decide +kernel
theorem d_X5_moveFirst_32 : decode oX5_moveFirst.2.1 32 = .ok (.iload_n 3, 1) := by decide +kernel
theorem d_X5_moveFirst_33 : decode oX5_moveFirst.2.1 33 = .ok (.invokevirtual 57, 3) := by decide +kernel
theorem d_X5_moveFirst_36 : decode oX5_moveFirst.2.1 36 = .ok (.ifCond .eq 46, 3) := by decide +kernel
theorem d_X5_moveFirst_39 : decode oX5_moveFirst.2.1 39 = .ok (.aload_n 1, 1) := by decide +kernel
theorem d_X5_moveFirst_40 : decode oX5_moveFirst.2.1 40 = .ok (.getfield 44, 3) := by decide +kernel
theorem d_X5_moveFirst_43 : decode oX5_moveFirst.2.1 43 = .ok (.iload 4, 2) := by decide +kernel
theorem d_X5_moveFirst_45 : decode oX5_moveFirst.2.1 45 = .ok (.invokevirtual 57, 3) := by decide +kernel
theorem d_X5_moveFirst_48 : decode oX5_moveFirst.2.1 48 = .ok (.ifCond .eq 34, 3) := by decide +kernel
theorem d_X5_moveFirst_51 : decode oX5_moveFirst.2.1 51 = .ok (.aload_n 0, 1) := by decide +kernel
theorem d_X5_moveFirst_52 : decode oX5_moveFirst.2.1 52 = .ok (.getfield 15, 3) := by decide +kernel
theorem d_X5_moveFirst_55 : decode oX5_moveFirst.2.1 55 = .ok (.iload_n 3, 1) := by decide +kernel
theorem d_X5_moveFirst_56 : decode oX5_moveFirst.2.1 56 = .ok (.dup2, 1) := by decide +kernel
theorem d_X5_moveFirst_57 : decode oX5_moveFirst.2.1 57 = .ok (.iaload, 1) := by decide +kernel
theorem d_X5_moveFirst_58 : decode oX5_moveFirst.2.1 58 = .ok (.iconst 1, 1) := by decide +kernel
theorem d_X5_moveFirst_59 : decode oX5_moveFirst.2.1 59 = .ok (.isub, 1) := by decide +kernel
theorem d_X5_moveFirst_60 : decode oX5_moveFirst.2.1 60 = .ok (.iastore, 1) := by decide +kernel
theorem d_X5_moveFirst_61 : decode oX5_moveFirst.2.1 61 = .ok (.aload_n 0, 1) := by decide +kernel
theorem d_X5_moveFirst_62 : decode oX5_moveFirst.2.1 62 = .ok (.getfield 15, 3) := by decide +kernel
theorem d_X5_moveFirst_65 : decode oX5_moveFirst.2.1 65 = .ok (.iload 4, 2) := by decide +kernel
theorem d_X5_moveFirst_67 : decode oX5_moveFirst.2.1 67 = .ok (.dup2, 1) := by decide +kernel
theorem d_X5_moveFirst_68 : decode oX5_moveFirst.2.1 68 = .ok (.iaload, 1) := by decide +kernel
theorem d_X5_moveFirst_69 : decode oX5_moveFirst.2.1 69 = .ok (.iconst 1, 1) := by decide +kernel
theorem d_X5_moveFirst_70 : decode oX5_moveFirst.2.1 70 = .ok (.iadd, 1) := by decide +kernel
theorem d_X5_moveFirst_71 : decode oX5_moveFirst.2.1 71 = .ok (.iastore, 1) := by decide +kernel
theorem d_X5_moveFirst_72 : decode oX5_moveFirst.2.1 72 = .ok (.aload_n 0, 1) := by decide +kernel
theorem d_X5_moveFirst_73 : decode oX5_moveFirst.2.1 73 = .ok (.getfield 9, 3) := by decide +kernel
theorem d_X5_moveFirst_76 : decode oX5_moveFirst.2.1 76 = .ok (.iload_n 2, 1) := by decide +kernel
theorem d_X5_moveFirst_77 : decode oX5_moveFirst.2.1 77 = .ok (.iload 4, 2) := by decide +kernel
theorem d_X5_moveFirst_79 : decode oX5_moveFirst.2.1 79 = .ok (.iastore, 1) := by decide +kernel
theorem d_X5_moveFirst_80 : decode oX5_moveFirst.2.1 80 = .ok (.iconst 1, 1) := by decide +kernel
theorem d_X5_moveFirst_81 : decode oX5_moveFirst.2.1 81 = .ok (.ireturn, 1) := by decide +kernel
theorem d_X5_moveFirst_82 : decode oX5_moveFirst.2.1 82 = .ok (.iinc 2 1, 3) := by decide +kernel
theorem d_X5_moveFirst_85 : decode oX5_moveFirst.2.1 85 = .ok (.goto (-83), 3) := by decide +kernel
theorem d_X5_moveFirst_88 : decode oX5_moveFirst.2.1 88 = .ok (.iconst 0, 1) := by decide +kernel
theorem d_X5_moveFirst_89 : decode oX5_moveFirst.2.1 89 = .ok (.ireturn, 1) := by decide +kernel
theorem b_X5_moveFirst_0 {E : ob_E} {σ : ob_Mem} {Q : Int32 → ob_Mem → Prop} (k : ob_RT shp E oX5_moveFirst 2 [.ref 50, .ref 17, .int (0 : Int32), .null, .null] [] σ (ob_qI Q)) : ob_RT shp E oX5_moveFirst 0 [.ref 50, .ref 17, .null, .null, .null] [] σ (ob_qI Q) := by
  refine ob_iconst (v := 0) d_X5_moveFirst_0 ci_0 ?_
  refine ob_istore_n (ls' := [.ref 50, .ref 17, .int (0 : Int32), .null, .null]) d_X5_moveFirst_1 (Nat.le_of_ble_eq_true rfl) rfl ?_
  exact k
theorem b_X5_moveFirst_2 {E : ob_E} {σ : ob_Mem} {Q : Int32 → ob_Mem → Prop} {x2 : Int32} (k : (((σ.1 10 8) ≤ x2 → Q (0 : Int32) σ) ∧ (¬ (σ.1 10 8) ≤ x2 → (vp_in x2 8 ∧ ob_RM shp E oX5_gainer [.ref 50, .ref 17, .int (σ.1 51 (x2).toNatClampNeg)] σ (ob_qI fun v2 σ1 => ob_RM shp E oX2_hasPerson [.ref 10, .int (σ.1 51 (x2).toNatClampNeg)] σ1 (ob_qI fun v4 σ3 => ((v4 = 0 → ob_RT shp E oX5_moveFirst 2 [.ref 50, .ref 17, .int (x2 + (1 : Int32)), .null, .null] [] σ3 (ob_qI Q)) ∧ (¬ v4 = 0 → ob_RM shp E oX2_hasPerson [.ref 10, .int v2] σ3 (ob_qI fun v6 σ5 => ((v6 = 0 → ob_RT shp E oX5_moveFirst 2 [.ref 50, .ref 17, .int (x2 + (1 : Int32)), .null, .null] [] σ5 (ob_qI Q)) ∧ (¬ v6 = 0 → (vp_in (σ.1 51 (x2).toNatClampNeg) 6 ∧ (vp_in (σ.1 51 (x2).toNatClampNeg) 6 ∧ (∀ σ7, σ7 = (ob_wI σ5 52 ((σ.1 51 (x2).toNatClampNeg)).toNatClampNeg ((σ5.1 52 ((σ.1 51 (x2).toNatClampNeg)).toNatClampNeg) - (1 : Int32))) → (vp_in v2 6 ∧ (vp_in v2 6 ∧ (∀ σ8, σ8 = (ob_wI σ7 52 (v2).toNatClampNeg ((σ7.1 52 (v2).toNatClampNeg) + (1 : Int32))) → (vp_in x2 8 ∧ Q (1 : Int32) (ob_wI σ8 51 (x2).toNatClampNeg v2))))))))))))))))))) : ob_RT shp E oX5_moveFirst 2 [.ref 50, .ref 17, .int x2, .null, .null] [] σ (ob_qI Q) := by
  refine ob_iload_n d_X5_moveFirst_2 rfl ?_
  refine ob_aload_n d_X5_moveFirst_3 rfl ?_
  refine ob_getR d_X5_moveFirst_4 fl_X5_44 sh_17 rfl rfl ?_
  refine ob_getI d_X5_moveFirst_7 fl_X5_48 sh_10 rfl (by decide) ?_
  refine ob_icmp_ge (tgt := 88) d_X5_moveFirst_10 rfl (fun cc => ?_) (fun cc => ?_)
  · have k := k.1 cc
    refine ob_iconst (v := 0) d_X5_moveFirst_88 ci_0 ?_
    exact ob_zret d_X5_moveFirst_89 rfl rfl ⟨_, rfl, k⟩
  · have k := k.2 cc
    refine ob_aload_n d_X5_moveFirst_13 rfl ?_
    refine ob_getR d_X5_moveFirst_14 fl_X5_9 sh_50 rfl rfl ?_
    refine ob_iload_n d_X5_moveFirst_17 rfl ?_
    obtain ⟨hin, k⟩ := k
    refine ob_iald d_X5_moveFirst_18 sh_51 hin ?_
    refine ob_istore_n (ls' := [.ref 50, .ref 17, .int x2, .int (σ.1 51 (x2).toNatClampNeg), .null]) d_X5_moveFirst_19 (Nat.le_of_ble_eq_true rfl) rfl ?_
    refine ob_aload_n d_X5_moveFirst_20 rfl ?_
    refine ob_aload_n d_X5_moveFirst_21 rfl ?_
    refine ob_iload_n d_X5_moveFirst_22 rfl ?_
    refine ob_callV [.ref 17, .int (σ.1 51 (x2).toNatClampNeg)] (z := oX5_gainer) (st := []) d_X5_moveFirst_23 lk_X5_53 mv_X5_gainer rfl sh_50 cl_5 rfl (Nat.le_of_ble_eq_true rfl) rfl k (ob_kI fun v2 σ1 k => ?_)
    refine ob_istore (ls' := [.ref 50, .ref 17, .int x2, .int (σ.1 51 (x2).toNatClampNeg), .int v2]) d_X5_moveFirst_26 (Nat.le_of_ble_eq_true rfl) rfl ?_
    refine ob_aload_n d_X5_moveFirst_28 rfl ?_
    refine ob_getR d_X5_moveFirst_29 fl_X5_44 sh_17 rfl rfl ?_
    refine ob_iload_n d_X5_moveFirst_32 rfl ?_
    refine ob_callV [.int (σ.1 51 (x2).toNatClampNeg)] (z := oX2_hasPerson) (st := []) d_X5_moveFirst_33 lk_X5_57 mv_X2_hasPerson rfl sh_10 cl_2 rfl (Nat.le_of_ble_eq_true rfl) rfl k (ob_kI fun v4 σ3 k => ?_)
    refine ob_if_eq (tgt := 82) d_X5_moveFirst_36 rfl (fun cc => ?_) (fun cc => ?_)
    · have k := k.1 cc
      refine ob_iinc (ls' := [.ref 50, .ref 17, .int (x2 + (1 : Int32)), .int (σ.1 51 (x2).toNatClampNeg), .int v2]) (v := 1) d_X5_moveFirst_82 rfl ci_1 (Nat.le_of_ble_eq_true rfl) rfl ?_
      refine ob_goto (tgt := 2) d_X5_moveFirst_85 rfl ?_
      refine ob_drop 3 (ls' := [.ref 50, .ref 17, .int (x2 + (1 : Int32)), .null, .int v2]) rfl ?_
      refine ob_drop 4 (ls' := [.ref 50, .ref 17, .int (x2 + (1 : Int32)), .null, .null]) rfl ?_
      exact k
    · have k := k.2 cc
      refine ob_aload_n d_X5_moveFirst_39 rfl ?_
      refine ob_getR d_X5_moveFirst_40 fl_X5_44 sh_17 rfl rfl ?_
      refine ob_iload d_X5_moveFirst_43 rfl ?_
      refine ob_callV [.int v2] (z := oX2_hasPerson) (st := []) d_X5_moveFirst_45 lk_X5_57 mv_X2_hasPerson rfl sh_10 cl_2 rfl (Nat.le_of_ble_eq_true rfl) rfl k (ob_kI fun v6 σ5 k => ?_)
      refine ob_if_eq (tgt := 82) d_X5_moveFirst_48 rfl (fun cc => ?_) (fun cc => ?_)
      · have k := k.1 cc
        refine ob_iinc (ls' := [.ref 50, .ref 17, .int (x2 + (1 : Int32)), .int (σ.1 51 (x2).toNatClampNeg), .int v2]) (v := 1) d_X5_moveFirst_82 rfl ci_1 (Nat.le_of_ble_eq_true rfl) rfl ?_
        refine ob_goto (tgt := 2) d_X5_moveFirst_85 rfl ?_
        refine ob_drop 3 (ls' := [.ref 50, .ref 17, .int (x2 + (1 : Int32)), .null, .int v2]) rfl ?_
        refine ob_drop 4 (ls' := [.ref 50, .ref 17, .int (x2 + (1 : Int32)), .null, .null]) rfl ?_
        exact k
      · have k := k.2 cc
        refine ob_aload_n d_X5_moveFirst_51 rfl ?_
        refine ob_getR d_X5_moveFirst_52 fl_X5_15 sh_50 rfl rfl ?_
        refine ob_iload_n d_X5_moveFirst_55 rfl ?_
        refine ob_dup2 d_X5_moveFirst_56 rfl rfl ?_
        obtain ⟨hin, k⟩ := k
        refine ob_iald d_X5_moveFirst_57 sh_52 hin ?_
        refine ob_iconst (v := 1) d_X5_moveFirst_58 ci_1 ?_
        refine ob_isub d_X5_moveFirst_59 ?_
        obtain ⟨hin, k⟩ := k
        refine ob_iast d_X5_moveFirst_60 sh_52 hin ?_
        refine ob_nmM (fun σ7 hσ7 => ?_)
        have k := k σ7 hσ7
        refine ob_aload_n d_X5_moveFirst_61 rfl ?_
        refine ob_getR d_X5_moveFirst_62 fl_X5_15 sh_50 rfl rfl ?_
        refine ob_iload d_X5_moveFirst_65 rfl ?_
        refine ob_dup2 d_X5_moveFirst_67 rfl rfl ?_
        obtain ⟨hin, k⟩ := k
        refine ob_iald d_X5_moveFirst_68 sh_52 hin ?_
        refine ob_iconst (v := 1) d_X5_moveFirst_69 ci_1 ?_
        refine ob_iadd d_X5_moveFirst_70 ?_
        obtain ⟨hin, k⟩ := k
        refine ob_iast d_X5_moveFirst_71 sh_52 hin ?_
        refine ob_nmM (fun σ8 hσ8 => ?_)
        have k := k σ8 hσ8
        refine ob_aload_n d_X5_moveFirst_72 rfl ?_
        refine ob_getR d_X5_moveFirst_73 fl_X5_9 sh_50 rfl rfl ?_
        refine ob_iload_n d_X5_moveFirst_76 rfl ?_
        refine ob_iload d_X5_moveFirst_77 rfl ?_
        obtain ⟨hin, k⟩ := k
        refine ob_iast d_X5_moveFirst_79 sh_51 hin ?_
        refine ob_iconst (v := 1) d_X5_moveFirst_80 ci_1 ?_
        exact ob_zret d_X5_moveFirst_81 rfl rfl ⟨_, rfl, k⟩
theorem d_X5_gainer_0 : decode oX5_gainer.2.1 0 = .ok (.aload_n 1, 1) := by decide +kernel
theorem d_X5_gainer_1 : decode oX5_gainer.2.1 1 = .ok (.getfield 44, 3) := by decide +kernel
theorem d_X5_gainer_4 : decode oX5_gainer.2.1 4 = .ok (.iload_n 2, 1) := by decide +kernel
theorem d_X5_gainer_5 : decode oX5_gainer.2.1 5 = .ok (.invokevirtual 57, 3) := by decide +kernel
theorem d_X5_gainer_8 : decode oX5_gainer.2.1 8 = .ok (.ifCond .ne 5, 3) := by decide +kernel
theorem d_X5_gainer_11 : decode oX5_gainer.2.1 11 = .ok (.iconst (-1), 1) := by decide +kernel
theorem d_X5_gainer_12 : decode oX5_gainer.2.1 12 = .ok (.ireturn, 1) := by decide +kernel
theorem d_X5_gainer_13 : decode oX5_gainer.2.1 13 = .ok (.iconst (-1), 1) := by decide +kernel
theorem d_X5_gainer_14 : decode oX5_gainer.2.1 14 = .ok (.istore_n 3, 1) := by decide +kernel
theorem d_X5_gainer_15 : decode oX5_gainer.2.1 15 = .ok (.aload_n 1, 1) := by decide +kernel
theorem d_X5_gainer_16 : decode oX5_gainer.2.1 16 = .ok (.iload_n 2, 1) := by decide +kernel
theorem d_X5_gainer_17 : decode oX5_gainer.2.1 17 = .ok (.aload_n 0, 1) := by decide +kernel
theorem d_X5_gainer_18 : decode oX5_gainer.2.1 18 = .ok (.getfield 15, 3) := by decide +kernel
theorem d_X5_gainer_21 : decode oX5_gainer.2.1 21 = .ok (.iload_n 2, 1) := by decide +kernel
theorem d_X5_gainer_22 : decode oX5_gainer.2.1 22 = .ok (.iaload, 1) := by decide +kernel
theorem d_X5_gainer_23 : decode oX5_gainer.2.1 23 = .ok (.iconst 1, 1) := by decide +kernel
theorem d_X5_gainer_24 : decode oX5_gainer.2.1 24 = .ok (.isub, 1) := by decide +kernel
theorem d_X5_gainer_25 : decode oX5_gainer.2.1 25 = .ok (.invokestatic 61, 3) := by decide +kernel
theorem d_X5_gainer_28 : decode oX5_gainer.2.1 28 = .ok (.istore 4, 2) := by decide +kernel
theorem d_X5_gainer_30 : decode oX5_gainer.2.1 30 = .ok (.iconst 0, 1) := by decide +kernel
theorem d_X5_gainer_31 : decode oX5_gainer.2.1 31 = .ok (.istore 5, 2) := by decide +kernel
theorem d_X5_gainer_33 : decode oX5_gainer.2.1 33 = .ok (.iload 5, 2) := by decide +kernel
theorem d_X5_gainer_35 : decode oX5_gainer.2.1 35 = .ok (.aload_n 1, 1) := by decide +kernel
theorem d_X5_gainer_36 : decode oX5_gainer.2.1 36 = .ok (.getfield 44, 3) := by decide +kernel
theorem d_X5_gainer_39 : decode oX5_gainer.2.1 39 = .ok (.getfield 65, 3) := by decide +kernel
theorem d_X5_gainer_42 : decode oX5_gainer.2.1 42 = .ok (.if_icmp .ge 60, 3) := by decide +kernel
theorem d_X5_gainer_45 : decode oX5_gainer.2.1 45 = .ok (.iload 5, 2) := by decide +kernel
theorem d_X5_gainer_47 : decode oX5_gainer.2.1 47 = .ok (.iload_n 2, 1) := by decide +kernel
theorem d_X5_gainer_48 : decode oX5_gainer.2.1 48 = .ok (.if_icmp .eq 48, 3) := by decide +kernel
theorem d_X5_gainer_51 : decode oX5_gainer.2.1 51 = .ok (.aload_n 1, 1) := by decide +kernel
theorem d_X5_gainer_52 : decode oX5_gainer.2.1 52 = .ok (.iload 5, 2) := by decide +kernel
theorem d_X5_gainer_54 : decode oX5_gainer.2.1 54 = .ok (.invokevirtual 68, 3) := by decide +kernel
theorem d_X5_gainer_57 : decode oX5_gainer.2.1 57 = .ok (.ifCond .eq 39, 3) := by decide +kernel
theorem d_X5_gainer_60 : decode oX5_gainer.2.1 60 = .ok (.aload_n 1, 1) := by decide +kernel
theorem d_X5_gainer_61 : decode oX5_gainer.2.1 61 = .ok (.iload 5, 2) := by decide +kernel
theorem d_X5_gainer_63 : decode oX5_gainer.2.1 63 = .ok (.aload_n 0, 1) := by decide +kernel
theorem d_X5_gainer_64 : decode oX5_gainer.2.1 64 = .ok (.getfield 15, 3) := by decide +kernel
theorem d_X5_gainer_67 : decode oX5_gainer.2.1 67 = .ok (.iload 5, 2) := by decide +kernel
theorem d_X5_gainer_69 : decode oX5_gainer.2.1 69 = .ok (.iaload, 1) := by decide +kernel
theorem d_X5_gainer_70 : decode oX5_gainer.2.1 70 = .ok (.invokestatic 61, 3) := by decide +kernel
theorem d_X5_gainer_73 : decode oX5_gainer.2.1 73 = .ok (.iload 4, 2) := by decide +kernel
theorem d_X5_gainer_75 : decode oX5_gainer.2.1 75 = .ok (.if_icmp .le 21, 3) := by decide +kernel
theorem d_X5_gainer_78 : decode oX5_gainer.2.1 78 = .ok (.aload_n 1, 1) := by decide +kernel
theorem d_X5_gainer_79 : decode oX5_gainer.2.1 79 = .ok (.iload 5, 2) := by decide +kernel
theorem d_X5_gainer_81 : decode oX5_gainer.2.1 81 = .ok (.aload_n 0, 1) := by decide +kernel
theorem d_X5_gainer_82 : decode oX5_gainer.2.1 82 = .ok (.getfield 15, 3) := by decide +kernel
theorem d_X5_gainer_85 : decode oX5_gainer.2.1 85 = .ok (.iload 5, 2) := by decide +kernel
theorem d_X5_gainer_87 : decode oX5_gainer.2.1 87 = .ok (.iaload, 1) := by decide +kernel
theorem d_X5_gainer_88 : decode oX5_gainer.2.1 88 = .ok (.invokestatic 61, 3) := by decide +kernel
theorem d_X5_gainer_91 : decode oX5_gainer.2.1 91 = .ok (.istore 4, 2) := by decide +kernel
theorem d_X5_gainer_93 : decode oX5_gainer.2.1 93 = .ok (.iload 5, 2) := by decide +kernel
theorem d_X5_gainer_95 : decode oX5_gainer.2.1 95 = .ok (.istore_n 3, 1) := by decide +kernel
theorem d_X5_gainer_96 : decode oX5_gainer.2.1 96 = .ok (.iinc 5 1, 3) := by decide +kernel
theorem d_X5_gainer_99 : decode oX5_gainer.2.1 99 = .ok (.goto (-66), 3) := by decide +kernel
theorem d_X5_gainer_102 : decode oX5_gainer.2.1 102 = .ok (.iload_n 3, 1) := by decide +kernel
theorem d_X5_gainer_103 : decode oX5_gainer.2.1 103 = .ok (.ireturn, 1) := by decide +kernel
theorem b_X5_gainer_0 {E : ob_E} {σ : ob_Mem} {Q : Int32 → ob_Mem → Prop} {x2 : Int32} (k : ob_RM shp E oX2_hasPerson [.ref 10, .int x2] σ (ob_qI fun v2 σ1 => ((¬ v2 = 0 → (vp_in x2 6 ∧ ob_RM shp E oX5_worthOfNext [.ref 17, .int x2, .int ((σ1.1 52 (x2).toNatClampNeg) - (1 : Int32))] σ1 (ob_qI fun v4 σ3 => ob_RT shp E oX5_gainer 33 [.ref 50, .ref 17, .int x2, .int (-1 : Int32), .int v4, .int (0 : Int32)] [] σ3 (ob_qI Q)))) ∧ (v2 = 0 → Q (-1 : Int32) σ1)))) : ob_RT shp E oX5_gainer 0 [.ref 50, .ref 17, .int x2, .null, .null, .null] [] σ (ob_qI Q) := by
  refine ob_aload_n d_X5_gainer_0 rfl ?_
  refine ob_getR d_X5_gainer_1 fl_X5_44 sh_17 rfl rfl ?_
  refine ob_iload_n d_X5_gainer_4 rfl ?_
  refine ob_callV [.int x2] (z := oX2_hasPerson) (st := []) d_X5_gainer_5 lk_X5_57 mv_X2_hasPerson rfl sh_10 cl_2 rfl (Nat.le_of_ble_eq_true rfl) rfl k (ob_kI fun v2 σ1 k => ?_)
  refine ob_if_ne (tgt := 13) d_X5_gainer_8 rfl (fun cc => ?_) (fun cc => ?_)
  · have k := k.1 cc
    refine ob_iconst (v := -1) d_X5_gainer_13 ci_m1 ?_
    refine ob_istore_n (ls' := [.ref 50, .ref 17, .int x2, .int (-1 : Int32), .null, .null]) d_X5_gainer_14 (Nat.le_of_ble_eq_true rfl) rfl ?_
    refine ob_aload_n d_X5_gainer_15 rfl ?_
    refine ob_iload_n d_X5_gainer_16 rfl ?_
    refine ob_aload_n d_X5_gainer_17 rfl ?_
    refine ob_getR d_X5_gainer_18 fl_X5_15 sh_50 rfl rfl ?_
    refine ob_iload_n d_X5_gainer_21 rfl ?_
    obtain ⟨hin, k⟩ := k
    refine ob_iald d_X5_gainer_22 sh_52 hin ?_
    refine ob_iconst (v := 1) d_X5_gainer_23 ci_1 ?_
    refine ob_isub d_X5_gainer_24 ?_
    refine ob_callS [.ref 17, .int x2, .int ((σ1.1 52 (x2).toNatClampNeg) - (1 : Int32))] (z := oX5_worthOfNext) (st := []) d_X5_gainer_25 lk_X5_61 ms_X5_worthOfNext rfl (Nat.le_of_ble_eq_true rfl) rfl k (ob_kI fun v4 σ3 k => ?_)
    refine ob_istore (ls' := [.ref 50, .ref 17, .int x2, .int (-1 : Int32), .int v4, .null]) d_X5_gainer_28 (Nat.le_of_ble_eq_true rfl) rfl ?_
    refine ob_iconst (v := 0) d_X5_gainer_30 ci_0 ?_
    refine ob_istore (ls' := [.ref 50, .ref 17, .int x2, .int (-1 : Int32), .int v4, .int (0 : Int32)]) d_X5_gainer_31 (Nat.le_of_ble_eq_true rfl) rfl ?_
    exact k
  · have k := k.2 cc
    refine ob_iconst (v := -1) d_X5_gainer_11 ci_m1 ?_
    exact ob_iret d_X5_gainer_12 rfl ⟨_, rfl, k⟩
theorem b_X5_gainer_33 {E : ob_E} {σ : ob_Mem} {Q : Int32 → ob_Mem → Prop} {x2 x3 x4 x5 : Int32} (k : (((σ.1 10 7) ≤ x5 → Q x3 σ) ∧ (¬ (σ.1 10 7) ≤ x5 → ((x5 = x2 → ob_RT shp E oX5_gainer 33 [.ref 50, .ref 17, .int x2, .int x3, .int x4, .int (x5 + (1 : Int32))] [] σ (ob_qI Q)) ∧ (¬ x5 = x2 → ob_RM shp E oX6_lives [.ref 17, .int x5] σ (ob_qI fun v2 σ1 => ((v2 = 0 → ob_RT shp E oX5_gainer 33 [.ref 50, .ref 17, .int x2, .int x3, .int x4, .int (x5 + (1 : Int32))] [] σ1 (ob_qI Q)) ∧ (¬ v2 = 0 → (vp_in x5 6 ∧ ob_RM shp E oX5_worthOfNext [.ref 17, .int x5, .int (σ1.1 52 (x5).toNatClampNeg)] σ1 (ob_qI fun v4 σ3 => ((v4 ≤ x4 → ob_RT shp E oX5_gainer 33 [.ref 50, .ref 17, .int x2, .int x3, .int x4, .int (x5 + (1 : Int32))] [] σ3 (ob_qI Q)) ∧ (¬ v4 ≤ x4 → (vp_in x5 6 ∧ ob_RM shp E oX5_worthOfNext [.ref 17, .int x5, .int (σ3.1 52 (x5).toNatClampNeg)] σ3 (ob_qI fun v6 σ5 => ob_RT shp E oX5_gainer 33 [.ref 50, .ref 17, .int x2, .int x5, .int v6, .int (x5 + (1 : Int32))] [] σ5 (ob_qI Q))))))))))))))) : ob_RT shp E oX5_gainer 33 [.ref 50, .ref 17, .int x2, .int x3, .int x4, .int x5] [] σ (ob_qI Q) := by
  refine ob_iload d_X5_gainer_33 rfl ?_
  refine ob_aload_n d_X5_gainer_35 rfl ?_
  refine ob_getR d_X5_gainer_36 fl_X5_44 sh_17 rfl rfl ?_
  refine ob_getI d_X5_gainer_39 fl_X5_65 sh_10 rfl (by decide) ?_
  refine ob_icmp_ge (tgt := 102) d_X5_gainer_42 rfl (fun cc => ?_) (fun cc => ?_)
  · have k := k.1 cc
    refine ob_iload_n d_X5_gainer_102 rfl ?_
    exact ob_iret d_X5_gainer_103 rfl ⟨_, rfl, k⟩
  · have k := k.2 cc
    refine ob_iload d_X5_gainer_45 rfl ?_
    refine ob_iload_n d_X5_gainer_47 rfl ?_
    refine ob_icmp_eq (tgt := 96) d_X5_gainer_48 rfl (fun cc => ?_) (fun cc => ?_)
    · have k := k.1 cc
      refine ob_iinc (ls' := [.ref 50, .ref 17, .int x2, .int x3, .int x4, .int (x5 + (1 : Int32))]) (v := 1) d_X5_gainer_96 rfl ci_1 (Nat.le_of_ble_eq_true rfl) rfl ?_
      refine ob_goto (tgt := 33) d_X5_gainer_99 rfl ?_
      exact k
    · have k := k.2 cc
      refine ob_aload_n d_X5_gainer_51 rfl ?_
      refine ob_iload d_X5_gainer_52 rfl ?_
      refine ob_callV [.int x5] (z := oX6_lives) (st := []) d_X5_gainer_54 lk_X5_68 mv_X6_lives rfl sh_17 cl_6 rfl (Nat.le_of_ble_eq_true rfl) rfl k (ob_kI fun v2 σ1 k => ?_)
      refine ob_if_eq (tgt := 96) d_X5_gainer_57 rfl (fun cc => ?_) (fun cc => ?_)
      · have k := k.1 cc
        refine ob_iinc (ls' := [.ref 50, .ref 17, .int x2, .int x3, .int x4, .int (x5 + (1 : Int32))]) (v := 1) d_X5_gainer_96 rfl ci_1 (Nat.le_of_ble_eq_true rfl) rfl ?_
        refine ob_goto (tgt := 33) d_X5_gainer_99 rfl ?_
        exact k
      · have k := k.2 cc
        refine ob_aload_n d_X5_gainer_60 rfl ?_
        refine ob_iload d_X5_gainer_61 rfl ?_
        refine ob_aload_n d_X5_gainer_63 rfl ?_
        refine ob_getR d_X5_gainer_64 fl_X5_15 sh_50 rfl rfl ?_
        refine ob_iload d_X5_gainer_67 rfl ?_
        obtain ⟨hin, k⟩ := k
        refine ob_iald d_X5_gainer_69 sh_52 hin ?_
        refine ob_callS [.ref 17, .int x5, .int (σ1.1 52 (x5).toNatClampNeg)] (z := oX5_worthOfNext) (st := []) d_X5_gainer_70 lk_X5_61 ms_X5_worthOfNext rfl (Nat.le_of_ble_eq_true rfl) rfl k (ob_kI fun v4 σ3 k => ?_)
        refine ob_iload d_X5_gainer_73 rfl ?_
        refine ob_icmp_le (tgt := 96) d_X5_gainer_75 rfl (fun cc => ?_) (fun cc => ?_)
        · have k := k.1 cc
          refine ob_iinc (ls' := [.ref 50, .ref 17, .int x2, .int x3, .int x4, .int (x5 + (1 : Int32))]) (v := 1) d_X5_gainer_96 rfl ci_1 (Nat.le_of_ble_eq_true rfl) rfl ?_
          refine ob_goto (tgt := 33) d_X5_gainer_99 rfl ?_
          exact k
        · have k := k.2 cc
          refine ob_aload_n d_X5_gainer_78 rfl ?_
          refine ob_iload d_X5_gainer_79 rfl ?_
          refine ob_aload_n d_X5_gainer_81 rfl ?_
          refine ob_getR d_X5_gainer_82 fl_X5_15 sh_50 rfl rfl ?_
          refine ob_iload d_X5_gainer_85 rfl ?_
          obtain ⟨hin, k⟩ := k
          refine ob_iald d_X5_gainer_87 sh_52 hin ?_
          refine ob_callS [.ref 17, .int x5, .int (σ3.1 52 (x5).toNatClampNeg)] (z := oX5_worthOfNext) (st := []) d_X5_gainer_88 lk_X5_61 ms_X5_worthOfNext rfl (Nat.le_of_ble_eq_true rfl) rfl k (ob_kI fun v6 σ5 k => ?_)
          refine ob_istore (ls' := [.ref 50, .ref 17, .int x2, .int x3, .int v6, .int x5]) d_X5_gainer_91 (Nat.le_of_ble_eq_true rfl) rfl ?_
          refine ob_iload d_X5_gainer_93 rfl ?_
          refine ob_istore_n (ls' := [.ref 50, .ref 17, .int x2, .int x5, .int v6, .int x5]) d_X5_gainer_95 (Nat.le_of_ble_eq_true rfl) rfl ?_
          refine ob_iinc (ls' := [.ref 50, .ref 17, .int x2, .int x5, .int v6, .int (x5 + (1 : Int32))]) (v := 1) d_X5_gainer_96 rfl ci_1 (Nat.le_of_ble_eq_true rfl) rfl ?_
          refine ob_goto (tgt := 33) d_X5_gainer_99 rfl ?_
          exact k
theorem d_X5_worthOfNext_0 : decode oX5_worthOfNext.2.1 0 = .ok (.aload_n 0, 1) := by decide +kernel
theorem d_X5_worthOfNext_1 : decode oX5_worthOfNext.2.1 1 = .ok (.getfield 71, 3) := by decide +kernel
theorem d_X5_worthOfNext_4 : decode oX5_worthOfNext.2.1 4 = .ok (.iload_n 1, 1) := by decide +kernel
theorem d_X5_worthOfNext_5 : decode oX5_worthOfNext.2.1 5 = .ok (.iaload, 1) := by decide +kernel
theorem d_X5_worthOfNext_6 : decode oX5_worthOfNext.2.1 6 = .ok (.iload_n 2, 1) := by decide +kernel
theorem d_X5_worthOfNext_7 : decode oX5_worthOfNext.2.1 7 = .ok (.iadd, 1) := by decide +kernel
theorem d_X5_worthOfNext_8 : decode oX5_worthOfNext.2.1 8 = .ok (.istore_n 3, 1) := by decide +kernel
theorem d_X5_worthOfNext_9 : decode oX5_worthOfNext.2.1 9 = .ok (.aload_n 0, 1) := by decide +kernel
theorem d_X5_worthOfNext_10 : decode oX5_worthOfNext.2.1 10 = .ok (.getfield 44, 3) := by decide +kernel
theorem d_X5_worthOfNext_13 : decode oX5_worthOfNext.2.1 13 = .ok (.iload_n 3, 1) := by decide +kernel
theorem d_X5_worthOfNext_14 : decode oX5_worthOfNext.2.1 14 = .ok (.iconst 1, 1) := by decide +kernel
theorem d_X5_worthOfNext_15 : decode oX5_worthOfNext.2.1 15 = .ok (.iadd, 1) := by decide +kernel
theorem d_X5_worthOfNext_16 : decode oX5_worthOfNext.2.1 16 = .ok (.invokevirtual 74, 3) := by decide +kernel
theorem d_X5_worthOfNext_19 : decode oX5_worthOfNext.2.1 19 = .ok (.aload_n 0, 1) := by decide +kernel
theorem d_X5_worthOfNext_20 : decode oX5_worthOfNext.2.1 20 = .ok (.getfield 44, 3) := by decide +kernel
theorem d_X5_worthOfNext_23 : decode oX5_worthOfNext.2.1 23 = .ok (.iload_n 3, 1) := by decide +kernel
theorem d_X5_worthOfNext_24 : decode oX5_worthOfNext.2.1 24 = .ok (.invokevirtual 74, 3) := by decide +kernel
theorem d_X5_worthOfNext_27 : decode oX5_worthOfNext.2.1 27 = .ok (.isub, 1) := by decide +kernel
theorem d_X5_worthOfNext_28 : decode oX5_worthOfNext.2.1 28 = .ok (.ireturn, 1) := by decide +kernel
theorem b_X5_worthOfNext_0 {E : ob_E} {σ : ob_Mem} {Q : Int32 → ob_Mem → Prop} {x1 x2 : Int32} (k : (vp_in x1 6 ∧ ob_RM shp E oX2_goodOf [.ref 10, .int (((σ.1 18 (x1).toNatClampNeg) + x2) + (1 : Int32))] σ (ob_qI fun v2 σ1 => ob_RM shp E oX2_goodOf [.ref 10, .int ((σ.1 18 (x1).toNatClampNeg) + x2)] σ1 (ob_qI fun v4 σ3 => Q (v2 - v4) σ3)))) : ob_RT shp E oX5_worthOfNext 0 [.ref 17, .int x1, .int x2, .null] [] σ (ob_qI Q) := by
  refine ob_aload_n d_X5_worthOfNext_0 rfl ?_
  refine ob_getR d_X5_worthOfNext_1 fl_X5_71 sh_17 rfl rfl ?_
  refine ob_iload_n d_X5_worthOfNext_4 rfl ?_
  obtain ⟨hin, k⟩ := k
  refine ob_iald d_X5_worthOfNext_5 sh_18 hin ?_
  refine ob_iload_n d_X5_worthOfNext_6 rfl ?_
  refine ob_iadd d_X5_worthOfNext_7 ?_
  refine ob_istore_n (ls' := [.ref 17, .int x1, .int x2, .int ((σ.1 18 (x1).toNatClampNeg) + x2)]) d_X5_worthOfNext_8 (Nat.le_of_ble_eq_true rfl) rfl ?_
  refine ob_aload_n d_X5_worthOfNext_9 rfl ?_
  refine ob_getR d_X5_worthOfNext_10 fl_X5_44 sh_17 rfl rfl ?_
  refine ob_iload_n d_X5_worthOfNext_13 rfl ?_
  refine ob_iconst (v := 1) d_X5_worthOfNext_14 ci_1 ?_
  refine ob_iadd d_X5_worthOfNext_15 ?_
  refine ob_callV [.int (((σ.1 18 (x1).toNatClampNeg) + x2) + (1 : Int32))] (z := oX2_goodOf) (st := []) d_X5_worthOfNext_16 lk_X5_74 mv_X2_goodOf rfl sh_10 cl_2 rfl (Nat.le_of_ble_eq_true rfl) rfl k (ob_kI fun v2 σ1 k => ?_)
  refine ob_aload_n d_X5_worthOfNext_19 rfl ?_
  refine ob_getR d_X5_worthOfNext_20 fl_X5_44 sh_17 rfl rfl ?_
  refine ob_iload_n d_X5_worthOfNext_23 rfl ?_
  refine ob_callV [.int ((σ.1 18 (x1).toNatClampNeg) + x2)] (z := oX2_goodOf) (st := [.int v2]) d_X5_worthOfNext_24 lk_X5_74 mv_X2_goodOf rfl sh_10 cl_2 rfl (Nat.le_of_ble_eq_true rfl) rfl k (ob_kI fun v4 σ3 k => ?_)
  refine ob_isub d_X5_worthOfNext_27 ?_
  exact ob_iret d_X5_worthOfNext_28 rfl ⟨_, rfl, k⟩
