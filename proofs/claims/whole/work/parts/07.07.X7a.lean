/-! code of X7: the decode rows and a row for each piece between cut points (printed by wip/whole/mk.py) -/
theorem d_X7_add_0 : decode oX7_add.2.1 0 = .ok (.aload_n 0, 1) := by decide +kernel
theorem d_X7_add_1 : decode oX7_add.2.1 1 = .ok (.getfield 21, 3) := by decide +kernel
theorem d_X7_add_4 : decode oX7_add.2.1 4 = .ok (.bipush 20, 2) := by decide +kernel
theorem d_X7_add_6 : decode oX7_add.2.1 6 = .ok (.if_icmp .ge 43, 3) := by decide +kernel
theorem d_X7_add_9 : decode oX7_add.2.1 9 = .ok (.aload_n 0, 1) := by decide +kernel
theorem d_X7_add_10 : decode oX7_add.2.1 10 = .ok (.getfield 9, 3) := by decide +kernel
theorem d_X7_add_13 : decode oX7_add.2.1 13 = .ok (.aload_n 0, 1) := by decide +kernel
theorem d_X7_add_14 : decode oX7_add.2.1 14 = .ok (.getfield 21, 3) := by decide +kernel
theorem d_X7_add_17 : decode oX7_add.2.1 17 = .ok (.iload_n 1, 1) := by decide +kernel
theorem d_X7_add_18 : decode oX7_add.2.1 18 = .ok (.iastore, 1) := by decide +kernel
theorem d_X7_add_19 : decode oX7_add.2.1 19 = .ok (.aload_n 0, 1) := by decide +kernel
theorem d_X7_add_20 : decode oX7_add.2.1 20 = .ok (.getfield 15, 3) := by decide +kernel
theorem d_X7_add_23 : decode oX7_add.2.1 23 = .ok (.aload_n 0, 1) := by decide +kernel
theorem d_X7_add_24 : decode oX7_add.2.1 24 = .ok (.getfield 21, 3) := by decide +kernel
theorem d_X7_add_27 : decode oX7_add.2.1 27 = .ok (.iload_n 2, 1) := by decide +kernel
theorem d_X7_add_28 : decode oX7_add.2.1 28 = .ok (.iastore, 1) := by decide +kernel
theorem d_X7_add_29 : decode oX7_add.2.1 29 = .ok (.aload_n 0, 1) := by decide +kernel
theorem d_X7_add_30 : decode oX7_add.2.1 30 = .ok (.getfield 18, 3) := by decide +kernel
theorem d_X7_add_33 : decode oX7_add.2.1 33 = .ok (.aload_n 0, 1) := by decide +kernel
theorem d_X7_add_34 : decode oX7_add.2.1 34 = .ok (.getfield 21, 3) := by decide +kernel
theorem d_X7_add_37 : decode oX7_add.2.1 37 = .ok (.iload_n 3, 1) := by decide +kernel
theorem d_X7_add_38 : decode oX7_add.2.1 38 = .ok (.iastore, 1) := by decide +kernel
theorem d_X7_add_39 : decode oX7_add.2.1 39 = .ok (.aload_n 0, 1) := by decide +kernel
theorem d_X7_add_40 : decode oX7_add.2.1 40 = .ok (.dup, 1) := by decide +kernel
theorem d_X7_add_41 : decode oX7_add.2.1 41 = .ok (.getfield 21, 3) := by decide +kernel
theorem d_X7_add_44 : decode oX7_add.2.1 44 = .ok (.iconst 1, 1) := by decide +kernel
theorem d_X7_add_45 : decode oX7_add.2.1 45 = .ok (.iadd, 1) := by decide +kernel
theorem d_X7_add_46 : decode oX7_add.2.1 46 = .ok (.putfield 21, 3) := by decide +kernel
theorem d_X7_add_49 : decode oX7_add.2.1 49 = .ok (.return_, 1) := by decide +kernel
theorem b_X7_add_0 {E : ob_E} {σ : ob_Mem} {Q : ob_Mem → Prop} {x1 x2 x3 : Int32} (k : (((20 : Int32) ≤ (σ.1 35 3) → Q σ) ∧ (¬ (20 : Int32) ≤ (σ.1 35 3) → (vp_in (σ.1 35 3) 20 ∧ (vp_in ((ob_wI σ 36 ((σ.1 35 3)).toNatClampNeg x1).1 35 3) 20 ∧ (∀ σ1, σ1 = (ob_wI (ob_wI σ 36 ((σ.1 35 3)).toNatClampNeg x1) 37 (((ob_wI σ 36 ((σ.1 35 3)).toNatClampNeg x1).1 35 3)).toNatClampNeg x2) → (vp_in (σ1.1 35 3) 20 ∧ Q (ob_wI (ob_wI σ1 38 ((σ1.1 35 3)).toNatClampNeg x3) 35 3 (((ob_wI σ1 38 ((σ1.1 35 3)).toNatClampNeg x3).1 35 3) + (1 : Int32)))))))))) : ob_RT shp E oX7_add 0 [.ref 35, .int x1, .int x2, .int x3] [] σ (ob_qV Q) := by
  refine ob_aload_n d_X7_add_0 rfl ?_
  refine ob_getI d_X7_add_1 fl_X7_21 sh_35 rfl (by decide) ?_
  refine ob_bipush (v := 20) d_X7_add_4 cb_20 ?_
  refine ob_icmp_ge (tgt := 49) d_X7_add_6 rfl (fun cc => ?_) (fun cc => ?_)
  · have k := k.1 cc
    exact ob_vret d_X7_add_49 rfl ⟨rfl, k⟩
  · have k := k.2 cc
    refine ob_aload_n d_X7_add_9 rfl ?_
    refine ob_getR d_X7_add_10 fl_X7_9 sh_35 rfl rfl ?_
    refine ob_aload_n d_X7_add_13 rfl ?_
    refine ob_getI d_X7_add_14 fl_X7_21 sh_35 rfl (by decide) ?_
    refine ob_iload_n d_X7_add_17 rfl ?_
    obtain ⟨hin, k⟩ := k
    refine ob_iast d_X7_add_18 sh_36 hin ?_
    refine ob_aload_n d_X7_add_19 rfl ?_
    refine ob_getR d_X7_add_20 fl_X7_15 sh_35 rfl rfl ?_
    refine ob_aload_n d_X7_add_23 rfl ?_
    refine ob_getI d_X7_add_24 fl_X7_21 sh_35 rfl (by decide) ?_
    refine ob_iload_n d_X7_add_27 rfl ?_
    obtain ⟨hin, k⟩ := k
    refine ob_iast d_X7_add_28 sh_37 hin ?_
    refine ob_nmM (fun σ1 hσ1 => ?_)
    have k := k σ1 hσ1
    refine ob_aload_n d_X7_add_29 rfl ?_
    refine ob_getR d_X7_add_30 fl_X7_18 sh_35 rfl rfl ?_
    refine ob_aload_n d_X7_add_33 rfl ?_
    refine ob_getI d_X7_add_34 fl_X7_21 sh_35 rfl (by decide) ?_
    refine ob_iload_n d_X7_add_37 rfl ?_
    obtain ⟨hin, k⟩ := k
    refine ob_iast d_X7_add_38 sh_38 hin ?_
    refine ob_aload_n d_X7_add_39 rfl ?_
    refine ob_dup d_X7_add_40 rfl ?_
    refine ob_getI d_X7_add_41 fl_X7_21 sh_35 rfl (by decide) ?_
    refine ob_iconst (v := 1) d_X7_add_44 ci_1 ?_
    refine ob_iadd d_X7_add_45 ?_
    refine ob_putI d_X7_add_46 fp_X7_21 sh_35 rfl rfl ?_
    exact ob_vret d_X7_add_49 rfl ⟨rfl, k⟩
theorem d_X7_firstWrong_0 : decode oX7_firstWrong.2.1 0 = .ok (.iconst 0, 1) := by decide +kernel
theorem d_X7_firstWrong_1 : decode oX7_firstWrong.2.1 1 = .ok (.istore_n 3, 1) := by decide +kernel
theorem d_X7_firstWrong_2 : decode oX7_firstWrong.2.1 2 = .ok (.iload_n 3, 1) := by decide +kernel
theorem d_X7_firstWrong_3 : decode oX7_firstWrong.2.1 3 = .ok (.aload_n 0, 1) := by decide +kernel
theorem d_X7_firstWrong_4 : decode oX7_firstWrong.2.1 4 = .ok (.getfield 21, 3) := by decide +kernel
theorem d_X7_firstWrong_7 : decode oX7_firstWrong.2.1 7 = .ok (.if_icmp .ge 37, 3) := by decide +kernel
theorem d_X7_firstWrong_10 : decode oX7_firstWrong.2.1 10 = .ok (.aload_n 1, 1) := by decide +kernel
theorem d_X7_firstWrong_11 : decode oX7_firstWrong.2.1 11 = .ok (.aload_n 0, 1) := by decide +kernel
theorem d_X7_firstWrong_12 : decode oX7_firstWrong.2.1 12 = .ok (.getfield 9, 3) := by decide +kernel
theorem d_X7_firstWrong_15 : decode oX7_firstWrong.2.1 15 = .ok (.iload_n 3, 1) := by decide +kernel
theorem d_X7_firstWrong_16 : decode oX7_firstWrong.2.1 16 = .ok (.iaload, 1) := by decide +kernel
theorem d_X7_firstWrong_17 : decode oX7_firstWrong.2.1 17 = .ok (.aload_n 0, 1) := by decide +kernel
theorem d_X7_firstWrong_18 : decode oX7_firstWrong.2.1 18 = .ok (.getfield 15, 3) := by decide +kernel
theorem d_X7_firstWrong_21 : decode oX7_firstWrong.2.1 21 = .ok (.iload_n 3, 1) := by decide +kernel
theorem d_X7_firstWrong_22 : decode oX7_firstWrong.2.1 22 = .ok (.iaload, 1) := by decide +kernel
theorem d_X7_firstWrong_23 : decode oX7_firstWrong.2.1 23 = .ok (.iload_n 2, 1) := by decide +kernel
theorem d_X7_firstWrong_24 : decode oX7_firstWrong.2.1 24 = .ok (.invokevirtual 25, 3) := by decide +kernel
theorem d_X7_firstWrong_27 : decode oX7_firstWrong.2.1 27 = .ok (.aload_n 0, 1) := by decide +kernel
theorem d_X7_firstWrong_28 : decode oX7_firstWrong.2.1 28 = .ok (.getfield 18, 3) := by decide +kernel
theorem d_X7_firstWrong_31 : decode oX7_firstWrong.2.1 31 = .ok (.iload_n 3, 1) := by decide +kernel
theorem d_X7_firstWrong_32 : decode oX7_firstWrong.2.1 32 = .ok (.iaload, 1) := by decide +kernel
theorem d_X7_firstWrong_33 : decode oX7_firstWrong.2.1 33 = .ok (.if_icmp .eq 5, 3) := by decide +kernel
theorem d_X7_firstWrong_36 : decode oX7_firstWrong.2.1 36 = .ok (.iload_n 3, 1) := by decide +kernel
theorem d_X7_firstWrong_37 : decode oX7_firstWrong.2.1 37 = .ok (.ireturn, 1) := by decide +kernel
theorem d_X7_firstWrong_38 : decode oX7_firstWrong.2.1 38 = .ok (.iinc 3 1, 3) := by decide +kernel
theorem d_X7_firstWrong_41 : decode oX7_firstWrong.2.1 41 = .ok (.goto (-39), 3) := by decide +kernel
theorem d_X7_firstWrong_44 : decode oX7_firstWrong.2.1 44 = .ok (.iconst (-1), 1) := by decide +kernel
theorem d_X7_firstWrong_45 : decode oX7_firstWrong.2.1 45 = .ok (.ireturn, 1) := by decide +kernel
theorem b_X7_firstWrong_0 {E : ob_E} {σ : ob_Mem} {Q : Int32 → ob_Mem → Prop} {x2 : Int32} (k : ob_RT shp E oX7_firstWrong 2 [.ref 35, .ref 17, .int x2, .int (0 : Int32)] [] σ (ob_qI Q)) : ob_RT shp E oX7_firstWrong 0 [.ref 35, .ref 17, .int x2, .null] [] σ (ob_qI Q) := by
  refine ob_iconst (v := 0) d_X7_firstWrong_0 ci_0 ?_
  refine ob_istore_n (ls' := [.ref 35, .ref 17, .int x2, .int (0 : Int32)]) d_X7_firstWrong_1 (Nat.le_of_ble_eq_true rfl) rfl ?_
  exact k
theorem b_X7_firstWrong_2 {E : ob_E} {σ : ob_Mem} {Q : Int32 → ob_Mem → Prop} {x2 x3 : Int32} (k : (((σ.1 35 3) ≤ x3 → Q (-1 : Int32) σ) ∧ (¬ (σ.1 35 3) ≤ x3 → (vp_in x3 20 ∧ (vp_in x3 20 ∧ ob_RM shp E oX6_ageBehind [.ref 17, .int (σ.1 36 (x3).toNatClampNeg), .int (σ.1 37 (x3).toNatClampNeg), .int x2] σ (ob_qI fun v2 σ1 => (vp_in x3 20 ∧ ((v2 = (σ1.1 38 (x3).toNatClampNeg) → ob_RT shp E oX7_firstWrong 2 [.ref 35, .ref 17, .int x2, .int (x3 + (1 : Int32))] [] σ1 (ob_qI Q)) ∧ (¬ v2 = (σ1.1 38 (x3).toNatClampNeg) → Q x3 σ1))))))))) : ob_RT shp E oX7_firstWrong 2 [.ref 35, .ref 17, .int x2, .int x3] [] σ (ob_qI Q) := by
  refine ob_iload_n d_X7_firstWrong_2 rfl ?_
  refine ob_aload_n d_X7_firstWrong_3 rfl ?_
  refine ob_getI d_X7_firstWrong_4 fl_X7_21 sh_35 rfl (by decide) ?_
  refine ob_icmp_ge (tgt := 44) d_X7_firstWrong_7 rfl (fun cc => ?_) (fun cc => ?_)
  · have k := k.1 cc
    refine ob_iconst (v := -1) d_X7_firstWrong_44 ci_m1 ?_
    exact ob_iret d_X7_firstWrong_45 rfl ⟨_, rfl, k⟩
  · have k := k.2 cc
    refine ob_aload_n d_X7_firstWrong_10 rfl ?_
    refine ob_aload_n d_X7_firstWrong_11 rfl ?_
    refine ob_getR d_X7_firstWrong_12 fl_X7_9 sh_35 rfl rfl ?_
    refine ob_iload_n d_X7_firstWrong_15 rfl ?_
    obtain ⟨hin, k⟩ := k
    refine ob_iald d_X7_firstWrong_16 sh_36 hin ?_
    refine ob_aload_n d_X7_firstWrong_17 rfl ?_
    refine ob_getR d_X7_firstWrong_18 fl_X7_15 sh_35 rfl rfl ?_
    refine ob_iload_n d_X7_firstWrong_21 rfl ?_
    obtain ⟨hin, k⟩ := k
    refine ob_iald d_X7_firstWrong_22 sh_37 hin ?_
    refine ob_iload_n d_X7_firstWrong_23 rfl ?_
    refine ob_callV [.int (σ.1 36 (x3).toNatClampNeg), .int (σ.1 37 (x3).toNatClampNeg), .int x2] (z := oX6_ageBehind) (st := []) d_X7_firstWrong_24 lk_X7_25 mv_X6_ageBehind rfl sh_17 cl_6 rfl (Nat.le_of_ble_eq_true rfl) rfl k (ob_kI fun v2 σ1 k => ?_)
    refine ob_aload_n d_X7_firstWrong_27 rfl ?_
    refine ob_getR d_X7_firstWrong_28 fl_X7_18 sh_35 rfl rfl ?_
    refine ob_iload_n d_X7_firstWrong_31 rfl ?_
    obtain ⟨hin, k⟩ := k
    refine ob_iald d_X7_firstWrong_32 sh_38 hin ?_
    refine ob_icmp_eq (tgt := 38) d_X7_firstWrong_33 rfl (fun cc => ?_) (fun cc => ?_)
    · have k := k.1 cc
      refine ob_iinc (ls' := [.ref 35, .ref 17, .int x2, .int (x3 + (1 : Int32))]) (v := 1) d_X7_firstWrong_38 rfl ci_1 (Nat.le_of_ble_eq_true rfl) rfl ?_
      refine ob_goto (tgt := 2) d_X7_firstWrong_41 rfl ?_
      exact k
    · have k := k.2 cc
      refine ob_iload_n d_X7_firstWrong_36 rfl ?_
      exact ob_iret d_X7_firstWrong_37 rfl ⟨_, rfl, k⟩
