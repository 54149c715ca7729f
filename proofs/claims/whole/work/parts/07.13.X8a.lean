/-! code of X8: the decode rows and a row for each piece between cut points (printed by wip/whole/mk.py) -/
theorem d_X8_feed_0 : decode oX8_feed.2.1 0 = .ok (.iload_n 1, 1) := by decide +kernel
theorem d_X8_feed_1 : decode oX8_feed.2.1 1 = .ok (.iconst 1, 1) := by decide +kernel
theorem d_X8_feed_2 : decode oX8_feed.2.1 2 = .ok (.bipush 8, 2) := by decide +kernel
theorem d_X8_feed_4 : decode oX8_feed.2.1 4 = .ok (.invokestatic 80, 3) := by decide +kernel
theorem d_X8_feed_7 : decode oX8_feed.2.1 7 = .ok (.ifCond .eq 6, 3) := by decide +kernel
theorem d_X8_feed_10 : decode oX8_feed.2.1 10 = .ok (.ldc 84, 2) := by decide +kernel
theorem d_X8_feed_12 : decode oX8_feed.2.1 12 = .ok (.ireturn, 1) := by decide +kernel
theorem d_X8_feed_13 : decode oX8_feed.2.1 13 = .ok (.aload_n 0, 1) := by decide +kernel
theorem d_X8_feed_14 : decode oX8_feed.2.1 14 = .ok (.getfield 12, 3) := by decide +kernel
theorem d_X8_feed_17 : decode oX8_feed.2.1 17 = .ok (.iload_n 1, 1) := by decide +kernel
theorem d_X8_feed_18 : decode oX8_feed.2.1 18 = .ok (.invokevirtual 85, 3) := by decide +kernel
theorem d_X8_feed_21 : decode oX8_feed.2.1 21 = .ok (.ifCond .ne 6, 3) := by decide +kernel
theorem d_X8_feed_24 : decode oX8_feed.2.1 24 = .ok (.ldc 89, 2) := by decide +kernel
theorem d_X8_feed_26 : decode oX8_feed.2.1 26 = .ok (.ireturn, 1) := by decide +kernel
theorem d_X8_feed_27 : decode oX8_feed.2.1 27 = .ok (.aload_n 0, 1) := by decide +kernel
theorem d_X8_feed_28 : decode oX8_feed.2.1 28 = .ok (.getfield 12, 3) := by decide +kernel
theorem d_X8_feed_31 : decode oX8_feed.2.1 31 = .ok (.iload_n 1, 1) := by decide +kernel
theorem d_X8_feed_32 : decode oX8_feed.2.1 32 = .ok (.lload_n 2, 1) := by decide +kernel
theorem d_X8_feed_33 : decode oX8_feed.2.1 33 = .ok (.invokevirtual 90, 3) := by decide +kernel
theorem d_X8_feed_36 : decode oX8_feed.2.1 36 = .ok (.aload_n 0, 1) := by decide +kernel
theorem d_X8_feed_37 : decode oX8_feed.2.1 37 = .ok (.getfield 12, 3) := by decide +kernel
theorem d_X8_feed_40 : decode oX8_feed.2.1 40 = .ok (.getfield 94, 3) := by decide +kernel
theorem d_X8_feed_43 : decode oX8_feed.2.1 43 = .ok (.ireturn, 1) := by decide +kernel
theorem b_X8_feed_0 {E : ob_E} {σ : ob_Mem} {Q : Int32 → ob_Mem → Prop} {x1 : Int32} {x2 : Int64} (k : ob_RM shp E oX8_isOutside [.int x1, .int (1 : Int32), .int (8 : Int32)] σ (ob_qI fun v2 σ1 => ((v2 = 0 → ob_RM shp E oX3_hasRoom [.ref 1, .int x1] σ1 (ob_qI fun v4 σ3 => ((¬ v4 = 0 → ob_RM shp E oX3_append [.ref 1, .int x1, .long x2] σ3 (ob_qV fun σ5 => Q (σ5.1 1 2) σ5)) ∧ (v4 = 0 → Q (-1000000004 : Int32) σ3)))) ∧ (¬ v2 = 0 → Q (-1000000002 : Int32) σ1)))) : ob_RT shp E oX8_feed 0 [.ref 0, .int x1, .long x2, .null] [] σ (ob_qI Q) := by
  refine ob_iload_n d_X8_feed_0 rfl ?_
  refine ob_iconst (v := 1) d_X8_feed_1 ci_1 ?_
  refine ob_bipush (v := 8) d_X8_feed_2 cb_8 ?_
  refine ob_callS [.int x1, .int (1 : Int32), .int (8 : Int32)] (z := oX8_isOutside) (st := []) d_X8_feed_4 lk_X8_80 ms_X8_isOutside rfl (Nat.le_of_ble_eq_true rfl) rfl k (ob_kI fun v2 σ1 k => ?_)
  refine ob_if_eq (tgt := 13) d_X8_feed_7 rfl (fun cc => ?_) (fun cc => ?_)
  · have k := k.1 cc
    refine ob_aload_n d_X8_feed_13 rfl ?_
    refine ob_getR d_X8_feed_14 fl_X8_12 sh_0 rfl rfl ?_
    refine ob_iload_n d_X8_feed_17 rfl ?_
    refine ob_callV [.int x1] (z := oX3_hasRoom) (st := []) d_X8_feed_18 lk_X8_85 mv_X3_hasRoom rfl sh_1 cl_3 rfl (Nat.le_of_ble_eq_true rfl) rfl k (ob_kI fun v4 σ3 k => ?_)
    refine ob_if_ne (tgt := 27) d_X8_feed_21 rfl (fun cc => ?_) (fun cc => ?_)
    · have k := k.1 cc
      refine ob_aload_n d_X8_feed_27 rfl ?_
      refine ob_getR d_X8_feed_28 fl_X8_12 sh_0 rfl rfl ?_
      refine ob_iload_n d_X8_feed_31 rfl ?_
      refine ob_lload_n d_X8_feed_32 rfl ?_
      refine ob_callV [.int x1, .long x2] (z := oX3_append) (st := []) d_X8_feed_33 lk_X8_90 mv_X3_append rfl sh_1 cl_3 rfl (Nat.le_of_ble_eq_true rfl) rfl k (ob_kV fun σ5 k => ?_)
      refine ob_aload_n d_X8_feed_36 rfl ?_
      refine ob_getR d_X8_feed_37 fl_X8_12 sh_0 rfl rfl ?_
      refine ob_getI d_X8_feed_40 fl_X8_94 sh_1 rfl (by decide) ?_
      exact ob_iret d_X8_feed_43 rfl ⟨_, rfl, k⟩
    · have k := k.2 cc
      refine ob_ldc (v := -1000000004) d_X8_feed_24 k_X8_89 ?_
      exact ob_iret d_X8_feed_26 rfl ⟨_, rfl, k⟩
  · have k := k.2 cc
    refine ob_ldc (v := -1000000002) d_X8_feed_10 k_X8_84 ?_
    exact ob_iret d_X8_feed_12 rfl ⟨_, rfl, k⟩
theorem d_X8_land_0 : decode oX8_land.2.1 0 = .ok (.aload_n 0, 1) := by decide +kernel
theorem d_X8_land_1 : decode oX8_land.2.1 1 = .ok (.getfield 12, 3) := by decide +kernel
theorem d_X8_land_4 : decode oX8_land.2.1 4 = .ok (.invokevirtual 97, 3) := by decide +kernel
theorem d_X8_land_7 : decode oX8_land.2.1 7 = .ok (.istore_n 1, 1) := by decide +kernel
theorem d_X8_land_8 : decode oX8_land.2.1 8 = .ok (.aload_n 0, 1) := by decide +kernel
theorem d_X8_land_9 : decode oX8_land.2.1 9 = .ok (.aload_n 0, 1) := by decide +kernel
theorem d_X8_land_10 : decode oX8_land.2.1 10 = .ok (.getfield 12, 3) := by decide +kernel
theorem d_X8_land_13 : decode oX8_land.2.1 13 = .ok (.getfield 101, 3) := by decide +kernel
theorem d_X8_land_16 : decode oX8_land.2.1 16 = .ok (.putfield 77, 3) := by decide +kernel
theorem d_X8_land_19 : decode oX8_land.2.1 19 = .ok (.iload_n 1, 1) := by decide +kernel
theorem d_X8_land_20 : decode oX8_land.2.1 20 = .ok (.ifCond .eq 8, 3) := by decide +kernel
theorem d_X8_land_23 : decode oX8_land.2.1 23 = .ok (.bipush (-10), 2) := by decide +kernel
theorem d_X8_land_25 : decode oX8_land.2.1 25 = .ok (.iload_n 1, 1) := by decide +kernel
theorem d_X8_land_26 : decode oX8_land.2.1 26 = .ok (.isub, 1) := by decide +kernel
theorem d_X8_land_27 : decode oX8_land.2.1 27 = .ok (.ireturn, 1) := by decide +kernel
theorem d_X8_land_28 : decode oX8_land.2.1 28 = .ok (.aload_n 0, 1) := by decide +kernel
theorem d_X8_land_29 : decode oX8_land.2.1 29 = .ok (.getfield 19, 3) := by decide +kernel
theorem d_X8_land_32 : decode oX8_land.2.1 32 = .ok (.aload_n 0, 1) := by decide +kernel
theorem d_X8_land_33 : decode oX8_land.2.1 33 = .ok (.getfield 12, 3) := by decide +kernel
theorem d_X8_land_36 : decode oX8_land.2.1 36 = .ok (.getfield 102, 3) := by decide +kernel
theorem d_X8_land_39 : decode oX8_land.2.1 39 = .ok (.invokevirtual 105, 3) := by decide +kernel
theorem d_X8_land_42 : decode oX8_land.2.1 42 = .ok (.aload_n 0, 1) := by decide +kernel
theorem d_X8_land_43 : decode oX8_land.2.1 43 = .ok (.getfield 28, 3) := by decide +kernel
theorem d_X8_land_46 : decode oX8_land.2.1 46 = .ok (.invokevirtual 108, 3) := by decide +kernel
theorem d_X8_land_49 : decode oX8_land.2.1 49 = .ok (.aload_n 0, 1) := by decide +kernel
theorem d_X8_land_50 : decode oX8_land.2.1 50 = .ok (.getfield 41, 3) := by decide +kernel
theorem d_X8_land_53 : decode oX8_land.2.1 53 = .ok (.iconst 0, 1) := by decide +kernel
theorem d_X8_land_54 : decode oX8_land.2.1 54 = .ok (.putfield 111, 3) := by decide +kernel
theorem d_X8_land_57 : decode oX8_land.2.1 57 = .ok (.aload_n 0, 1) := by decide +kernel
theorem d_X8_land_58 : decode oX8_land.2.1 58 = .ok (.iconst 0, 1) := by decide +kernel
theorem d_X8_land_59 : decode oX8_land.2.1 59 = .ok (.putfield 73, 3) := by decide +kernel
theorem d_X8_land_62 : decode oX8_land.2.1 62 = .ok (.aload_n 0, 1) := by decide +kernel
theorem d_X8_land_63 : decode oX8_land.2.1 63 = .ok (.getfield 19, 3) := by decide +kernel
theorem d_X8_land_66 : decode oX8_land.2.1 66 = .ok (.getfield 114, 3) := by decide +kernel
theorem d_X8_land_69 : decode oX8_land.2.1 69 = .ok (.ireturn, 1) := by decide +kernel
theorem b_X8_land_0 {E : ob_E} {σ : ob_Mem} {Q : Int32 → ob_Mem → Prop} (k : ob_RM shp E oX3_readAll [.ref 1] σ (ob_qI fun v2 σ1 => ((v2 = 0 → ob_RM shp E oX2_becomeLike [.ref 10, .ref 3] (ob_wI σ1 0 11 (σ1.1 1 5)) (ob_qV fun σ3 => ob_RM shp E oX6_startAnew [.ref 17] σ3 (ob_qV fun σ4 => Q ((ob_wI (ob_wI σ4 35 3 (0 : Int32)) 0 10 (0 : Int32)).1 10 7) (ob_wI (ob_wI σ4 35 3 (0 : Int32)) 0 10 (0 : Int32))))) ∧ (¬ v2 = 0 → Q ((-10 : Int32) - v2) (ob_wI σ1 0 11 (σ1.1 1 5)))))) : ob_RT shp E oX8_land 0 [.ref 0, .null] [] σ (ob_qI Q) := by
  refine ob_aload_n d_X8_land_0 rfl ?_
  refine ob_getR d_X8_land_1 fl_X8_12 sh_0 rfl rfl ?_
  refine ob_callV [] (z := oX3_readAll) (st := []) d_X8_land_4 lk_X8_97 mv_X3_readAll rfl sh_1 cl_3 rfl (Nat.le_of_ble_eq_true rfl) rfl k (ob_kI fun v2 σ1 k => ?_)
  refine ob_istore_n (ls' := [.ref 0, .int v2]) d_X8_land_7 (Nat.le_of_ble_eq_true rfl) rfl ?_
  refine ob_aload_n d_X8_land_8 rfl ?_
  refine ob_aload_n d_X8_land_9 rfl ?_
  refine ob_getR d_X8_land_10 fl_X8_12 sh_0 rfl rfl ?_
  refine ob_getI d_X8_land_13 fl_X8_101 sh_1 rfl (by decide) ?_
  refine ob_putI d_X8_land_16 fp_X8_77 sh_0 rfl rfl ?_
  refine ob_iload_n d_X8_land_19 rfl ?_
  refine ob_if_eq (tgt := 28) d_X8_land_20 rfl (fun cc => ?_) (fun cc => ?_)
  · have k := k.1 cc
    refine ob_aload_n d_X8_land_28 rfl ?_
    refine ob_getR d_X8_land_29 fl_X8_19 sh_0 rfl rfl ?_
    refine ob_aload_n d_X8_land_32 rfl ?_
    refine ob_getR d_X8_land_33 fl_X8_12 sh_0 rfl rfl ?_
    refine ob_getR d_X8_land_36 fl_X8_102 sh_1 rfl rfl ?_
    refine ob_callV [.ref 3] (z := oX2_becomeLike) (st := []) d_X8_land_39 lk_X8_105 mv_X2_becomeLike rfl sh_10 cl_2 rfl (Nat.le_of_ble_eq_true rfl) rfl k (ob_kV fun σ3 k => ?_)
    refine ob_aload_n d_X8_land_42 rfl ?_
    refine ob_getR d_X8_land_43 fl_X8_28 sh_0 rfl rfl ?_
    refine ob_callV [] (z := oX6_startAnew) (st := []) d_X8_land_46 lk_X8_108 mv_X6_startAnew rfl sh_17 cl_6 rfl (Nat.le_of_ble_eq_true rfl) rfl k (ob_kV fun σ4 k => ?_)
    refine ob_aload_n d_X8_land_49 rfl ?_
    refine ob_getR d_X8_land_50 fl_X8_41 sh_0 rfl rfl ?_
    refine ob_iconst (v := 0) d_X8_land_53 ci_0 ?_
    refine ob_putI d_X8_land_54 fp_X8_111 sh_35 rfl rfl ?_
    refine ob_aload_n d_X8_land_57 rfl ?_
    refine ob_iconst (v := 0) d_X8_land_58 ci_0 ?_
    refine ob_putI d_X8_land_59 fp_X8_73 sh_0 rfl rfl ?_
    refine ob_aload_n d_X8_land_62 rfl ?_
    refine ob_getR d_X8_land_63 fl_X8_19 sh_0 rfl rfl ?_
    refine ob_getI d_X8_land_66 fl_X8_114 sh_10 rfl (by decide) ?_
    exact ob_iret d_X8_land_69 rfl ⟨_, rfl, k⟩
  · have k := k.2 cc
    refine ob_bipush (v := -10) d_X8_land_23 cb_m10 ?_
    refine ob_iload_n d_X8_land_25 rfl ?_
    refine ob_isub d_X8_land_26 ?_
    exact ob_iret d_X8_land_27 rfl ⟨_, rfl, k⟩
theorem d_X8_fault_0 : decode oX8_fault.2.1 0 = .ok (.aload_n 0, 1) := by decide +kernel
theorem d_X8_fault_1 : decode oX8_fault.2.1 1 = .ok (.getfield 77, 3) := by decide +kernel
theorem d_X8_fault_4 : decode oX8_fault.2.1 4 = .ok (.ireturn, 1) := by decide +kernel
theorem b_X8_fault_0 {E : ob_E} {σ : ob_Mem} {Q : Int32 → ob_Mem → Prop} (k : Q (σ.1 0 11) σ) : ob_RT shp E oX8_fault 0 [.ref 0] [] σ (ob_qI Q) := by
  refine ob_aload_n d_X8_fault_0 rfl ?_
  refine ob_getI d_X8_fault_1 fl_X8_77 sh_0 rfl (by decide) ?_
  exact ob_iret d_X8_fault_4 rfl ⟨_, rfl, k⟩
theorem d_X8_told_0 : decode oX8_told.2.1 0 = .ok (.iload_n 1, 1) := by decide +kernel
theorem d_X8_told_1 : decode oX8_told.2.1 1 = .ok (.tableswitch 111 0 7 #[47, 55, 63, 71, 79, 87, 95, 103], 47) := by decide +kernel
theorem d_X8_told_48 : decode oX8_told.2.1 48 = .ok (.aload_n 0, 1) := by decide +kernel
theorem d_X8_told_49 : decode oX8_told.2.1 49 = .ok (.getfield 19, 3) := by decide +kernel
theorem d_X8_told_52 : decode oX8_told.2.1 52 = .ok (.getfield 117, 3) := by decide +kernel
theorem d_X8_told_55 : decode oX8_told.2.1 55 = .ok (.ireturn, 1) := by decide +kernel
theorem d_X8_told_56 : decode oX8_told.2.1 56 = .ok (.aload_n 0, 1) := by decide +kernel
theorem d_X8_told_57 : decode oX8_told.2.1 57 = .ok (.getfield 19, 3) := by decide +kernel
theorem d_X8_told_60 : decode oX8_told.2.1 60 = .ok (.getfield 114, 3) := by decide +kernel
theorem d_X8_told_63 : decode oX8_told.2.1 63 = .ok (.ireturn, 1) := by decide +kernel
theorem d_X8_told_64 : decode oX8_told.2.1 64 = .ok (.aload_n 0, 1) := by decide +kernel
theorem d_X8_told_65 : decode oX8_told.2.1 65 = .ok (.getfield 19, 3) := by decide +kernel
theorem d_X8_told_68 : decode oX8_told.2.1 68 = .ok (.getfield 120, 3) := by decide +kernel
theorem d_X8_told_71 : decode oX8_told.2.1 71 = .ok (.ireturn, 1) := by decide +kernel
theorem d_X8_told_72 : decode oX8_told.2.1 72 = .ok (.aload_n 0, 1) := by decide +kernel
theorem d_X8_told_73 : decode oX8_told.2.1 73 = .ok (.getfield 12, 3) := by decide +kernel
theorem d_X8_told_76 : decode oX8_told.2.1 76 = .ok (.getfield 94, 3) := by decide +kernel
theorem d_X8_told_79 : decode oX8_told.2.1 79 = .ok (.ireturn, 1) := by decide +kernel
theorem d_X8_told_80 : decode oX8_told.2.1 80 = .ok (.aload_n 0, 1) := by decide +kernel
theorem d_X8_told_81 : decode oX8_told.2.1 81 = .ok (.getfield 28, 3) := by decide +kernel
theorem d_X8_told_84 : decode oX8_told.2.1 84 = .ok (.getfield 123, 3) := by decide +kernel
theorem d_X8_told_87 : decode oX8_told.2.1 87 = .ok (.ireturn, 1) := by decide +kernel
theorem d_X8_told_88 : decode oX8_told.2.1 88 = .ok (.aload_n 0, 1) := by decide +kernel
theorem d_X8_told_89 : decode oX8_told.2.1 89 = .ok (.getfield 28, 3) := by decide +kernel
theorem d_X8_told_92 : decode oX8_told.2.1 92 = .ok (.getfield 126, 3) := by decide +kernel
theorem d_X8_told_95 : decode oX8_told.2.1 95 = .ok (.ireturn, 1) := by decide +kernel
theorem d_X8_told_96 : decode oX8_told.2.1 96 = .ok (.aload_n 0, 1) := by decide +kernel
theorem d_X8_told_97 : decode oX8_told.2.1 97 = .ok (.getfield 28, 3) := by decide +kernel
theorem d_X8_told_100 : decode oX8_told.2.1 100 = .ok (.invokevirtual 129, 3) := by decide +kernel
theorem d_X8_told_103 : decode oX8_told.2.1 103 = .ok (.ireturn, 1) := by decide +kernel
theorem d_X8_told_104 : decode oX8_told.2.1 104 = .ok (.aload_n 0, 1) := by decide +kernel
theorem d_X8_told_105 : decode oX8_told.2.1 105 = .ok (.getfield 41, 3) := by decide +kernel
theorem d_X8_told_108 : decode oX8_told.2.1 108 = .ok (.getfield 111, 3) := by decide +kernel
theorem d_X8_told_111 : decode oX8_told.2.1 111 = .ok (.ireturn, 1) := by decide +kernel
theorem d_X8_told_112 : decode oX8_told.2.1 112 = .ok (.ldc 84, 2) := by decide +kernel
theorem d_X8_told_114 : decode oX8_told.2.1 114 = .ok (.ireturn, 1) := by decide +kernel
theorem b_X8_told_0 {E : ob_E} {σ : ob_Mem} {Q : Int32 → ob_Mem → Prop} {x1 : Int32} (k : (((x1).toInt < 0 ∨ 7 < (x1).toInt → Q (-1000000002 : Int32) σ) ∧ (x1 = (0 : Int32) → Q (σ.1 10 6) σ) ∧ (x1 = (1 : Int32) → Q (σ.1 10 7) σ) ∧ (x1 = (2 : Int32) → Q (σ.1 10 8) σ) ∧ (x1 = (3 : Int32) → Q (σ.1 1 2) σ) ∧ (x1 = (4 : Int32) → Q (σ.1 17 7) σ) ∧ (x1 = (5 : Int32) → Q (σ.1 17 6) σ) ∧ (x1 = (6 : Int32) → ob_RM shp E oX6_lentSet [.ref 17] σ (ob_qI fun v2 σ1 => Q v2 σ1)) ∧ (x1 = (7 : Int32) → Q (σ.1 35 3) σ))) : ob_RT shp E oX8_told 0 [.ref 0, .int x1] [] σ (ob_qI Q) := by
  refine ob_iload_n d_X8_told_0 rfl ?_
  by_cases hx : (x1).toInt < 0 ∨ 7 < (x1).toInt
  · have k := k.1 hx
    refine ob_tabO (tgt := 112) d_X8_told_1 hx rfl ?_
    refine ob_ldc (v := -1000000002) d_X8_told_112 k_X8_84 ?_
    exact ob_iret d_X8_told_114 rfl ⟨_, rfl, k⟩
  · have k := k.2
    have hx1 : ¬ (x1).toInt < 0 := fun q => hx (Or.inl q)
    have hx2 : ¬ 7 < (x1).toInt := fun q => hx (Or.inr q)
    by_cases hc0 : x1 = (0 : Int32)
    · have k := k.1 hc0
      refine ob_tabI (off := 47) (tgt := 48) d_X8_told_1 hx1 hx2 (by rw [hc0]; rfl) rfl ?_
      refine ob_aload_n d_X8_told_48 rfl ?_
      refine ob_getR d_X8_told_49 fl_X8_19 sh_0 rfl rfl ?_
      refine ob_getI d_X8_told_52 fl_X8_117 sh_10 rfl (by decide) ?_
      exact ob_iret d_X8_told_55 rfl ⟨_, rfl, k⟩
    by_cases hc1 : x1 = (1 : Int32)
    · have k := k.2.1 hc1
      refine ob_tabI (off := 55) (tgt := 56) d_X8_told_1 hx1 hx2 (by rw [hc1]; rfl) rfl ?_
      refine ob_aload_n d_X8_told_56 rfl ?_
      refine ob_getR d_X8_told_57 fl_X8_19 sh_0 rfl rfl ?_
      refine ob_getI d_X8_told_60 fl_X8_114 sh_10 rfl (by decide) ?_
      exact ob_iret d_X8_told_63 rfl ⟨_, rfl, k⟩
    by_cases hc2 : x1 = (2 : Int32)
    · have k := k.2.2.1 hc2
      refine ob_tabI (off := 63) (tgt := 64) d_X8_told_1 hx1 hx2 (by rw [hc2]; rfl) rfl ?_
      refine ob_aload_n d_X8_told_64 rfl ?_
      refine ob_getR d_X8_told_65 fl_X8_19 sh_0 rfl rfl ?_
      refine ob_getI d_X8_told_68 fl_X8_120 sh_10 rfl (by decide) ?_
      exact ob_iret d_X8_told_71 rfl ⟨_, rfl, k⟩
    by_cases hc3 : x1 = (3 : Int32)
    · have k := k.2.2.2.1 hc3
      refine ob_tabI (off := 71) (tgt := 72) d_X8_told_1 hx1 hx2 (by rw [hc3]; rfl) rfl ?_
      refine ob_aload_n d_X8_told_72 rfl ?_
      refine ob_getR d_X8_told_73 fl_X8_12 sh_0 rfl rfl ?_
      refine ob_getI d_X8_told_76 fl_X8_94 sh_1 rfl (by decide) ?_
      exact ob_iret d_X8_told_79 rfl ⟨_, rfl, k⟩
    by_cases hc4 : x1 = (4 : Int32)
    · have k := k.2.2.2.2.1 hc4
      refine ob_tabI (off := 79) (tgt := 80) d_X8_told_1 hx1 hx2 (by rw [hc4]; rfl) rfl ?_
      refine ob_aload_n d_X8_told_80 rfl ?_
      refine ob_getR d_X8_told_81 fl_X8_28 sh_0 rfl rfl ?_
      refine ob_getI d_X8_told_84 fl_X8_123 sh_17 rfl (by decide) ?_
      exact ob_iret d_X8_told_87 rfl ⟨_, rfl, k⟩
    by_cases hc5 : x1 = (5 : Int32)
    · have k := k.2.2.2.2.2.1 hc5
      refine ob_tabI (off := 87) (tgt := 88) d_X8_told_1 hx1 hx2 (by rw [hc5]; rfl) rfl ?_
      refine ob_aload_n d_X8_told_88 rfl ?_
      refine ob_getR d_X8_told_89 fl_X8_28 sh_0 rfl rfl ?_
      refine ob_getI d_X8_told_92 fl_X8_126 sh_17 rfl (by decide) ?_
      exact ob_iret d_X8_told_95 rfl ⟨_, rfl, k⟩
    by_cases hc6 : x1 = (6 : Int32)
    · have k := k.2.2.2.2.2.2.1 hc6
      refine ob_tabI (off := 95) (tgt := 96) d_X8_told_1 hx1 hx2 (by rw [hc6]; rfl) rfl ?_
      refine ob_aload_n d_X8_told_96 rfl ?_
      refine ob_getR d_X8_told_97 fl_X8_28 sh_0 rfl rfl ?_
      refine ob_callV [] (z := oX6_lentSet) (st := []) d_X8_told_100 lk_X8_129 mv_X6_lentSet rfl sh_17 cl_6 rfl (Nat.le_of_ble_eq_true rfl) rfl k (ob_kI fun v2 σ1 k => ?_)
      exact ob_iret d_X8_told_103 rfl ⟨_, rfl, k⟩
    by_cases hc7 : x1 = (7 : Int32)
    · have k := k.2.2.2.2.2.2.2 hc7
      refine ob_tabI (off := 103) (tgt := 104) d_X8_told_1 hx1 hx2 (by rw [hc7]; rfl) rfl ?_
      refine ob_aload_n d_X8_told_104 rfl ?_
      refine ob_getR d_X8_told_105 fl_X8_41 sh_0 rfl rfl ?_
      refine ob_getI d_X8_told_108 fl_X8_111 sh_35 rfl (by decide) ?_
      exact ob_iret d_X8_told_111 rfl ⟨_, rfl, k⟩
    exfalso
    rcases (show (x1).toInt = 0 ∨ (x1).toInt = 1 ∨ (x1).toInt = 2 ∨ (x1).toInt = 3 ∨ (x1).toInt = 4 ∨ (x1).toInt = 5 ∨ (x1).toInt = 6 ∨ (x1).toInt = 7 by omega) with q | q | q | q | q | q | q | q
    · exact hc0 (Int32.toInt_inj.mp (q.trans (by decide)))
    · exact hc1 (Int32.toInt_inj.mp (q.trans (by decide)))
    · exact hc2 (Int32.toInt_inj.mp (q.trans (by decide)))
    · exact hc3 (Int32.toInt_inj.mp (q.trans (by decide)))
    · exact hc4 (Int32.toInt_inj.mp (q.trans (by decide)))
    · exact hc5 (Int32.toInt_inj.mp (q.trans (by decide)))
    · exact hc6 (Int32.toInt_inj.mp (q.trans (by decide)))
    · exact hc7 (Int32.toInt_inj.mp (q.trans (by decide)))
theorem d_X8_person_0 : decode oX8_person.2.1 0 = .ok (.aload_n 0, 1) := by decide +kernel
theorem d_X8_person_1 : decode oX8_person.2.1 1 = .ok (.getfield 19, 3) := by decide +kernel
theorem d_X8_person_4 : decode oX8_person.2.1 4 = .ok (.iload_n 1, 1) := by decide +kernel
theorem d_X8_person_5 : decode oX8_person.2.1 5 = .ok (.invokevirtual 132, 3) := by decide +kernel
theorem d_X8_person_8 : decode oX8_person.2.1 8 = .ok (.ifCond .ne 6, 3) := by decide +kernel
theorem d_X8_person_11 : decode oX8_person.2.1 11 = .ok (.ldc 135, 2) := by decide +kernel
theorem d_X8_person_13 : decode oX8_person.2.1 13 = .ok (.ireturn, 1) := by decide +kernel
theorem d_X8_person_14 : decode oX8_person.2.1 14 = .ok (.iload_n 2, 1) := by decide +kernel
theorem d_X8_person_15 : decode oX8_person.2.1 15 = .ok (.tableswitch 88 0 4 #[33, 43, 53, 70, 79], 33) := by decide +kernel
theorem d_X8_person_48 : decode oX8_person.2.1 48 = .ok (.aload_n 0, 1) := by decide +kernel
theorem d_X8_person_49 : decode oX8_person.2.1 49 = .ok (.getfield 28, 3) := by decide +kernel
theorem d_X8_person_52 : decode oX8_person.2.1 52 = .ok (.getfield 136, 3) := by decide +kernel
theorem d_X8_person_55 : decode oX8_person.2.1 55 = .ok (.iload_n 1, 1) := by decide +kernel
theorem d_X8_person_56 : decode oX8_person.2.1 56 = .ok (.iaload, 1) := by decide +kernel
theorem d_X8_person_57 : decode oX8_person.2.1 57 = .ok (.ireturn, 1) := by decide +kernel
theorem d_X8_person_58 : decode oX8_person.2.1 58 = .ok (.aload_n 0, 1) := by decide +kernel
theorem d_X8_person_59 : decode oX8_person.2.1 59 = .ok (.getfield 28, 3) := by decide +kernel
theorem d_X8_person_62 : decode oX8_person.2.1 62 = .ok (.getfield 140, 3) := by decide +kernel
theorem d_X8_person_65 : decode oX8_person.2.1 65 = .ok (.iload_n 1, 1) := by decide +kernel
theorem d_X8_person_66 : decode oX8_person.2.1 66 = .ok (.iaload, 1) := by decide +kernel
theorem d_X8_person_67 : decode oX8_person.2.1 67 = .ok (.ireturn, 1) := by decide +kernel
theorem d_X8_person_68 : decode oX8_person.2.1 68 = .ok (.aload_n 0, 1) := by decide +kernel
theorem d_X8_person_69 : decode oX8_person.2.1 69 = .ok (.getfield 28, 3) := by decide +kernel
theorem d_X8_person_72 : decode oX8_person.2.1 72 = .ok (.iload_n 1, 1) := by decide +kernel
theorem d_X8_person_73 : decode oX8_person.2.1 73 = .ok (.invokevirtual 143, 3) := by decide +kernel
theorem d_X8_person_76 : decode oX8_person.2.1 76 = .ok (.ifCond .eq 7, 3) := by decide +kernel
theorem d_X8_person_79 : decode oX8_person.2.1 79 = .ok (.iconst 1, 1) := by decide +kernel
theorem d_X8_person_80 : decode oX8_person.2.1 80 = .ok (.goto 4, 3) := by decide +kernel
theorem d_X8_person_83 : decode oX8_person.2.1 83 = .ok (.iconst 0, 1) := by decide +kernel
theorem d_X8_person_84 : decode oX8_person.2.1 84 = .ok (.ireturn, 1) := by decide +kernel
theorem d_X8_person_85 : decode oX8_person.2.1 85 = .ok (.aload_n 0, 1) := by decide +kernel
theorem d_X8_person_86 : decode oX8_person.2.1 86 = .ok (.getfield 28, 3) := by decide +kernel
theorem d_X8_person_89 : decode oX8_person.2.1 89 = .ok (.iload_n 1, 1) := by decide +kernel
theorem d_X8_person_90 : decode oX8_person.2.1 90 = .ok (.invokevirtual 146, 3) := by decide +kernel
theorem d_X8_person_93 : decode oX8_person.2.1 93 = .ok (.ireturn, 1) := by decide +kernel
theorem d_X8_person_94 : decode oX8_person.2.1 94 = .ok (.aload_n 0, 1) := by decide +kernel
theorem d_X8_person_95 : decode oX8_person.2.1 95 = .ok (.getfield 28, 3) := by decide +kernel
theorem d_X8_person_98 : decode oX8_person.2.1 98 = .ok (.iload_n 1, 1) := by decide +kernel
theorem d_X8_person_99 : decode oX8_person.2.1 99 = .ok (.invokevirtual 150, 3) := by decide +kernel
theorem d_X8_person_102 : decode oX8_person.2.1 102 = .ok (.ireturn, 1) := by decide +kernel
theorem d_X8_person_103 : decode oX8_person.2.1 103 = .ok (.ldc 84, 2) := by decide +kernel
theorem d_X8_person_105 : decode oX8_person.2.1 105 = .ok (.ireturn, 1) := by decide +kernel
theorem b_X8_person_0 {E : ob_E} {σ : ob_Mem} {Q : Int32 → ob_Mem → Prop} {x1 x2 : Int32} (k : ob_RM shp E oX2_hasPerson [.ref 10, .int x1] σ (ob_qI fun v2 σ1 => ((¬ v2 = 0 → (((x2).toInt < 0 ∨ 4 < (x2).toInt → Q (-1000000002 : Int32) σ1) ∧ (x2 = (0 : Int32) → (vp_in x1 6 ∧ Q (σ1.1 18 (x1).toNatClampNeg) σ1)) ∧ (x2 = (1 : Int32) → (vp_in x1 6 ∧ Q (σ1.1 19 (x1).toNatClampNeg) σ1)) ∧ (x2 = (2 : Int32) → ob_RM shp E oX6_lives [.ref 17, .int x1] σ1 (ob_qI fun v4 σ3 => ((v4 = 0 → Q (0 : Int32) σ3) ∧ (¬ v4 = 0 → Q (1 : Int32) σ3)))) ∧ (x2 = (3 : Int32) → ob_RM shp E oX6_ownedSet [.ref 17, .int x1] σ1 (ob_qI fun v6 σ5 => Q v6 σ5)) ∧ (x2 = (4 : Int32) → ob_RM shp E oX6_usedSet [.ref 17, .int x1] σ1 (ob_qI fun v8 σ7 => Q v8 σ7)))) ∧ (v2 = 0 → Q (-1000000001 : Int32) σ1)))) : ob_RT shp E oX8_person 0 [.ref 0, .int x1, .int x2] [] σ (ob_qI Q) := by
  refine ob_aload_n d_X8_person_0 rfl ?_
  refine ob_getR d_X8_person_1 fl_X8_19 sh_0 rfl rfl ?_
  refine ob_iload_n d_X8_person_4 rfl ?_
  refine ob_callV [.int x1] (z := oX2_hasPerson) (st := []) d_X8_person_5 lk_X8_132 mv_X2_hasPerson rfl sh_10 cl_2 rfl (Nat.le_of_ble_eq_true rfl) rfl k (ob_kI fun v2 σ1 k => ?_)
  refine ob_if_ne (tgt := 14) d_X8_person_8 rfl (fun cc => ?_) (fun cc => ?_)
  · have k := k.1 cc
    refine ob_iload_n d_X8_person_14 rfl ?_
    by_cases hx : (x2).toInt < 0 ∨ 4 < (x2).toInt
    · have k := k.1 hx
      refine ob_tabO (tgt := 103) d_X8_person_15 hx rfl ?_
      refine ob_ldc (v := -1000000002) d_X8_person_103 k_X8_84 ?_
      exact ob_iret d_X8_person_105 rfl ⟨_, rfl, k⟩
    · have k := k.2
      have hx1 : ¬ (x2).toInt < 0 := fun q => hx (Or.inl q)
      have hx2 : ¬ 4 < (x2).toInt := fun q => hx (Or.inr q)
      by_cases hc0 : x2 = (0 : Int32)
      · have k := k.1 hc0
        refine ob_tabI (off := 33) (tgt := 48) d_X8_person_15 hx1 hx2 (by rw [hc0]; rfl) rfl ?_
        refine ob_aload_n d_X8_person_48 rfl ?_
        refine ob_getR d_X8_person_49 fl_X8_28 sh_0 rfl rfl ?_
        refine ob_getR d_X8_person_52 fl_X8_136 sh_17 rfl rfl ?_
        refine ob_iload_n d_X8_person_55 rfl ?_
        obtain ⟨hin, k⟩ := k
        refine ob_iald d_X8_person_56 sh_18 hin ?_
        exact ob_iret d_X8_person_57 rfl ⟨_, rfl, k⟩
      by_cases hc1 : x2 = (1 : Int32)
      · have k := k.2.1 hc1
        refine ob_tabI (off := 43) (tgt := 58) d_X8_person_15 hx1 hx2 (by rw [hc1]; rfl) rfl ?_
        refine ob_aload_n d_X8_person_58 rfl ?_
        refine ob_getR d_X8_person_59 fl_X8_28 sh_0 rfl rfl ?_
        refine ob_getR d_X8_person_62 fl_X8_140 sh_17 rfl rfl ?_
        refine ob_iload_n d_X8_person_65 rfl ?_
        obtain ⟨hin, k⟩ := k
        refine ob_iald d_X8_person_66 sh_19 hin ?_
        exact ob_iret d_X8_person_67 rfl ⟨_, rfl, k⟩
      by_cases hc2 : x2 = (2 : Int32)
      · have k := k.2.2.1 hc2
        refine ob_tabI (off := 53) (tgt := 68) d_X8_person_15 hx1 hx2 (by rw [hc2]; rfl) rfl ?_
        refine ob_aload_n d_X8_person_68 rfl ?_
        refine ob_getR d_X8_person_69 fl_X8_28 sh_0 rfl rfl ?_
        refine ob_iload_n d_X8_person_72 rfl ?_
        refine ob_callV [.int x1] (z := oX6_lives) (st := []) d_X8_person_73 lk_X8_143 mv_X6_lives rfl sh_17 cl_6 rfl (Nat.le_of_ble_eq_true rfl) rfl k (ob_kI fun v4 σ3 k => ?_)
        refine ob_if_eq (tgt := 83) d_X8_person_76 rfl (fun cc => ?_) (fun cc => ?_)
        · have k := k.1 cc
          refine ob_iconst (v := 0) d_X8_person_83 ci_0 ?_
          exact ob_iret d_X8_person_84 rfl ⟨_, rfl, k⟩
        · have k := k.2 cc
          refine ob_iconst (v := 1) d_X8_person_79 ci_1 ?_
          refine ob_goto (tgt := 84) d_X8_person_80 rfl ?_
          exact ob_iret d_X8_person_84 rfl ⟨_, rfl, k⟩
      by_cases hc3 : x2 = (3 : Int32)
      · have k := k.2.2.2.1 hc3
        refine ob_tabI (off := 70) (tgt := 85) d_X8_person_15 hx1 hx2 (by rw [hc3]; rfl) rfl ?_
        refine ob_aload_n d_X8_person_85 rfl ?_
        refine ob_getR d_X8_person_86 fl_X8_28 sh_0 rfl rfl ?_
        refine ob_iload_n d_X8_person_89 rfl ?_
        refine ob_callV [.int x1] (z := oX6_ownedSet) (st := []) d_X8_person_90 lk_X8_146 mv_X6_ownedSet rfl sh_17 cl_6 rfl (Nat.le_of_ble_eq_true rfl) rfl k (ob_kI fun v6 σ5 k => ?_)
        exact ob_iret d_X8_person_93 rfl ⟨_, rfl, k⟩
      by_cases hc4 : x2 = (4 : Int32)
      · have k := k.2.2.2.2 hc4
        refine ob_tabI (off := 79) (tgt := 94) d_X8_person_15 hx1 hx2 (by rw [hc4]; rfl) rfl ?_
        refine ob_aload_n d_X8_person_94 rfl ?_
        refine ob_getR d_X8_person_95 fl_X8_28 sh_0 rfl rfl ?_
        refine ob_iload_n d_X8_person_98 rfl ?_
        refine ob_callV [.int x1] (z := oX6_usedSet) (st := []) d_X8_person_99 lk_X8_150 mv_X6_usedSet rfl sh_17 cl_6 rfl (Nat.le_of_ble_eq_true rfl) rfl k (ob_kI fun v8 σ7 k => ?_)
        exact ob_iret d_X8_person_102 rfl ⟨_, rfl, k⟩
      exfalso
      rcases (show (x2).toInt = 0 ∨ (x2).toInt = 1 ∨ (x2).toInt = 2 ∨ (x2).toInt = 3 ∨ (x2).toInt = 4 by omega) with q | q | q | q | q
      · exact hc0 (Int32.toInt_inj.mp (q.trans (by decide)))
      · exact hc1 (Int32.toInt_inj.mp (q.trans (by decide)))
      · exact hc2 (Int32.toInt_inj.mp (q.trans (by decide)))
      · exact hc3 (Int32.toInt_inj.mp (q.trans (by decide)))
      · exact hc4 (Int32.toInt_inj.mp (q.trans (by decide)))
  · have k := k.2 cc
    refine ob_ldc (v := -1000000001) d_X8_person_11 k_X8_135 ?_
    exact ob_iret d_X8_person_13 rfl ⟨_, rfl, k⟩
theorem d_X8_birthday_0 : decode oX8_birthday.2.1 0 = .ok (.aload_n 0, 1) := by decide +kernel
theorem d_X8_birthday_1 : decode oX8_birthday.2.1 1 = .ok (.getfield 19, 3) := by decide +kernel
theorem d_X8_birthday_4 : decode oX8_birthday.2.1 4 = .ok (.iload_n 1, 1) := by decide +kernel
theorem d_X8_birthday_5 : decode oX8_birthday.2.1 5 = .ok (.invokevirtual 153, 3) := by decide +kernel
theorem d_X8_birthday_8 : decode oX8_birthday.2.1 8 = .ok (.ifCond .ne 6, 3) := by decide +kernel
theorem d_X8_birthday_11 : decode oX8_birthday.2.1 11 = .ok (.ldc 135, 2) := by decide +kernel
theorem d_X8_birthday_13 : decode oX8_birthday.2.1 13 = .ok (.ireturn, 1) := by decide +kernel
theorem d_X8_birthday_14 : decode oX8_birthday.2.1 14 = .ok (.iload_n 2, 1) := by decide +kernel
theorem d_X8_birthday_15 : decode oX8_birthday.2.1 15 = .ok (.tableswitch 122 0 7 #[45, 55, 65, 75, 85, 95, 104, 113], 45) := by decide +kernel
theorem d_X8_birthday_60 : decode oX8_birthday.2.1 60 = .ok (.aload_n 0, 1) := by decide +kernel
theorem d_X8_birthday_61 : decode oX8_birthday.2.1 61 = .ok (.getfield 19, 3) := by decide +kernel
theorem d_X8_birthday_64 : decode oX8_birthday.2.1 64 = .ok (.getfield 156, 3) := by decide +kernel
theorem d_X8_birthday_67 : decode oX8_birthday.2.1 67 = .ok (.iload_n 1, 1) := by decide +kernel
theorem d_X8_birthday_68 : decode oX8_birthday.2.1 68 = .ok (.iaload, 1) := by decide +kernel
theorem d_X8_birthday_69 : decode oX8_birthday.2.1 69 = .ok (.ireturn, 1) := by decide +kernel
theorem d_X8_birthday_70 : decode oX8_birthday.2.1 70 = .ok (.aload_n 0, 1) := by decide +kernel
theorem d_X8_birthday_71 : decode oX8_birthday.2.1 71 = .ok (.getfield 28, 3) := by decide +kernel
theorem d_X8_birthday_74 : decode oX8_birthday.2.1 74 = .ok (.getfield 159, 3) := by decide +kernel
theorem d_X8_birthday_77 : decode oX8_birthday.2.1 77 = .ok (.iload_n 1, 1) := by decide +kernel
theorem d_X8_birthday_78 : decode oX8_birthday.2.1 78 = .ok (.iaload, 1) := by decide +kernel
theorem d_X8_birthday_79 : decode oX8_birthday.2.1 79 = .ok (.ireturn, 1) := by decide +kernel
theorem d_X8_birthday_80 : decode oX8_birthday.2.1 80 = .ok (.aload_n 0, 1) := by decide +kernel
theorem d_X8_birthday_81 : decode oX8_birthday.2.1 81 = .ok (.getfield 19, 3) := by decide +kernel
theorem d_X8_birthday_84 : decode oX8_birthday.2.1 84 = .ok (.getfield 162, 3) := by decide +kernel
theorem d_X8_birthday_87 : decode oX8_birthday.2.1 87 = .ok (.iload_n 1, 1) := by decide +kernel
theorem d_X8_birthday_88 : decode oX8_birthday.2.1 88 = .ok (.iaload, 1) := by decide +kernel
theorem d_X8_birthday_89 : decode oX8_birthday.2.1 89 = .ok (.ireturn, 1) := by decide +kernel
theorem d_X8_birthday_90 : decode oX8_birthday.2.1 90 = .ok (.aload_n 0, 1) := by decide +kernel
theorem d_X8_birthday_91 : decode oX8_birthday.2.1 91 = .ok (.getfield 28, 3) := by decide +kernel
theorem d_X8_birthday_94 : decode oX8_birthday.2.1 94 = .ok (.getfield 165, 3) := by decide +kernel
theorem d_X8_birthday_97 : decode oX8_birthday.2.1 97 = .ok (.iload_n 1, 1) := by decide +kernel
theorem d_X8_birthday_98 : decode oX8_birthday.2.1 98 = .ok (.iaload, 1) := by decide +kernel
theorem d_X8_birthday_99 : decode oX8_birthday.2.1 99 = .ok (.ireturn, 1) := by decide +kernel
theorem d_X8_birthday_100 : decode oX8_birthday.2.1 100 = .ok (.aload_n 0, 1) := by decide +kernel
theorem d_X8_birthday_101 : decode oX8_birthday.2.1 101 = .ok (.getfield 28, 3) := by decide +kernel
theorem d_X8_birthday_104 : decode oX8_birthday.2.1 104 = .ok (.getfield 168, 3) := by decide +kernel
theorem d_X8_birthday_107 : decode oX8_birthday.2.1 107 = .ok (.iload_n 1, 1) := by decide +kernel
theorem d_X8_birthday_108 : decode oX8_birthday.2.1 108 = .ok (.iaload, 1) := by decide +kernel
theorem d_X8_birthday_109 : decode oX8_birthday.2.1 109 = .ok (.ireturn, 1) := by decide +kernel
theorem d_X8_birthday_110 : decode oX8_birthday.2.1 110 = .ok (.aload_n 0, 1) := by decide +kernel
theorem d_X8_birthday_111 : decode oX8_birthday.2.1 111 = .ok (.getfield 28, 3) := by decide +kernel
theorem d_X8_birthday_114 : decode oX8_birthday.2.1 114 = .ok (.iload_n 1, 1) := by decide +kernel
theorem d_X8_birthday_115 : decode oX8_birthday.2.1 115 = .ok (.invokevirtual 171, 3) := by decide +kernel
theorem d_X8_birthday_118 : decode oX8_birthday.2.1 118 = .ok (.ireturn, 1) := by decide +kernel
theorem d_X8_birthday_119 : decode oX8_birthday.2.1 119 = .ok (.aload_n 0, 1) := by decide +kernel
theorem d_X8_birthday_120 : decode oX8_birthday.2.1 120 = .ok (.getfield 28, 3) := by decide +kernel
theorem d_X8_birthday_123 : decode oX8_birthday.2.1 123 = .ok (.iload_n 1, 1) := by decide +kernel
theorem d_X8_birthday_124 : decode oX8_birthday.2.1 124 = .ok (.invokevirtual 174, 3) := by decide +kernel
theorem d_X8_birthday_127 : decode oX8_birthday.2.1 127 = .ok (.ireturn, 1) := by decide +kernel
theorem d_X8_birthday_128 : decode oX8_birthday.2.1 128 = .ok (.aload_n 0, 1) := by decide +kernel
theorem d_X8_birthday_129 : decode oX8_birthday.2.1 129 = .ok (.getfield 28, 3) := by decide +kernel
theorem d_X8_birthday_132 : decode oX8_birthday.2.1 132 = .ok (.iload_n 1, 1) := by decide +kernel
theorem d_X8_birthday_133 : decode oX8_birthday.2.1 133 = .ok (.invokevirtual 177, 3) := by decide +kernel
theorem d_X8_birthday_136 : decode oX8_birthday.2.1 136 = .ok (.ireturn, 1) := by decide +kernel
theorem d_X8_birthday_137 : decode oX8_birthday.2.1 137 = .ok (.ldc 84, 2) := by decide +kernel
theorem d_X8_birthday_139 : decode oX8_birthday.2.1 139 = .ok (.ireturn, 1) := by decide +kernel
theorem b_X8_birthday_0 {E : ob_E} {σ : ob_Mem} {Q : Int32 → ob_Mem → Prop} {x1 x2 : Int32} (k : ob_RM shp E oX2_hasBirthday [.ref 10, .int x1] σ (ob_qI fun v2 σ1 => ((¬ v2 = 0 → (((x2).toInt < 0 ∨ 7 < (x2).toInt → Q (-1000000002 : Int32) σ1) ∧ (x2 = (0 : Int32) → (vp_in x1 8 ∧ Q (σ1.1 13 (x1).toNatClampNeg) σ1)) ∧ (x2 = (1 : Int32) → (vp_in x1 8 ∧ Q (σ1.1 20 (x1).toNatClampNeg) σ1)) ∧ (x2 = (2 : Int32) → (vp_in x1 8 ∧ Q (σ1.1 15 (x1).toNatClampNeg) σ1)) ∧ (x2 = (3 : Int32) → (vp_in x1 8 ∧ Q (σ1.1 21 (x1).toNatClampNeg) σ1)) ∧ (x2 = (4 : Int32) → (vp_in x1 8 ∧ Q (σ1.1 22 (x1).toNatClampNeg) σ1)) ∧ (x2 = (5 : Int32) → ob_RM shp E oX6_userOf [.ref 17, .int x1] σ1 (ob_qI fun v4 σ3 => Q v4 σ3)) ∧ (x2 = (6 : Int32) → ob_RM shp E oX6_daysTill [.ref 17, .int x1] σ1 (ob_qI fun v6 σ5 => Q v6 σ5)) ∧ (x2 = (7 : Int32) → ob_RM shp E oX6_seasonOf [.ref 17, .int x1] σ1 (ob_qI fun v8 σ7 => Q v8 σ7)))) ∧ (v2 = 0 → Q (-1000000001 : Int32) σ1)))) : ob_RT shp E oX8_birthday 0 [.ref 0, .int x1, .int x2] [] σ (ob_qI Q) := by
  refine ob_aload_n d_X8_birthday_0 rfl ?_
  refine ob_getR d_X8_birthday_1 fl_X8_19 sh_0 rfl rfl ?_
  refine ob_iload_n d_X8_birthday_4 rfl ?_
  refine ob_callV [.int x1] (z := oX2_hasBirthday) (st := []) d_X8_birthday_5 lk_X8_153 mv_X2_hasBirthday rfl sh_10 cl_2 rfl (Nat.le_of_ble_eq_true rfl) rfl k (ob_kI fun v2 σ1 k => ?_)
  refine ob_if_ne (tgt := 14) d_X8_birthday_8 rfl (fun cc => ?_) (fun cc => ?_)
  · have k := k.1 cc
    refine ob_iload_n d_X8_birthday_14 rfl ?_
    by_cases hx : (x2).toInt < 0 ∨ 7 < (x2).toInt
    · have k := k.1 hx
      refine ob_tabO (tgt := 137) d_X8_birthday_15 hx rfl ?_
      refine ob_ldc (v := -1000000002) d_X8_birthday_137 k_X8_84 ?_
      exact ob_iret d_X8_birthday_139 rfl ⟨_, rfl, k⟩
    · have k := k.2
      have hx1 : ¬ (x2).toInt < 0 := fun q => hx (Or.inl q)
      have hx2 : ¬ 7 < (x2).toInt := fun q => hx (Or.inr q)
      by_cases hc0 : x2 = (0 : Int32)
      · have k := k.1 hc0
        refine ob_tabI (off := 45) (tgt := 60) d_X8_birthday_15 hx1 hx2 (by rw [hc0]; rfl) rfl ?_
        refine ob_aload_n d_X8_birthday_60 rfl ?_
        refine ob_getR d_X8_birthday_61 fl_X8_19 sh_0 rfl rfl ?_
        refine ob_getR d_X8_birthday_64 fl_X8_156 sh_10 rfl rfl ?_
        refine ob_iload_n d_X8_birthday_67 rfl ?_
        obtain ⟨hin, k⟩ := k
        refine ob_iald d_X8_birthday_68 sh_13 hin ?_
        exact ob_iret d_X8_birthday_69 rfl ⟨_, rfl, k⟩
      by_cases hc1 : x2 = (1 : Int32)
      · have k := k.2.1 hc1
        refine ob_tabI (off := 55) (tgt := 70) d_X8_birthday_15 hx1 hx2 (by rw [hc1]; rfl) rfl ?_
        refine ob_aload_n d_X8_birthday_70 rfl ?_
        refine ob_getR d_X8_birthday_71 fl_X8_28 sh_0 rfl rfl ?_
        refine ob_getR d_X8_birthday_74 fl_X8_159 sh_17 rfl rfl ?_
        refine ob_iload_n d_X8_birthday_77 rfl ?_
        obtain ⟨hin, k⟩ := k
        refine ob_iald d_X8_birthday_78 sh_20 hin ?_
        exact ob_iret d_X8_birthday_79 rfl ⟨_, rfl, k⟩
      by_cases hc2 : x2 = (2 : Int32)
      · have k := k.2.2.1 hc2
        refine ob_tabI (off := 65) (tgt := 80) d_X8_birthday_15 hx1 hx2 (by rw [hc2]; rfl) rfl ?_
        refine ob_aload_n d_X8_birthday_80 rfl ?_
        refine ob_getR d_X8_birthday_81 fl_X8_19 sh_0 rfl rfl ?_
        refine ob_getR d_X8_birthday_84 fl_X8_162 sh_10 rfl rfl ?_
        refine ob_iload_n d_X8_birthday_87 rfl ?_
        obtain ⟨hin, k⟩ := k
        refine ob_iald d_X8_birthday_88 sh_15 hin ?_
        exact ob_iret d_X8_birthday_89 rfl ⟨_, rfl, k⟩
      by_cases hc3 : x2 = (3 : Int32)
      · have k := k.2.2.2.1 hc3
        refine ob_tabI (off := 75) (tgt := 90) d_X8_birthday_15 hx1 hx2 (by rw [hc3]; rfl) rfl ?_
        refine ob_aload_n d_X8_birthday_90 rfl ?_
        refine ob_getR d_X8_birthday_91 fl_X8_28 sh_0 rfl rfl ?_
        refine ob_getR d_X8_birthday_94 fl_X8_165 sh_17 rfl rfl ?_
        refine ob_iload_n d_X8_birthday_97 rfl ?_
        obtain ⟨hin, k⟩ := k
        refine ob_iald d_X8_birthday_98 sh_21 hin ?_
        exact ob_iret d_X8_birthday_99 rfl ⟨_, rfl, k⟩
      by_cases hc4 : x2 = (4 : Int32)
      · have k := k.2.2.2.2.1 hc4
        refine ob_tabI (off := 85) (tgt := 100) d_X8_birthday_15 hx1 hx2 (by rw [hc4]; rfl) rfl ?_
        refine ob_aload_n d_X8_birthday_100 rfl ?_
        refine ob_getR d_X8_birthday_101 fl_X8_28 sh_0 rfl rfl ?_
        refine ob_getR d_X8_birthday_104 fl_X8_168 sh_17 rfl rfl ?_
        refine ob_iload_n d_X8_birthday_107 rfl ?_
        obtain ⟨hin, k⟩ := k
        refine ob_iald d_X8_birthday_108 sh_22 hin ?_
        exact ob_iret d_X8_birthday_109 rfl ⟨_, rfl, k⟩
      by_cases hc5 : x2 = (5 : Int32)
      · have k := k.2.2.2.2.2.1 hc5
        refine ob_tabI (off := 95) (tgt := 110) d_X8_birthday_15 hx1 hx2 (by rw [hc5]; rfl) rfl ?_
        refine ob_aload_n d_X8_birthday_110 rfl ?_
        refine ob_getR d_X8_birthday_111 fl_X8_28 sh_0 rfl rfl ?_
        refine ob_iload_n d_X8_birthday_114 rfl ?_
        refine ob_callV [.int x1] (z := oX6_userOf) (st := []) d_X8_birthday_115 lk_X8_171 mv_X6_userOf rfl sh_17 cl_6 rfl (Nat.le_of_ble_eq_true rfl) rfl k (ob_kI fun v4 σ3 k => ?_)
        exact ob_iret d_X8_birthday_118 rfl ⟨_, rfl, k⟩
      by_cases hc6 : x2 = (6 : Int32)
      · have k := k.2.2.2.2.2.2.1 hc6
        refine ob_tabI (off := 104) (tgt := 119) d_X8_birthday_15 hx1 hx2 (by rw [hc6]; rfl) rfl ?_
        refine ob_aload_n d_X8_birthday_119 rfl ?_
        refine ob_getR d_X8_birthday_120 fl_X8_28 sh_0 rfl rfl ?_
        refine ob_iload_n d_X8_birthday_123 rfl ?_
        refine ob_callV [.int x1] (z := oX6_daysTill) (st := []) d_X8_birthday_124 lk_X8_174 mv_X6_daysTill rfl sh_17 cl_6 rfl (Nat.le_of_ble_eq_true rfl) rfl k (ob_kI fun v6 σ5 k => ?_)
        exact ob_iret d_X8_birthday_127 rfl ⟨_, rfl, k⟩
      by_cases hc7 : x2 = (7 : Int32)
      · have k := k.2.2.2.2.2.2.2 hc7
        refine ob_tabI (off := 113) (tgt := 128) d_X8_birthday_15 hx1 hx2 (by rw [hc7]; rfl) rfl ?_
        refine ob_aload_n d_X8_birthday_128 rfl ?_
        refine ob_getR d_X8_birthday_129 fl_X8_28 sh_0 rfl rfl ?_
        refine ob_iload_n d_X8_birthday_132 rfl ?_
        refine ob_callV [.int x1] (z := oX6_seasonOf) (st := []) d_X8_birthday_133 lk_X8_177 mv_X6_seasonOf rfl sh_17 cl_6 rfl (Nat.le_of_ble_eq_true rfl) rfl k (ob_kI fun v8 σ7 k => ?_)
        exact ob_iret d_X8_birthday_136 rfl ⟨_, rfl, k⟩
      exfalso
      rcases (show (x2).toInt = 0 ∨ (x2).toInt = 1 ∨ (x2).toInt = 2 ∨ (x2).toInt = 3 ∨ (x2).toInt = 4 ∨ (x2).toInt = 5 ∨ (x2).toInt = 6 ∨ (x2).toInt = 7 by omega) with q | q | q | q | q | q | q | q
      · exact hc0 (Int32.toInt_inj.mp (q.trans (by decide)))
      · exact hc1 (Int32.toInt_inj.mp (q.trans (by decide)))
      · exact hc2 (Int32.toInt_inj.mp (q.trans (by decide)))
      · exact hc3 (Int32.toInt_inj.mp (q.trans (by decide)))
      · exact hc4 (Int32.toInt_inj.mp (q.trans (by decide)))
      · exact hc5 (Int32.toInt_inj.mp (q.trans (by decide)))
      · exact hc6 (Int32.toInt_inj.mp (q.trans (by decide)))
      · exact hc7 (Int32.toInt_inj.mp (q.trans (by decide)))
  · have k := k.2 cc
    refine ob_ldc (v := -1000000001) d_X8_birthday_11 k_X8_135 ?_
    exact ob_iret d_X8_birthday_13 rfl ⟨_, rfl, k⟩
theorem d_X8_good_0 : decode oX8_good.2.1 0 = .ok (.iload_n 1, 1) := by decide +kernel
theorem d_X8_good_1 : decode oX8_good.2.1 1 = .ok (.iconst 0, 1) := by decide +kernel
theorem d_X8_good_2 : decode oX8_good.2.1 2 = .ok (.sipush 999, 3) := by decide +kernel
theorem d_X8_good_5 : decode oX8_good.2.1 5 = .ok (.invokestatic 80, 3) := by decide +kernel
theorem d_X8_good_8 : decode oX8_good.2.1 8 = .ok (.ifCond .eq 6, 3) := by decide +kernel
theorem d_X8_good_11 : decode oX8_good.2.1 11 = .ok (.ldc 84, 2) := by decide +kernel
theorem d_X8_good_13 : decode oX8_good.2.1 13 = .ok (.ireturn, 1) := by decide +kernel
theorem d_X8_good_14 : decode oX8_good.2.1 14 = .ok (.aload_n 0, 1) := by decide +kernel
theorem d_X8_good_15 : decode oX8_good.2.1 15 = .ok (.getfield 19, 3) := by decide +kernel
theorem d_X8_good_18 : decode oX8_good.2.1 18 = .ok (.iload_n 1, 1) := by decide +kernel
theorem d_X8_good_19 : decode oX8_good.2.1 19 = .ok (.invokevirtual 180, 3) := by decide +kernel
theorem d_X8_good_22 : decode oX8_good.2.1 22 = .ok (.ireturn, 1) := by decide +kernel
theorem b_X8_good_0 {E : ob_E} {σ : ob_Mem} {Q : Int32 → ob_Mem → Prop} {x1 : Int32} (k : ob_RM shp E oX8_isOutside [.int x1, .int (0 : Int32), .int (999 : Int32)] σ (ob_qI fun v2 σ1 => ((v2 = 0 → ob_RM shp E oX2_goodOf [.ref 10, .int x1] σ1 (ob_qI fun v4 σ3 => Q v4 σ3)) ∧ (¬ v2 = 0 → Q (-1000000002 : Int32) σ1)))) : ob_RT shp E oX8_good 0 [.ref 0, .int x1] [] σ (ob_qI Q) := by
  refine ob_iload_n d_X8_good_0 rfl ?_
  refine ob_iconst (v := 0) d_X8_good_1 ci_0 ?_
  refine ob_sipush (v := 999) d_X8_good_2 cs_999 ?_
  refine ob_callS [.int x1, .int (0 : Int32), .int (999 : Int32)] (z := oX8_isOutside) (st := []) d_X8_good_5 lk_X8_80 ms_X8_isOutside rfl (Nat.le_of_ble_eq_true rfl) rfl k (ob_kI fun v2 σ1 k => ?_)
  refine ob_if_eq (tgt := 14) d_X8_good_8 rfl (fun cc => ?_) (fun cc => ?_)
  · have k := k.1 cc
    refine ob_aload_n d_X8_good_14 rfl ?_
    refine ob_getR d_X8_good_15 fl_X8_19 sh_0 rfl rfl ?_
    refine ob_iload_n d_X8_good_18 rfl ?_
    refine ob_callV [.int x1] (z := oX2_goodOf) (st := []) d_X8_good_19 lk_X8_180 mv_X2_goodOf rfl sh_10 cl_2 rfl (Nat.le_of_ble_eq_true rfl) rfl k (ob_kI fun v4 σ3 k => ?_)
    exact ob_iret d_X8_good_22 rfl ⟨_, rfl, k⟩
  · have k := k.2 cc
    refine ob_ldc (v := -1000000002) d_X8_good_11 k_X8_84 ?_
    exact ob_iret d_X8_good_13 rfl ⟨_, rfl, k⟩
theorem d_X8_day_0 : decode oX8_day.2.1 0 = .ok (.iload_n 1, 1) := by decide +kernel
theorem d_X8_day_1 : decode oX8_day.2.1 1 = .ok (.iconst 1, 1) := by decide +kernel
theorem d_X8_day_2 : decode oX8_day.2.1 2 = .ok (.sipush 9999, 3) := by decide +kernel
theorem d_X8_day_5 : decode oX8_day.2.1 5 = .ok (.invokestatic 80, 3) := by decide +kernel
theorem d_X8_day_8 : decode oX8_day.2.1 8 = .ok (.ifCond .eq 6, 3) := by decide +kernel
theorem d_X8_day_11 : decode oX8_day.2.1 11 = .ok (.ldc 84, 2) := by decide +kernel
theorem d_X8_day_13 : decode oX8_day.2.1 13 = .ok (.ireturn, 1) := by decide +kernel
theorem d_X8_day_14 : decode oX8_day.2.1 14 = .ok (.aload_n 0, 1) := by decide +kernel
theorem d_X8_day_15 : decode oX8_day.2.1 15 = .ok (.getfield 28, 3) := by decide +kernel
theorem d_X8_day_18 : decode oX8_day.2.1 18 = .ok (.iload_n 1, 1) := by decide +kernel
theorem d_X8_day_19 : decode oX8_day.2.1 19 = .ok (.invokevirtual 183, 3) := by decide +kernel
theorem d_X8_day_22 : decode oX8_day.2.1 22 = .ok (.aload_n 0, 1) := by decide +kernel
theorem d_X8_day_23 : decode oX8_day.2.1 23 = .ok (.getfield 28, 3) := by decide +kernel
theorem d_X8_day_26 : decode oX8_day.2.1 26 = .ok (.getfield 123, 3) := by decide +kernel
theorem d_X8_day_29 : decode oX8_day.2.1 29 = .ok (.ireturn, 1) := by decide +kernel
theorem b_X8_day_0 {E : ob_E} {σ : ob_Mem} {Q : Int32 → ob_Mem → Prop} {x1 : Int32} (k : ob_RM shp E oX8_isOutside [.int x1, .int (1 : Int32), .int (9999 : Int32)] σ (ob_qI fun v2 σ1 => ((v2 = 0 → ob_RM shp E oX6_passDays [.ref 17, .int x1] σ1 (ob_qV fun σ3 => Q (σ3.1 17 7) σ3)) ∧ (¬ v2 = 0 → Q (-1000000002 : Int32) σ1)))) : ob_RT shp E oX8_day 0 [.ref 0, .int x1] [] σ (ob_qI Q) := by
  refine ob_iload_n d_X8_day_0 rfl ?_
  refine ob_iconst (v := 1) d_X8_day_1 ci_1 ?_
  refine ob_sipush (v := 9999) d_X8_day_2 cs_9999 ?_
  refine ob_callS [.int x1, .int (1 : Int32), .int (9999 : Int32)] (z := oX8_isOutside) (st := []) d_X8_day_5 lk_X8_80 ms_X8_isOutside rfl (Nat.le_of_ble_eq_true rfl) rfl k (ob_kI fun v2 σ1 k => ?_)
  refine ob_if_eq (tgt := 14) d_X8_day_8 rfl (fun cc => ?_) (fun cc => ?_)
  · have k := k.1 cc
    refine ob_aload_n d_X8_day_14 rfl ?_
    refine ob_getR d_X8_day_15 fl_X8_28 sh_0 rfl rfl ?_
    refine ob_iload_n d_X8_day_18 rfl ?_
    refine ob_callV [.int x1] (z := oX6_passDays) (st := []) d_X8_day_19 lk_X8_183 mv_X6_passDays rfl sh_17 cl_6 rfl (Nat.le_of_ble_eq_true rfl) rfl k (ob_kV fun σ3 k => ?_)
    refine ob_aload_n d_X8_day_22 rfl ?_
    refine ob_getR d_X8_day_23 fl_X8_28 sh_0 rfl rfl ?_
    refine ob_getI d_X8_day_26 fl_X8_123 sh_17 rfl (by decide) ?_
    exact ob_iret d_X8_day_29 rfl ⟨_, rfl, k⟩
  · have k := k.2 cc
    refine ob_ldc (v := -1000000002) d_X8_day_11 k_X8_84 ?_
    exact ob_iret d_X8_day_13 rfl ⟨_, rfl, k⟩
theorem d_X8_sell_0 : decode oX8_sell.2.1 0 = .ok (.aload_n 0, 1) := by decide +kernel
theorem d_X8_sell_1 : decode oX8_sell.2.1 1 = .ok (.getfield 19, 3) := by decide +kernel
theorem d_X8_sell_4 : decode oX8_sell.2.1 4 = .ok (.iload_n 1, 1) := by decide +kernel
theorem d_X8_sell_5 : decode oX8_sell.2.1 5 = .ok (.invokevirtual 153, 3) := by decide +kernel
theorem d_X8_sell_8 : decode oX8_sell.2.1 8 = .ok (.ifCond .eq 14, 3) := by decide +kernel
theorem d_X8_sell_11 : decode oX8_sell.2.1 11 = .ok (.aload_n 0, 1) := by decide +kernel
theorem d_X8_sell_12 : decode oX8_sell.2.1 12 = .ok (.getfield 19, 3) := by decide +kernel
theorem d_X8_sell_15 : decode oX8_sell.2.1 15 = .ok (.iload_n 2, 1) := by decide +kernel
theorem d_X8_sell_16 : decode oX8_sell.2.1 16 = .ok (.invokevirtual 132, 3) := by decide +kernel
theorem d_X8_sell_19 : decode oX8_sell.2.1 19 = .ok (.ifCond .ne 6, 3) := by decide +kernel
theorem d_X8_sell_22 : decode oX8_sell.2.1 22 = .ok (.ldc 135, 2) := by decide +kernel
theorem d_X8_sell_24 : decode oX8_sell.2.1 24 = .ok (.ireturn, 1) := by decide +kernel
theorem d_X8_sell_25 : decode oX8_sell.2.1 25 = .ok (.iload_n 3, 1) := by decide +kernel
theorem d_X8_sell_26 : decode oX8_sell.2.1 26 = .ok (.iconst 0, 1) := by decide +kernel
theorem d_X8_sell_27 : decode oX8_sell.2.1 27 = .ok (.sipush 999, 3) := by decide +kernel
theorem d_X8_sell_30 : decode oX8_sell.2.1 30 = .ok (.invokestatic 80, 3) := by decide +kernel
theorem d_X8_sell_33 : decode oX8_sell.2.1 33 = .ok (.ifCond .eq 6, 3) := by decide +kernel
theorem d_X8_sell_36 : decode oX8_sell.2.1 36 = .ok (.ldc 84, 2) := by decide +kernel
theorem d_X8_sell_38 : decode oX8_sell.2.1 38 = .ok (.ireturn, 1) := by decide +kernel
theorem d_X8_sell_39 : decode oX8_sell.2.1 39 = .ok (.aload_n 0, 1) := by decide +kernel
theorem d_X8_sell_40 : decode oX8_sell.2.1 40 = .ok (.getfield 28, 3) := by decide +kernel
theorem d_X8_sell_43 : decode oX8_sell.2.1 43 = .ok (.iload_n 1, 1) := by decide +kernel
theorem d_X8_sell_44 : decode oX8_sell.2.1 44 = .ok (.iload_n 2, 1) := by decide +kernel
theorem d_X8_sell_45 : decode oX8_sell.2.1 45 = .ok (.iload_n 3, 1) := by decide +kernel
theorem d_X8_sell_46 : decode oX8_sell.2.1 46 = .ok (.invokevirtual 187, 3) := by decide +kernel
theorem d_X8_sell_49 : decode oX8_sell.2.1 49 = .ok (.ifCond .ne 6, 3) := by decide +kernel
theorem d_X8_sell_52 : decode oX8_sell.2.1 52 = .ok (.ldc 190, 2) := by decide +kernel
theorem d_X8_sell_54 : decode oX8_sell.2.1 54 = .ok (.ireturn, 1) := by decide +kernel
theorem d_X8_sell_55 : decode oX8_sell.2.1 55 = .ok (.aload_n 0, 1) := by decide +kernel
theorem d_X8_sell_56 : decode oX8_sell.2.1 56 = .ok (.getfield 28, 3) := by decide +kernel
theorem d_X8_sell_59 : decode oX8_sell.2.1 59 = .ok (.iload_n 1, 1) := by decide +kernel
theorem d_X8_sell_60 : decode oX8_sell.2.1 60 = .ok (.iload_n 2, 1) := by decide +kernel
theorem d_X8_sell_61 : decode oX8_sell.2.1 61 = .ok (.iload_n 3, 1) := by decide +kernel
theorem d_X8_sell_62 : decode oX8_sell.2.1 62 = .ok (.invokevirtual 191, 3) := by decide +kernel
theorem d_X8_sell_65 : decode oX8_sell.2.1 65 = .ok (.aload_n 0, 1) := by decide +kernel
theorem d_X8_sell_66 : decode oX8_sell.2.1 66 = .ok (.getfield 28, 3) := by decide +kernel
theorem d_X8_sell_69 : decode oX8_sell.2.1 69 = .ok (.getfield 140, 3) := by decide +kernel
theorem d_X8_sell_72 : decode oX8_sell.2.1 72 = .ok (.iload_n 2, 1) := by decide +kernel
theorem d_X8_sell_73 : decode oX8_sell.2.1 73 = .ok (.iaload, 1) := by decide +kernel
theorem d_X8_sell_74 : decode oX8_sell.2.1 74 = .ok (.ireturn, 1) := by decide +kernel
theorem b_X8_sell_0 {E : ob_E} {σ : ob_Mem} {Q : Int32 → ob_Mem → Prop} {x1 x2 x3 : Int32} (k : ob_RM shp E oX2_hasBirthday [.ref 10, .int x1] σ (ob_qI fun v2 σ1 => ((v2 = 0 → Q (-1000000001 : Int32) σ1) ∧ (¬ v2 = 0 → ob_RM shp E oX2_hasPerson [.ref 10, .int x2] σ1 (ob_qI fun v4 σ3 => ((¬ v4 = 0 → ob_RM shp E oX8_isOutside [.int x3, .int (0 : Int32), .int (999 : Int32)] σ3 (ob_qI fun v6 σ5 => ((v6 = 0 → ob_RM shp E oX6_mayDeal [.ref 17, .int x1, .int x2, .int x3] σ5 (ob_qI fun v8 σ7 => ((¬ v8 = 0 → ob_RM shp E oX6_sellTo [.ref 17, .int x1, .int x2, .int x3] σ7 (ob_qV fun σ9 => (vp_in x2 6 ∧ Q (σ9.1 19 (x2).toNatClampNeg) σ9))) ∧ (v8 = 0 → Q (-1000000003 : Int32) σ7)))) ∧ (¬ v6 = 0 → Q (-1000000002 : Int32) σ5)))) ∧ (v4 = 0 → Q (-1000000001 : Int32) σ3))))))) : ob_RT shp E oX8_sell 0 [.ref 0, .int x1, .int x2, .int x3] [] σ (ob_qI Q) := by
  refine ob_aload_n d_X8_sell_0 rfl ?_
  refine ob_getR d_X8_sell_1 fl_X8_19 sh_0 rfl rfl ?_
  refine ob_iload_n d_X8_sell_4 rfl ?_
  refine ob_callV [.int x1] (z := oX2_hasBirthday) (st := []) d_X8_sell_5 lk_X8_153 mv_X2_hasBirthday rfl sh_10 cl_2 rfl (Nat.le_of_ble_eq_true rfl) rfl k (ob_kI fun v2 σ1 k => ?_)
  refine ob_if_eq (tgt := 22) d_X8_sell_8 rfl (fun cc => ?_) (fun cc => ?_)
  · have k := k.1 cc
    refine ob_ldc (v := -1000000001) d_X8_sell_22 k_X8_135 ?_
    exact ob_iret d_X8_sell_24 rfl ⟨_, rfl, k⟩
  · have k := k.2 cc
    refine ob_aload_n d_X8_sell_11 rfl ?_
    refine ob_getR d_X8_sell_12 fl_X8_19 sh_0 rfl rfl ?_
    refine ob_iload_n d_X8_sell_15 rfl ?_
    refine ob_callV [.int x2] (z := oX2_hasPerson) (st := []) d_X8_sell_16 lk_X8_132 mv_X2_hasPerson rfl sh_10 cl_2 rfl (Nat.le_of_ble_eq_true rfl) rfl k (ob_kI fun v4 σ3 k => ?_)
    refine ob_if_ne (tgt := 25) d_X8_sell_19 rfl (fun cc => ?_) (fun cc => ?_)
    · have k := k.1 cc
      refine ob_iload_n d_X8_sell_25 rfl ?_
      refine ob_iconst (v := 0) d_X8_sell_26 ci_0 ?_
      refine ob_sipush (v := 999) d_X8_sell_27 cs_999 ?_
      refine ob_callS [.int x3, .int (0 : Int32), .int (999 : Int32)] (z := oX8_isOutside) (st := []) d_X8_sell_30 lk_X8_80 ms_X8_isOutside rfl (Nat.le_of_ble_eq_true rfl) rfl k (ob_kI fun v6 σ5 k => ?_)
      refine ob_if_eq (tgt := 39) d_X8_sell_33 rfl (fun cc => ?_) (fun cc => ?_)
      · have k := k.1 cc
        refine ob_aload_n d_X8_sell_39 rfl ?_
        refine ob_getR d_X8_sell_40 fl_X8_28 sh_0 rfl rfl ?_
        refine ob_iload_n d_X8_sell_43 rfl ?_
        refine ob_iload_n d_X8_sell_44 rfl ?_
        refine ob_iload_n d_X8_sell_45 rfl ?_
        refine ob_callV [.int x1, .int x2, .int x3] (z := oX6_mayDeal) (st := []) d_X8_sell_46 lk_X8_187 mv_X6_mayDeal rfl sh_17 cl_6 rfl (Nat.le_of_ble_eq_true rfl) rfl k (ob_kI fun v8 σ7 k => ?_)
        refine ob_if_ne (tgt := 55) d_X8_sell_49 rfl (fun cc => ?_) (fun cc => ?_)
        · have k := k.1 cc
          refine ob_aload_n d_X8_sell_55 rfl ?_
          refine ob_getR d_X8_sell_56 fl_X8_28 sh_0 rfl rfl ?_
          refine ob_iload_n d_X8_sell_59 rfl ?_
          refine ob_iload_n d_X8_sell_60 rfl ?_
          refine ob_iload_n d_X8_sell_61 rfl ?_
          refine ob_callV [.int x1, .int x2, .int x3] (z := oX6_sellTo) (st := []) d_X8_sell_62 lk_X8_191 mv_X6_sellTo rfl sh_17 cl_6 rfl (Nat.le_of_ble_eq_true rfl) rfl k (ob_kV fun σ9 k => ?_)
          refine ob_aload_n d_X8_sell_65 rfl ?_
          refine ob_getR d_X8_sell_66 fl_X8_28 sh_0 rfl rfl ?_
          refine ob_getR d_X8_sell_69 fl_X8_140 sh_17 rfl rfl ?_
          refine ob_iload_n d_X8_sell_72 rfl ?_
          obtain ⟨hin, k⟩ := k
          refine ob_iald d_X8_sell_73 sh_19 hin ?_
          exact ob_iret d_X8_sell_74 rfl ⟨_, rfl, k⟩
        · have k := k.2 cc
          refine ob_ldc (v := -1000000003) d_X8_sell_52 k_X8_190 ?_
          exact ob_iret d_X8_sell_54 rfl ⟨_, rfl, k⟩
      · have k := k.2 cc
        refine ob_ldc (v := -1000000002) d_X8_sell_36 k_X8_84 ?_
        exact ob_iret d_X8_sell_38 rfl ⟨_, rfl, k⟩
    · have k := k.2 cc
      refine ob_ldc (v := -1000000001) d_X8_sell_22 k_X8_135 ?_
      exact ob_iret d_X8_sell_24 rfl ⟨_, rfl, k⟩
theorem d_X8_lend_0 : decode oX8_lend.2.1 0 = .ok (.aload_n 0, 1) := by decide +kernel
theorem d_X8_lend_1 : decode oX8_lend.2.1 1 = .ok (.getfield 19, 3) := by decide +kernel
theorem d_X8_lend_4 : decode oX8_lend.2.1 4 = .ok (.iload_n 1, 1) := by decide +kernel
theorem d_X8_lend_5 : decode oX8_lend.2.1 5 = .ok (.invokevirtual 153, 3) := by decide +kernel
theorem d_X8_lend_8 : decode oX8_lend.2.1 8 = .ok (.ifCond .eq 14, 3) := by decide +kernel
theorem d_X8_lend_11 : decode oX8_lend.2.1 11 = .ok (.aload_n 0, 1) := by decide +kernel
theorem d_X8_lend_12 : decode oX8_lend.2.1 12 = .ok (.getfield 19, 3) := by decide +kernel
theorem d_X8_lend_15 : decode oX8_lend.2.1 15 = .ok (.iload_n 2, 1) := by decide +kernel
theorem d_X8_lend_16 : decode oX8_lend.2.1 16 = .ok (.invokevirtual 132, 3) := by decide +kernel
theorem d_X8_lend_19 : decode oX8_lend.2.1 19 = .ok (.ifCond .ne 6, 3) := by decide +kernel
theorem d_X8_lend_22 : decode oX8_lend.2.1 22 = .ok (.ldc 135, 2) := by decide +kernel
theorem d_X8_lend_24 : decode oX8_lend.2.1 24 = .ok (.ireturn, 1) := by decide +kernel
theorem d_X8_lend_25 : decode oX8_lend.2.1 25 = .ok (.iload_n 3, 1) := by decide +kernel
theorem d_X8_lend_26 : decode oX8_lend.2.1 26 = .ok (.iconst 1, 1) := by decide +kernel
theorem d_X8_lend_27 : decode oX8_lend.2.1 27 = .ok (.sipush 9999, 3) := by decide +kernel
theorem d_X8_lend_30 : decode oX8_lend.2.1 30 = .ok (.invokestatic 80, 3) := by decide +kernel
theorem d_X8_lend_33 : decode oX8_lend.2.1 33 = .ok (.ifCond .ne 15, 3) := by decide +kernel
theorem d_X8_lend_36 : decode oX8_lend.2.1 36 = .ok (.iload 4, 2) := by decide +kernel
theorem d_X8_lend_38 : decode oX8_lend.2.1 38 = .ok (.iconst 0, 1) := by decide +kernel
theorem d_X8_lend_39 : decode oX8_lend.2.1 39 = .ok (.sipush 999, 3) := by decide +kernel
theorem d_X8_lend_42 : decode oX8_lend.2.1 42 = .ok (.invokestatic 80, 3) := by decide +kernel
theorem d_X8_lend_45 : decode oX8_lend.2.1 45 = .ok (.ifCond .eq 6, 3) := by decide +kernel
theorem d_X8_lend_48 : decode oX8_lend.2.1 48 = .ok (.ldc 84, 2) := by decide +kernel
theorem d_X8_lend_50 : decode oX8_lend.2.1 50 = .ok (.ireturn, 1) := by decide +kernel
theorem d_X8_lend_51 : decode oX8_lend.2.1 51 = .ok (.aload_n 0, 1) := by decide +kernel
theorem d_X8_lend_52 : decode oX8_lend.2.1 52 = .ok (.getfield 28, 3) := by decide +kernel
theorem d_X8_lend_55 : decode oX8_lend.2.1 55 = .ok (.iload_n 1, 1) := by decide +kernel
theorem d_X8_lend_56 : decode oX8_lend.2.1 56 = .ok (.iload_n 2, 1) := by decide +kernel
theorem d_X8_lend_57 : decode oX8_lend.2.1 57 = .ok (.iload 4, 2) := by decide +kernel
theorem d_X8_lend_59 : decode oX8_lend.2.1 59 = .ok (.invokevirtual 187, 3) := by decide +kernel
theorem d_X8_lend_62 : decode oX8_lend.2.1 62 = .ok (.ifCond .ne 6, 3) := by decide +kernel
theorem d_X8_lend_65 : decode oX8_lend.2.1 65 = .ok (.ldc 190, 2) := by decide +kernel
theorem d_X8_lend_67 : decode oX8_lend.2.1 67 = .ok (.ireturn, 1) := by decide +kernel
theorem d_X8_lend_68 : decode oX8_lend.2.1 68 = .ok (.aload_n 0, 1) := by decide +kernel
theorem d_X8_lend_69 : decode oX8_lend.2.1 69 = .ok (.getfield 28, 3) := by decide +kernel
theorem d_X8_lend_72 : decode oX8_lend.2.1 72 = .ok (.iload_n 1, 1) := by decide +kernel
theorem d_X8_lend_73 : decode oX8_lend.2.1 73 = .ok (.iload_n 2, 1) := by decide +kernel
theorem d_X8_lend_74 : decode oX8_lend.2.1 74 = .ok (.iload_n 3, 1) := by decide +kernel
theorem d_X8_lend_75 : decode oX8_lend.2.1 75 = .ok (.iload 4, 2) := by decide +kernel
theorem d_X8_lend_77 : decode oX8_lend.2.1 77 = .ok (.invokevirtual 195, 3) := by decide +kernel
theorem d_X8_lend_80 : decode oX8_lend.2.1 80 = .ok (.aload_n 0, 1) := by decide +kernel
theorem d_X8_lend_81 : decode oX8_lend.2.1 81 = .ok (.getfield 28, 3) := by decide +kernel
theorem d_X8_lend_84 : decode oX8_lend.2.1 84 = .ok (.getfield 140, 3) := by decide +kernel
theorem d_X8_lend_87 : decode oX8_lend.2.1 87 = .ok (.iload_n 2, 1) := by decide +kernel
theorem d_X8_lend_88 : decode oX8_lend.2.1 88 = .ok (.iaload, 1) := by decide +kernel
theorem d_X8_lend_89 : decode oX8_lend.2.1 89 = .ok (.ireturn, 1) := by decide +kernel
theorem b_X8_lend_0 {E : ob_E} {σ : ob_Mem} {Q : Int32 → ob_Mem → Prop} {x1 x2 x3 x4 : Int32} (k : ob_RM shp E oX2_hasBirthday [.ref 10, .int x1] σ (ob_qI fun v2 σ1 => ((v2 = 0 → Q (-1000000001 : Int32) σ1) ∧ (¬ v2 = 0 → ob_RM shp E oX2_hasPerson [.ref 10, .int x2] σ1 (ob_qI fun v4 σ3 => ((¬ v4 = 0 → ob_RM shp E oX8_isOutside [.int x3, .int (1 : Int32), .int (9999 : Int32)] σ3 (ob_qI fun v6 σ5 => ((¬ v6 = 0 → Q (-1000000002 : Int32) σ5) ∧ (v6 = 0 → ob_RM shp E oX8_isOutside [.int x4, .int (0 : Int32), .int (999 : Int32)] σ5 (ob_qI fun v8 σ7 => ((v8 = 0 → ob_RM shp E oX6_mayDeal [.ref 17, .int x1, .int x2, .int x4] σ7 (ob_qI fun v10 σ9 => ((¬ v10 = 0 → ob_RM shp E oX6_lendTo [.ref 17, .int x1, .int x2, .int x3, .int x4] σ9 (ob_qV fun σ11 => (vp_in x2 6 ∧ Q (σ11.1 19 (x2).toNatClampNeg) σ11))) ∧ (v10 = 0 → Q (-1000000003 : Int32) σ9)))) ∧ (¬ v8 = 0 → Q (-1000000002 : Int32) σ7))))))) ∧ (v4 = 0 → Q (-1000000001 : Int32) σ3))))))) : ob_RT shp E oX8_lend 0 [.ref 0, .int x1, .int x2, .int x3, .int x4] [] σ (ob_qI Q) := by
  refine ob_aload_n d_X8_lend_0 rfl ?_
  refine ob_getR d_X8_lend_1 fl_X8_19 sh_0 rfl rfl ?_
  refine ob_iload_n d_X8_lend_4 rfl ?_
  refine ob_callV [.int x1] (z := oX2_hasBirthday) (st := []) d_X8_lend_5 lk_X8_153 mv_X2_hasBirthday rfl sh_10 cl_2 rfl (Nat.le_of_ble_eq_true rfl) rfl k (ob_kI fun v2 σ1 k => ?_)
  refine ob_if_eq (tgt := 22) d_X8_lend_8 rfl (fun cc => ?_) (fun cc => ?_)
  · have k := k.1 cc
    refine ob_ldc (v := -1000000001) d_X8_lend_22 k_X8_135 ?_
    exact ob_iret d_X8_lend_24 rfl ⟨_, rfl, k⟩
  · have k := k.2 cc
    refine ob_aload_n d_X8_lend_11 rfl ?_
    refine ob_getR d_X8_lend_12 fl_X8_19 sh_0 rfl rfl ?_
    refine ob_iload_n d_X8_lend_15 rfl ?_
    refine ob_callV [.int x2] (z := oX2_hasPerson) (st := []) d_X8_lend_16 lk_X8_132 mv_X2_hasPerson rfl sh_10 cl_2 rfl (Nat.le_of_ble_eq_true rfl) rfl k (ob_kI fun v4 σ3 k => ?_)
    refine ob_if_ne (tgt := 25) d_X8_lend_19 rfl (fun cc => ?_) (fun cc => ?_)
    · have k := k.1 cc
      refine ob_iload_n d_X8_lend_25 rfl ?_
      refine ob_iconst (v := 1) d_X8_lend_26 ci_1 ?_
      refine ob_sipush (v := 9999) d_X8_lend_27 cs_9999 ?_
      refine ob_callS [.int x3, .int (1 : Int32), .int (9999 : Int32)] (z := oX8_isOutside) (st := []) d_X8_lend_30 lk_X8_80 ms_X8_isOutside rfl (Nat.le_of_ble_eq_true rfl) rfl k (ob_kI fun v6 σ5 k => ?_)
      refine ob_if_ne (tgt := 48) d_X8_lend_33 rfl (fun cc => ?_) (fun cc => ?_)
      · have k := k.1 cc
        refine ob_ldc (v := -1000000002) d_X8_lend_48 k_X8_84 ?_
        exact ob_iret d_X8_lend_50 rfl ⟨_, rfl, k⟩
      · have k := k.2 cc
        refine ob_iload d_X8_lend_36 rfl ?_
        refine ob_iconst (v := 0) d_X8_lend_38 ci_0 ?_
        refine ob_sipush (v := 999) d_X8_lend_39 cs_999 ?_
        refine ob_callS [.int x4, .int (0 : Int32), .int (999 : Int32)] (z := oX8_isOutside) (st := []) d_X8_lend_42 lk_X8_80 ms_X8_isOutside rfl (Nat.le_of_ble_eq_true rfl) rfl k (ob_kI fun v8 σ7 k => ?_)
        refine ob_if_eq (tgt := 51) d_X8_lend_45 rfl (fun cc => ?_) (fun cc => ?_)
        · have k := k.1 cc
          refine ob_aload_n d_X8_lend_51 rfl ?_
          refine ob_getR d_X8_lend_52 fl_X8_28 sh_0 rfl rfl ?_
          refine ob_iload_n d_X8_lend_55 rfl ?_
          refine ob_iload_n d_X8_lend_56 rfl ?_
          refine ob_iload d_X8_lend_57 rfl ?_
          refine ob_callV [.int x1, .int x2, .int x4] (z := oX6_mayDeal) (st := []) d_X8_lend_59 lk_X8_187 mv_X6_mayDeal rfl sh_17 cl_6 rfl (Nat.le_of_ble_eq_true rfl) rfl k (ob_kI fun v10 σ9 k => ?_)
          refine ob_if_ne (tgt := 68) d_X8_lend_62 rfl (fun cc => ?_) (fun cc => ?_)
          · have k := k.1 cc
            refine ob_aload_n d_X8_lend_68 rfl ?_
            refine ob_getR d_X8_lend_69 fl_X8_28 sh_0 rfl rfl ?_
            refine ob_iload_n d_X8_lend_72 rfl ?_
            refine ob_iload_n d_X8_lend_73 rfl ?_
            refine ob_iload_n d_X8_lend_74 rfl ?_
            refine ob_iload d_X8_lend_75 rfl ?_
            refine ob_callV [.int x1, .int x2, .int x3, .int x4] (z := oX6_lendTo) (st := []) d_X8_lend_77 lk_X8_195 mv_X6_lendTo rfl sh_17 cl_6 rfl (Nat.le_of_ble_eq_true rfl) rfl k (ob_kV fun σ11 k => ?_)
            refine ob_aload_n d_X8_lend_80 rfl ?_
            refine ob_getR d_X8_lend_81 fl_X8_28 sh_0 rfl rfl ?_
            refine ob_getR d_X8_lend_84 fl_X8_140 sh_17 rfl rfl ?_
            refine ob_iload_n d_X8_lend_87 rfl ?_
            obtain ⟨hin, k⟩ := k
            refine ob_iald d_X8_lend_88 sh_19 hin ?_
            exact ob_iret d_X8_lend_89 rfl ⟨_, rfl, k⟩
          · have k := k.2 cc
            refine ob_ldc (v := -1000000003) d_X8_lend_65 k_X8_190 ?_
            exact ob_iret d_X8_lend_67 rfl ⟨_, rfl, k⟩
        · have k := k.2 cc
          refine ob_ldc (v := -1000000002) d_X8_lend_48 k_X8_84 ?_
          exact ob_iret d_X8_lend_50 rfl ⟨_, rfl, k⟩
    · have k := k.2 cc
      refine ob_ldc (v := -1000000001) d_X8_lend_22 k_X8_135 ?_
      exact ob_iret d_X8_lend_24 rfl ⟨_, rfl, k⟩
theorem d_X8_die_0 : decode oX8_die.2.1 0 = .ok (.aload_n 0, 1) := by decide +kernel
theorem d_X8_die_1 : decode oX8_die.2.1 1 = .ok (.getfield 19, 3) := by decide +kernel
theorem d_X8_die_4 : decode oX8_die.2.1 4 = .ok (.iload_n 1, 1) := by decide +kernel
theorem d_X8_die_5 : decode oX8_die.2.1 5 = .ok (.invokevirtual 132, 3) := by decide +kernel
theorem d_X8_die_8 : decode oX8_die.2.1 8 = .ok (.ifCond .ne 6, 3) := by decide +kernel
theorem d_X8_die_11 : decode oX8_die.2.1 11 = .ok (.ldc 135, 2) := by decide +kernel
theorem d_X8_die_13 : decode oX8_die.2.1 13 = .ok (.ireturn, 1) := by decide +kernel
theorem d_X8_die_14 : decode oX8_die.2.1 14 = .ok (.aload_n 0, 1) := by decide +kernel
theorem d_X8_die_15 : decode oX8_die.2.1 15 = .ok (.getfield 28, 3) := by decide +kernel
theorem d_X8_die_18 : decode oX8_die.2.1 18 = .ok (.iload_n 1, 1) := by decide +kernel
theorem d_X8_die_19 : decode oX8_die.2.1 19 = .ok (.invokevirtual 143, 3) := by decide +kernel
theorem d_X8_die_22 : decode oX8_die.2.1 22 = .ok (.ifCond .ne 6, 3) := by decide +kernel
theorem d_X8_die_25 : decode oX8_die.2.1 25 = .ok (.ldc 190, 2) := by decide +kernel
theorem d_X8_die_27 : decode oX8_die.2.1 27 = .ok (.ireturn, 1) := by decide +kernel
theorem d_X8_die_28 : decode oX8_die.2.1 28 = .ok (.aload_n 0, 1) := by decide +kernel
theorem d_X8_die_29 : decode oX8_die.2.1 29 = .ok (.getfield 28, 3) := by decide +kernel
theorem d_X8_die_32 : decode oX8_die.2.1 32 = .ok (.iload_n 1, 1) := by decide +kernel
theorem d_X8_die_33 : decode oX8_die.2.1 33 = .ok (.invokevirtual 199, 3) := by decide +kernel
theorem d_X8_die_36 : decode oX8_die.2.1 36 = .ok (.ireturn, 1) := by decide +kernel
theorem b_X8_die_0 {E : ob_E} {σ : ob_Mem} {Q : Int32 → ob_Mem → Prop} {x1 : Int32} (k : ob_RM shp E oX2_hasPerson [.ref 10, .int x1] σ (ob_qI fun v2 σ1 => ((¬ v2 = 0 → ob_RM shp E oX6_lives [.ref 17, .int x1] σ1 (ob_qI fun v4 σ3 => ((¬ v4 = 0 → ob_RM shp E oX6_endLife [.ref 17, .int x1] σ3 (ob_qI fun v6 σ5 => Q v6 σ5)) ∧ (v4 = 0 → Q (-1000000003 : Int32) σ3)))) ∧ (v2 = 0 → Q (-1000000001 : Int32) σ1)))) : ob_RT shp E oX8_die 0 [.ref 0, .int x1] [] σ (ob_qI Q) := by
  refine ob_aload_n d_X8_die_0 rfl ?_
  refine ob_getR d_X8_die_1 fl_X8_19 sh_0 rfl rfl ?_
  refine ob_iload_n d_X8_die_4 rfl ?_
  refine ob_callV [.int x1] (z := oX2_hasPerson) (st := []) d_X8_die_5 lk_X8_132 mv_X2_hasPerson rfl sh_10 cl_2 rfl (Nat.le_of_ble_eq_true rfl) rfl k (ob_kI fun v2 σ1 k => ?_)
  refine ob_if_ne (tgt := 14) d_X8_die_8 rfl (fun cc => ?_) (fun cc => ?_)
  · have k := k.1 cc
    refine ob_aload_n d_X8_die_14 rfl ?_
    refine ob_getR d_X8_die_15 fl_X8_28 sh_0 rfl rfl ?_
    refine ob_iload_n d_X8_die_18 rfl ?_
    refine ob_callV [.int x1] (z := oX6_lives) (st := []) d_X8_die_19 lk_X8_143 mv_X6_lives rfl sh_17 cl_6 rfl (Nat.le_of_ble_eq_true rfl) rfl k (ob_kI fun v4 σ3 k => ?_)
    refine ob_if_ne (tgt := 28) d_X8_die_22 rfl (fun cc => ?_) (fun cc => ?_)
    · have k := k.1 cc
      refine ob_aload_n d_X8_die_28 rfl ?_
      refine ob_getR d_X8_die_29 fl_X8_28 sh_0 rfl rfl ?_
      refine ob_iload_n d_X8_die_32 rfl ?_
      refine ob_callV [.int x1] (z := oX6_endLife) (st := []) d_X8_die_33 lk_X8_199 mv_X6_endLife rfl sh_17 cl_6 rfl (Nat.le_of_ble_eq_true rfl) rfl k (ob_kI fun v6 σ5 k => ?_)
      exact ob_iret d_X8_die_36 rfl ⟨_, rfl, k⟩
    · have k := k.2 cc
      refine ob_ldc (v := -1000000003) d_X8_die_25 k_X8_190 ?_
      exact ob_iret d_X8_die_27 rfl ⟨_, rfl, k⟩
  · have k := k.2 cc
    refine ob_ldc (v := -1000000001) d_X8_die_11 k_X8_135 ?_
    exact ob_iret d_X8_die_13 rfl ⟨_, rfl, k⟩
theorem d_X8_begin_0 : decode oX8_begin.2.1 0 = .ok (.aload_n 0, 1) := by decide +kernel
theorem d_X8_begin_1 : decode oX8_begin.2.1 1 = .ok (.getfield 28, 3) := by decide +kernel
theorem d_X8_begin_4 : decode oX8_begin.2.1 4 = .ok (.getfield 123, 3) := by decide +kernel
theorem d_X8_begin_7 : decode oX8_begin.2.1 7 = .ok (.istore_n 1, 1) := by decide +kernel
theorem d_X8_begin_8 : decode oX8_begin.2.1 8 = .ok (.aload_n 0, 1) := by decide +kernel
theorem d_X8_begin_9 : decode oX8_begin.2.1 9 = .ok (.getfield 28, 3) := by decide +kernel
theorem d_X8_begin_12 : decode oX8_begin.2.1 12 = .ok (.invokevirtual 108, 3) := by decide +kernel
theorem d_X8_begin_15 : decode oX8_begin.2.1 15 = .ok (.iload_n 1, 1) := by decide +kernel
theorem d_X8_begin_16 : decode oX8_begin.2.1 16 = .ok (.ireturn, 1) := by decide +kernel
theorem b_X8_begin_0 {E : ob_E} {σ : ob_Mem} {Q : Int32 → ob_Mem → Prop} (k : ob_RM shp E oX6_startAnew [.ref 17] σ (ob_qV fun σ1 => Q (σ.1 17 7) σ1)) : ob_RT shp E oX8_begin 0 [.ref 0, .null] [] σ (ob_qI Q) := by
  refine ob_aload_n d_X8_begin_0 rfl ?_
  refine ob_getR d_X8_begin_1 fl_X8_28 sh_0 rfl rfl ?_
  refine ob_getI d_X8_begin_4 fl_X8_123 sh_17 rfl (by decide) ?_
  refine ob_istore_n (ls' := [.ref 0, .int (σ.1 17 7)]) d_X8_begin_7 (Nat.le_of_ble_eq_true rfl) rfl ?_
  refine ob_aload_n d_X8_begin_8 rfl ?_
  refine ob_getR d_X8_begin_9 fl_X8_28 sh_0 rfl rfl ?_
  refine ob_callV [] (z := oX6_startAnew) (st := []) d_X8_begin_12 lk_X8_108 mv_X6_startAnew rfl sh_17 cl_6 rfl (Nat.le_of_ble_eq_true rfl) rfl k (ob_kV fun σ1 k => ?_)
  refine ob_iload_n d_X8_begin_15 rfl ?_
  exact ob_iret d_X8_begin_16 rfl ⟨_, rfl, k⟩
theorem d_X8_foretold_0 : decode oX8_foretold.2.1 0 = .ok (.aload_n 0, 1) := by decide +kernel
theorem d_X8_foretold_1 : decode oX8_foretold.2.1 1 = .ok (.getfield 19, 3) := by decide +kernel
theorem d_X8_foretold_4 : decode oX8_foretold.2.1 4 = .ok (.iload_n 1, 1) := by decide +kernel
theorem d_X8_foretold_5 : decode oX8_foretold.2.1 5 = .ok (.invokevirtual 132, 3) := by decide +kernel
theorem d_X8_foretold_8 : decode oX8_foretold.2.1 8 = .ok (.ifCond .ne 6, 3) := by decide +kernel
theorem d_X8_foretold_11 : decode oX8_foretold.2.1 11 = .ok (.ldc 135, 2) := by decide +kernel
theorem d_X8_foretold_13 : decode oX8_foretold.2.1 13 = .ok (.ireturn, 1) := by decide +kernel
theorem d_X8_foretold_14 : decode oX8_foretold.2.1 14 = .ok (.iload_n 2, 1) := by decide +kernel
theorem d_X8_foretold_15 : decode oX8_foretold.2.1 15 = .ok (.iconst 0, 1) := by decide +kernel
theorem d_X8_foretold_16 : decode oX8_foretold.2.1 16 = .ok (.ldc 202, 2) := by decide +kernel
theorem d_X8_foretold_18 : decode oX8_foretold.2.1 18 = .ok (.invokestatic 80, 3) := by decide +kernel
theorem d_X8_foretold_21 : decode oX8_foretold.2.1 21 = .ok (.ifCond .eq 6, 3) := by decide +kernel
theorem d_X8_foretold_24 : decode oX8_foretold.2.1 24 = .ok (.ldc 84, 2) := by decide +kernel
theorem d_X8_foretold_26 : decode oX8_foretold.2.1 26 = .ok (.ireturn, 1) := by decide +kernel
theorem d_X8_foretold_27 : decode oX8_foretold.2.1 27 = .ok (.aload_n 0, 1) := by decide +kernel
theorem d_X8_foretold_28 : decode oX8_foretold.2.1 28 = .ok (.getfield 28, 3) := by decide +kernel
theorem d_X8_foretold_31 : decode oX8_foretold.2.1 31 = .ok (.iload_n 1, 1) := by decide +kernel
theorem d_X8_foretold_32 : decode oX8_foretold.2.1 32 = .ok (.iload_n 2, 1) := by decide +kernel
theorem d_X8_foretold_33 : decode oX8_foretold.2.1 33 = .ok (.iconst (-1), 1) := by decide +kernel
theorem d_X8_foretold_34 : decode oX8_foretold.2.1 34 = .ok (.invokevirtual 203, 3) := by decide +kernel
theorem d_X8_foretold_37 : decode oX8_foretold.2.1 37 = .ok (.ireturn, 1) := by decide +kernel
theorem b_X8_foretold_0 {E : ob_E} {σ : ob_Mem} {Q : Int32 → ob_Mem → Prop} {x1 x2 : Int32} (k : ob_RM shp E oX2_hasPerson [.ref 10, .int x1] σ (ob_qI fun v2 σ1 => ((¬ v2 = 0 → ob_RM shp E oX8_isOutside [.int x2, .int (0 : Int32), .int (99999 : Int32)] σ1 (ob_qI fun v4 σ3 => ((v4 = 0 → ob_RM shp E oX6_ageBehind [.ref 17, .int x1, .int x2, .int (-1 : Int32)] σ3 (ob_qI fun v6 σ5 => Q v6 σ5)) ∧ (¬ v4 = 0 → Q (-1000000002 : Int32) σ3)))) ∧ (v2 = 0 → Q (-1000000001 : Int32) σ1)))) : ob_RT shp E oX8_foretold 0 [.ref 0, .int x1, .int x2] [] σ (ob_qI Q) := by
  refine ob_aload_n d_X8_foretold_0 rfl ?_
  refine ob_getR d_X8_foretold_1 fl_X8_19 sh_0 rfl rfl ?_
  refine ob_iload_n d_X8_foretold_4 rfl ?_
  refine ob_callV [.int x1] (z := oX2_hasPerson) (st := []) d_X8_foretold_5 lk_X8_132 mv_X2_hasPerson rfl sh_10 cl_2 rfl (Nat.le_of_ble_eq_true rfl) rfl k (ob_kI fun v2 σ1 k => ?_)
  refine ob_if_ne (tgt := 14) d_X8_foretold_8 rfl (fun cc => ?_) (fun cc => ?_)
  · have k := k.1 cc
    refine ob_iload_n d_X8_foretold_14 rfl ?_
    refine ob_iconst (v := 0) d_X8_foretold_15 ci_0 ?_
    refine ob_ldc (v := 99999) d_X8_foretold_16 k_X8_202 ?_
    refine ob_callS [.int x2, .int (0 : Int32), .int (99999 : Int32)] (z := oX8_isOutside) (st := []) d_X8_foretold_18 lk_X8_80 ms_X8_isOutside rfl (Nat.le_of_ble_eq_true rfl) rfl k (ob_kI fun v4 σ3 k => ?_)
    refine ob_if_eq (tgt := 27) d_X8_foretold_21 rfl (fun cc => ?_) (fun cc => ?_)
    · have k := k.1 cc
      refine ob_aload_n d_X8_foretold_27 rfl ?_
      refine ob_getR d_X8_foretold_28 fl_X8_28 sh_0 rfl rfl ?_
      refine ob_iload_n d_X8_foretold_31 rfl ?_
      refine ob_iload_n d_X8_foretold_32 rfl ?_
      refine ob_iconst (v := -1) d_X8_foretold_33 ci_m1 ?_
      refine ob_callV [.int x1, .int x2, .int (-1 : Int32)] (z := oX6_ageBehind) (st := []) d_X8_foretold_34 lk_X8_203 mv_X6_ageBehind rfl sh_17 cl_6 rfl (Nat.le_of_ble_eq_true rfl) rfl k (ob_kI fun v6 σ5 k => ?_)
      exact ob_iret d_X8_foretold_37 rfl ⟨_, rfl, k⟩
    · have k := k.2 cc
      refine ob_ldc (v := -1000000002) d_X8_foretold_24 k_X8_84 ?_
      exact ob_iret d_X8_foretold_26 rfl ⟨_, rfl, k⟩
  · have k := k.2 cc
    refine ob_ldc (v := -1000000001) d_X8_foretold_11 k_X8_135 ?_
    exact ob_iret d_X8_foretold_13 rfl ⟨_, rfl, k⟩
theorem d_X8_coin_0 : decode oX8_coin.2.1 0 = .ok (.aload_n 0, 1) := by decide +kernel
theorem d_X8_coin_1 : decode oX8_coin.2.1 1 = .ok (.getfield 19, 3) := by decide +kernel
theorem d_X8_coin_4 : decode oX8_coin.2.1 4 = .ok (.iload_n 1, 1) := by decide +kernel
theorem d_X8_coin_5 : decode oX8_coin.2.1 5 = .ok (.invokevirtual 132, 3) := by decide +kernel
theorem d_X8_coin_8 : decode oX8_coin.2.1 8 = .ok (.ifCond .ne 6, 3) := by decide +kernel
theorem d_X8_coin_11 : decode oX8_coin.2.1 11 = .ok (.ldc 135, 2) := by decide +kernel
theorem d_X8_coin_13 : decode oX8_coin.2.1 13 = .ok (.ireturn, 1) := by decide +kernel
theorem d_X8_coin_14 : decode oX8_coin.2.1 14 = .ok (.iload_n 2, 1) := by decide +kernel
theorem d_X8_coin_15 : decode oX8_coin.2.1 15 = .ok (.iconst 0, 1) := by decide +kernel
theorem d_X8_coin_16 : decode oX8_coin.2.1 16 = .ok (.sipush 999, 3) := by decide +kernel
theorem d_X8_coin_19 : decode oX8_coin.2.1 19 = .ok (.invokestatic 80, 3) := by decide +kernel
theorem d_X8_coin_22 : decode oX8_coin.2.1 22 = .ok (.ifCond .ne 24, 3) := by decide +kernel
theorem d_X8_coin_25 : decode oX8_coin.2.1 25 = .ok (.iload_n 3, 1) := by decide +kernel
theorem d_X8_coin_26 : decode oX8_coin.2.1 26 = .ok (.iconst 1, 1) := by decide +kernel
theorem d_X8_coin_27 : decode oX8_coin.2.1 27 = .ok (.sipush 9999, 3) := by decide +kernel
theorem d_X8_coin_30 : decode oX8_coin.2.1 30 = .ok (.invokestatic 80, 3) := by decide +kernel
theorem d_X8_coin_33 : decode oX8_coin.2.1 33 = .ok (.ifCond .ne 13, 3) := by decide +kernel
theorem d_X8_coin_36 : decode oX8_coin.2.1 36 = .ok (.iload 4, 2) := by decide +kernel
theorem d_X8_coin_38 : decode oX8_coin.2.1 38 = .ok (.iconst 0, 1) := by decide +kernel
theorem d_X8_coin_39 : decode oX8_coin.2.1 39 = .ok (.iconst 1, 1) := by decide +kernel
theorem d_X8_coin_40 : decode oX8_coin.2.1 40 = .ok (.invokestatic 80, 3) := by decide +kernel
theorem d_X8_coin_43 : decode oX8_coin.2.1 43 = .ok (.ifCond .eq 6, 3) := by decide +kernel
theorem d_X8_coin_46 : decode oX8_coin.2.1 46 = .ok (.ldc 84, 2) := by decide +kernel
theorem d_X8_coin_48 : decode oX8_coin.2.1 48 = .ok (.ireturn, 1) := by decide +kernel
theorem d_X8_coin_49 : decode oX8_coin.2.1 49 = .ok (.aload_n 0, 1) := by decide +kernel
theorem d_X8_coin_50 : decode oX8_coin.2.1 50 = .ok (.getfield 28, 3) := by decide +kernel
theorem d_X8_coin_53 : decode oX8_coin.2.1 53 = .ok (.iload_n 1, 1) := by decide +kernel
theorem d_X8_coin_54 : decode oX8_coin.2.1 54 = .ok (.invokevirtual 143, 3) := by decide +kernel
theorem d_X8_coin_57 : decode oX8_coin.2.1 57 = .ok (.ifCond .ne 6, 3) := by decide +kernel
theorem d_X8_coin_60 : decode oX8_coin.2.1 60 = .ok (.ldc 190, 2) := by decide +kernel
theorem d_X8_coin_62 : decode oX8_coin.2.1 62 = .ok (.ireturn, 1) := by decide +kernel
theorem d_X8_coin_63 : decode oX8_coin.2.1 63 = .ok (.aload_n 0, 1) := by decide +kernel
theorem d_X8_coin_64 : decode oX8_coin.2.1 64 = .ok (.getfield 48, 3) := by decide +kernel
theorem d_X8_coin_67 : decode oX8_coin.2.1 67 = .ok (.aload_n 0, 1) := by decide +kernel
theorem d_X8_coin_68 : decode oX8_coin.2.1 68 = .ok (.getfield 28, 3) := by decide +kernel
theorem d_X8_coin_71 : decode oX8_coin.2.1 71 = .ok (.iload_n 1, 1) := by decide +kernel
theorem d_X8_coin_72 : decode oX8_coin.2.1 72 = .ok (.iload_n 2, 1) := by decide +kernel
theorem d_X8_coin_73 : decode oX8_coin.2.1 73 = .ok (.iload_n 3, 1) := by decide +kernel
theorem d_X8_coin_74 : decode oX8_coin.2.1 74 = .ok (.invokevirtual 207, 3) := by decide +kernel
theorem d_X8_coin_77 : decode oX8_coin.2.1 77 = .ok (.iload 4, 2) := by decide +kernel
theorem d_X8_coin_79 : decode oX8_coin.2.1 79 = .ok (.ifCond .ne 13, 3) := by decide +kernel
theorem d_X8_coin_82 : decode oX8_coin.2.1 82 = .ok (.aload_n 0, 1) := by decide +kernel
theorem d_X8_coin_83 : decode oX8_coin.2.1 83 = .ok (.getfield 48, 3) := by decide +kernel
theorem d_X8_coin_86 : decode oX8_coin.2.1 86 = .ok (.getfield 211, 3) := by decide +kernel
theorem d_X8_coin_89 : decode oX8_coin.2.1 89 = .ok (.goto 10, 3) := by decide +kernel
theorem d_X8_coin_92 : decode oX8_coin.2.1 92 = .ok (.aload_n 0, 1) := by decide +kernel
theorem d_X8_coin_93 : decode oX8_coin.2.1 93 = .ok (.getfield 48, 3) := by decide +kernel
theorem d_X8_coin_96 : decode oX8_coin.2.1 96 = .ok (.getfield 214, 3) := by decide +kernel
theorem d_X8_coin_99 : decode oX8_coin.2.1 99 = .ok (.ireturn, 1) := by decide +kernel
theorem b_X8_coin_0 {E : ob_E} {σ : ob_Mem} {Q : Int32 → ob_Mem → Prop} {x1 x2 x3 x4 : Int32} (k : ob_RM shp E oX2_hasPerson [.ref 10, .int x1] σ (ob_qI fun v2 σ1 => ((¬ v2 = 0 → ob_RM shp E oX8_isOutside [.int x2, .int (0 : Int32), .int (999 : Int32)] σ1 (ob_qI fun v4 σ3 => ((¬ v4 = 0 → Q (-1000000002 : Int32) σ3) ∧ (v4 = 0 → ob_RM shp E oX8_isOutside [.int x3, .int (1 : Int32), .int (9999 : Int32)] σ3 (ob_qI fun v6 σ5 => ((¬ v6 = 0 → Q (-1000000002 : Int32) σ5) ∧ (v6 = 0 → ob_RM shp E oX8_isOutside [.int x4, .int (0 : Int32), .int (1 : Int32)] σ5 (ob_qI fun v8 σ7 => ((v8 = 0 → ob_RM shp E oX6_lives [.ref 17, .int x1] σ7 (ob_qI fun v10 σ9 => ((¬ v10 = 0 → ob_RM shp E oX0_search [.ref 39, .ref 17, .int x1, .int x2, .int x3] σ9 (ob_qV fun σ11 => ((¬ x4 = 0 → Q (σ11.1 39 3) σ11) ∧ (x4 = 0 → Q (σ11.1 39 2) σ11)))) ∧ (v10 = 0 → Q (-1000000003 : Int32) σ9)))) ∧ (¬ v8 = 0 → Q (-1000000002 : Int32) σ7)))))))))) ∧ (v2 = 0 → Q (-1000000001 : Int32) σ1)))) : ob_RT shp E oX8_coin 0 [.ref 0, .int x1, .int x2, .int x3, .int x4] [] σ (ob_qI Q) := by
  refine ob_aload_n d_X8_coin_0 rfl ?_
  refine ob_getR d_X8_coin_1 fl_X8_19 sh_0 rfl rfl ?_
  refine ob_iload_n d_X8_coin_4 rfl ?_
  refine ob_callV [.int x1] (z := oX2_hasPerson) (st := []) d_X8_coin_5 lk_X8_132 mv_X2_hasPerson rfl sh_10 cl_2 rfl (Nat.le_of_ble_eq_true rfl) rfl k (ob_kI fun v2 σ1 k => ?_)
  refine ob_if_ne (tgt := 14) d_X8_coin_8 rfl (fun cc => ?_) (fun cc => ?_)
  · have k := k.1 cc
    refine ob_iload_n d_X8_coin_14 rfl ?_
    refine ob_iconst (v := 0) d_X8_coin_15 ci_0 ?_
    refine ob_sipush (v := 999) d_X8_coin_16 cs_999 ?_
    refine ob_callS [.int x2, .int (0 : Int32), .int (999 : Int32)] (z := oX8_isOutside) (st := []) d_X8_coin_19 lk_X8_80 ms_X8_isOutside rfl (Nat.le_of_ble_eq_true rfl) rfl k (ob_kI fun v4 σ3 k => ?_)
    refine ob_if_ne (tgt := 46) d_X8_coin_22 rfl (fun cc => ?_) (fun cc => ?_)
    · have k := k.1 cc
      refine ob_ldc (v := -1000000002) d_X8_coin_46 k_X8_84 ?_
      exact ob_iret d_X8_coin_48 rfl ⟨_, rfl, k⟩
    · have k := k.2 cc
      refine ob_iload_n d_X8_coin_25 rfl ?_
      refine ob_iconst (v := 1) d_X8_coin_26 ci_1 ?_
      refine ob_sipush (v := 9999) d_X8_coin_27 cs_9999 ?_
      refine ob_callS [.int x3, .int (1 : Int32), .int (9999 : Int32)] (z := oX8_isOutside) (st := []) d_X8_coin_30 lk_X8_80 ms_X8_isOutside rfl (Nat.le_of_ble_eq_true rfl) rfl k (ob_kI fun v6 σ5 k => ?_)
      refine ob_if_ne (tgt := 46) d_X8_coin_33 rfl (fun cc => ?_) (fun cc => ?_)
      · have k := k.1 cc
        refine ob_ldc (v := -1000000002) d_X8_coin_46 k_X8_84 ?_
        exact ob_iret d_X8_coin_48 rfl ⟨_, rfl, k⟩
      · have k := k.2 cc
        refine ob_iload d_X8_coin_36 rfl ?_
        refine ob_iconst (v := 0) d_X8_coin_38 ci_0 ?_
        refine ob_iconst (v := 1) d_X8_coin_39 ci_1 ?_
        refine ob_callS [.int x4, .int (0 : Int32), .int (1 : Int32)] (z := oX8_isOutside) (st := []) d_X8_coin_40 lk_X8_80 ms_X8_isOutside rfl (Nat.le_of_ble_eq_true rfl) rfl k (ob_kI fun v8 σ7 k => ?_)
        refine ob_if_eq (tgt := 49) d_X8_coin_43 rfl (fun cc => ?_) (fun cc => ?_)
        · have k := k.1 cc
          refine ob_aload_n d_X8_coin_49 rfl ?_
          refine ob_getR d_X8_coin_50 fl_X8_28 sh_0 rfl rfl ?_
          refine ob_iload_n d_X8_coin_53 rfl ?_
          refine ob_callV [.int x1] (z := oX6_lives) (st := []) d_X8_coin_54 lk_X8_143 mv_X6_lives rfl sh_17 cl_6 rfl (Nat.le_of_ble_eq_true rfl) rfl k (ob_kI fun v10 σ9 k => ?_)
          refine ob_if_ne (tgt := 63) d_X8_coin_57 rfl (fun cc => ?_) (fun cc => ?_)
          · have k := k.1 cc
            refine ob_aload_n d_X8_coin_63 rfl ?_
            refine ob_getR d_X8_coin_64 fl_X8_48 sh_0 rfl rfl ?_
            refine ob_aload_n d_X8_coin_67 rfl ?_
            refine ob_getR d_X8_coin_68 fl_X8_28 sh_0 rfl rfl ?_
            refine ob_iload_n d_X8_coin_71 rfl ?_
            refine ob_iload_n d_X8_coin_72 rfl ?_
            refine ob_iload_n d_X8_coin_73 rfl ?_
            refine ob_callV [.ref 17, .int x1, .int x2, .int x3] (z := oX0_search) (st := []) d_X8_coin_74 lk_X8_207 mv_X0_search rfl sh_39 cl_0 rfl (Nat.le_of_ble_eq_true rfl) rfl k (ob_kV fun σ11 k => ?_)
            refine ob_iload d_X8_coin_77 rfl ?_
            refine ob_if_ne (tgt := 92) d_X8_coin_79 rfl (fun cc => ?_) (fun cc => ?_)
            · have k := k.1 cc
              refine ob_aload_n d_X8_coin_92 rfl ?_
              refine ob_getR d_X8_coin_93 fl_X8_48 sh_0 rfl rfl ?_
              refine ob_getI d_X8_coin_96 fl_X8_214 sh_39 rfl (by decide) ?_
              exact ob_iret d_X8_coin_99 rfl ⟨_, rfl, k⟩
            · have k := k.2 cc
              refine ob_aload_n d_X8_coin_82 rfl ?_
              refine ob_getR d_X8_coin_83 fl_X8_48 sh_0 rfl rfl ?_
              refine ob_getI d_X8_coin_86 fl_X8_211 sh_39 rfl (by decide) ?_
              refine ob_goto (tgt := 99) d_X8_coin_89 rfl ?_
              exact ob_iret d_X8_coin_99 rfl ⟨_, rfl, k⟩
          · have k := k.2 cc
            refine ob_ldc (v := -1000000003) d_X8_coin_60 k_X8_190 ?_
            exact ob_iret d_X8_coin_62 rfl ⟨_, rfl, k⟩
        · have k := k.2 cc
          refine ob_ldc (v := -1000000002) d_X8_coin_46 k_X8_84 ?_
          exact ob_iret d_X8_coin_48 rfl ⟨_, rfl, k⟩
  · have k := k.2 cc
    refine ob_ldc (v := -1000000001) d_X8_coin_11 k_X8_135 ?_
    exact ob_iret d_X8_coin_13 rfl ⟨_, rfl, k⟩
theorem d_X8_life_0 : decode oX8_life.2.1 0 = .ok (.aload_n 0, 1) := by decide +kernel
theorem d_X8_life_1 : decode oX8_life.2.1 1 = .ok (.getfield 19, 3) := by decide +kernel
theorem d_X8_life_4 : decode oX8_life.2.1 4 = .ok (.iload_n 1, 1) := by decide +kernel
theorem d_X8_life_5 : decode oX8_life.2.1 5 = .ok (.invokevirtual 132, 3) := by decide +kernel
theorem d_X8_life_8 : decode oX8_life.2.1 8 = .ok (.ifCond .ne 6, 3) := by decide +kernel
theorem d_X8_life_11 : decode oX8_life.2.1 11 = .ok (.ldc 135, 2) := by decide +kernel
theorem d_X8_life_13 : decode oX8_life.2.1 13 = .ok (.ireturn, 1) := by decide +kernel
theorem d_X8_life_14 : decode oX8_life.2.1 14 = .ok (.iload_n 2, 1) := by decide +kernel
theorem d_X8_life_15 : decode oX8_life.2.1 15 = .ok (.iconst 1, 1) := by decide +kernel
theorem d_X8_life_16 : decode oX8_life.2.1 16 = .ok (.bipush 60, 2) := by decide +kernel
theorem d_X8_life_18 : decode oX8_life.2.1 18 = .ok (.invokestatic 80, 3) := by decide +kernel
theorem d_X8_life_21 : decode oX8_life.2.1 21 = .ok (.ifCond .eq 6, 3) := by decide +kernel
theorem d_X8_life_24 : decode oX8_life.2.1 24 = .ok (.ldc 84, 2) := by decide +kernel
theorem d_X8_life_26 : decode oX8_life.2.1 26 = .ok (.ireturn, 1) := by decide +kernel
theorem d_X8_life_27 : decode oX8_life.2.1 27 = .ok (.iload_n 3, 1) := by decide +kernel
theorem d_X8_life_28 : decode oX8_life.2.1 28 = .ok (.iconst (-1), 1) := by decide +kernel
theorem d_X8_life_29 : decode oX8_life.2.1 29 = .ok (.if_icmp .lt 8, 3) := by decide +kernel
theorem d_X8_life_32 : decode oX8_life.2.1 32 = .ok (.iload_n 3, 1) := by decide +kernel
theorem d_X8_life_33 : decode oX8_life.2.1 33 = .ok (.iload_n 2, 1) := by decide +kernel
theorem d_X8_life_34 : decode oX8_life.2.1 34 = .ok (.if_icmp .lt 5, 3) := by decide +kernel
theorem d_X8_life_37 : decode oX8_life.2.1 37 = .ok (.iconst (-1), 1) := by decide +kernel
theorem d_X8_life_38 : decode oX8_life.2.1 38 = .ok (.ireturn, 1) := by decide +kernel
theorem d_X8_life_39 : decode oX8_life.2.1 39 = .ok (.aload_n 0, 1) := by decide +kernel
theorem d_X8_life_40 : decode oX8_life.2.1 40 = .ok (.getfield 55, 3) := by decide +kernel
theorem d_X8_life_43 : decode oX8_life.2.1 43 = .ok (.aload_n 0, 1) := by decide +kernel
theorem d_X8_life_44 : decode oX8_life.2.1 44 = .ok (.getfield 19, 3) := by decide +kernel
theorem d_X8_life_47 : decode oX8_life.2.1 47 = .ok (.aload_n 0, 1) := by decide +kernel
theorem d_X8_life_48 : decode oX8_life.2.1 48 = .ok (.getfield 28, 3) := by decide +kernel
theorem d_X8_life_51 : decode oX8_life.2.1 51 = .ok (.getfield 136, 3) := by decide +kernel
theorem d_X8_life_54 : decode oX8_life.2.1 54 = .ok (.iload_n 1, 1) := by decide +kernel
theorem d_X8_life_55 : decode oX8_life.2.1 55 = .ok (.iaload, 1) := by decide +kernel
theorem d_X8_life_56 : decode oX8_life.2.1 56 = .ok (.iload_n 2, 1) := by decide +kernel
theorem d_X8_life_57 : decode oX8_life.2.1 57 = .ok (.invokevirtual 217, 3) := by decide +kernel
theorem d_X8_life_60 : decode oX8_life.2.1 60 = .ok (.iload_n 3, 1) := by decide +kernel
theorem d_X8_life_61 : decode oX8_life.2.1 61 = .ok (.iconst (-1), 1) := by decide +kernel
theorem d_X8_life_62 : decode oX8_life.2.1 62 = .ok (.if_icmp .ne 13, 3) := by decide +kernel
theorem d_X8_life_65 : decode oX8_life.2.1 65 = .ok (.aload_n 0, 1) := by decide +kernel
theorem d_X8_life_66 : decode oX8_life.2.1 66 = .ok (.getfield 55, 3) := by decide +kernel
theorem d_X8_life_69 : decode oX8_life.2.1 69 = .ok (.invokevirtual 221, 3) := by decide +kernel
theorem d_X8_life_72 : decode oX8_life.2.1 72 = .ok (.goto 11, 3) := by decide +kernel
theorem d_X8_life_75 : decode oX8_life.2.1 75 = .ok (.aload_n 0, 1) := by decide +kernel
theorem d_X8_life_76 : decode oX8_life.2.1 76 = .ok (.getfield 55, 3) := by decide +kernel
theorem d_X8_life_79 : decode oX8_life.2.1 79 = .ok (.iload_n 3, 1) := by decide +kernel
theorem d_X8_life_80 : decode oX8_life.2.1 80 = .ok (.invokevirtual 224, 3) := by decide +kernel
theorem d_X8_life_83 : decode oX8_life.2.1 83 = .ok (.ireturn, 1) := by decide +kernel
theorem b_X8_life_0 {E : ob_E} {σ : ob_Mem} {Q : Int32 → ob_Mem → Prop} {x1 x2 x3 : Int32} (k : ob_RM shp E oX2_hasPerson [.ref 10, .int x1] σ (ob_qI fun v2 σ1 => ((¬ v2 = 0 → ob_RM shp E oX8_isOutside [.int x2, .int (1 : Int32), .int (60 : Int32)] σ1 (ob_qI fun v4 σ3 => ((v4 = 0 → ((x3 < (-1 : Int32) → Q (-1 : Int32) σ3) ∧ (¬ x3 < (-1 : Int32) → ((x3 < x2 → (vp_in x1 6 ∧ ob_RM shp E oX4_make [.ref 42, .ref 10, .int (σ3.1 18 (x1).toNatClampNeg), .int x2] σ3 (ob_qV fun σ5 => ((¬ x3 = (-1 : Int32) → ob_RM shp E oX4_agesIn [.ref 42, .int x3] σ5 (ob_qI fun v7 σ6 => Q v7 σ6)) ∧ (x3 = (-1 : Int32) → ob_RM shp E oX4_greatestSum [.ref 42] σ5 (ob_qI fun v9 σ8 => Q v9 σ8)))))) ∧ (¬ x3 < x2 → Q (-1 : Int32) σ3))))) ∧ (¬ v4 = 0 → Q (-1000000002 : Int32) σ3)))) ∧ (v2 = 0 → Q (-1000000001 : Int32) σ1)))) : ob_RT shp E oX8_life 0 [.ref 0, .int x1, .int x2, .int x3] [] σ (ob_qI Q) := by
  refine ob_aload_n d_X8_life_0 rfl ?_
  refine ob_getR d_X8_life_1 fl_X8_19 sh_0 rfl rfl ?_
  refine ob_iload_n d_X8_life_4 rfl ?_
  refine ob_callV [.int x1] (z := oX2_hasPerson) (st := []) d_X8_life_5 lk_X8_132 mv_X2_hasPerson rfl sh_10 cl_2 rfl (Nat.le_of_ble_eq_true rfl) rfl k (ob_kI fun v2 σ1 k => ?_)
  refine ob_if_ne (tgt := 14) d_X8_life_8 rfl (fun cc => ?_) (fun cc => ?_)
  · have k := k.1 cc
    refine ob_iload_n d_X8_life_14 rfl ?_
    refine ob_iconst (v := 1) d_X8_life_15 ci_1 ?_
    refine ob_bipush (v := 60) d_X8_life_16 cb_60 ?_
    refine ob_callS [.int x2, .int (1 : Int32), .int (60 : Int32)] (z := oX8_isOutside) (st := []) d_X8_life_18 lk_X8_80 ms_X8_isOutside rfl (Nat.le_of_ble_eq_true rfl) rfl k (ob_kI fun v4 σ3 k => ?_)
    refine ob_if_eq (tgt := 27) d_X8_life_21 rfl (fun cc => ?_) (fun cc => ?_)
    · have k := k.1 cc
      refine ob_iload_n d_X8_life_27 rfl ?_
      refine ob_iconst (v := -1) d_X8_life_28 ci_m1 ?_
      refine ob_icmp_lt (tgt := 37) d_X8_life_29 rfl (fun cc => ?_) (fun cc => ?_)
      · have k := k.1 cc
        refine ob_iconst (v := -1) d_X8_life_37 ci_m1 ?_
        exact ob_iret d_X8_life_38 rfl ⟨_, rfl, k⟩
      · have k := k.2 cc
        refine ob_iload_n d_X8_life_32 rfl ?_
        refine ob_iload_n d_X8_life_33 rfl ?_
        refine ob_icmp_lt (tgt := 39) d_X8_life_34 rfl (fun cc => ?_) (fun cc => ?_)
        · have k := k.1 cc
          refine ob_aload_n d_X8_life_39 rfl ?_
          refine ob_getR d_X8_life_40 fl_X8_55 sh_0 rfl rfl ?_
          refine ob_aload_n d_X8_life_43 rfl ?_
          refine ob_getR d_X8_life_44 fl_X8_19 sh_0 rfl rfl ?_
          refine ob_aload_n d_X8_life_47 rfl ?_
          refine ob_getR d_X8_life_48 fl_X8_28 sh_0 rfl rfl ?_
          refine ob_getR d_X8_life_51 fl_X8_136 sh_17 rfl rfl ?_
          refine ob_iload_n d_X8_life_54 rfl ?_
          obtain ⟨hin, k⟩ := k
          refine ob_iald d_X8_life_55 sh_18 hin ?_
          refine ob_iload_n d_X8_life_56 rfl ?_
          refine ob_callV [.ref 10, .int (σ3.1 18 (x1).toNatClampNeg), .int x2] (z := oX4_make) (st := []) d_X8_life_57 lk_X8_217 mv_X4_make rfl sh_42 cl_4 rfl (Nat.le_of_ble_eq_true rfl) rfl k (ob_kV fun σ5 k => ?_)
          refine ob_iload_n d_X8_life_60 rfl ?_
          refine ob_iconst (v := -1) d_X8_life_61 ci_m1 ?_
          refine ob_icmp_ne (tgt := 75) d_X8_life_62 rfl (fun cc => ?_) (fun cc => ?_)
          · have k := k.1 cc
            refine ob_aload_n d_X8_life_75 rfl ?_
            refine ob_getR d_X8_life_76 fl_X8_55 sh_0 rfl rfl ?_
            refine ob_iload_n d_X8_life_79 rfl ?_
            refine ob_callV [.int x3] (z := oX4_agesIn) (st := []) d_X8_life_80 lk_X8_224 mv_X4_agesIn rfl sh_42 cl_4 rfl (Nat.le_of_ble_eq_true rfl) rfl k (ob_kI fun v7 σ6 k => ?_)
            exact ob_iret d_X8_life_83 rfl ⟨_, rfl, k⟩
          · have k := k.2 cc
            refine ob_aload_n d_X8_life_65 rfl ?_
            refine ob_getR d_X8_life_66 fl_X8_55 sh_0 rfl rfl ?_
            refine ob_callV [] (z := oX4_greatestSum) (st := []) d_X8_life_69 lk_X8_221 mv_X4_greatestSum rfl sh_42 cl_4 rfl (Nat.le_of_ble_eq_true rfl) rfl k (ob_kI fun v9 σ8 k => ?_)
            refine ob_goto (tgt := 83) d_X8_life_72 rfl ?_
            exact ob_iret d_X8_life_83 rfl ⟨_, rfl, k⟩
        · have k := k.2 cc
          refine ob_iconst (v := -1) d_X8_life_37 ci_m1 ?_
          exact ob_iret d_X8_life_38 rfl ⟨_, rfl, k⟩
    · have k := k.2 cc
      refine ob_ldc (v := -1000000002) d_X8_life_24 k_X8_84 ?_
      exact ob_iret d_X8_life_26 rfl ⟨_, rfl, k⟩
  · have k := k.2 cc
    refine ob_ldc (v := -1000000001) d_X8_life_11 k_X8_135 ?_
    exact ob_iret d_X8_life_13 rfl ⟨_, rfl, k⟩
theorem d_X8_votes_0 : decode oX8_votes.2.1 0 = .ok (.iload_n 1, 1) := by decide +kernel
theorem d_X8_votes_1 : decode oX8_votes.2.1 1 = .ok (.iconst 0, 1) := by decide +kernel
theorem d_X8_votes_2 : decode oX8_votes.2.1 2 = .ok (.sipush 999, 3) := by decide +kernel
theorem d_X8_votes_5 : decode oX8_votes.2.1 5 = .ok (.invokestatic 80, 3) := by decide +kernel
theorem d_X8_votes_8 : decode oX8_votes.2.1 8 = .ok (.ifCond .eq 6, 3) := by decide +kernel
theorem d_X8_votes_11 : decode oX8_votes.2.1 11 = .ok (.ldc 84, 2) := by decide +kernel
theorem d_X8_votes_13 : decode oX8_votes.2.1 13 = .ok (.ireturn, 1) := by decide +kernel
theorem d_X8_votes_14 : decode oX8_votes.2.1 14 = .ok (.iconst 0, 1) := by decide +kernel
theorem d_X8_votes_15 : decode oX8_votes.2.1 15 = .ok (.istore_n 2, 1) := by decide +kernel
theorem d_X8_votes_16 : decode oX8_votes.2.1 16 = .ok (.iconst 0, 1) := by decide +kernel
theorem d_X8_votes_17 : decode oX8_votes.2.1 17 = .ok (.istore_n 3, 1) := by decide +kernel
theorem d_X8_votes_18 : decode oX8_votes.2.1 18 = .ok (.iload_n 3, 1) := by decide +kernel
theorem d_X8_votes_19 : decode oX8_votes.2.1 19 = .ok (.aload_n 0, 1) := by decide +kernel
theorem d_X8_votes_20 : decode oX8_votes.2.1 20 = .ok (.getfield 19, 3) := by decide +kernel
theorem d_X8_votes_23 : decode oX8_votes.2.1 23 = .ok (.getfield 114, 3) := by decide +kernel
theorem d_X8_votes_26 : decode oX8_votes.2.1 26 = .ok (.if_icmp .ge 39, 3) := by decide +kernel
theorem d_X8_votes_29 : decode oX8_votes.2.1 29 = .ok (.aload_n 0, 1) := by decide +kernel
theorem d_X8_votes_30 : decode oX8_votes.2.1 30 = .ok (.getfield 28, 3) := by decide +kernel
theorem d_X8_votes_33 : decode oX8_votes.2.1 33 = .ok (.iload_n 3, 1) := by decide +kernel
theorem d_X8_votes_34 : decode oX8_votes.2.1 34 = .ok (.invokevirtual 143, 3) := by decide +kernel
theorem d_X8_votes_37 : decode oX8_votes.2.1 37 = .ok (.ifCond .eq 22, 3) := by decide +kernel
theorem d_X8_votes_40 : decode oX8_votes.2.1 40 = .ok (.aload_n 0, 1) := by decide +kernel
theorem d_X8_votes_41 : decode oX8_votes.2.1 41 = .ok (.getfield 28, 3) := by decide +kernel
theorem d_X8_votes_44 : decode oX8_votes.2.1 44 = .ok (.getfield 136, 3) := by decide +kernel
theorem d_X8_votes_47 : decode oX8_votes.2.1 47 = .ok (.iload_n 3, 1) := by decide +kernel
theorem d_X8_votes_48 : decode oX8_votes.2.1 48 = .ok (.iaload, 1) := by decide +kernel
theorem d_X8_votes_49 : decode oX8_votes.2.1 49 = .ok (.iload_n 1, 1) := by decide +kernel
theorem d_X8_votes_50 : decode oX8_votes.2.1 50 = .ok (.if_icmp .lt 9, 3) := by decide +kernel
theorem d_X8_votes_53 : decode oX8_votes.2.1 53 = .ok (.iload_n 2, 1) := by decide +kernel
theorem d_X8_votes_54 : decode oX8_votes.2.1 54 = .ok (.iconst 1, 1) := by decide +kernel
theorem d_X8_votes_55 : decode oX8_votes.2.1 55 = .ok (.iload_n 3, 1) := by decide +kernel
theorem d_X8_votes_56 : decode oX8_votes.2.1 56 = .ok (.ishl, 1) := by decide +kernel
theorem d_X8_votes_57 : decode oX8_votes.2.1 57 = .ok (.ior, 1) := by decide +kernel
theorem d_X8_votes_58 : decode oX8_votes.2.1 58 = .ok (.istore_n 2, 1) := by decide +kernel
theorem d_X8_votes_59 : decode oX8_votes.2.1 59 = .ok (.iinc 3 1, 3) := by decide +kernel
theorem d_X8_votes_62 : decode oX8_votes.2.1 62 = .ok (.goto (-44), 3) := by decide +kernel
theorem d_X8_votes_65 : decode oX8_votes.2.1 65 = .ok (.iload_n 2, 1) := by decide +kernel
theorem d_X8_votes_66 : decode oX8_votes.2.1 66 = .ok (.ireturn, 1) := by decide +kernel
theorem b_X8_votes_0 {E : ob_E} {σ : ob_Mem} {Q : Int32 → ob_Mem → Prop} {x1 : Int32} (k : ob_RM shp E oX8_isOutside [.int x1, .int (0 : Int32), .int (999 : Int32)] σ (ob_qI fun v2 σ1 => ((v2 = 0 → ob_RT shp E oX8_votes 18 [.ref 0, .int x1, .int (0 : Int32), .int (0 : Int32)] [] σ1 (ob_qI Q)) ∧ (¬ v2 = 0 → Q (-1000000002 : Int32) σ1)))) : ob_RT shp E oX8_votes 0 [.ref 0, .int x1, .null, .null] [] σ (ob_qI Q) := by
  refine ob_iload_n d_X8_votes_0 rfl ?_
  refine ob_iconst (v := 0) d_X8_votes_1 ci_0 ?_
  refine ob_sipush (v := 999) d_X8_votes_2 cs_999 ?_
  refine ob_callS [.int x1, .int (0 : Int32), .int (999 : Int32)] (z := oX8_isOutside) (st := []) d_X8_votes_5 lk_X8_80 ms_X8_isOutside rfl (Nat.le_of_ble_eq_true rfl) rfl k (ob_kI fun v2 σ1 k => ?_)
  refine ob_if_eq (tgt := 14) d_X8_votes_8 rfl (fun cc => ?_) (fun cc => ?_)
  · have k := k.1 cc
    refine ob_iconst (v := 0) d_X8_votes_14 ci_0 ?_
    refine ob_istore_n (ls' := [.ref 0, .int x1, .int (0 : Int32), .null]) d_X8_votes_15 (Nat.le_of_ble_eq_true rfl) rfl ?_
    refine ob_iconst (v := 0) d_X8_votes_16 ci_0 ?_
    refine ob_istore_n (ls' := [.ref 0, .int x1, .int (0 : Int32), .int (0 : Int32)]) d_X8_votes_17 (Nat.le_of_ble_eq_true rfl) rfl ?_
    exact k
  · have k := k.2 cc
    refine ob_ldc (v := -1000000002) d_X8_votes_11 k_X8_84 ?_
    exact ob_iret d_X8_votes_13 rfl ⟨_, rfl, k⟩
theorem b_X8_votes_18 {E : ob_E} {σ : ob_Mem} {Q : Int32 → ob_Mem → Prop} {x1 x2 x3 : Int32} (k : (((σ.1 10 7) ≤ x3 → Q x2 σ) ∧ (¬ (σ.1 10 7) ≤ x3 → ob_RM shp E oX6_lives [.ref 17, .int x3] σ (ob_qI fun v2 σ1 => ((v2 = 0 → ob_RT shp E oX8_votes 18 [.ref 0, .int x1, .int x2, .int (x3 + (1 : Int32))] [] σ1 (ob_qI Q)) ∧ (¬ v2 = 0 → (vp_in x3 6 ∧ (((σ1.1 18 (x3).toNatClampNeg) < x1 → ob_RT shp E oX8_votes 18 [.ref 0, .int x1, .int x2, .int (x3 + (1 : Int32))] [] σ1 (ob_qI Q)) ∧ (¬ (σ1.1 18 (x3).toNatClampNeg) < x1 → ob_RT shp E oX8_votes 18 [.ref 0, .int x1, .int (x2 ||| ((1 : Int32) <<< (x3 &&& 31))), .int (x3 + (1 : Int32))] [] σ1 (ob_qI Q)))))))))) : ob_RT shp E oX8_votes 18 [.ref 0, .int x1, .int x2, .int x3] [] σ (ob_qI Q) := by
  refine ob_iload_n d_X8_votes_18 rfl ?_
  refine ob_aload_n d_X8_votes_19 rfl ?_
  refine ob_getR d_X8_votes_20 fl_X8_19 sh_0 rfl rfl ?_
  refine ob_getI d_X8_votes_23 fl_X8_114 sh_10 rfl (by decide) ?_
  refine ob_icmp_ge (tgt := 65) d_X8_votes_26 rfl (fun cc => ?_) (fun cc => ?_)
  · have k := k.1 cc
    refine ob_iload_n d_X8_votes_65 rfl ?_
    exact ob_iret d_X8_votes_66 rfl ⟨_, rfl, k⟩
  · have k := k.2 cc
    refine ob_aload_n d_X8_votes_29 rfl ?_
    refine ob_getR d_X8_votes_30 fl_X8_28 sh_0 rfl rfl ?_
    refine ob_iload_n d_X8_votes_33 rfl ?_
    refine ob_callV [.int x3] (z := oX6_lives) (st := []) d_X8_votes_34 lk_X8_143 mv_X6_lives rfl sh_17 cl_6 rfl (Nat.le_of_ble_eq_true rfl) rfl k (ob_kI fun v2 σ1 k => ?_)
    refine ob_if_eq (tgt := 59) d_X8_votes_37 rfl (fun cc => ?_) (fun cc => ?_)
    · have k := k.1 cc
      refine ob_iinc (ls' := [.ref 0, .int x1, .int x2, .int (x3 + (1 : Int32))]) (v := 1) d_X8_votes_59 rfl ci_1 (Nat.le_of_ble_eq_true rfl) rfl ?_
      refine ob_goto (tgt := 18) d_X8_votes_62 rfl ?_
      exact k
    · have k := k.2 cc
      refine ob_aload_n d_X8_votes_40 rfl ?_
      refine ob_getR d_X8_votes_41 fl_X8_28 sh_0 rfl rfl ?_
      refine ob_getR d_X8_votes_44 fl_X8_136 sh_17 rfl rfl ?_
      refine ob_iload_n d_X8_votes_47 rfl ?_
      obtain ⟨hin, k⟩ := k
      refine ob_iald d_X8_votes_48 sh_18 hin ?_
      refine ob_iload_n d_X8_votes_49 rfl ?_
      refine ob_icmp_lt (tgt := 59) d_X8_votes_50 rfl (fun cc => ?_) (fun cc => ?_)
      · have k := k.1 cc
        refine ob_iinc (ls' := [.ref 0, .int x1, .int x2, .int (x3 + (1 : Int32))]) (v := 1) d_X8_votes_59 rfl ci_1 (Nat.le_of_ble_eq_true rfl) rfl ?_
        refine ob_goto (tgt := 18) d_X8_votes_62 rfl ?_
        exact k
      · have k := k.2 cc
        refine ob_iload_n d_X8_votes_53 rfl ?_
        refine ob_iconst (v := 1) d_X8_votes_54 ci_1 ?_
        refine ob_iload_n d_X8_votes_55 rfl ?_
        refine ob_ishl d_X8_votes_56 ?_
        refine ob_ior d_X8_votes_57 ?_
        refine ob_istore_n (ls' := [.ref 0, .int x1, .int (x2 ||| ((1 : Int32) <<< (x3 &&& 31))), .int x3]) d_X8_votes_58 (Nat.le_of_ble_eq_true rfl) rfl ?_
        refine ob_iinc (ls' := [.ref 0, .int x1, .int (x2 ||| ((1 : Int32) <<< (x3 &&& 31))), .int (x3 + (1 : Int32))]) (v := 1) d_X8_votes_59 rfl ci_1 (Nat.le_of_ble_eq_true rfl) rfl ?_
        refine ob_goto (tgt := 18) d_X8_votes_62 rfl ?_
        exact k
theorem d_X8_given_0 : decode oX8_given.2.1 0 = .ok (.iload 4, 2) := by decide +kernel
theorem d_X8_given_2 : decode oX8_given.2.1 2 = .ok (.iconst (-1), 1) := by decide +kernel
theorem d_X8_given_3 : decode oX8_given.2.1 3 = .ok (.if_icmp .eq 18, 3) := by decide +kernel
theorem d_X8_given_6 : decode oX8_given.2.1 6 = .ok (.aload_n 0, 1) := by decide +kernel
theorem d_X8_given_7 : decode oX8_given.2.1 7 = .ok (.getfield 19, 3) := by decide +kernel
theorem d_X8_given_10 : decode oX8_given.2.1 10 = .ok (.iload 4, 2) := by decide +kernel
theorem d_X8_given_12 : decode oX8_given.2.1 12 = .ok (.invokevirtual 153, 3) := by decide +kernel
theorem d_X8_given_15 : decode oX8_given.2.1 15 = .ok (.ifCond .ne 6, 3) := by decide +kernel
theorem d_X8_given_18 : decode oX8_given.2.1 18 = .ok (.ldc 135, 2) := by decide +kernel
theorem d_X8_given_20 : decode oX8_given.2.1 20 = .ok (.ireturn, 1) := by decide +kernel
theorem d_X8_given_21 : decode oX8_given.2.1 21 = .ok (.iload_n 1, 1) := by decide +kernel
theorem d_X8_given_22 : decode oX8_given.2.1 22 = .ok (.iconst 0, 1) := by decide +kernel
theorem d_X8_given_23 : decode oX8_given.2.1 23 = .ok (.bipush 6, 2) := by decide +kernel
theorem d_X8_given_25 : decode oX8_given.2.1 25 = .ok (.invokestatic 80, 3) := by decide +kernel
theorem d_X8_given_28 : decode oX8_given.2.1 28 = .ok (.ifCond .ne 25, 3) := by decide +kernel
theorem d_X8_given_31 : decode oX8_given.2.1 31 = .ok (.iload_n 2, 1) := by decide +kernel
theorem d_X8_given_32 : decode oX8_given.2.1 32 = .ok (.iconst 0, 1) := by decide +kernel
theorem d_X8_given_33 : decode oX8_given.2.1 33 = .ok (.sipush 999, 3) := by decide +kernel
theorem d_X8_given_36 : decode oX8_given.2.1 36 = .ok (.invokestatic 80, 3) := by decide +kernel
theorem d_X8_given_39 : decode oX8_given.2.1 39 = .ok (.ifCond .ne 14, 3) := by decide +kernel
theorem d_X8_given_42 : decode oX8_given.2.1 42 = .ok (.iload_n 3, 1) := by decide +kernel
theorem d_X8_given_43 : decode oX8_given.2.1 43 = .ok (.iconst 1, 1) := by decide +kernel
theorem d_X8_given_44 : decode oX8_given.2.1 44 = .ok (.sipush 9999, 3) := by decide +kernel
theorem d_X8_given_47 : decode oX8_given.2.1 47 = .ok (.invokestatic 80, 3) := by decide +kernel
theorem d_X8_given_50 : decode oX8_given.2.1 50 = .ok (.ifCond .eq 6, 3) := by decide +kernel
theorem d_X8_given_53 : decode oX8_given.2.1 53 = .ok (.ldc 84, 2) := by decide +kernel
theorem d_X8_given_55 : decode oX8_given.2.1 55 = .ok (.ireturn, 1) := by decide +kernel
theorem d_X8_given_56 : decode oX8_given.2.1 56 = .ok (.aload_n 0, 1) := by decide +kernel
theorem d_X8_given_57 : decode oX8_given.2.1 57 = .ok (.getfield 28, 3) := by decide +kernel
theorem d_X8_given_60 : decode oX8_given.2.1 60 = .ok (.getfield 126, 3) := by decide +kernel
theorem d_X8_given_63 : decode oX8_given.2.1 63 = .ok (.ifCond .ne 6, 3) := by decide +kernel
theorem d_X8_given_66 : decode oX8_given.2.1 66 = .ok (.ldc 190, 2) := by decide +kernel
theorem d_X8_given_68 : decode oX8_given.2.1 68 = .ok (.ireturn, 1) := by decide +kernel
theorem d_X8_given_69 : decode oX8_given.2.1 69 = .ok (.aload_n 0, 1) := by decide +kernel
theorem d_X8_given_70 : decode oX8_given.2.1 70 = .ok (.getfield 62, 3) := by decide +kernel
theorem d_X8_given_73 : decode oX8_given.2.1 73 = .ok (.aload_n 0, 1) := by decide +kernel
theorem d_X8_given_74 : decode oX8_given.2.1 74 = .ok (.getfield 28, 3) := by decide +kernel
theorem d_X8_given_77 : decode oX8_given.2.1 77 = .ok (.iload_n 1, 1) := by decide +kernel
theorem d_X8_given_78 : decode oX8_given.2.1 78 = .ok (.iload_n 2, 1) := by decide +kernel
theorem d_X8_given_79 : decode oX8_given.2.1 79 = .ok (.iload_n 3, 1) := by decide +kernel
theorem d_X8_given_80 : decode oX8_given.2.1 80 = .ok (.invokevirtual 227, 3) := by decide +kernel
theorem d_X8_given_83 : decode oX8_given.2.1 83 = .ok (.ifCond .ne 5, 3) := by decide +kernel
theorem d_X8_given_86 : decode oX8_given.2.1 86 = .ok (.iconst (-1), 1) := by decide +kernel
theorem d_X8_given_87 : decode oX8_given.2.1 87 = .ok (.ireturn, 1) := by decide +kernel
theorem d_X8_given_88 : decode oX8_given.2.1 88 = .ok (.iload 4, 2) := by decide +kernel
theorem d_X8_given_90 : decode oX8_given.2.1 90 = .ok (.iconst (-1), 1) := by decide +kernel
theorem d_X8_given_91 : decode oX8_given.2.1 91 = .ok (.if_icmp .ne 13, 3) := by decide +kernel
theorem d_X8_given_94 : decode oX8_given.2.1 94 = .ok (.aload_n 0, 1) := by decide +kernel
theorem d_X8_given_95 : decode oX8_given.2.1 95 = .ok (.getfield 62, 3) := by decide +kernel
theorem d_X8_given_98 : decode oX8_given.2.1 98 = .ok (.invokevirtual 230, 3) := by decide +kernel
theorem d_X8_given_101 : decode oX8_given.2.1 101 = .ok (.goto 12, 3) := by decide +kernel
theorem d_X8_given_104 : decode oX8_given.2.1 104 = .ok (.aload_n 0, 1) := by decide +kernel
theorem d_X8_given_105 : decode oX8_given.2.1 105 = .ok (.getfield 62, 3) := by decide +kernel
theorem d_X8_given_108 : decode oX8_given.2.1 108 = .ok (.iload 4, 2) := by decide +kernel
theorem d_X8_given_110 : decode oX8_given.2.1 110 = .ok (.invokevirtual 232, 3) := by decide +kernel
theorem d_X8_given_113 : decode oX8_given.2.1 113 = .ok (.ireturn, 1) := by decide +kernel
theorem b_X8_given_0 {E : ob_E} {σ : ob_Mem} {Q : Int32 → ob_Mem → Prop} {x1 x2 x3 x4 : Int32} (k : ((x4 = (-1 : Int32) → ob_RT shp E oX8_given 21 [.ref 0, .int x1, .int x2, .int x3, .int x4] [] σ (ob_qI Q)) ∧ (¬ x4 = (-1 : Int32) → ob_RM shp E oX2_hasBirthday [.ref 10, .int x4] σ (ob_qI fun v2 σ1 => ((¬ v2 = 0 → ob_RT shp E oX8_given 21 [.ref 0, .int x1, .int x2, .int x3, .int x4] [] σ1 (ob_qI Q)) ∧ (v2 = 0 → Q (-1000000001 : Int32) σ1)))))) : ob_RT shp E oX8_given 0 [.ref 0, .int x1, .int x2, .int x3, .int x4] [] σ (ob_qI Q) := by
  refine ob_iload d_X8_given_0 rfl ?_
  refine ob_iconst (v := -1) d_X8_given_2 ci_m1 ?_
  refine ob_icmp_eq (tgt := 21) d_X8_given_3 rfl (fun cc => ?_) (fun cc => ?_)
  · have k := k.1 cc
    exact k
  · have k := k.2 cc
    refine ob_aload_n d_X8_given_6 rfl ?_
    refine ob_getR d_X8_given_7 fl_X8_19 sh_0 rfl rfl ?_
    refine ob_iload d_X8_given_10 rfl ?_
    refine ob_callV [.int x4] (z := oX2_hasBirthday) (st := []) d_X8_given_12 lk_X8_153 mv_X2_hasBirthday rfl sh_10 cl_2 rfl (Nat.le_of_ble_eq_true rfl) rfl k (ob_kI fun v2 σ1 k => ?_)
    refine ob_if_ne (tgt := 21) d_X8_given_15 rfl (fun cc => ?_) (fun cc => ?_)
    · have k := k.1 cc
      exact k
    · have k := k.2 cc
      refine ob_ldc (v := -1000000001) d_X8_given_18 k_X8_135 ?_
      exact ob_iret d_X8_given_20 rfl ⟨_, rfl, k⟩
theorem b_X8_given_21 {E : ob_E} {σ : ob_Mem} {Q : Int32 → ob_Mem → Prop} {x1 x2 x3 x4 : Int32} (k : ob_RM shp E oX8_isOutside [.int x1, .int (0 : Int32), .int (6 : Int32)] σ (ob_qI fun v2 σ1 => ((¬ v2 = 0 → Q (-1000000002 : Int32) σ1) ∧ (v2 = 0 → ob_RM shp E oX8_isOutside [.int x2, .int (0 : Int32), .int (999 : Int32)] σ1 (ob_qI fun v4 σ3 => ((¬ v4 = 0 → Q (-1000000002 : Int32) σ3) ∧ (v4 = 0 → ob_RM shp E oX8_isOutside [.int x3, .int (1 : Int32), .int (9999 : Int32)] σ3 (ob_qI fun v6 σ5 => ((v6 = 0 → ((¬ (σ5.1 17 6) = 0 → ob_RM shp E oX1_search [.ref 45, .ref 17, .int x1, .int x2, .int x3] σ5 (ob_qI fun v8 σ7 => ((¬ v8 = 0 → ((¬ x4 = (-1 : Int32) → ob_RM shp E oX1_receiverOf [.ref 45, .int x4] σ7 (ob_qI fun v10 σ9 => Q v10 σ9)) ∧ (x4 = (-1 : Int32) → ob_RM shp E oX1_leastSum [.ref 45] σ7 (ob_qI fun v12 σ11 => Q v12 σ11)))) ∧ (v8 = 0 → Q (-1 : Int32) σ7)))) ∧ ((σ5.1 17 6) = 0 → Q (-1000000003 : Int32) σ5))) ∧ (¬ v6 = 0 → Q (-1000000002 : Int32) σ5)))))))))) : ob_RT shp E oX8_given 21 [.ref 0, .int x1, .int x2, .int x3, .int x4] [] σ (ob_qI Q) := by
  refine ob_iload_n d_X8_given_21 rfl ?_
  refine ob_iconst (v := 0) d_X8_given_22 ci_0 ?_
  refine ob_bipush (v := 6) d_X8_given_23 cb_6 ?_
  refine ob_callS [.int x1, .int (0 : Int32), .int (6 : Int32)] (z := oX8_isOutside) (st := []) d_X8_given_25 lk_X8_80 ms_X8_isOutside rfl (Nat.le_of_ble_eq_true rfl) rfl k (ob_kI fun v2 σ1 k => ?_)
  refine ob_if_ne (tgt := 53) d_X8_given_28 rfl (fun cc => ?_) (fun cc => ?_)
  · have k := k.1 cc
    refine ob_ldc (v := -1000000002) d_X8_given_53 k_X8_84 ?_
    exact ob_iret d_X8_given_55 rfl ⟨_, rfl, k⟩
  · have k := k.2 cc
    refine ob_iload_n d_X8_given_31 rfl ?_
    refine ob_iconst (v := 0) d_X8_given_32 ci_0 ?_
    refine ob_sipush (v := 999) d_X8_given_33 cs_999 ?_
    refine ob_callS [.int x2, .int (0 : Int32), .int (999 : Int32)] (z := oX8_isOutside) (st := []) d_X8_given_36 lk_X8_80 ms_X8_isOutside rfl (Nat.le_of_ble_eq_true rfl) rfl k (ob_kI fun v4 σ3 k => ?_)
    refine ob_if_ne (tgt := 53) d_X8_given_39 rfl (fun cc => ?_) (fun cc => ?_)
    · have k := k.1 cc
      refine ob_ldc (v := -1000000002) d_X8_given_53 k_X8_84 ?_
      exact ob_iret d_X8_given_55 rfl ⟨_, rfl, k⟩
    · have k := k.2 cc
      refine ob_iload_n d_X8_given_42 rfl ?_
      refine ob_iconst (v := 1) d_X8_given_43 ci_1 ?_
      refine ob_sipush (v := 9999) d_X8_given_44 cs_9999 ?_
      refine ob_callS [.int x3, .int (1 : Int32), .int (9999 : Int32)] (z := oX8_isOutside) (st := []) d_X8_given_47 lk_X8_80 ms_X8_isOutside rfl (Nat.le_of_ble_eq_true rfl) rfl k (ob_kI fun v6 σ5 k => ?_)
      refine ob_if_eq (tgt := 56) d_X8_given_50 rfl (fun cc => ?_) (fun cc => ?_)
      · have k := k.1 cc
        refine ob_aload_n d_X8_given_56 rfl ?_
        refine ob_getR d_X8_given_57 fl_X8_28 sh_0 rfl rfl ?_
        refine ob_getI d_X8_given_60 fl_X8_126 sh_17 rfl (by decide) ?_
        refine ob_if_ne (tgt := 69) d_X8_given_63 rfl (fun cc => ?_) (fun cc => ?_)
        · have k := k.1 cc
          refine ob_aload_n d_X8_given_69 rfl ?_
          refine ob_getR d_X8_given_70 fl_X8_62 sh_0 rfl rfl ?_
          refine ob_aload_n d_X8_given_73 rfl ?_
          refine ob_getR d_X8_given_74 fl_X8_28 sh_0 rfl rfl ?_
          refine ob_iload_n d_X8_given_77 rfl ?_
          refine ob_iload_n d_X8_given_78 rfl ?_
          refine ob_iload_n d_X8_given_79 rfl ?_
          refine ob_callV [.ref 17, .int x1, .int x2, .int x3] (z := oX1_search) (st := []) d_X8_given_80 lk_X8_227 mv_X1_search rfl sh_45 cl_1 rfl (Nat.le_of_ble_eq_true rfl) rfl k (ob_kI fun v8 σ7 k => ?_)
          refine ob_if_ne (tgt := 88) d_X8_given_83 rfl (fun cc => ?_) (fun cc => ?_)
          · have k := k.1 cc
            refine ob_iload d_X8_given_88 rfl ?_
            refine ob_iconst (v := -1) d_X8_given_90 ci_m1 ?_
            refine ob_icmp_ne (tgt := 104) d_X8_given_91 rfl (fun cc => ?_) (fun cc => ?_)
            · have k := k.1 cc
              refine ob_aload_n d_X8_given_104 rfl ?_
              refine ob_getR d_X8_given_105 fl_X8_62 sh_0 rfl rfl ?_
              refine ob_iload d_X8_given_108 rfl ?_
              refine ob_callV [.int x4] (z := oX1_receiverOf) (st := []) d_X8_given_110 lk_X8_232 mv_X1_receiverOf rfl sh_45 cl_1 rfl (Nat.le_of_ble_eq_true rfl) rfl k (ob_kI fun v10 σ9 k => ?_)
              exact ob_iret d_X8_given_113 rfl ⟨_, rfl, k⟩
            · have k := k.2 cc
              refine ob_aload_n d_X8_given_94 rfl ?_
              refine ob_getR d_X8_given_95 fl_X8_62 sh_0 rfl rfl ?_
              refine ob_callV [] (z := oX1_leastSum) (st := []) d_X8_given_98 lk_X8_230 mv_X1_leastSum rfl sh_45 cl_1 rfl (Nat.le_of_ble_eq_true rfl) rfl k (ob_kI fun v12 σ11 k => ?_)
              refine ob_goto (tgt := 113) d_X8_given_101 rfl ?_
              exact ob_iret d_X8_given_113 rfl ⟨_, rfl, k⟩
          · have k := k.2 cc
            refine ob_iconst (v := -1) d_X8_given_86 ci_m1 ?_
            exact ob_iret d_X8_given_87 rfl ⟨_, rfl, k⟩
        · have k := k.2 cc
          refine ob_ldc (v := -1000000003) d_X8_given_66 k_X8_190 ?_
          exact ob_iret d_X8_given_68 rfl ⟨_, rfl, k⟩
      · have k := k.2 cc
        refine ob_ldc (v := -1000000002) d_X8_given_53 k_X8_84 ?_
        exact ob_iret d_X8_given_55 rfl ⟨_, rfl, k⟩
theorem d_X8_rests_0 : decode oX8_rests.2.1 0 = .ok (.iload_n 1, 1) := by decide +kernel
theorem d_X8_rests_1 : decode oX8_rests.2.1 1 = .ok (.iconst (-1), 1) := by decide +kernel
theorem d_X8_rests_2 : decode oX8_rests.2.1 2 = .ok (.if_icmp .eq 17, 3) := by decide +kernel
theorem d_X8_rests_5 : decode oX8_rests.2.1 5 = .ok (.aload_n 0, 1) := by decide +kernel
theorem d_X8_rests_6 : decode oX8_rests.2.1 6 = .ok (.getfield 19, 3) := by decide +kernel
theorem d_X8_rests_9 : decode oX8_rests.2.1 9 = .ok (.iload_n 1, 1) := by decide +kernel
theorem d_X8_rests_10 : decode oX8_rests.2.1 10 = .ok (.invokevirtual 153, 3) := by decide +kernel
theorem d_X8_rests_13 : decode oX8_rests.2.1 13 = .ok (.ifCond .ne 6, 3) := by decide +kernel
theorem d_X8_rests_16 : decode oX8_rests.2.1 16 = .ok (.ldc 135, 2) := by decide +kernel
theorem d_X8_rests_18 : decode oX8_rests.2.1 18 = .ok (.ireturn, 1) := by decide +kernel
theorem d_X8_rests_19 : decode oX8_rests.2.1 19 = .ok (.aload_n 0, 1) := by decide +kernel
theorem d_X8_rests_20 : decode oX8_rests.2.1 20 = .ok (.getfield 69, 3) := by decide +kernel
theorem d_X8_rests_23 : decode oX8_rests.2.1 23 = .ok (.aload_n 0, 1) := by decide +kernel
theorem d_X8_rests_24 : decode oX8_rests.2.1 24 = .ok (.getfield 28, 3) := by decide +kernel
theorem d_X8_rests_27 : decode oX8_rests.2.1 27 = .ok (.invokevirtual 235, 3) := by decide +kernel
theorem d_X8_rests_30 : decode oX8_rests.2.1 30 = .ok (.iload_n 1, 1) := by decide +kernel
theorem d_X8_rests_31 : decode oX8_rests.2.1 31 = .ok (.iconst (-1), 1) := by decide +kernel
theorem d_X8_rests_32 : decode oX8_rests.2.1 32 = .ok (.if_icmp .ne 13, 3) := by decide +kernel
theorem d_X8_rests_35 : decode oX8_rests.2.1 35 = .ok (.aload_n 0, 1) := by decide +kernel
theorem d_X8_rests_36 : decode oX8_rests.2.1 36 = .ok (.getfield 69, 3) := by decide +kernel
theorem d_X8_rests_39 : decode oX8_rests.2.1 39 = .ok (.getfield 239, 3) := by decide +kernel
theorem d_X8_rests_42 : decode oX8_rests.2.1 42 = .ok (.goto 12, 3) := by decide +kernel
theorem d_X8_rests_45 : decode oX8_rests.2.1 45 = .ok (.aload_n 0, 1) := by decide +kernel
theorem d_X8_rests_46 : decode oX8_rests.2.1 46 = .ok (.getfield 69, 3) := by decide +kernel
theorem d_X8_rests_49 : decode oX8_rests.2.1 49 = .ok (.getfield 242, 3) := by decide +kernel
theorem d_X8_rests_52 : decode oX8_rests.2.1 52 = .ok (.iload_n 1, 1) := by decide +kernel
theorem d_X8_rests_53 : decode oX8_rests.2.1 53 = .ok (.iaload, 1) := by decide +kernel
theorem d_X8_rests_54 : decode oX8_rests.2.1 54 = .ok (.ireturn, 1) := by decide +kernel
theorem b_X8_rests_0 {E : ob_E} {σ : ob_Mem} {Q : Int32 → ob_Mem → Prop} {x1 : Int32} (k : ((x1 = (-1 : Int32) → ob_RT shp E oX8_rests 19 [.ref 0, .int x1] [] σ (ob_qI Q)) ∧ (¬ x1 = (-1 : Int32) → ob_RM shp E oX2_hasBirthday [.ref 10, .int x1] σ (ob_qI fun v2 σ1 => ((¬ v2 = 0 → ob_RT shp E oX8_rests 19 [.ref 0, .int x1] [] σ1 (ob_qI Q)) ∧ (v2 = 0 → Q (-1000000001 : Int32) σ1)))))) : ob_RT shp E oX8_rests 0 [.ref 0, .int x1] [] σ (ob_qI Q) := by
  refine ob_iload_n d_X8_rests_0 rfl ?_
  refine ob_iconst (v := -1) d_X8_rests_1 ci_m1 ?_
  refine ob_icmp_eq (tgt := 19) d_X8_rests_2 rfl (fun cc => ?_) (fun cc => ?_)
  · have k := k.1 cc
    exact k
  · have k := k.2 cc
    refine ob_aload_n d_X8_rests_5 rfl ?_
    refine ob_getR d_X8_rests_6 fl_X8_19 sh_0 rfl rfl ?_
    refine ob_iload_n d_X8_rests_9 rfl ?_
    refine ob_callV [.int x1] (z := oX2_hasBirthday) (st := []) d_X8_rests_10 lk_X8_153 mv_X2_hasBirthday rfl sh_10 cl_2 rfl (Nat.le_of_ble_eq_true rfl) rfl k (ob_kI fun v2 σ1 k => ?_)
    refine ob_if_ne (tgt := 19) d_X8_rests_13 rfl (fun cc => ?_) (fun cc => ?_)
    · have k := k.1 cc
      exact k
    · have k := k.2 cc
      refine ob_ldc (v := -1000000001) d_X8_rests_16 k_X8_135 ?_
      exact ob_iret d_X8_rests_18 rfl ⟨_, rfl, k⟩
theorem b_X8_rests_19 {E : ob_E} {σ : ob_Mem} {Q : Int32 → ob_Mem → Prop} {x1 : Int32} (k : ob_RM shp E oX5_run [.ref 50, .ref 17] σ (ob_qV fun σ1 => ((¬ x1 = (-1 : Int32) → (vp_in x1 8 ∧ Q (σ1.1 51 (x1).toNatClampNeg) σ1)) ∧ (x1 = (-1 : Int32) → Q (σ1.1 50 2) σ1)))) : ob_RT shp E oX8_rests 19 [.ref 0, .int x1] [] σ (ob_qI Q) := by
  refine ob_aload_n d_X8_rests_19 rfl ?_
  refine ob_getR d_X8_rests_20 fl_X8_69 sh_0 rfl rfl ?_
  refine ob_aload_n d_X8_rests_23 rfl ?_
  refine ob_getR d_X8_rests_24 fl_X8_28 sh_0 rfl rfl ?_
  refine ob_callV [.ref 17] (z := oX5_run) (st := []) d_X8_rests_27 lk_X8_235 mv_X5_run rfl sh_50 cl_5 rfl (Nat.le_of_ble_eq_true rfl) rfl k (ob_kV fun σ1 k => ?_)
  refine ob_iload_n d_X8_rests_30 rfl ?_
  refine ob_iconst (v := -1) d_X8_rests_31 ci_m1 ?_
  refine ob_icmp_ne (tgt := 45) d_X8_rests_32 rfl (fun cc => ?_) (fun cc => ?_)
  · have k := k.1 cc
    refine ob_aload_n d_X8_rests_45 rfl ?_
    refine ob_getR d_X8_rests_46 fl_X8_69 sh_0 rfl rfl ?_
    refine ob_getR d_X8_rests_49 fl_X8_242 sh_50 rfl rfl ?_
    refine ob_iload_n d_X8_rests_52 rfl ?_
    obtain ⟨hin, k⟩ := k
    refine ob_iald d_X8_rests_53 sh_51 hin ?_
    exact ob_iret d_X8_rests_54 rfl ⟨_, rfl, k⟩
  · have k := k.2 cc
    refine ob_aload_n d_X8_rests_35 rfl ?_
    refine ob_getR d_X8_rests_36 fl_X8_69 sh_0 rfl rfl ?_
    refine ob_getI d_X8_rests_39 fl_X8_239 sh_50 rfl (by decide) ?_
    refine ob_goto (tgt := 54) d_X8_rests_42 rfl ?_
    exact ob_iret d_X8_rests_54 rfl ⟨_, rfl, k⟩
theorem d_X8_tell_0 : decode oX8_tell.2.1 0 = .ok (.aload_n 0, 1) := by decide +kernel
theorem d_X8_tell_1 : decode oX8_tell.2.1 1 = .ok (.getfield 19, 3) := by decide +kernel
theorem d_X8_tell_4 : decode oX8_tell.2.1 4 = .ok (.iload_n 1, 1) := by decide +kernel
theorem d_X8_tell_5 : decode oX8_tell.2.1 5 = .ok (.invokevirtual 132, 3) := by decide +kernel
theorem d_X8_tell_8 : decode oX8_tell.2.1 8 = .ok (.ifCond .ne 6, 3) := by decide +kernel
theorem d_X8_tell_11 : decode oX8_tell.2.1 11 = .ok (.ldc 135, 2) := by decide +kernel
theorem d_X8_tell_13 : decode oX8_tell.2.1 13 = .ok (.ireturn, 1) := by decide +kernel
theorem d_X8_tell_14 : decode oX8_tell.2.1 14 = .ok (.iload_n 2, 1) := by decide +kernel
theorem d_X8_tell_15 : decode oX8_tell.2.1 15 = .ok (.iconst 0, 1) := by decide +kernel
theorem d_X8_tell_16 : decode oX8_tell.2.1 16 = .ok (.sipush 9999, 3) := by decide +kernel
theorem d_X8_tell_19 : decode oX8_tell.2.1 19 = .ok (.invokestatic 80, 3) := by decide +kernel
theorem d_X8_tell_22 : decode oX8_tell.2.1 22 = .ok (.ifCond .ne 14, 3) := by decide +kernel
theorem d_X8_tell_25 : decode oX8_tell.2.1 25 = .ok (.iload_n 3, 1) := by decide +kernel
theorem d_X8_tell_26 : decode oX8_tell.2.1 26 = .ok (.iconst 0, 1) := by decide +kernel
theorem d_X8_tell_27 : decode oX8_tell.2.1 27 = .ok (.sipush 999, 3) := by decide +kernel
theorem d_X8_tell_30 : decode oX8_tell.2.1 30 = .ok (.invokestatic 80, 3) := by decide +kernel
theorem d_X8_tell_33 : decode oX8_tell.2.1 33 = .ok (.ifCond .eq 6, 3) := by decide +kernel
theorem d_X8_tell_36 : decode oX8_tell.2.1 36 = .ok (.ldc 84, 2) := by decide +kernel
theorem d_X8_tell_38 : decode oX8_tell.2.1 38 = .ok (.ireturn, 1) := by decide +kernel
theorem d_X8_tell_39 : decode oX8_tell.2.1 39 = .ok (.aload_n 0, 1) := by decide +kernel
theorem d_X8_tell_40 : decode oX8_tell.2.1 40 = .ok (.getfield 41, 3) := by decide +kernel
theorem d_X8_tell_43 : decode oX8_tell.2.1 43 = .ok (.getfield 111, 3) := by decide +kernel
theorem d_X8_tell_46 : decode oX8_tell.2.1 46 = .ok (.bipush 20, 2) := by decide +kernel
theorem d_X8_tell_48 : decode oX8_tell.2.1 48 = .ok (.if_icmp .lt 6, 3) := by decide +kernel
theorem d_X8_tell_51 : decode oX8_tell.2.1 51 = .ok (.ldc 89, 2) := by decide +kernel
theorem d_X8_tell_53 : decode oX8_tell.2.1 53 = .ok (.ireturn, 1) := by decide +kernel
theorem d_X8_tell_54 : decode oX8_tell.2.1 54 = .ok (.aload_n 0, 1) := by decide +kernel
theorem d_X8_tell_55 : decode oX8_tell.2.1 55 = .ok (.getfield 41, 3) := by decide +kernel
theorem d_X8_tell_58 : decode oX8_tell.2.1 58 = .ok (.iload_n 1, 1) := by decide +kernel
theorem d_X8_tell_59 : decode oX8_tell.2.1 59 = .ok (.iload_n 2, 1) := by decide +kernel
theorem d_X8_tell_60 : decode oX8_tell.2.1 60 = .ok (.iload_n 3, 1) := by decide +kernel
theorem d_X8_tell_61 : decode oX8_tell.2.1 61 = .ok (.invokevirtual 243, 3) := by decide +kernel
theorem d_X8_tell_64 : decode oX8_tell.2.1 64 = .ok (.aload_n 0, 1) := by decide +kernel
theorem d_X8_tell_65 : decode oX8_tell.2.1 65 = .ok (.getfield 41, 3) := by decide +kernel
theorem d_X8_tell_68 : decode oX8_tell.2.1 68 = .ok (.getfield 111, 3) := by decide +kernel
theorem d_X8_tell_71 : decode oX8_tell.2.1 71 = .ok (.ireturn, 1) := by decide +kernel
theorem b_X8_tell_0 {E : ob_E} {σ : ob_Mem} {Q : Int32 → ob_Mem → Prop} {x1 x2 x3 : Int32} (k : ob_RM shp E oX2_hasPerson [.ref 10, .int x1] σ (ob_qI fun v2 σ1 => ((¬ v2 = 0 → ob_RM shp E oX8_isOutside [.int x2, .int (0 : Int32), .int (9999 : Int32)] σ1 (ob_qI fun v4 σ3 => ((¬ v4 = 0 → Q (-1000000002 : Int32) σ3) ∧ (v4 = 0 → ob_RM shp E oX8_isOutside [.int x3, .int (0 : Int32), .int (999 : Int32)] σ3 (ob_qI fun v6 σ5 => ((v6 = 0 → (((σ5.1 35 3) < (20 : Int32) → ob_RM shp E oX7_add [.ref 35, .int x1, .int x2, .int x3] σ5 (ob_qV fun σ7 => Q (σ7.1 35 3) σ7)) ∧ (¬ (σ5.1 35 3) < (20 : Int32) → Q (-1000000004 : Int32) σ5))) ∧ (¬ v6 = 0 → Q (-1000000002 : Int32) σ5))))))) ∧ (v2 = 0 → Q (-1000000001 : Int32) σ1)))) : ob_RT shp E oX8_tell 0 [.ref 0, .int x1, .int x2, .int x3] [] σ (ob_qI Q) := by
  refine ob_aload_n d_X8_tell_0 rfl ?_
  refine ob_getR d_X8_tell_1 fl_X8_19 sh_0 rfl rfl ?_
  refine ob_iload_n d_X8_tell_4 rfl ?_
  refine ob_callV [.int x1] (z := oX2_hasPerson) (st := []) d_X8_tell_5 lk_X8_132 mv_X2_hasPerson rfl sh_10 cl_2 rfl (Nat.le_of_ble_eq_true rfl) rfl k (ob_kI fun v2 σ1 k => ?_)
  refine ob_if_ne (tgt := 14) d_X8_tell_8 rfl (fun cc => ?_) (fun cc => ?_)
  · have k := k.1 cc
    refine ob_iload_n d_X8_tell_14 rfl ?_
    refine ob_iconst (v := 0) d_X8_tell_15 ci_0 ?_
    refine ob_sipush (v := 9999) d_X8_tell_16 cs_9999 ?_
    refine ob_callS [.int x2, .int (0 : Int32), .int (9999 : Int32)] (z := oX8_isOutside) (st := []) d_X8_tell_19 lk_X8_80 ms_X8_isOutside rfl (Nat.le_of_ble_eq_true rfl) rfl k (ob_kI fun v4 σ3 k => ?_)
    refine ob_if_ne (tgt := 36) d_X8_tell_22 rfl (fun cc => ?_) (fun cc => ?_)
    · have k := k.1 cc
      refine ob_ldc (v := -1000000002) d_X8_tell_36 k_X8_84 ?_
      exact ob_iret d_X8_tell_38 rfl ⟨_, rfl, k⟩
    · have k := k.2 cc
      refine ob_iload_n d_X8_tell_25 rfl ?_
      refine ob_iconst (v := 0) d_X8_tell_26 ci_0 ?_
      refine ob_sipush (v := 999) d_X8_tell_27 cs_999 ?_
      refine ob_callS [.int x3, .int (0 : Int32), .int (999 : Int32)] (z := oX8_isOutside) (st := []) d_X8_tell_30 lk_X8_80 ms_X8_isOutside rfl (Nat.le_of_ble_eq_true rfl) rfl k (ob_kI fun v6 σ5 k => ?_)
      refine ob_if_eq (tgt := 39) d_X8_tell_33 rfl (fun cc => ?_) (fun cc => ?_)
      · have k := k.1 cc
        refine ob_aload_n d_X8_tell_39 rfl ?_
        refine ob_getR d_X8_tell_40 fl_X8_41 sh_0 rfl rfl ?_
        refine ob_getI d_X8_tell_43 fl_X8_111 sh_35 rfl (by decide) ?_
        refine ob_bipush (v := 20) d_X8_tell_46 cb_20 ?_
        refine ob_icmp_lt (tgt := 54) d_X8_tell_48 rfl (fun cc => ?_) (fun cc => ?_)
        · have k := k.1 cc
          refine ob_aload_n d_X8_tell_54 rfl ?_
          refine ob_getR d_X8_tell_55 fl_X8_41 sh_0 rfl rfl ?_
          refine ob_iload_n d_X8_tell_58 rfl ?_
          refine ob_iload_n d_X8_tell_59 rfl ?_
          refine ob_iload_n d_X8_tell_60 rfl ?_
          refine ob_callV [.int x1, .int x2, .int x3] (z := oX7_add) (st := []) d_X8_tell_61 lk_X8_243 mv_X7_add rfl sh_35 cl_7 rfl (Nat.le_of_ble_eq_true rfl) rfl k (ob_kV fun σ7 k => ?_)
          refine ob_aload_n d_X8_tell_64 rfl ?_
          refine ob_getR d_X8_tell_65 fl_X8_41 sh_0 rfl rfl ?_
          refine ob_getI d_X8_tell_68 fl_X8_111 sh_35 rfl (by decide) ?_
          exact ob_iret d_X8_tell_71 rfl ⟨_, rfl, k⟩
        · have k := k.2 cc
          refine ob_ldc (v := -1000000004) d_X8_tell_51 k_X8_89 ?_
          exact ob_iret d_X8_tell_53 rfl ⟨_, rfl, k⟩
      · have k := k.2 cc
        refine ob_ldc (v := -1000000002) d_X8_tell_36 k_X8_84 ?_
        exact ob_iret d_X8_tell_38 rfl ⟨_, rfl, k⟩
  · have k := k.2 cc
    refine ob_ldc (v := -1000000001) d_X8_tell_11 k_X8_135 ?_
    exact ob_iret d_X8_tell_13 rfl ⟨_, rfl, k⟩
theorem d_X8_tear_0 : decode oX8_tear.2.1 0 = .ok (.aload_n 0, 1) := by decide +kernel
theorem d_X8_tear_1 : decode oX8_tear.2.1 1 = .ok (.getfield 41, 3) := by decide +kernel
theorem d_X8_tear_4 : decode oX8_tear.2.1 4 = .ok (.getfield 111, 3) := by decide +kernel
theorem d_X8_tear_7 : decode oX8_tear.2.1 7 = .ok (.istore_n 1, 1) := by decide +kernel
theorem d_X8_tear_8 : decode oX8_tear.2.1 8 = .ok (.aload_n 0, 1) := by decide +kernel
theorem d_X8_tear_9 : decode oX8_tear.2.1 9 = .ok (.getfield 41, 3) := by decide +kernel
theorem d_X8_tear_12 : decode oX8_tear.2.1 12 = .ok (.iconst 0, 1) := by decide +kernel
theorem d_X8_tear_13 : decode oX8_tear.2.1 13 = .ok (.putfield 111, 3) := by decide +kernel
theorem d_X8_tear_16 : decode oX8_tear.2.1 16 = .ok (.iload_n 1, 1) := by decide +kernel
theorem d_X8_tear_17 : decode oX8_tear.2.1 17 = .ok (.ireturn, 1) := by decide +kernel
theorem b_X8_tear_0 {E : ob_E} {σ : ob_Mem} {Q : Int32 → ob_Mem → Prop} (k : Q (σ.1 35 3) (ob_wI σ 35 3 (0 : Int32))) : ob_RT shp E oX8_tear 0 [.ref 0, .null] [] σ (ob_qI Q) := by
  refine ob_aload_n d_X8_tear_0 rfl ?_
  refine ob_getR d_X8_tear_1 fl_X8_41 sh_0 rfl rfl ?_
  refine ob_getI d_X8_tear_4 fl_X8_111 sh_35 rfl (by decide) ?_
  refine ob_istore_n (ls' := [.ref 0, .int (σ.1 35 3)]) d_X8_tear_7 (Nat.le_of_ble_eq_true rfl) rfl ?_
  refine ob_aload_n d_X8_tear_8 rfl ?_
  refine ob_getR d_X8_tear_9 fl_X8_41 sh_0 rfl rfl ?_
  refine ob_iconst (v := 0) d_X8_tear_12 ci_0 ?_
  refine ob_putI d_X8_tear_13 fp_X8_111 sh_35 rfl rfl ?_
  refine ob_iload_n d_X8_tear_16 rfl ?_
  exact ob_iret d_X8_tear_17 rfl ⟨_, rfl, k⟩
theorem d_X8_judge_0 : decode oX8_judge.2.1 0 = .ok (.aload_n 0, 1) := by decide +kernel
theorem d_X8_judge_1 : decode oX8_judge.2.1 1 = .ok (.getfield 41, 3) := by decide +kernel
theorem d_X8_judge_4 : decode oX8_judge.2.1 4 = .ok (.aload_n 0, 1) := by decide +kernel
theorem d_X8_judge_5 : decode oX8_judge.2.1 5 = .ok (.getfield 28, 3) := by decide +kernel
theorem d_X8_judge_8 : decode oX8_judge.2.1 8 = .ok (.iconst (-1), 1) := by decide +kernel
theorem d_X8_judge_9 : decode oX8_judge.2.1 9 = .ok (.invokevirtual 246, 3) := by decide +kernel
theorem d_X8_judge_12 : decode oX8_judge.2.1 12 = .ok (.ireturn, 1) := by decide +kernel
theorem b_X8_judge_0 {E : ob_E} {σ : ob_Mem} {Q : Int32 → ob_Mem → Prop} (k : ob_RM shp E oX7_firstWrong [.ref 35, .ref 17, .int (-1 : Int32)] σ (ob_qI fun v2 σ1 => Q v2 σ1)) : ob_RT shp E oX8_judge 0 [.ref 0] [] σ (ob_qI Q) := by
  refine ob_aload_n d_X8_judge_0 rfl ?_
  refine ob_getR d_X8_judge_1 fl_X8_41 sh_0 rfl rfl ?_
  refine ob_aload_n d_X8_judge_4 rfl ?_
  refine ob_getR d_X8_judge_5 fl_X8_28 sh_0 rfl rfl ?_
  refine ob_iconst (v := -1) d_X8_judge_8 ci_m1 ?_
  refine ob_callV [.ref 17, .int (-1 : Int32)] (z := oX7_firstWrong) (st := []) d_X8_judge_9 lk_X8_246 mv_X7_firstWrong rfl sh_35 cl_7 rfl (Nat.le_of_ble_eq_true rfl) rfl k (ob_kI fun v2 σ1 k => ?_)
  exact ob_iret d_X8_judge_12 rfl ⟨_, rfl, k⟩
theorem d_X8_forged_0 : decode oX8_forged.2.1 0 = .ok (.iconst 0, 1) := by decide +kernel
theorem d_X8_forged_1 : decode oX8_forged.2.1 1 = .ok (.istore_n 1, 1) := by decide +kernel
theorem d_X8_forged_2 : decode oX8_forged.2.1 2 = .ok (.iconst 0, 1) := by decide +kernel
theorem d_X8_forged_3 : decode oX8_forged.2.1 3 = .ok (.istore_n 2, 1) := by decide +kernel
theorem d_X8_forged_4 : decode oX8_forged.2.1 4 = .ok (.iload_n 2, 1) := by decide +kernel
theorem d_X8_forged_5 : decode oX8_forged.2.1 5 = .ok (.aload_n 0, 1) := by decide +kernel
theorem d_X8_forged_6 : decode oX8_forged.2.1 6 = .ok (.getfield 19, 3) := by decide +kernel
theorem d_X8_forged_9 : decode oX8_forged.2.1 9 = .ok (.getfield 120, 3) := by decide +kernel
theorem d_X8_forged_12 : decode oX8_forged.2.1 12 = .ok (.if_icmp .ge 31, 3) := by decide +kernel
theorem d_X8_forged_15 : decode oX8_forged.2.1 15 = .ok (.aload_n 0, 1) := by decide +kernel
theorem d_X8_forged_16 : decode oX8_forged.2.1 16 = .ok (.getfield 41, 3) := by decide +kernel
theorem d_X8_forged_19 : decode oX8_forged.2.1 19 = .ok (.aload_n 0, 1) := by decide +kernel
theorem d_X8_forged_20 : decode oX8_forged.2.1 20 = .ok (.getfield 28, 3) := by decide +kernel
theorem d_X8_forged_23 : decode oX8_forged.2.1 23 = .ok (.iload_n 2, 1) := by decide +kernel
theorem d_X8_forged_24 : decode oX8_forged.2.1 24 = .ok (.invokevirtual 246, 3) := by decide +kernel
theorem d_X8_forged_27 : decode oX8_forged.2.1 27 = .ok (.iconst (-1), 1) := by decide +kernel
theorem d_X8_forged_28 : decode oX8_forged.2.1 28 = .ok (.if_icmp .ne 9, 3) := by decide +kernel
theorem d_X8_forged_31 : decode oX8_forged.2.1 31 = .ok (.iload_n 1, 1) := by decide +kernel
theorem d_X8_forged_32 : decode oX8_forged.2.1 32 = .ok (.iconst 1, 1) := by decide +kernel
theorem d_X8_forged_33 : decode oX8_forged.2.1 33 = .ok (.iload_n 2, 1) := by decide +kernel
theorem d_X8_forged_34 : decode oX8_forged.2.1 34 = .ok (.ishl, 1) := by decide +kernel
theorem d_X8_forged_35 : decode oX8_forged.2.1 35 = .ok (.ior, 1) := by decide +kernel
theorem d_X8_forged_36 : decode oX8_forged.2.1 36 = .ok (.istore_n 1, 1) := by decide +kernel
theorem d_X8_forged_37 : decode oX8_forged.2.1 37 = .ok (.iinc 2 1, 3) := by decide +kernel
theorem d_X8_forged_40 : decode oX8_forged.2.1 40 = .ok (.goto (-36), 3) := by decide +kernel
theorem d_X8_forged_43 : decode oX8_forged.2.1 43 = .ok (.iload_n 1, 1) := by decide +kernel
theorem d_X8_forged_44 : decode oX8_forged.2.1 44 = .ok (.ireturn, 1) := by decide +kernel
theorem b_X8_forged_0 {E : ob_E} {σ : ob_Mem} {Q : Int32 → ob_Mem → Prop} (k : ob_RT shp E oX8_forged 4 [.ref 0, .int (0 : Int32), .int (0 : Int32)] [] σ (ob_qI Q)) : ob_RT shp E oX8_forged 0 [.ref 0, .null, .null] [] σ (ob_qI Q) := by
  refine ob_iconst (v := 0) d_X8_forged_0 ci_0 ?_
  refine ob_istore_n (ls' := [.ref 0, .int (0 : Int32), .null]) d_X8_forged_1 (Nat.le_of_ble_eq_true rfl) rfl ?_
  refine ob_iconst (v := 0) d_X8_forged_2 ci_0 ?_
  refine ob_istore_n (ls' := [.ref 0, .int (0 : Int32), .int (0 : Int32)]) d_X8_forged_3 (Nat.le_of_ble_eq_true rfl) rfl ?_
  exact k
theorem b_X8_forged_4 {E : ob_E} {σ : ob_Mem} {Q : Int32 → ob_Mem → Prop} {x1 x2 : Int32} (k : (((σ.1 10 8) ≤ x2 → Q x1 σ) ∧ (¬ (σ.1 10 8) ≤ x2 → ob_RM shp E oX7_firstWrong [.ref 35, .ref 17, .int x2] σ (ob_qI fun v2 σ1 => ((¬ v2 = (-1 : Int32) → ob_RT shp E oX8_forged 4 [.ref 0, .int x1, .int (x2 + (1 : Int32))] [] σ1 (ob_qI Q)) ∧ (v2 = (-1 : Int32) → ob_RT shp E oX8_forged 4 [.ref 0, .int (x1 ||| ((1 : Int32) <<< (x2 &&& 31))), .int (x2 + (1 : Int32))] [] σ1 (ob_qI Q))))))) : ob_RT shp E oX8_forged 4 [.ref 0, .int x1, .int x2] [] σ (ob_qI Q) := by
  refine ob_iload_n d_X8_forged_4 rfl ?_
  refine ob_aload_n d_X8_forged_5 rfl ?_
  refine ob_getR d_X8_forged_6 fl_X8_19 sh_0 rfl rfl ?_
  refine ob_getI d_X8_forged_9 fl_X8_120 sh_10 rfl (by decide) ?_
  refine ob_icmp_ge (tgt := 43) d_X8_forged_12 rfl (fun cc => ?_) (fun cc => ?_)
  · have k := k.1 cc
    refine ob_iload_n d_X8_forged_43 rfl ?_
    exact ob_iret d_X8_forged_44 rfl ⟨_, rfl, k⟩
  · have k := k.2 cc
    refine ob_aload_n d_X8_forged_15 rfl ?_
    refine ob_getR d_X8_forged_16 fl_X8_41 sh_0 rfl rfl ?_
    refine ob_aload_n d_X8_forged_19 rfl ?_
    refine ob_getR d_X8_forged_20 fl_X8_28 sh_0 rfl rfl ?_
    refine ob_iload_n d_X8_forged_23 rfl ?_
    refine ob_callV [.ref 17, .int x2] (z := oX7_firstWrong) (st := []) d_X8_forged_24 lk_X8_246 mv_X7_firstWrong rfl sh_35 cl_7 rfl (Nat.le_of_ble_eq_true rfl) rfl k (ob_kI fun v2 σ1 k => ?_)
    refine ob_iconst (v := -1) d_X8_forged_27 ci_m1 ?_
    refine ob_icmp_ne (tgt := 37) d_X8_forged_28 rfl (fun cc => ?_) (fun cc => ?_)
    · have k := k.1 cc
      refine ob_iinc (ls' := [.ref 0, .int x1, .int (x2 + (1 : Int32))]) (v := 1) d_X8_forged_37 rfl ci_1 (Nat.le_of_ble_eq_true rfl) rfl ?_
      refine ob_goto (tgt := 4) d_X8_forged_40 rfl ?_
      exact k
    · have k := k.2 cc
      refine ob_iload_n d_X8_forged_31 rfl ?_
      refine ob_iconst (v := 1) d_X8_forged_32 ci_1 ?_
      refine ob_iload_n d_X8_forged_33 rfl ?_
      refine ob_ishl d_X8_forged_34 ?_
      refine ob_ior d_X8_forged_35 ?_
      refine ob_istore_n (ls' := [.ref 0, .int (x1 ||| ((1 : Int32) <<< (x2 &&& 31))), .int x2]) d_X8_forged_36 (Nat.le_of_ble_eq_true rfl) rfl ?_
      refine ob_iinc (ls' := [.ref 0, .int (x1 ||| ((1 : Int32) <<< (x2 &&& 31))), .int (x2 + (1 : Int32))]) (v := 1) d_X8_forged_37 rfl ci_1 (Nat.le_of_ble_eq_true rfl) rfl ?_
      refine ob_goto (tgt := 4) d_X8_forged_40 rfl ?_
      exact k
theorem d_X8_drift_0 : decode oX8_drift.2.1 0 = .ok (.iload_n 1, 1) := by decide +kernel
theorem d_X8_drift_1 : decode oX8_drift.2.1 1 = .ok (.iconst 1, 1) := by decide +kernel
theorem d_X8_drift_2 : decode oX8_drift.2.1 2 = .ok (.sipush 999, 3) := by decide +kernel
theorem d_X8_drift_5 : decode oX8_drift.2.1 5 = .ok (.invokestatic 80, 3) := by decide +kernel
theorem d_X8_drift_8 : decode oX8_drift.2.1 8 = .ok (.ifCond .eq 6, 3) := by decide +kernel
theorem d_X8_drift_11 : decode oX8_drift.2.1 11 = .ok (.ldc 84, 2) := by decide +kernel
theorem d_X8_drift_13 : decode oX8_drift.2.1 13 = .ok (.ireturn, 1) := by decide +kernel
theorem d_X8_drift_14 : decode oX8_drift.2.1 14 = .ok (.aload_n 0, 1) := by decide +kernel
theorem d_X8_drift_15 : decode oX8_drift.2.1 15 = .ok (.getfield 19, 3) := by decide +kernel
theorem d_X8_drift_18 : decode oX8_drift.2.1 18 = .ok (.getfield 114, 3) := by decide +kernel
theorem d_X8_drift_21 : decode oX8_drift.2.1 21 = .ok (.ifCond .ne 6, 3) := by decide +kernel
theorem d_X8_drift_24 : decode oX8_drift.2.1 24 = .ok (.ldc 190, 2) := by decide +kernel
theorem d_X8_drift_26 : decode oX8_drift.2.1 26 = .ok (.ireturn, 1) := by decide +kernel
theorem d_X8_drift_27 : decode oX8_drift.2.1 27 = .ok (.aload_n 0, 1) := by decide +kernel
theorem d_X8_drift_28 : decode oX8_drift.2.1 28 = .ok (.getfield 28, 3) := by decide +kernel
theorem d_X8_drift_31 : decode oX8_drift.2.1 31 = .ok (.iload_n 1, 1) := by decide +kernel
theorem d_X8_drift_32 : decode oX8_drift.2.1 32 = .ok (.invokevirtual 250, 3) := by decide +kernel
theorem d_X8_drift_35 : decode oX8_drift.2.1 35 = .ok (.aload_n 0, 1) := by decide +kernel
theorem d_X8_drift_36 : decode oX8_drift.2.1 36 = .ok (.getfield 28, 3) := by decide +kernel
theorem d_X8_drift_39 : decode oX8_drift.2.1 39 = .ok (.getfield 123, 3) := by decide +kernel
theorem d_X8_drift_42 : decode oX8_drift.2.1 42 = .ok (.ireturn, 1) := by decide +kernel
theorem b_X8_drift_0 {E : ob_E} {σ : ob_Mem} {Q : Int32 → ob_Mem → Prop} {x1 : Int32} (k : ob_RM shp E oX8_isOutside [.int x1, .int (1 : Int32), .int (999 : Int32)] σ (ob_qI fun v2 σ1 => ((v2 = 0 → ((¬ (σ1.1 10 7) = 0 → ob_RM shp E oX6_passDaysByDraws [.ref 17, .int x1] σ1 (ob_qV fun σ3 => Q (σ3.1 17 7) σ3)) ∧ ((σ1.1 10 7) = 0 → Q (-1000000003 : Int32) σ1))) ∧ (¬ v2 = 0 → Q (-1000000002 : Int32) σ1)))) : ob_RT shp E oX8_drift 0 [.ref 0, .int x1] [] σ (ob_qI Q) := by
  refine ob_iload_n d_X8_drift_0 rfl ?_
  refine ob_iconst (v := 1) d_X8_drift_1 ci_1 ?_
  refine ob_sipush (v := 999) d_X8_drift_2 cs_999 ?_
  refine ob_callS [.int x1, .int (1 : Int32), .int (999 : Int32)] (z := oX8_isOutside) (st := []) d_X8_drift_5 lk_X8_80 ms_X8_isOutside rfl (Nat.le_of_ble_eq_true rfl) rfl k (ob_kI fun v2 σ1 k => ?_)
  refine ob_if_eq (tgt := 14) d_X8_drift_8 rfl (fun cc => ?_) (fun cc => ?_)
  · have k := k.1 cc
    refine ob_aload_n d_X8_drift_14 rfl ?_
    refine ob_getR d_X8_drift_15 fl_X8_19 sh_0 rfl rfl ?_
    refine ob_getI d_X8_drift_18 fl_X8_114 sh_10 rfl (by decide) ?_
    refine ob_if_ne (tgt := 27) d_X8_drift_21 rfl (fun cc => ?_) (fun cc => ?_)
    · have k := k.1 cc
      refine ob_aload_n d_X8_drift_27 rfl ?_
      refine ob_getR d_X8_drift_28 fl_X8_28 sh_0 rfl rfl ?_
      refine ob_iload_n d_X8_drift_31 rfl ?_
      refine ob_callV [.int x1] (z := oX6_passDaysByDraws) (st := []) d_X8_drift_32 lk_X8_250 mv_X6_passDaysByDraws rfl sh_17 cl_6 rfl (Nat.le_of_ble_eq_true rfl) rfl k (ob_kV fun σ3 k => ?_)
      refine ob_aload_n d_X8_drift_35 rfl ?_
      refine ob_getR d_X8_drift_36 fl_X8_28 sh_0 rfl rfl ?_
      refine ob_getI d_X8_drift_39 fl_X8_123 sh_17 rfl (by decide) ?_
      exact ob_iret d_X8_drift_42 rfl ⟨_, rfl, k⟩
    · have k := k.2 cc
      refine ob_ldc (v := -1000000003) d_X8_drift_24 k_X8_190 ?_
      exact ob_iret d_X8_drift_26 rfl ⟨_, rfl, k⟩
  · have k := k.2 cc
    refine ob_ldc (v := -1000000002) d_X8_drift_11 k_X8_84 ?_
    exact ob_iret d_X8_drift_13 rfl ⟨_, rfl, k⟩
theorem d_X8_seed_0 : decode oX8_seed.2.1 0 = .ok (.iload_n 1, 1) := by decide +kernel
theorem d_X8_seed_1 : decode oX8_seed.2.1 1 = .ok (.ifCond .ge 6, 3) := by decide +kernel
theorem d_X8_seed_4 : decode oX8_seed.2.1 4 = .ok (.ldc 84, 2) := by decide +kernel
theorem d_X8_seed_6 : decode oX8_seed.2.1 6 = .ok (.ireturn, 1) := by decide +kernel
theorem d_X8_seed_7 : decode oX8_seed.2.1 7 = .ok (.aload_n 0, 1) := by decide +kernel
theorem d_X8_seed_8 : decode oX8_seed.2.1 8 = .ok (.getfield 28, 3) := by decide +kernel
theorem d_X8_seed_11 : decode oX8_seed.2.1 11 = .ok (.getfield 253, 3) := by decide +kernel
theorem d_X8_seed_14 : decode oX8_seed.2.1 14 = .ok (.istore_n 2, 1) := by decide +kernel
theorem d_X8_seed_15 : decode oX8_seed.2.1 15 = .ok (.aload_n 0, 1) := by decide +kernel
theorem d_X8_seed_16 : decode oX8_seed.2.1 16 = .ok (.getfield 28, 3) := by decide +kernel
theorem d_X8_seed_19 : decode oX8_seed.2.1 19 = .ok (.iload_n 1, 1) := by decide +kernel
theorem d_X8_seed_20 : decode oX8_seed.2.1 20 = .ok (.putfield 253, 3) := by decide +kernel
theorem d_X8_seed_23 : decode oX8_seed.2.1 23 = .ok (.iload_n 2, 1) := by decide +kernel
theorem d_X8_seed_24 : decode oX8_seed.2.1 24 = .ok (.ireturn, 1) := by decide +kernel
theorem b_X8_seed_0 {E : ob_E} {σ : ob_Mem} {Q : Int32 → ob_Mem → Prop} {x1 : Int32} (k : ((0 ≤ x1 → Q (σ.1 17 8) (ob_wI σ 17 8 x1)) ∧ (¬ 0 ≤ x1 → Q (-1000000002 : Int32) σ))) : ob_RT shp E oX8_seed 0 [.ref 0, .int x1, .null] [] σ (ob_qI Q) := by
  refine ob_iload_n d_X8_seed_0 rfl ?_
  refine ob_if_ge (tgt := 7) d_X8_seed_1 rfl (fun cc => ?_) (fun cc => ?_)
  · have k := k.1 cc
    refine ob_aload_n d_X8_seed_7 rfl ?_
    refine ob_getR d_X8_seed_8 fl_X8_28 sh_0 rfl rfl ?_
    refine ob_getI d_X8_seed_11 fl_X8_253 sh_17 rfl (by decide) ?_
    refine ob_istore_n (ls' := [.ref 0, .int x1, .int (σ.1 17 8)]) d_X8_seed_14 (Nat.le_of_ble_eq_true rfl) rfl ?_
    refine ob_aload_n d_X8_seed_15 rfl ?_
    refine ob_getR d_X8_seed_16 fl_X8_28 sh_0 rfl rfl ?_
    refine ob_iload_n d_X8_seed_19 rfl ?_
    refine ob_putI d_X8_seed_20 fp_X8_253 sh_17 rfl rfl ?_
    refine ob_iload_n d_X8_seed_23 rfl ?_
    exact ob_iret d_X8_seed_24 rfl ⟨_, rfl, k⟩
  · have k := k.2 cc
    refine ob_ldc (v := -1000000002) d_X8_seed_4 k_X8_84 ?_
    exact ob_iret d_X8_seed_6 rfl ⟨_, rfl, k⟩
theorem d_X8_keep_0 : decode oX8_keep.2.1 0 = .ok (.iload_n 1, 1) := by decide +kernel
theorem d_X8_keep_1 : decode oX8_keep.2.1 1 = .ok (.iconst 0, 1) := by decide +kernel
theorem d_X8_keep_2 : decode oX8_keep.2.1 2 = .ok (.iconst 1, 1) := by decide +kernel
theorem d_X8_keep_3 : decode oX8_keep.2.1 3 = .ok (.invokestatic 80, 3) := by decide +kernel
theorem d_X8_keep_6 : decode oX8_keep.2.1 6 = .ok (.ifCond .eq 6, 3) := by decide +kernel
theorem d_X8_keep_9 : decode oX8_keep.2.1 9 = .ok (.ldc 135, 2) := by decide +kernel
theorem d_X8_keep_11 : decode oX8_keep.2.1 11 = .ok (.ireturn, 1) := by decide +kernel
theorem d_X8_keep_12 : decode oX8_keep.2.1 12 = .ok (.aload_n 0, 1) := by decide +kernel
theorem d_X8_keep_13 : decode oX8_keep.2.1 13 = .ok (.iload_n 1, 1) := by decide +kernel
theorem d_X8_keep_14 : decode oX8_keep.2.1 14 = .ok (.invokevirtual 256, 3) := by decide +kernel
theorem d_X8_keep_17 : decode oX8_keep.2.1 17 = .ok (.aload_n 0, 1) := by decide +kernel
theorem d_X8_keep_18 : decode oX8_keep.2.1 18 = .ok (.getfield 28, 3) := by decide +kernel
theorem d_X8_keep_21 : decode oX8_keep.2.1 21 = .ok (.invokevirtual 260, 3) := by decide +kernel
theorem d_X8_keep_24 : decode oX8_keep.2.1 24 = .ok (.aload_n 0, 1) := by decide +kernel
theorem d_X8_keep_25 : decode oX8_keep.2.1 25 = .ok (.dup, 1) := by decide +kernel
theorem d_X8_keep_26 : decode oX8_keep.2.1 26 = .ok (.getfield 73, 3) := by decide +kernel
theorem d_X8_keep_29 : decode oX8_keep.2.1 29 = .ok (.iconst 1, 1) := by decide +kernel
theorem d_X8_keep_30 : decode oX8_keep.2.1 30 = .ok (.iload_n 1, 1) := by decide +kernel
theorem d_X8_keep_31 : decode oX8_keep.2.1 31 = .ok (.ishl, 1) := by decide +kernel
theorem d_X8_keep_32 : decode oX8_keep.2.1 32 = .ok (.ior, 1) := by decide +kernel
theorem d_X8_keep_33 : decode oX8_keep.2.1 33 = .ok (.putfield 73, 3) := by decide +kernel
theorem d_X8_keep_36 : decode oX8_keep.2.1 36 = .ok (.iconst 1, 1) := by decide +kernel
theorem d_X8_keep_37 : decode oX8_keep.2.1 37 = .ok (.ireturn, 1) := by decide +kernel
theorem b_X8_keep_0 {E : ob_E} {σ : ob_Mem} {Q : Int32 → ob_Mem → Prop} {x1 : Int32} (k : ob_RM shp E oX8_isOutside [.int x1, .int (0 : Int32), .int (1 : Int32)] σ (ob_qI fun v2 σ1 => ((v2 = 0 → ob_RM shp E oX8_imageOf [.ref 0, .int x1] σ1 (ob_qR fun v4 σ3 => ((v4 = 23 ∧ ob_RM shp E oX6_becomeLike [.ref 23, .ref 17] σ3 (ob_qV fun σ5 => Q (1 : Int32) (ob_wI σ5 0 10 ((σ5.1 0 10) ||| ((1 : Int32) <<< (x1 &&& 31)))))) ∨ (v4 = 29 ∧ ob_RM shp E oX6_becomeLike [.ref 29, .ref 17] σ3 (ob_qV fun σ6 => Q (1 : Int32) (ob_wI σ6 0 10 ((σ6.1 0 10) ||| ((1 : Int32) <<< (x1 &&& 31))))))))) ∧ (¬ v2 = 0 → Q (-1000000001 : Int32) σ1)))) : ob_RT shp E oX8_keep 0 [.ref 0, .int x1] [] σ (ob_qI Q) := by
  refine ob_iload_n d_X8_keep_0 rfl ?_
  refine ob_iconst (v := 0) d_X8_keep_1 ci_0 ?_
  refine ob_iconst (v := 1) d_X8_keep_2 ci_1 ?_
  refine ob_callS [.int x1, .int (0 : Int32), .int (1 : Int32)] (z := oX8_isOutside) (st := []) d_X8_keep_3 lk_X8_80 ms_X8_isOutside rfl (Nat.le_of_ble_eq_true rfl) rfl k (ob_kI fun v2 σ1 k => ?_)
  refine ob_if_eq (tgt := 12) d_X8_keep_6 rfl (fun cc => ?_) (fun cc => ?_)
  · have k := k.1 cc
    refine ob_aload_n d_X8_keep_12 rfl ?_
    refine ob_iload_n d_X8_keep_13 rfl ?_
    refine ob_callV [.int x1] (z := oX8_imageOf) (st := []) d_X8_keep_14 lk_X8_256 mv_X8_imageOf rfl sh_0 cl_8 rfl (Nat.le_of_ble_eq_true rfl) rfl k (ob_kR fun v4 σ3 k => ?_)
    rcases k with ⟨rfl, k⟩ | ⟨rfl, k⟩
    · refine ob_aload_n d_X8_keep_17 rfl ?_
      refine ob_getR d_X8_keep_18 fl_X8_28 sh_0 rfl rfl ?_
      refine ob_callV [.ref 17] (z := oX6_becomeLike) (st := []) d_X8_keep_21 lk_X8_260 mv_X6_becomeLike rfl sh_23 cl_6 rfl (Nat.le_of_ble_eq_true rfl) rfl k (ob_kV fun σ5 k => ?_)
      refine ob_aload_n d_X8_keep_24 rfl ?_
      refine ob_dup d_X8_keep_25 rfl ?_
      refine ob_getI d_X8_keep_26 fl_X8_73 sh_0 rfl (by decide) ?_
      refine ob_iconst (v := 1) d_X8_keep_29 ci_1 ?_
      refine ob_iload_n d_X8_keep_30 rfl ?_
      refine ob_ishl d_X8_keep_31 ?_
      refine ob_ior d_X8_keep_32 ?_
      refine ob_putI d_X8_keep_33 fp_X8_73 sh_0 rfl rfl ?_
      refine ob_iconst (v := 1) d_X8_keep_36 ci_1 ?_
      exact ob_iret d_X8_keep_37 rfl ⟨_, rfl, k⟩
    · refine ob_aload_n d_X8_keep_17 rfl ?_
      refine ob_getR d_X8_keep_18 fl_X8_28 sh_0 rfl rfl ?_
      refine ob_callV [.ref 17] (z := oX6_becomeLike) (st := []) d_X8_keep_21 lk_X8_260 mv_X6_becomeLike rfl sh_29 cl_6 rfl (Nat.le_of_ble_eq_true rfl) rfl k (ob_kV fun σ6 k => ?_)
      refine ob_aload_n d_X8_keep_24 rfl ?_
      refine ob_dup d_X8_keep_25 rfl ?_
      refine ob_getI d_X8_keep_26 fl_X8_73 sh_0 rfl (by decide) ?_
      refine ob_iconst (v := 1) d_X8_keep_29 ci_1 ?_
      refine ob_iload_n d_X8_keep_30 rfl ?_
      refine ob_ishl d_X8_keep_31 ?_
      refine ob_ior d_X8_keep_32 ?_
      refine ob_putI d_X8_keep_33 fp_X8_73 sh_0 rfl rfl ?_
      refine ob_iconst (v := 1) d_X8_keep_36 ci_1 ?_
      exact ob_iret d_X8_keep_37 rfl ⟨_, rfl, k⟩
  · have k := k.2 cc
    refine ob_ldc (v := -1000000001) d_X8_keep_9 k_X8_135 ?_
    exact ob_iret d_X8_keep_11 rfl ⟨_, rfl, k⟩
theorem d_X8_goBack_0 : decode oX8_goBack.2.1 0 = .ok (.iload_n 1, 1) := by decide +kernel
theorem d_X8_goBack_1 : decode oX8_goBack.2.1 1 = .ok (.iconst 0, 1) := by decide +kernel
theorem d_X8_goBack_2 : decode oX8_goBack.2.1 2 = .ok (.iconst 1, 1) := by decide +kernel
theorem d_X8_goBack_3 : decode oX8_goBack.2.1 3 = .ok (.invokestatic 80, 3) := by decide +kernel
theorem d_X8_goBack_6 : decode oX8_goBack.2.1 6 = .ok (.ifCond .eq 6, 3) := by decide +kernel
theorem d_X8_goBack_9 : decode oX8_goBack.2.1 9 = .ok (.ldc 135, 2) := by decide +kernel
theorem d_X8_goBack_11 : decode oX8_goBack.2.1 11 = .ok (.ireturn, 1) := by decide +kernel
theorem d_X8_goBack_12 : decode oX8_goBack.2.1 12 = .ok (.aload_n 0, 1) := by decide +kernel
theorem d_X8_goBack_13 : decode oX8_goBack.2.1 13 = .ok (.getfield 73, 3) := by decide +kernel
theorem d_X8_goBack_16 : decode oX8_goBack.2.1 16 = .ok (.iload_n 1, 1) := by decide +kernel
theorem d_X8_goBack_17 : decode oX8_goBack.2.1 17 = .ok (.ishr, 1) := by decide +kernel
theorem d_X8_goBack_18 : decode oX8_goBack.2.1 18 = .ok (.iconst 1, 1) := by decide +kernel
theorem d_X8_goBack_19 : decode oX8_goBack.2.1 19 = .ok (.iand, 1) := by decide +kernel
theorem d_X8_goBack_20 : decode oX8_goBack.2.1 20 = .ok (.ifCond .ne 6, 3) := by decide +kernel
theorem d_X8_goBack_23 : decode oX8_goBack.2.1 23 = .ok (.ldc 190, 2) := by decide +kernel
theorem d_X8_goBack_25 : decode oX8_goBack.2.1 25 = .ok (.ireturn, 1) := by decide +kernel
theorem d_X8_goBack_26 : decode oX8_goBack.2.1 26 = .ok (.aload_n 0, 1) := by decide +kernel
theorem d_X8_goBack_27 : decode oX8_goBack.2.1 27 = .ok (.getfield 28, 3) := by decide +kernel
theorem d_X8_goBack_30 : decode oX8_goBack.2.1 30 = .ok (.aload_n 0, 1) := by decide +kernel
theorem d_X8_goBack_31 : decode oX8_goBack.2.1 31 = .ok (.iload_n 1, 1) := by decide +kernel
theorem d_X8_goBack_32 : decode oX8_goBack.2.1 32 = .ok (.invokevirtual 256, 3) := by decide +kernel
theorem d_X8_goBack_35 : decode oX8_goBack.2.1 35 = .ok (.invokevirtual 260, 3) := by decide +kernel
theorem d_X8_goBack_38 : decode oX8_goBack.2.1 38 = .ok (.iconst 1, 1) := by decide +kernel
theorem d_X8_goBack_39 : decode oX8_goBack.2.1 39 = .ok (.ireturn, 1) := by decide +kernel
theorem b_X8_goBack_0 {E : ob_E} {σ : ob_Mem} {Q : Int32 → ob_Mem → Prop} {x1 : Int32} (k : ob_RM shp E oX8_isOutside [.int x1, .int (0 : Int32), .int (1 : Int32)] σ (ob_qI fun v2 σ1 => ((v2 = 0 → ((¬ (((σ1.1 0 10) >>> (x1 &&& 31)) &&& (1 : Int32)) = 0 → ob_RM shp E oX8_imageOf [.ref 0, .int x1] σ1 (ob_qR fun v4 σ3 => ((v4 = 23 ∧ ob_RM shp E oX6_becomeLike [.ref 17, .ref 23] σ3 (ob_qV fun σ5 => Q (1 : Int32) σ5)) ∨ (v4 = 29 ∧ ob_RM shp E oX6_becomeLike [.ref 17, .ref 29] σ3 (ob_qV fun σ6 => Q (1 : Int32) σ6))))) ∧ ((((σ1.1 0 10) >>> (x1 &&& 31)) &&& (1 : Int32)) = 0 → Q (-1000000003 : Int32) σ1))) ∧ (¬ v2 = 0 → Q (-1000000001 : Int32) σ1)))) : ob_RT shp E oX8_goBack 0 [.ref 0, .int x1] [] σ (ob_qI Q) := by
  refine ob_iload_n d_X8_goBack_0 rfl ?_
  refine ob_iconst (v := 0) d_X8_goBack_1 ci_0 ?_
  refine ob_iconst (v := 1) d_X8_goBack_2 ci_1 ?_
  refine ob_callS [.int x1, .int (0 : Int32), .int (1 : Int32)] (z := oX8_isOutside) (st := []) d_X8_goBack_3 lk_X8_80 ms_X8_isOutside rfl (Nat.le_of_ble_eq_true rfl) rfl k (ob_kI fun v2 σ1 k => ?_)
  refine ob_if_eq (tgt := 12) d_X8_goBack_6 rfl (fun cc => ?_) (fun cc => ?_)
  · have k := k.1 cc
    refine ob_aload_n d_X8_goBack_12 rfl ?_
    refine ob_getI d_X8_goBack_13 fl_X8_73 sh_0 rfl (by decide) ?_
    refine ob_iload_n d_X8_goBack_16 rfl ?_
    refine ob_ishr d_X8_goBack_17 ?_
    refine ob_iconst (v := 1) d_X8_goBack_18 ci_1 ?_
    refine ob_iand d_X8_goBack_19 ?_
    refine ob_if_ne (tgt := 26) d_X8_goBack_20 rfl (fun cc => ?_) (fun cc => ?_)
    · have k := k.1 cc
      refine ob_aload_n d_X8_goBack_26 rfl ?_
      refine ob_getR d_X8_goBack_27 fl_X8_28 sh_0 rfl rfl ?_
      refine ob_aload_n d_X8_goBack_30 rfl ?_
      refine ob_iload_n d_X8_goBack_31 rfl ?_
      refine ob_callV [.int x1] (z := oX8_imageOf) (st := [.ref 17]) d_X8_goBack_32 lk_X8_256 mv_X8_imageOf rfl sh_0 cl_8 rfl (Nat.le_of_ble_eq_true rfl) rfl k (ob_kR fun v4 σ3 k => ?_)
      rcases k with ⟨rfl, k⟩ | ⟨rfl, k⟩
      · refine ob_callV [.ref 23] (z := oX6_becomeLike) (st := []) d_X8_goBack_35 lk_X8_260 mv_X6_becomeLike rfl sh_17 cl_6 rfl (Nat.le_of_ble_eq_true rfl) rfl k (ob_kV fun σ5 k => ?_)
        refine ob_iconst (v := 1) d_X8_goBack_38 ci_1 ?_
        exact ob_iret d_X8_goBack_39 rfl ⟨_, rfl, k⟩
      · refine ob_callV [.ref 29] (z := oX6_becomeLike) (st := []) d_X8_goBack_35 lk_X8_260 mv_X6_becomeLike rfl sh_17 cl_6 rfl (Nat.le_of_ble_eq_true rfl) rfl k (ob_kV fun σ6 k => ?_)
        refine ob_iconst (v := 1) d_X8_goBack_38 ci_1 ?_
        exact ob_iret d_X8_goBack_39 rfl ⟨_, rfl, k⟩
    · have k := k.2 cc
      refine ob_ldc (v := -1000000003) d_X8_goBack_23 k_X8_190 ?_
      exact ob_iret d_X8_goBack_25 rfl ⟨_, rfl, k⟩
  · have k := k.2 cc
    refine ob_ldc (v := -1000000001) d_X8_goBack_9 k_X8_135 ?_
    exact ob_iret d_X8_goBack_11 rfl ⟨_, rfl, k⟩
theorem d_X8_isOutside_0 : decode oX8_isOutside.2.1 0 = .ok (.iload_n 0, 1) := by decide +kernel
theorem d_X8_isOutside_1 : decode oX8_isOutside.2.1 1 = .ok (.iload_n 1, 1) := by decide +kernel
theorem d_X8_isOutside_2 : decode oX8_isOutside.2.1 2 = .ok (.if_icmp .lt 8, 3) := by decide +kernel
theorem d_X8_isOutside_5 : decode oX8_isOutside.2.1 5 = .ok (.iload_n 0, 1) := by decide +kernel
theorem d_X8_isOutside_6 : decode oX8_isOutside.2.1 6 = .ok (.iload_n 2, 1) := by decide +kernel
theorem d_X8_isOutside_7 : decode oX8_isOutside.2.1 7 = .ok (.if_icmp .le 7, 3) := by decide +kernel
theorem d_X8_isOutside_10 : decode oX8_isOutside.2.1 10 = .ok (.iconst 1, 1) := by decide +kernel
theorem d_X8_isOutside_11 : decode oX8_isOutside.2.1 11 = .ok (.goto 4, 3) := by decide +kernel
theorem d_X8_isOutside_14 : decode oX8_isOutside.2.1 14 = .ok (.iconst 0, 1) := by decide +kernel
theorem d_X8_isOutside_15 : decode oX8_isOutside.2.1 15 = .ok (.ireturn, 1) := by decide +kernel
theorem b_X8_isOutside_0 {E : ob_E} {σ : ob_Mem} {Q : Int32 → ob_Mem → Prop} {x0 x1 x2 : Int32} (k : ((x0 < x1 → Q (1 : Int32) σ) ∧ (¬ x0 < x1 → ((x0 ≤ x2 → Q (0 : Int32) σ) ∧ (¬ x0 ≤ x2 → Q (1 : Int32) σ))))) : ob_RT shp E oX8_isOutside 0 [.int x0, .int x1, .int x2] [] σ (ob_qI Q) := by
  refine ob_iload_n d_X8_isOutside_0 rfl ?_
  refine ob_iload_n d_X8_isOutside_1 rfl ?_
  refine ob_icmp_lt (tgt := 10) d_X8_isOutside_2 rfl (fun cc => ?_) (fun cc => ?_)
  · have k := k.1 cc
    refine ob_iconst (v := 1) d_X8_isOutside_10 ci_1 ?_
    refine ob_goto (tgt := 15) d_X8_isOutside_11 rfl ?_
    exact ob_zret d_X8_isOutside_15 rfl rfl ⟨_, rfl, k⟩
  · have k := k.2 cc
    refine ob_iload_n d_X8_isOutside_5 rfl ?_
    refine ob_iload_n d_X8_isOutside_6 rfl ?_
    refine ob_icmp_le (tgt := 14) d_X8_isOutside_7 rfl (fun cc => ?_) (fun cc => ?_)
    · have k := k.1 cc
      refine ob_iconst (v := 0) d_X8_isOutside_14 ci_0 ?_
      exact ob_zret d_X8_isOutside_15 rfl rfl ⟨_, rfl, k⟩
    · have k := k.2 cc
      refine ob_iconst (v := 1) d_X8_isOutside_10 ci_1 ?_
      refine ob_goto (tgt := 15) d_X8_isOutside_11 rfl ?_
      exact ob_zret d_X8_isOutside_15 rfl rfl ⟨_, rfl, k⟩
theorem d_X8_imageOf_0 : decode oX8_imageOf.2.1 0 = .ok (.iload_n 1, 1) := by decide +kernel
theorem d_X8_imageOf_1 : decode oX8_imageOf.2.1 1 = .ok (.ifCond .ne 10, 3) := by decide +kernel
theorem d_X8_imageOf_4 : decode oX8_imageOf.2.1 4 = .ok (.aload_n 0, 1) := by decide +kernel
theorem d_X8_imageOf_5 : decode oX8_imageOf.2.1 5 = .ok (.getfield 32, 3) := by decide +kernel
theorem d_X8_imageOf_8 : decode oX8_imageOf.2.1 8 = .ok (.goto 7, 3) := by decide +kernel
theorem d_X8_imageOf_11 : decode oX8_imageOf.2.1 11 = .ok (.aload_n 0, 1) := by decide +kernel
theorem d_X8_imageOf_12 : decode oX8_imageOf.2.1 12 = .ok (.getfield 35, 3) := by decide +kernel
theorem d_X8_imageOf_15 : decode oX8_imageOf.2.1 15 = .ok (.areturn, 1) := by decide +kernel
theorem b_X8_imageOf_0 {E : ob_E} {σ : ob_Mem} {Q : Nat → ob_Mem → Prop} {x1 : Int32} (k : ((¬ x1 = 0 → Q 29 σ) ∧ (x1 = 0 → Q 23 σ))) : ob_RT shp E oX8_imageOf 0 [.ref 0, .int x1] [] σ (ob_qR Q) := by
  refine ob_iload_n d_X8_imageOf_0 rfl ?_
  refine ob_if_ne (tgt := 11) d_X8_imageOf_1 rfl (fun cc => ?_) (fun cc => ?_)
  · have k := k.1 cc
    refine ob_aload_n d_X8_imageOf_11 rfl ?_
    refine ob_getR d_X8_imageOf_12 fl_X8_35 sh_0 rfl rfl ?_
    exact ob_aret d_X8_imageOf_15 rfl ⟨_, rfl, k⟩
  · have k := k.2 cc
    refine ob_aload_n d_X8_imageOf_4 rfl ?_
    refine ob_getR d_X8_imageOf_5 fl_X8_32 sh_0 rfl rfl ?_
    refine ob_goto (tgt := 15) d_X8_imageOf_8 rfl ?_
    exact ob_aret d_X8_imageOf_15 rfl ⟨_, rfl, k⟩
