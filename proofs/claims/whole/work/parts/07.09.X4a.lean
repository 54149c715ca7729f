/-! code of X4: the decode rows and a row for each piece between cut points (printed by wip/whole/mk.py) -/
theorem d_X4_make_0 : decode oX4_make.2.1 0 = .ok (.aload_n 0, 1) := by decide +kernel
theorem d_X4_make_1 : decode oX4_make.2.1 1 = .ok (.getfield 9, 3) := by decide +kernel
theorem d_X4_make_4 : decode oX4_make.2.1 4 = .ok (.iconst 0, 1) := by decide +kernel
theorem d_X4_make_5 : decode oX4_make.2.1 5 = .ok (.invokestatic 19, 3) := by decide +kernel
theorem d_X4_make_8 : decode oX4_make.2.1 8 = .ok (.iload_n 3, 1) := by decide +kernel
theorem d_X4_make_9 : decode oX4_make.2.1 9 = .ok (.bipush 60, 2) := by decide +kernel
theorem d_X4_make_11 : decode oX4_make.2.1 11 = .ok (.invokestatic 25, 3) := by decide +kernel
theorem d_X4_make_14 : decode oX4_make.2.1 14 = .ok (.iconst 1, 1) := by decide +kernel
theorem d_X4_make_15 : decode oX4_make.2.1 15 = .ok (.isub, 1) := by decide +kernel
theorem d_X4_make_16 : decode oX4_make.2.1 16 = .ok (.istore 4, 2) := by decide +kernel
theorem d_X4_make_18 : decode oX4_make.2.1 18 = .ok (.iload 4, 2) := by decide +kernel
theorem d_X4_make_20 : decode oX4_make.2.1 20 = .ok (.ifCond .lt 107, 3) := by decide +kernel
theorem d_X4_make_23 : decode oX4_make.2.1 23 = .ok (.lconst 0, 1) := by decide +kernel
theorem d_X4_make_24 : decode oX4_make.2.1 24 = .ok (.lstore 5, 2) := by decide +kernel
theorem d_X4_make_26 : decode oX4_make.2.1 26 = .ok (.iconst 0, 1) := by decide +kernel
theorem d_X4_make_27 : decode oX4_make.2.1 27 = .ok (.istore 7, 2) := by decide +kernel
theorem d_X4_make_29 : decode oX4_make.2.1 29 = .ok (.iload 7, 2) := by decide +kernel
theorem d_X4_make_31 : decode oX4_make.2.1 31 = .ok (.iload 4, 2) := by decide +kernel
theorem d_X4_make_33 : decode oX4_make.2.1 33 = .ok (.if_icmp .gt 79, 3) := by decide +kernel
theorem d_X4_make_36 : decode oX4_make.2.1 36 = .ok (.aload_n 1, 1) := by decide +kernel
theorem d_X4_make_37 : decode oX4_make.2.1 37 = .ok (.iload_n 2, 1) := by decide +kernel
theorem d_X4_make_38 : decode oX4_make.2.1 38 = .ok (.iload 7, 2) := by decide +kernel
theorem d_X4_make_40 : decode oX4_make.2.1 40 = .ok (.iadd, 1) := by decide +kernel
theorem d_X4_make_41 : decode oX4_make.2.1 41 = .ok (.invokevirtual 31, 3) := by decide +kernel
theorem d_X4_make_44 : decode oX4_make.2.1 44 = .ok (.aload_n 0, 1) := by decide +kernel
theorem d_X4_make_45 : decode oX4_make.2.1 45 = .ok (.getfield 9, 3) := by decide +kernel
theorem d_X4_make_48 : decode oX4_make.2.1 48 = .ok (.iload 7, 2) := by decide +kernel
theorem d_X4_make_50 : decode oX4_make.2.1 50 = .ok (.iaload, 1) := by decide +kernel
theorem d_X4_make_51 : decode oX4_make.2.1 51 = .ok (.iadd, 1) := by decide +kernel
theorem d_X4_make_52 : decode oX4_make.2.1 52 = .ok (.istore 8, 2) := by decide +kernel
theorem d_X4_make_54 : decode oX4_make.2.1 54 = .ok (.aload_n 1, 1) := by decide +kernel
theorem d_X4_make_55 : decode oX4_make.2.1 55 = .ok (.iload_n 2, 1) := by decide +kernel
theorem d_X4_make_56 : decode oX4_make.2.1 56 = .ok (.iload 7, 2) := by decide +kernel
theorem d_X4_make_58 : decode oX4_make.2.1 58 = .ok (.iadd, 1) := by decide +kernel
theorem d_X4_make_59 : decode oX4_make.2.1 59 = .ok (.iconst 1, 1) := by decide +kernel
theorem d_X4_make_60 : decode oX4_make.2.1 60 = .ok (.iadd, 1) := by decide +kernel
theorem d_X4_make_61 : decode oX4_make.2.1 61 = .ok (.invokevirtual 31, 3) := by decide +kernel
theorem d_X4_make_64 : decode oX4_make.2.1 64 = .ok (.aload_n 0, 1) := by decide +kernel
theorem d_X4_make_65 : decode oX4_make.2.1 65 = .ok (.getfield 9, 3) := by decide +kernel
theorem d_X4_make_68 : decode oX4_make.2.1 68 = .ok (.iload 7, 2) := by decide +kernel
theorem d_X4_make_70 : decode oX4_make.2.1 70 = .ok (.iconst 1, 1) := by decide +kernel
theorem d_X4_make_71 : decode oX4_make.2.1 71 = .ok (.iadd, 1) := by decide +kernel
theorem d_X4_make_72 : decode oX4_make.2.1 72 = .ok (.iaload, 1) := by decide +kernel
theorem d_X4_make_73 : decode oX4_make.2.1 73 = .ok (.iadd, 1) := by decide +kernel
theorem d_X4_make_74 : decode oX4_make.2.1 74 = .ok (.istore 9, 2) := by decide +kernel
theorem d_X4_make_76 : decode oX4_make.2.1 76 = .ok (.iload 9, 2) := by decide +kernel
theorem d_X4_make_78 : decode oX4_make.2.1 78 = .ok (.iload 8, 2) := by decide +kernel
theorem d_X4_make_80 : decode oX4_make.2.1 80 = .ok (.if_icmp .le 12, 3) := by decide +kernel
theorem d_X4_make_83 : decode oX4_make.2.1 83 = .ok (.lload 5, 2) := by decide +kernel
theorem d_X4_make_85 : decode oX4_make.2.1 85 = .ok (.lconst 1, 1) := by decide +kernel
theorem d_X4_make_86 : decode oX4_make.2.1 86 = .ok (.iload 7, 2) := by decide +kernel
theorem d_X4_make_88 : decode oX4_make.2.1 88 = .ok (.lshl, 1) := by decide +kernel
theorem d_X4_make_89 : decode oX4_make.2.1 89 = .ok (.lor, 1) := by decide +kernel
theorem d_X4_make_90 : decode oX4_make.2.1 90 = .ok (.lstore 5, 2) := by decide +kernel
theorem d_X4_make_92 : decode oX4_make.2.1 92 = .ok (.aload_n 0, 1) := by decide +kernel
theorem d_X4_make_93 : decode oX4_make.2.1 93 = .ok (.getfield 9, 3) := by decide +kernel
theorem d_X4_make_96 : decode oX4_make.2.1 96 = .ok (.iload 7, 2) := by decide +kernel
theorem d_X4_make_98 : decode oX4_make.2.1 98 = .ok (.iload 8, 2) := by decide +kernel
theorem d_X4_make_100 : decode oX4_make.2.1 100 = .ok (.iload 9, 2) := by decide +kernel
theorem d_X4_make_102 : decode oX4_make.2.1 102 = .ok (.invokestatic 37, 3) := by decide +kernel
theorem d_X4_make_105 : decode oX4_make.2.1 105 = .ok (.iastore, 1) := by decide +kernel
theorem d_X4_make_106 : decode oX4_make.2.1 106 = .ok (.iinc 7 1, 3) := by decide +kernel
theorem d_X4_make_109 : decode oX4_make.2.1 109 = .ok (.goto (-80), 3) := by decide +kernel
theorem d_X4_make_112 : decode oX4_make.2.1 112 = .ok (.aload_n 0, 1) := by decide +kernel
theorem d_X4_make_113 : decode oX4_make.2.1 113 = .ok (.getfield 15, 3) := by decide +kernel
theorem d_X4_make_116 : decode oX4_make.2.1 116 = .ok (.iload 4, 2) := by decide +kernel
theorem d_X4_make_118 : decode oX4_make.2.1 118 = .ok (.lload 5, 2) := by decide +kernel
theorem d_X4_make_120 : decode oX4_make.2.1 120 = .ok (.lastore, 1) := by decide +kernel
theorem d_X4_make_121 : decode oX4_make.2.1 121 = .ok (.iinc 4 (-1), 3) := by decide +kernel
theorem d_X4_make_124 : decode oX4_make.2.1 124 = .ok (.goto (-106), 3) := by decide +kernel
theorem d_X4_make_127 : decode oX4_make.2.1 127 = .ok (.return_, 1) := by decide +kernel
theorem b_X4_make_0 {E : ob_E} {σ : ob_Mem} {Q : ob_Mem → Prop} {x2 x3 : Int32} (k : ob_RM shp E oJ7_fill_53178 [.ref 43, .int (0 : Int32)] σ (ob_qV fun σ1 => ob_RT shp E oX4_make 18 [.ref 42, .ref 10, .int x2, .int x3, .int ((ob_min x3 (60 : Int32)) - (1 : Int32)), .null, .null, .null, .null, .null] [] σ1 (ob_qV Q))) : ob_RT shp E oX4_make 0 [.ref 42, .ref 10, .int x2, .int x3, .null, .null, .null, .null, .null, .null] [] σ (ob_qV Q) := by
  refine ob_aload_n d_X4_make_0 rfl ?_
  refine ob_getR d_X4_make_1 fl_X4_9 sh_42 rfl rfl ?_
  refine ob_iconst (v := 0) d_X4_make_4 ci_0 ?_
  refine ob_callS [.ref 43, .int (0 : Int32)] (z := oJ7_fill_53178) (st := []) d_X4_make_5 lk_X4_19 ms_J7_fill_53178 rfl (Nat.le_of_ble_eq_true rfl) rfl k (ob_kV fun σ1 k => ?_)
  refine ob_iload_n d_X4_make_8 rfl ?_
  refine ob_bipush (v := 60) d_X4_make_9 cb_60 ?_
  refine ob_mmin (st := []) d_X4_make_11 ml_X4_25 (Nat.le_of_ble_eq_true rfl) (Nat.le_of_ble_eq_true rfl) ?_
  refine ob_iconst (v := 1) d_X4_make_14 ci_1 ?_
  refine ob_isub d_X4_make_15 ?_
  refine ob_istore (ls' := [.ref 42, .ref 10, .int x2, .int x3, .int ((ob_min x3 (60 : Int32)) - (1 : Int32)), .null, .null, .null, .null, .null]) d_X4_make_16 (Nat.le_of_ble_eq_true rfl) rfl ?_
  exact k
theorem b_X4_make_18 {E : ob_E} {σ : ob_Mem} {Q : ob_Mem → Prop} {x2 x3 x4 : Int32} (k : ((x4 < 0 → Q σ) ∧ (¬ x4 < 0 → ob_RT shp E oX4_make 29 [.ref 42, .ref 10, .int x2, .int x3, .int x4, .long (0 : Int64), .null, .int (0 : Int32), .null, .null] [] σ (ob_qV Q)))) : ob_RT shp E oX4_make 18 [.ref 42, .ref 10, .int x2, .int x3, .int x4, .null, .null, .null, .null, .null] [] σ (ob_qV Q) := by
  refine ob_iload d_X4_make_18 rfl ?_
  refine ob_if_lt (tgt := 127) d_X4_make_20 rfl (fun cc => ?_) (fun cc => ?_)
  · have k := k.1 cc
    exact ob_vret d_X4_make_127 rfl ⟨rfl, k⟩
  · have k := k.2 cc
    refine ob_lconst (v := 0) d_X4_make_23 rfl ?_
    refine ob_lstore (ls' := [.ref 42, .ref 10, .int x2, .int x3, .int x4, .long (0 : Int64), .null, .null, .null, .null]) d_X4_make_24 (Nat.le_of_ble_eq_true rfl) rfl ?_
    refine ob_iconst (v := 0) d_X4_make_26 ci_0 ?_
    refine ob_istore (ls' := [.ref 42, .ref 10, .int x2, .int x3, .int x4, .long (0 : Int64), .null, .int (0 : Int32), .null, .null]) d_X4_make_27 (Nat.le_of_ble_eq_true rfl) rfl ?_
    exact k
theorem b_X4_make_29 {E : ob_E} {σ : ob_Mem} {Q : ob_Mem → Prop} {x2 x3 x4 x7 : Int32} {x5 : Int64} (k : ((x4 < x7 → (vp_in x4 60 ∧ ob_RT shp E oX4_make 18 [.ref 42, .ref 10, .int x2, .int x3, .int (x4 + (-1 : Int32)), .null, .null, .null, .null, .null] [] (ob_wL σ 44 (x4).toNatClampNeg x5) (ob_qV Q))) ∧ (¬ x4 < x7 → ob_RM shp E oX2_goodOf [.ref 10, .int (x2 + x7)] σ (ob_qI fun v2 σ1 => (vp_in x7 61 ∧ ob_RM shp E oX2_goodOf [.ref 10, .int ((x2 + x7) + (1 : Int32))] σ1 (ob_qI fun v4 σ3 => (vp_in (x7 + (1 : Int32)) 61 ∧ (((v4 + (σ3.1 43 ((x7 + (1 : Int32))).toNatClampNeg)) ≤ (v2 + (σ1.1 43 (x7).toNatClampNeg)) → ob_RT shp E oX4_make 92 [.ref 42, .ref 10, .int x2, .int x3, .int x4, .long x5, .null, .int x7, .int (v2 + (σ1.1 43 (x7).toNatClampNeg)), .int (v4 + (σ3.1 43 ((x7 + (1 : Int32))).toNatClampNeg))] [] σ3 (ob_qV Q)) ∧ (¬ (v4 + (σ3.1 43 ((x7 + (1 : Int32))).toNatClampNeg)) ≤ (v2 + (σ1.1 43 (x7).toNatClampNeg)) → ob_RT shp E oX4_make 92 [.ref 42, .ref 10, .int x2, .int x3, .int x4, .long (x5 ||| ((1 : Int64) <<< ((x7).toInt64 &&& 63))), .null, .int x7, .int (v2 + (σ1.1 43 (x7).toNatClampNeg)), .int (v4 + (σ3.1 43 ((x7 + (1 : Int32))).toNatClampNeg))] [] σ3 (ob_qV Q)))))))))) : ob_RT shp E oX4_make 29 [.ref 42, .ref 10, .int x2, .int x3, .int x4, .long x5, .null, .int x7, .null, .null] [] σ (ob_qV Q) := by
  refine ob_iload d_X4_make_29 rfl ?_
  refine ob_iload d_X4_make_31 rfl ?_
  refine ob_icmp_gt (tgt := 112) d_X4_make_33 rfl (fun cc => ?_) (fun cc => ?_)
  · have k := k.1 cc
    refine ob_aload_n d_X4_make_112 rfl ?_
    refine ob_getR d_X4_make_113 fl_X4_15 sh_42 rfl rfl ?_
    refine ob_iload d_X4_make_116 rfl ?_
    refine ob_lload d_X4_make_118 rfl ?_
    obtain ⟨hin, k⟩ := k
    refine ob_last d_X4_make_120 sh_44 hin ?_
    refine ob_iinc (ls' := [.ref 42, .ref 10, .int x2, .int x3, .int (x4 + (-1 : Int32)), .long x5, .null, .int x7, .null, .null]) (v := -1) d_X4_make_121 rfl ci_m1 (Nat.le_of_ble_eq_true rfl) rfl ?_
    refine ob_goto (tgt := 18) d_X4_make_124 rfl ?_
    refine ob_drop 5 (ls' := [.ref 42, .ref 10, .int x2, .int x3, .int (x4 + (-1 : Int32)), .null, .null, .int x7, .null, .null]) rfl ?_
    refine ob_drop 7 (ls' := [.ref 42, .ref 10, .int x2, .int x3, .int (x4 + (-1 : Int32)), .null, .null, .null, .null, .null]) rfl ?_
    exact k
  · have k := k.2 cc
    refine ob_aload_n d_X4_make_36 rfl ?_
    refine ob_iload_n d_X4_make_37 rfl ?_
    refine ob_iload d_X4_make_38 rfl ?_
    refine ob_iadd d_X4_make_40 ?_
    refine ob_callV [.int (x2 + x7)] (z := oX2_goodOf) (st := []) d_X4_make_41 lk_X4_31 mv_X2_goodOf rfl sh_10 cl_2 rfl (Nat.le_of_ble_eq_true rfl) rfl k (ob_kI fun v2 σ1 k => ?_)
    refine ob_aload_n d_X4_make_44 rfl ?_
    refine ob_getR d_X4_make_45 fl_X4_9 sh_42 rfl rfl ?_
    refine ob_iload d_X4_make_48 rfl ?_
    obtain ⟨hin, k⟩ := k
    refine ob_iald d_X4_make_50 sh_43 hin ?_
    refine ob_iadd d_X4_make_51 ?_
    refine ob_istore (ls' := [.ref 42, .ref 10, .int x2, .int x3, .int x4, .long x5, .null, .int x7, .int (v2 + (σ1.1 43 (x7).toNatClampNeg)), .null]) d_X4_make_52 (Nat.le_of_ble_eq_true rfl) rfl ?_
    refine ob_aload_n d_X4_make_54 rfl ?_
    refine ob_iload_n d_X4_make_55 rfl ?_
    refine ob_iload d_X4_make_56 rfl ?_
    refine ob_iadd d_X4_make_58 ?_
    refine ob_iconst (v := 1) d_X4_make_59 ci_1 ?_
    refine ob_iadd d_X4_make_60 ?_
    refine ob_callV [.int ((x2 + x7) + (1 : Int32))] (z := oX2_goodOf) (st := []) d_X4_make_61 lk_X4_31 mv_X2_goodOf rfl sh_10 cl_2 rfl (Nat.le_of_ble_eq_true rfl) rfl k (ob_kI fun v4 σ3 k => ?_)
    refine ob_aload_n d_X4_make_64 rfl ?_
    refine ob_getR d_X4_make_65 fl_X4_9 sh_42 rfl rfl ?_
    refine ob_iload d_X4_make_68 rfl ?_
    refine ob_iconst (v := 1) d_X4_make_70 ci_1 ?_
    refine ob_iadd d_X4_make_71 ?_
    obtain ⟨hin, k⟩ := k
    refine ob_iald d_X4_make_72 sh_43 hin ?_
    refine ob_iadd d_X4_make_73 ?_
    refine ob_istore (ls' := [.ref 42, .ref 10, .int x2, .int x3, .int x4, .long x5, .null, .int x7, .int (v2 + (σ1.1 43 (x7).toNatClampNeg)), .int (v4 + (σ3.1 43 ((x7 + (1 : Int32))).toNatClampNeg))]) d_X4_make_74 (Nat.le_of_ble_eq_true rfl) rfl ?_
    refine ob_iload d_X4_make_76 rfl ?_
    refine ob_iload d_X4_make_78 rfl ?_
    refine ob_icmp_le (tgt := 92) d_X4_make_80 rfl (fun cc => ?_) (fun cc => ?_)
    · have k := k.1 cc
      exact k
    · have k := k.2 cc
      refine ob_lload d_X4_make_83 rfl ?_
      refine ob_lconst (v := 1) d_X4_make_85 rfl ?_
      refine ob_iload d_X4_make_86 rfl ?_
      refine ob_lshl d_X4_make_88 ?_
      refine ob_lor d_X4_make_89 ?_
      refine ob_lstore (ls' := [.ref 42, .ref 10, .int x2, .int x3, .int x4, .long (x5 ||| ((1 : Int64) <<< ((x7).toInt64 &&& 63))), .null, .int x7, .int (v2 + (σ1.1 43 (x7).toNatClampNeg)), .int (v4 + (σ3.1 43 ((x7 + (1 : Int32))).toNatClampNeg))]) d_X4_make_90 (Nat.le_of_ble_eq_true rfl) rfl ?_
      exact k
theorem b_X4_make_92 {E : ob_E} {σ : ob_Mem} {Q : ob_Mem → Prop} {x2 x3 x4 x7 x8 x9 : Int32} {x5 : Int64} (k : (vp_in x7 61 ∧ ob_RT shp E oX4_make 29 [.ref 42, .ref 10, .int x2, .int x3, .int x4, .long x5, .null, .int (x7 + (1 : Int32)), .null, .null] [] (ob_wI σ 43 (x7).toNatClampNeg (ob_max x8 x9)) (ob_qV Q))) : ob_RT shp E oX4_make 92 [.ref 42, .ref 10, .int x2, .int x3, .int x4, .long x5, .null, .int x7, .int x8, .int x9] [] σ (ob_qV Q) := by
  refine ob_aload_n d_X4_make_92 rfl ?_
  refine ob_getR d_X4_make_93 fl_X4_9 sh_42 rfl rfl ?_
  refine ob_iload d_X4_make_96 rfl ?_
  refine ob_iload d_X4_make_98 rfl ?_
  refine ob_iload d_X4_make_100 rfl ?_
  refine ob_mmax (st := [.int x7, .ref 43]) d_X4_make_102 ml_X4_37 (Nat.le_of_ble_eq_true rfl) (Nat.le_of_ble_eq_true rfl) ?_
  obtain ⟨hin, k⟩ := k
  refine ob_iast d_X4_make_105 sh_43 hin ?_
  refine ob_iinc (ls' := [.ref 42, .ref 10, .int x2, .int x3, .int x4, .long x5, .null, .int (x7 + (1 : Int32)), .int x8, .int x9]) (v := 1) d_X4_make_106 rfl ci_1 (Nat.le_of_ble_eq_true rfl) rfl ?_
  refine ob_goto (tgt := 29) d_X4_make_109 rfl ?_
  refine ob_drop 8 (ls' := [.ref 42, .ref 10, .int x2, .int x3, .int x4, .long x5, .null, .int (x7 + (1 : Int32)), .null, .int x9]) rfl ?_
  refine ob_drop 9 (ls' := [.ref 42, .ref 10, .int x2, .int x3, .int x4, .long x5, .null, .int (x7 + (1 : Int32)), .null, .null]) rfl ?_
  exact k
theorem d_X4_agesIn_0 : decode oX4_agesIn.2.1 0 = .ok (.iconst 0, 1) := by decide +kernel
theorem d_X4_agesIn_1 : decode oX4_agesIn.2.1 1 = .ok (.istore_n 2, 1) := by decide +kernel
theorem d_X4_agesIn_2 : decode oX4_agesIn.2.1 2 = .ok (.iconst 0, 1) := by decide +kernel
theorem d_X4_agesIn_3 : decode oX4_agesIn.2.1 3 = .ok (.istore_n 3, 1) := by decide +kernel
theorem d_X4_agesIn_4 : decode oX4_agesIn.2.1 4 = .ok (.iconst 0, 1) := by decide +kernel
theorem d_X4_agesIn_5 : decode oX4_agesIn.2.1 5 = .ok (.istore 4, 2) := by decide +kernel
theorem d_X4_agesIn_7 : decode oX4_agesIn.2.1 7 = .ok (.iload 4, 2) := by decide +kernel
theorem d_X4_agesIn_9 : decode oX4_agesIn.2.1 9 = .ok (.iload_n 1, 1) := by decide +kernel
theorem d_X4_agesIn_10 : decode oX4_agesIn.2.1 10 = .ok (.if_icmp .gt 33, 3) := by decide +kernel
theorem d_X4_agesIn_13 : decode oX4_agesIn.2.1 13 = .ok (.iload 4, 2) := by decide +kernel
theorem d_X4_agesIn_15 : decode oX4_agesIn.2.1 15 = .ok (.bipush 60, 2) := by decide +kernel
theorem d_X4_agesIn_17 : decode oX4_agesIn.2.1 17 = .ok (.if_icmp .ge 26, 3) := by decide +kernel
theorem d_X4_agesIn_20 : decode oX4_agesIn.2.1 20 = .ok (.aload_n 0, 1) := by decide +kernel
theorem d_X4_agesIn_21 : decode oX4_agesIn.2.1 21 = .ok (.getfield 15, 3) := by decide +kernel
theorem d_X4_agesIn_24 : decode oX4_agesIn.2.1 24 = .ok (.iload 4, 2) := by decide +kernel
theorem d_X4_agesIn_26 : decode oX4_agesIn.2.1 26 = .ok (.laload, 1) := by decide +kernel
theorem d_X4_agesIn_27 : decode oX4_agesIn.2.1 27 = .ok (.iload_n 2, 1) := by decide +kernel
theorem d_X4_agesIn_28 : decode oX4_agesIn.2.1 28 = .ok (.lshr, 1) := by decide +kernel
theorem d_X4_agesIn_29 : decode oX4_agesIn.2.1 29 = .ok (.lconst 1, 1) := by decide +kernel
theorem d_X4_agesIn_30 : decode oX4_agesIn.2.1 30 = .ok (.land, 1) := by decide +kernel
theorem d_X4_agesIn_31 : decode oX4_agesIn.2.1 31 = .ok (.l2i, 1) := by decide +kernel
theorem d_X4_agesIn_32 : decode oX4_agesIn.2.1 32 = .ok (.istore_n 3, 1) := by decide +kernel
theorem d_X4_agesIn_33 : decode oX4_agesIn.2.1 33 = .ok (.iload_n 2, 1) := by decide +kernel
theorem d_X4_agesIn_34 : decode oX4_agesIn.2.1 34 = .ok (.iload_n 3, 1) := by decide +kernel
theorem d_X4_agesIn_35 : decode oX4_agesIn.2.1 35 = .ok (.iadd, 1) := by decide +kernel
theorem d_X4_agesIn_36 : decode oX4_agesIn.2.1 36 = .ok (.istore_n 2, 1) := by decide +kernel
theorem d_X4_agesIn_37 : decode oX4_agesIn.2.1 37 = .ok (.iinc 4 1, 3) := by decide +kernel
theorem d_X4_agesIn_40 : decode oX4_agesIn.2.1 40 = .ok (.goto (-33), 3) := by decide +kernel
theorem d_X4_agesIn_43 : decode oX4_agesIn.2.1 43 = .ok (.iload_n 3, 1) := by decide +kernel
theorem d_X4_agesIn_44 : decode oX4_agesIn.2.1 44 = .ok (.ireturn, 1) := by decide +kernel
theorem b_X4_agesIn_0 {E : ob_E} {σ : ob_Mem} {Q : Int32 → ob_Mem → Prop} {x1 : Int32} (k : ob_RT shp E oX4_agesIn 7 [.ref 42, .int x1, .int (0 : Int32), .int (0 : Int32), .int (0 : Int32)] [] σ (ob_qI Q)) : ob_RT shp E oX4_agesIn 0 [.ref 42, .int x1, .null, .null, .null] [] σ (ob_qI Q) := by
  refine ob_iconst (v := 0) d_X4_agesIn_0 ci_0 ?_
  refine ob_istore_n (ls' := [.ref 42, .int x1, .int (0 : Int32), .null, .null]) d_X4_agesIn_1 (Nat.le_of_ble_eq_true rfl) rfl ?_
  refine ob_iconst (v := 0) d_X4_agesIn_2 ci_0 ?_
  refine ob_istore_n (ls' := [.ref 42, .int x1, .int (0 : Int32), .int (0 : Int32), .null]) d_X4_agesIn_3 (Nat.le_of_ble_eq_true rfl) rfl ?_
  refine ob_iconst (v := 0) d_X4_agesIn_4 ci_0 ?_
  refine ob_istore (ls' := [.ref 42, .int x1, .int (0 : Int32), .int (0 : Int32), .int (0 : Int32)]) d_X4_agesIn_5 (Nat.le_of_ble_eq_true rfl) rfl ?_
  exact k
theorem b_X4_agesIn_7 {E : ob_E} {σ : ob_Mem} {Q : Int32 → ob_Mem → Prop} {x1 x2 x3 x4 : Int32} (k : ((x1 < x4 → Q x3 σ) ∧ (¬ x1 < x4 → (((60 : Int32) ≤ x4 → Q x3 σ) ∧ (¬ (60 : Int32) ≤ x4 → (vp_in x4 60 ∧ (∀ w1 : Int32, w1 = ((((σ.2 44 (x4).toNatClampNeg) >>> ((x2).toInt64 &&& 63)) &&& (1 : Int64))).toInt32 → ob_RT shp E oX4_agesIn 7 [.ref 42, .int x1, .int (x2 + w1), .int w1, .int (x4 + (1 : Int32))] [] σ (ob_qI Q)))))))) : ob_RT shp E oX4_agesIn 7 [.ref 42, .int x1, .int x2, .int x3, .int x4] [] σ (ob_qI Q) := by
  refine ob_iload d_X4_agesIn_7 rfl ?_
  refine ob_iload_n d_X4_agesIn_9 rfl ?_
  refine ob_icmp_gt (tgt := 43) d_X4_agesIn_10 rfl (fun cc => ?_) (fun cc => ?_)
  · have k := k.1 cc
    refine ob_iload_n d_X4_agesIn_43 rfl ?_
    exact ob_iret d_X4_agesIn_44 rfl ⟨_, rfl, k⟩
  · have k := k.2 cc
    refine ob_iload d_X4_agesIn_13 rfl ?_
    refine ob_bipush (v := 60) d_X4_agesIn_15 cb_60 ?_
    refine ob_icmp_ge (tgt := 43) d_X4_agesIn_17 rfl (fun cc => ?_) (fun cc => ?_)
    · have k := k.1 cc
      refine ob_iload_n d_X4_agesIn_43 rfl ?_
      exact ob_iret d_X4_agesIn_44 rfl ⟨_, rfl, k⟩
    · have k := k.2 cc
      refine ob_aload_n d_X4_agesIn_20 rfl ?_
      refine ob_getR d_X4_agesIn_21 fl_X4_15 sh_42 rfl rfl ?_
      refine ob_iload d_X4_agesIn_24 rfl ?_
      obtain ⟨hin, k⟩ := k
      refine ob_lald d_X4_agesIn_26 sh_44 hin ?_
      refine ob_iload_n d_X4_agesIn_27 rfl ?_
      refine ob_lshr d_X4_agesIn_28 ?_
      refine ob_lconst (v := 1) d_X4_agesIn_29 rfl ?_
      refine ob_land d_X4_agesIn_30 ?_
      refine ob_l2i d_X4_agesIn_31 ?_
      refine ob_nmI (fun w1 hw1 => ?_)
      have k := k w1 hw1
      refine ob_istore_n (ls' := [.ref 42, .int x1, .int x2, .int w1, .int x4]) d_X4_agesIn_32 (Nat.le_of_ble_eq_true rfl) rfl ?_
      refine ob_iload_n d_X4_agesIn_33 rfl ?_
      refine ob_iload_n d_X4_agesIn_34 rfl ?_
      refine ob_iadd d_X4_agesIn_35 ?_
      refine ob_istore_n (ls' := [.ref 42, .int x1, .int (x2 + w1), .int w1, .int x4]) d_X4_agesIn_36 (Nat.le_of_ble_eq_true rfl) rfl ?_
      refine ob_iinc (ls' := [.ref 42, .int x1, .int (x2 + w1), .int w1, .int (x4 + (1 : Int32))]) (v := 1) d_X4_agesIn_37 rfl ci_1 (Nat.le_of_ble_eq_true rfl) rfl ?_
      refine ob_goto (tgt := 7) d_X4_agesIn_40 rfl ?_
      exact k
theorem d_X4_greatestSum_0 : decode oX4_greatestSum.2.1 0 = .ok (.aload_n 0, 1) := by decide +kernel
theorem d_X4_greatestSum_1 : decode oX4_greatestSum.2.1 1 = .ok (.getfield 9, 3) := by decide +kernel
theorem d_X4_greatestSum_4 : decode oX4_greatestSum.2.1 4 = .ok (.iconst 0, 1) := by decide +kernel
theorem d_X4_greatestSum_5 : decode oX4_greatestSum.2.1 5 = .ok (.iaload, 1) := by decide +kernel
theorem d_X4_greatestSum_6 : decode oX4_greatestSum.2.1 6 = .ok (.ireturn, 1) := by decide +kernel
theorem b_X4_greatestSum_0 {E : ob_E} {σ : ob_Mem} {Q : Int32 → ob_Mem → Prop} (k : Q (σ.1 43 ((0 : Int32)).toNatClampNeg) σ) : ob_RT shp E oX4_greatestSum 0 [.ref 42] [] σ (ob_qI Q) := by
  refine ob_aload_n d_X4_greatestSum_0 rfl ?_
  refine ob_getR d_X4_greatestSum_1 fl_X4_9 sh_42 rfl rfl ?_
  refine ob_iconst (v := 0) d_X4_greatestSum_4 ci_0 ?_
  refine ob_iald d_X4_greatestSum_5 sh_43 (by unfold vp_in; decide) ?_
  exact ob_iret d_X4_greatestSum_6 rfl ⟨_, rfl, k⟩
