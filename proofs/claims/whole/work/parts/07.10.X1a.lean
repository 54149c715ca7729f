/-! code of X1: the decode rows and a row for each piece between cut points (printed by wip/whole/mk.py) -/
theorem d_X1_search_0 : decode oX1_search.2.1 0 = .ok (.iload_n 2, 1) := by decide +kernel
theorem d_X1_search_1 : decode oX1_search.2.1 1 = .ok (.aload_n 1, 1) := by decide +kernel
theorem d_X1_search_2 : decode oX1_search.2.1 2 = .ok (.iload_n 3, 1) := by decide +kernel
theorem d_X1_search_3 : decode oX1_search.2.1 3 = .ok (.invokestatic 27, 3) := by decide +kernel
theorem d_X1_search_6 : decode oX1_search.2.1 6 = .ok (.isub, 1) := by decide +kernel
theorem d_X1_search_7 : decode oX1_search.2.1 7 = .ok (.istore 5, 2) := by decide +kernel
theorem d_X1_search_9 : decode oX1_search.2.1 9 = .ok (.aload_n 0, 1) := by decide +kernel
theorem d_X1_search_10 : decode oX1_search.2.1 10 = .ok (.aload_n 1, 1) := by decide +kernel
theorem d_X1_search_11 : decode oX1_search.2.1 11 = .ok (.invokestatic 31, 3) := by decide +kernel
theorem d_X1_search_14 : decode oX1_search.2.1 14 = .ok (.putfield 35, 3) := by decide +kernel
theorem d_X1_search_17 : decode oX1_search.2.1 17 = .ok (.iload 5, 2) := by decide +kernel
theorem d_X1_search_19 : decode oX1_search.2.1 19 = .ok (.ifCond .gt 5, 3) := by decide +kernel
theorem d_X1_search_22 : decode oX1_search.2.1 22 = .ok (.iconst 1, 1) := by decide +kernel
theorem d_X1_search_23 : decode oX1_search.2.1 23 = .ok (.ireturn, 1) := by decide +kernel
theorem d_X1_search_24 : decode oX1_search.2.1 24 = .ok (.aload_n 0, 1) := by decide +kernel
theorem d_X1_search_25 : decode oX1_search.2.1 25 = .ok (.iconst 1, 1) := by decide +kernel
theorem d_X1_search_26 : decode oX1_search.2.1 26 = .ok (.aload_n 1, 1) := by decide +kernel
theorem d_X1_search_27 : decode oX1_search.2.1 27 = .ok (.getfield 39, 3) := by decide +kernel
theorem d_X1_search_30 : decode oX1_search.2.1 30 = .ok (.getfield 45, 3) := by decide +kernel
theorem d_X1_search_33 : decode oX1_search.2.1 33 = .ok (.ishl, 1) := by decide +kernel
theorem d_X1_search_34 : decode oX1_search.2.1 34 = .ok (.putfield 51, 3) := by decide +kernel
theorem d_X1_search_37 : decode oX1_search.2.1 37 = .ok (.aload_n 0, 1) := by decide +kernel
theorem d_X1_search_38 : decode oX1_search.2.1 38 = .ok (.aload_n 1, 1) := by decide +kernel
theorem d_X1_search_39 : decode oX1_search.2.1 39 = .ok (.iload 4, 2) := by decide +kernel
theorem d_X1_search_41 : decode oX1_search.2.1 41 = .ok (.invokevirtual 54, 3) := by decide +kernel
theorem d_X1_search_44 : decode oX1_search.2.1 44 = .ok (.aload_n 0, 1) := by decide +kernel
theorem d_X1_search_45 : decode oX1_search.2.1 45 = .ok (.getfield 24, 3) := by decide +kernel
theorem d_X1_search_48 : decode oX1_search.2.1 48 = .ok (.ldc2_w 58, 3) := by decide +kernel
theorem d_X1_search_51 : decode oX1_search.2.1 51 = .ok (.invokestatic 60, 3) := by decide +kernel
theorem d_X1_search_54 : decode oX1_search.2.1 54 = .ok (.aload_n 0, 1) := by decide +kernel
theorem d_X1_search_55 : decode oX1_search.2.1 55 = .ok (.getfield 24, 3) := by decide +kernel
theorem d_X1_search_58 : decode oX1_search.2.1 58 = .ok (.iconst 0, 1) := by decide +kernel
theorem d_X1_search_59 : decode oX1_search.2.1 59 = .ok (.lconst 0, 1) := by decide +kernel
theorem d_X1_search_60 : decode oX1_search.2.1 60 = .ok (.lastore, 1) := by decide +kernel
theorem d_X1_search_61 : decode oX1_search.2.1 61 = .ok (.iconst 0, 1) := by decide +kernel
theorem d_X1_search_62 : decode oX1_search.2.1 62 = .ok (.istore 6, 2) := by decide +kernel
theorem d_X1_search_64 : decode oX1_search.2.1 64 = .ok (.iload 6, 2) := by decide +kernel
theorem d_X1_search_66 : decode oX1_search.2.1 66 = .ok (.aload_n 1, 1) := by decide +kernel
theorem d_X1_search_67 : decode oX1_search.2.1 67 = .ok (.getfield 39, 3) := by decide +kernel
theorem d_X1_search_70 : decode oX1_search.2.1 70 = .ok (.getfield 66, 3) := by decide +kernel
theorem d_X1_search_73 : decode oX1_search.2.1 73 = .ok (.if_icmp .ge 55, 3) := by decide +kernel
theorem d_X1_search_76 : decode oX1_search.2.1 76 = .ok (.aload_n 1, 1) := by decide +kernel
theorem d_X1_search_77 : decode oX1_search.2.1 77 = .ok (.iload 6, 2) := by decide +kernel
theorem d_X1_search_79 : decode oX1_search.2.1 79 = .ok (.invokevirtual 69, 3) := by decide +kernel
theorem d_X1_search_82 : decode oX1_search.2.1 82 = .ok (.ifCond .eq 40, 3) := by decide +kernel
theorem d_X1_search_85 : decode oX1_search.2.1 85 = .ok (.aload_n 1, 1) := by decide +kernel
theorem d_X1_search_86 : decode oX1_search.2.1 86 = .ok (.getfield 73, 3) := by decide +kernel
theorem d_X1_search_89 : decode oX1_search.2.1 89 = .ok (.iload 6, 2) := by decide +kernel
theorem d_X1_search_91 : decode oX1_search.2.1 91 = .ok (.iaload, 1) := by decide +kernel
theorem d_X1_search_92 : decode oX1_search.2.1 92 = .ok (.iload_n 3, 1) := by decide +kernel
theorem d_X1_search_93 : decode oX1_search.2.1 93 = .ok (.if_icmp .ge 29, 3) := by decide +kernel
theorem d_X1_search_96 : decode oX1_search.2.1 96 = .ok (.aload_n 0, 1) := by decide +kernel
theorem d_X1_search_97 : decode oX1_search.2.1 97 = .ok (.aload_n 1, 1) := by decide +kernel
theorem d_X1_search_98 : decode oX1_search.2.1 98 = .ok (.iload 6, 2) := by decide +kernel
theorem d_X1_search_100 : decode oX1_search.2.1 100 = .ok (.invokevirtual 76, 3) := by decide +kernel
theorem d_X1_search_103 : decode oX1_search.2.1 103 = .ok (.aload_n 0, 1) := by decide +kernel
theorem d_X1_search_104 : decode oX1_search.2.1 104 = .ok (.iload_n 3, 1) := by decide +kernel
theorem d_X1_search_105 : decode oX1_search.2.1 105 = .ok (.aload_n 1, 1) := by decide +kernel
theorem d_X1_search_106 : decode oX1_search.2.1 106 = .ok (.getfield 73, 3) := by decide +kernel
theorem d_X1_search_109 : decode oX1_search.2.1 109 = .ok (.iload 6, 2) := by decide +kernel
theorem d_X1_search_111 : decode oX1_search.2.1 111 = .ok (.iaload, 1) := by decide +kernel
theorem d_X1_search_112 : decode oX1_search.2.1 112 = .ok (.isub, 1) := by decide +kernel
theorem d_X1_search_113 : decode oX1_search.2.1 113 = .ok (.invokevirtual 79, 3) := by decide +kernel
theorem d_X1_search_116 : decode oX1_search.2.1 116 = .ok (.aload_n 0, 1) := by decide +kernel
theorem d_X1_search_117 : decode oX1_search.2.1 117 = .ok (.iload 5, 2) := by decide +kernel
theorem d_X1_search_119 : decode oX1_search.2.1 119 = .ok (.invokevirtual 83, 3) := by decide +kernel
theorem d_X1_search_122 : decode oX1_search.2.1 122 = .ok (.iinc 6 1, 3) := by decide +kernel
theorem d_X1_search_125 : decode oX1_search.2.1 125 = .ok (.goto (-61), 3) := by decide +kernel
theorem d_X1_search_128 : decode oX1_search.2.1 128 = .ok (.aload_n 0, 1) := by decide +kernel
theorem d_X1_search_129 : decode oX1_search.2.1 129 = .ok (.iload 5, 2) := by decide +kernel
theorem d_X1_search_131 : decode oX1_search.2.1 131 = .ok (.invokevirtual 86, 3) := by decide +kernel
theorem d_X1_search_134 : decode oX1_search.2.1 134 = .ok (.lstore 6, 2) := by decide +kernel
theorem d_X1_search_136 : decode oX1_search.2.1 136 = .ok (.lload 6, 2) := by decide +kernel
theorem d_X1_search_138 : decode oX1_search.2.1 138 = .ok (.ldc2_w 58, 3) := by decide +kernel
theorem d_X1_search_141 : decode oX1_search.2.1 141 = .ok (.lcmp, 1) := by decide +kernel
theorem d_X1_search_142 : decode oX1_search.2.1 142 = .ok (.ifCond .ne 5, 3) := by decide +kernel
theorem d_X1_search_145 : decode oX1_search.2.1 145 = .ok (.iconst 0, 1) := by decide +kernel
theorem d_X1_search_146 : decode oX1_search.2.1 146 = .ok (.ireturn, 1) := by decide +kernel
theorem d_X1_search_147 : decode oX1_search.2.1 147 = .ok (.aload_n 0, 1) := by decide +kernel
theorem d_X1_search_148 : decode oX1_search.2.1 148 = .ok (.dup, 1) := by decide +kernel
theorem d_X1_search_149 : decode oX1_search.2.1 149 = .ok (.getfield 35, 3) := by decide +kernel
theorem d_X1_search_152 : decode oX1_search.2.1 152 = .ok (.lload 6, 2) := by decide +kernel
theorem d_X1_search_154 : decode oX1_search.2.1 154 = .ok (.ladd, 1) := by decide +kernel
theorem d_X1_search_155 : decode oX1_search.2.1 155 = .ok (.putfield 35, 3) := by decide +kernel
theorem d_X1_search_158 : decode oX1_search.2.1 158 = .ok (.iconst 1, 1) := by decide +kernel
theorem d_X1_search_159 : decode oX1_search.2.1 159 = .ok (.ireturn, 1) := by decide +kernel
theorem b_X1_search_0 {E : ob_E} {σ : ob_Mem} {Q : Int32 → ob_Mem → Prop} {x2 x3 x4 : Int32} (k : ob_RM shp E oX1_countOldEnough [.ref 17, .int x3] σ (ob_qI fun v2 σ1 => ob_RM shp E oX1_rankLeft [.ref 17] σ1 (ob_qL fun v4 σ3 => ((0 < (x2 - v2) → (∀ σ5, σ5 = (ob_wI (ob_wL σ3 45 6 v4) 45 4 ((1 : Int32) <<< (((ob_wL σ3 45 6 v4).1 10 8) &&& 31))) → ob_RM shp E oX1_addUpYears [.ref 45, .ref 17, .int x4] σ5 (ob_qV fun σ6 => ob_RM shp E oJ7_fill_d0a16 [.ref 49, .long (9223372036854775807 : Int64)] σ6 (ob_qV fun σ7 => ob_RT shp E oX1_search 64 [.ref 45, .ref 17, .int x2, .int x3, .int x4, .int (x2 - v2), .int (0 : Int32), .null] [] (ob_wL σ7 49 ((0 : Int32)).toNatClampNeg (0 : Int64)) (ob_qI Q))))) ∧ (¬ 0 < (x2 - v2) → Q (1 : Int32) (ob_wL σ3 45 6 v4)))))) : ob_RT shp E oX1_search 0 [.ref 45, .ref 17, .int x2, .int x3, .int x4, .null, .null, .null] [] σ (ob_qI Q) := by
  refine ob_iload_n d_X1_search_0 rfl ?_
  refine ob_aload_n d_X1_search_1 rfl ?_
  refine ob_iload_n d_X1_search_2 rfl ?_
  refine ob_callS [.ref 17, .int x3] (z := oX1_countOldEnough) (st := [.int x2]) d_X1_search_3 lk_X1_27 ms_X1_countOldEnough rfl (Nat.le_of_ble_eq_true rfl) rfl k (ob_kI fun v2 σ1 k => ?_)
  refine ob_isub d_X1_search_6 ?_
  refine ob_istore (ls' := [.ref 45, .ref 17, .int x2, .int x3, .int x4, .int (x2 - v2), .null, .null]) d_X1_search_7 (Nat.le_of_ble_eq_true rfl) rfl ?_
  refine ob_aload_n d_X1_search_9 rfl ?_
  refine ob_aload_n d_X1_search_10 rfl ?_
  refine ob_callS [.ref 17] (z := oX1_rankLeft) (st := [.ref 45]) d_X1_search_11 lk_X1_31 ms_X1_rankLeft rfl (Nat.le_of_ble_eq_true rfl) rfl k (ob_kL fun v4 σ3 k => ?_)
  refine ob_putL d_X1_search_14 fp_X1_35 sh_45 rfl rfl ?_
  refine ob_iload d_X1_search_17 rfl ?_
  refine ob_if_gt (tgt := 24) d_X1_search_19 rfl (fun cc => ?_) (fun cc => ?_)
  · have k := k.1 cc
    refine ob_aload_n d_X1_search_24 rfl ?_
    refine ob_iconst (v := 1) d_X1_search_25 ci_1 ?_
    refine ob_aload_n d_X1_search_26 rfl ?_
    refine ob_getR d_X1_search_27 fl_X1_39 sh_17 rfl rfl ?_
    refine ob_getI d_X1_search_30 fl_X1_45 sh_10 rfl (by decide) ?_
    refine ob_ishl d_X1_search_33 ?_
    refine ob_putI d_X1_search_34 fp_X1_51 sh_45 rfl rfl ?_
    refine ob_nmM (fun σ5 hσ5 => ?_)
    have k := k σ5 hσ5
    refine ob_aload_n d_X1_search_37 rfl ?_
    refine ob_aload_n d_X1_search_38 rfl ?_
    refine ob_iload d_X1_search_39 rfl ?_
    refine ob_callV [.ref 17, .int x4] (z := oX1_addUpYears) (st := []) d_X1_search_41 lk_X1_54 mv_X1_addUpYears rfl sh_45 cl_1 rfl (Nat.le_of_ble_eq_true rfl) rfl k (ob_kV fun σ6 k => ?_)
    refine ob_aload_n d_X1_search_44 rfl ?_
    refine ob_getR d_X1_search_45 fl_X1_24 sh_45 rfl rfl ?_
    refine ob_ldc2 (v := 9223372036854775807) d_X1_search_48 k_X1_58 ?_
    refine ob_callS [.ref 49, .long (9223372036854775807 : Int64)] (z := oJ7_fill_d0a16) (st := []) d_X1_search_51 lk_X1_60 ms_J7_fill_d0a16 rfl (Nat.le_of_ble_eq_true rfl) rfl k (ob_kV fun σ7 k => ?_)
    refine ob_aload_n d_X1_search_54 rfl ?_
    refine ob_getR d_X1_search_55 fl_X1_24 sh_45 rfl rfl ?_
    refine ob_iconst (v := 0) d_X1_search_58 ci_0 ?_
    refine ob_lconst (v := 0) d_X1_search_59 rfl ?_
    refine ob_last d_X1_search_60 sh_49 (by unfold vp_in; decide) ?_
    refine ob_iconst (v := 0) d_X1_search_61 ci_0 ?_
    refine ob_istore (ls' := [.ref 45, .ref 17, .int x2, .int x3, .int x4, .int (x2 - v2), .int (0 : Int32), .null]) d_X1_search_62 (Nat.le_of_ble_eq_true rfl) rfl ?_
    exact k
  · have k := k.2 cc
    refine ob_iconst (v := 1) d_X1_search_22 ci_1 ?_
    exact ob_zret d_X1_search_23 rfl rfl ⟨_, rfl, k⟩
theorem b_X1_search_64 {E : ob_E} {σ : ob_Mem} {Q : Int32 → ob_Mem → Prop} {x2 x3 x4 x5 x6 : Int32} (k : (((σ.1 10 7) ≤ x6 → ob_RM shp E oX1_leastOf [.ref 45, .int x5] σ (ob_qL fun v2 σ1 => ((¬ v2 = (9223372036854775807 : Int64) → Q (1 : Int32) (ob_wL σ1 45 6 ((σ1.2 45 6) + v2))) ∧ (v2 = (9223372036854775807 : Int64) → Q (0 : Int32) σ1)))) ∧ (¬ (σ.1 10 7) ≤ x6 → ob_RM shp E oX6_lives [.ref 17, .int x6] σ (ob_qI fun v4 σ3 => ((v4 = 0 → ob_RT shp E oX1_search 64 [.ref 45, .ref 17, .int x2, .int x3, .int x4, .int x5, .int (x6 + (1 : Int32)), .null] [] σ3 (ob_qI Q)) ∧ (¬ v4 = 0 → (vp_in x6 6 ∧ ((x3 ≤ (σ3.1 18 (x6).toNatClampNeg) → ob_RT shp E oX1_search 64 [.ref 45, .ref 17, .int x2, .int x3, .int x4, .int x5, .int (x6 + (1 : Int32)), .null] [] σ3 (ob_qI Q)) ∧ (¬ x3 ≤ (σ3.1 18 (x6).toNatClampNeg) → ob_RM shp E oX1_addUpRanks [.ref 45, .ref 17, .int x6] σ3 (ob_qV fun σ5 => (vp_in x6 6 ∧ ob_RM shp E oX1_findEnough [.ref 45, .int (x3 - (σ5.1 18 (x6).toNatClampNeg))] σ5 (ob_qV fun σ6 => ob_RM shp E oX1_tryPerson [.ref 45, .int x5] σ6 (ob_qV fun σ7 => ob_RT shp E oX1_search 64 [.ref 45, .ref 17, .int x2, .int x3, .int x4, .int x5, .int (x6 + (1 : Int32)), .null] [] σ7 (ob_qI Q)))))))))))))) : ob_RT shp E oX1_search 64 [.ref 45, .ref 17, .int x2, .int x3, .int x4, .int x5, .int x6, .null] [] σ (ob_qI Q) := by
  refine ob_iload d_X1_search_64 rfl ?_
  refine ob_aload_n d_X1_search_66 rfl ?_
  refine ob_getR d_X1_search_67 fl_X1_39 sh_17 rfl rfl ?_
  refine ob_getI d_X1_search_70 fl_X1_66 sh_10 rfl (by decide) ?_
  refine ob_icmp_ge (tgt := 128) d_X1_search_73 rfl (fun cc => ?_) (fun cc => ?_)
  · have k := k.1 cc
    refine ob_aload_n d_X1_search_128 rfl ?_
    refine ob_iload d_X1_search_129 rfl ?_
    refine ob_callV [.int x5] (z := oX1_leastOf) (st := []) d_X1_search_131 lk_X1_86 mv_X1_leastOf rfl sh_45 cl_1 rfl (Nat.le_of_ble_eq_true rfl) rfl k (ob_kL fun v2 σ1 k => ?_)
    refine ob_lstore (ls' := [.ref 45, .ref 17, .int x2, .int x3, .int x4, .int x5, .long v2, .null]) d_X1_search_134 (Nat.le_of_ble_eq_true rfl) rfl ?_
    refine ob_lload d_X1_search_136 rfl ?_
    refine ob_ldc2 (v := 9223372036854775807) d_X1_search_138 k_X1_58 ?_
    refine ob_lcmp d_X1_search_141 ?_
    refine ob_if_ne (tgt := 147) d_X1_search_142 rfl (fun cc => ?_) (fun cc => ?_)
    · have k := k.1 (mt ob_c_eq.mpr cc)
      refine ob_aload_n d_X1_search_147 rfl ?_
      refine ob_dup d_X1_search_148 rfl ?_
      refine ob_getL d_X1_search_149 fl_X1_35 sh_45 rfl rfl ?_
      refine ob_lload d_X1_search_152 rfl ?_
      refine ob_ladd d_X1_search_154 ?_
      refine ob_putL d_X1_search_155 fp_X1_35 sh_45 rfl rfl ?_
      refine ob_iconst (v := 1) d_X1_search_158 ci_1 ?_
      exact ob_zret d_X1_search_159 rfl rfl ⟨_, rfl, k⟩
    · have k := k.2 (ob_c_eq.mp cc)
      refine ob_iconst (v := 0) d_X1_search_145 ci_0 ?_
      exact ob_zret d_X1_search_146 rfl rfl ⟨_, rfl, k⟩
  · have k := k.2 cc
    refine ob_aload_n d_X1_search_76 rfl ?_
    refine ob_iload d_X1_search_77 rfl ?_
    refine ob_callV [.int x6] (z := oX6_lives) (st := []) d_X1_search_79 lk_X1_69 mv_X6_lives rfl sh_17 cl_6 rfl (Nat.le_of_ble_eq_true rfl) rfl k (ob_kI fun v4 σ3 k => ?_)
    refine ob_if_eq (tgt := 122) d_X1_search_82 rfl (fun cc => ?_) (fun cc => ?_)
    · have k := k.1 cc
      refine ob_iinc (ls' := [.ref 45, .ref 17, .int x2, .int x3, .int x4, .int x5, .int (x6 + (1 : Int32)), .null]) (v := 1) d_X1_search_122 rfl ci_1 (Nat.le_of_ble_eq_true rfl) rfl ?_
      refine ob_goto (tgt := 64) d_X1_search_125 rfl ?_
      exact k
    · have k := k.2 cc
      refine ob_aload_n d_X1_search_85 rfl ?_
      refine ob_getR d_X1_search_86 fl_X1_73 sh_17 rfl rfl ?_
      refine ob_iload d_X1_search_89 rfl ?_
      obtain ⟨hin, k⟩ := k
      refine ob_iald d_X1_search_91 sh_18 hin ?_
      refine ob_iload_n d_X1_search_92 rfl ?_
      refine ob_icmp_ge (tgt := 122) d_X1_search_93 rfl (fun cc => ?_) (fun cc => ?_)
      · have k := k.1 cc
        refine ob_iinc (ls' := [.ref 45, .ref 17, .int x2, .int x3, .int x4, .int x5, .int (x6 + (1 : Int32)), .null]) (v := 1) d_X1_search_122 rfl ci_1 (Nat.le_of_ble_eq_true rfl) rfl ?_
        refine ob_goto (tgt := 64) d_X1_search_125 rfl ?_
        exact k
      · have k := k.2 cc
        refine ob_aload_n d_X1_search_96 rfl ?_
        refine ob_aload_n d_X1_search_97 rfl ?_
        refine ob_iload d_X1_search_98 rfl ?_
        refine ob_callV [.ref 17, .int x6] (z := oX1_addUpRanks) (st := []) d_X1_search_100 lk_X1_76 mv_X1_addUpRanks rfl sh_45 cl_1 rfl (Nat.le_of_ble_eq_true rfl) rfl k (ob_kV fun σ5 k => ?_)
        refine ob_aload_n d_X1_search_103 rfl ?_
        refine ob_iload_n d_X1_search_104 rfl ?_
        refine ob_aload_n d_X1_search_105 rfl ?_
        refine ob_getR d_X1_search_106 fl_X1_73 sh_17 rfl rfl ?_
        refine ob_iload d_X1_search_109 rfl ?_
        obtain ⟨hin, k⟩ := k
        refine ob_iald d_X1_search_111 sh_18 hin ?_
        refine ob_isub d_X1_search_112 ?_
        refine ob_callV [.int (x3 - (σ5.1 18 (x6).toNatClampNeg))] (z := oX1_findEnough) (st := []) d_X1_search_113 lk_X1_79 mv_X1_findEnough rfl sh_45 cl_1 rfl (Nat.le_of_ble_eq_true rfl) rfl k (ob_kV fun σ6 k => ?_)
        refine ob_aload_n d_X1_search_116 rfl ?_
        refine ob_iload d_X1_search_117 rfl ?_
        refine ob_callV [.int x5] (z := oX1_tryPerson) (st := []) d_X1_search_119 lk_X1_83 mv_X1_tryPerson rfl sh_45 cl_1 rfl (Nat.le_of_ble_eq_true rfl) rfl k (ob_kV fun σ7 k => ?_)
        refine ob_iinc (ls' := [.ref 45, .ref 17, .int x2, .int x3, .int x4, .int x5, .int (x6 + (1 : Int32)), .null]) (v := 1) d_X1_search_122 rfl ci_1 (Nat.le_of_ble_eq_true rfl) rfl ?_
        refine ob_goto (tgt := 64) d_X1_search_125 rfl ?_
        exact k
theorem d_X1_receiverOf_0 : decode oX1_receiverOf.2.1 0 = .ok (.iload_n 1, 1) := by decide +kernel
theorem d_X1_receiverOf_1 : decode oX1_receiverOf.2.1 1 = .ok (.ifCond .lt 11, 3) := by decide +kernel
theorem d_X1_receiverOf_4 : decode oX1_receiverOf.2.1 4 = .ok (.iload_n 1, 1) := by decide +kernel
theorem d_X1_receiverOf_5 : decode oX1_receiverOf.2.1 5 = .ok (.getstatic 92, 3) := by decide +kernel
theorem d_X1_receiverOf_8 : decode oX1_receiverOf.2.1 8 = .ok (.arraylength, 1) := by decide +kernel
theorem d_X1_receiverOf_9 : decode oX1_receiverOf.2.1 9 = .ok (.if_icmp .lt 5, 3) := by decide +kernel
theorem d_X1_receiverOf_12 : decode oX1_receiverOf.2.1 12 = .ok (.iconst (-1), 1) := by decide +kernel
theorem d_X1_receiverOf_13 : decode oX1_receiverOf.2.1 13 = .ok (.ireturn, 1) := by decide +kernel
theorem d_X1_receiverOf_14 : decode oX1_receiverOf.2.1 14 = .ok (.getstatic 92, 3) := by decide +kernel
theorem d_X1_receiverOf_17 : decode oX1_receiverOf.2.1 17 = .ok (.iload_n 1, 1) := by decide +kernel
theorem d_X1_receiverOf_18 : decode oX1_receiverOf.2.1 18 = .ok (.iaload, 1) := by decide +kernel
theorem d_X1_receiverOf_19 : decode oX1_receiverOf.2.1 19 = .ok (.istore_n 2, 1) := by decide +kernel
theorem d_X1_receiverOf_20 : decode oX1_receiverOf.2.1 20 = .ok (.iload_n 2, 1) := by decide +kernel
theorem d_X1_receiverOf_21 : decode oX1_receiverOf.2.1 21 = .ok (.iconst 1, 1) := by decide +kernel
theorem d_X1_receiverOf_22 : decode oX1_receiverOf.2.1 22 = .ok (.if_icmp .ge 7, 3) := by decide +kernel
theorem d_X1_receiverOf_25 : decode oX1_receiverOf.2.1 25 = .ok (.iconst (-1), 1) := by decide +kernel
theorem d_X1_receiverOf_26 : decode oX1_receiverOf.2.1 26 = .ok (.goto 19, 3) := by decide +kernel
theorem d_X1_receiverOf_29 : decode oX1_receiverOf.2.1 29 = .ok (.aload_n 0, 1) := by decide +kernel
theorem d_X1_receiverOf_30 : decode oX1_receiverOf.2.1 30 = .ok (.getfield 35, 3) := by decide +kernel
theorem d_X1_receiverOf_33 : decode oX1_receiverOf.2.1 33 = .ok (.ldc2_w 90, 3) := by decide +kernel
theorem d_X1_receiverOf_36 : decode oX1_receiverOf.2.1 36 = .ok (.lrem, 1) := by decide +kernel
theorem d_X1_receiverOf_37 : decode oX1_receiverOf.2.1 37 = .ok (.iload_n 2, 1) := by decide +kernel
theorem d_X1_receiverOf_38 : decode oX1_receiverOf.2.1 38 = .ok (.i2l, 1) := by decide +kernel
theorem d_X1_receiverOf_39 : decode oX1_receiverOf.2.1 39 = .ok (.ldiv, 1) := by decide +kernel
theorem d_X1_receiverOf_40 : decode oX1_receiverOf.2.1 40 = .ok (.ldc2_w 95, 3) := by decide +kernel
theorem d_X1_receiverOf_43 : decode oX1_receiverOf.2.1 43 = .ok (.lrem, 1) := by decide +kernel
theorem d_X1_receiverOf_44 : decode oX1_receiverOf.2.1 44 = .ok (.l2i, 1) := by decide +kernel
theorem d_X1_receiverOf_45 : decode oX1_receiverOf.2.1 45 = .ok (.ireturn, 1) := by decide +kernel
theorem b_X1_receiverOf_0 {E : ob_E} {σ : ob_Mem} {Q : Int32 → ob_Mem → Prop} {x1 : Int32} (k : ((x1 < 0 → Q (-1 : Int32) σ) ∧ (¬ x1 < 0 → ((x1 < (8 : Int32) → (vp_in x1 8 ∧ (((1 : Int32) ≤ (ob_fig (x1).toNatClampNeg) → (¬ ((ob_fig (x1).toNatClampNeg)).toInt64 = 0 ∧ Q ((ob_remL ((ob_remL (σ.2 45 6) (1679616 : Int64)) / ((ob_fig (x1).toNatClampNeg)).toInt64) (6 : Int64))).toInt32 σ)) ∧ (¬ (1 : Int32) ≤ (ob_fig (x1).toNatClampNeg) → Q (-1 : Int32) σ)))) ∧ (¬ x1 < (8 : Int32) → Q (-1 : Int32) σ))))) : ob_RT shp E oX1_receiverOf 0 [.ref 45, .int x1, .null] [] σ (ob_qI Q) := by
  refine ob_iload_n d_X1_receiverOf_0 rfl ?_
  refine ob_if_lt (tgt := 12) d_X1_receiverOf_1 rfl (fun cc => ?_) (fun cc => ?_)
  · have k := k.1 cc
    refine ob_iconst (v := -1) d_X1_receiverOf_12 ci_m1 ?_
    exact ob_iret d_X1_receiverOf_13 rfl ⟨_, rfl, k⟩
  · have k := k.2 cc
    refine ob_iload_n d_X1_receiverOf_4 rfl ?_
    refine ob_figget d_X1_receiverOf_5 sl_X1_92 ?_
    refine ob_figlen d_X1_receiverOf_8 ?_
    refine ob_icmp_lt (tgt := 14) d_X1_receiverOf_9 rfl (fun cc => ?_) (fun cc => ?_)
    · have k := k.1 cc
      refine ob_figget d_X1_receiverOf_14 sl_X1_92 ?_
      refine ob_iload_n d_X1_receiverOf_17 rfl ?_
      obtain ⟨hin, k⟩ := k
      refine ob_figld d_X1_receiverOf_18 hin ?_
      refine ob_istore_n (ls' := [.ref 45, .int x1, .int (ob_fig (x1).toNatClampNeg)]) d_X1_receiverOf_19 (Nat.le_of_ble_eq_true rfl) rfl ?_
      refine ob_iload_n d_X1_receiverOf_20 rfl ?_
      refine ob_iconst (v := 1) d_X1_receiverOf_21 ci_1 ?_
      refine ob_icmp_ge (tgt := 29) d_X1_receiverOf_22 rfl (fun cc => ?_) (fun cc => ?_)
      · have k := k.1 cc
        refine ob_aload_n d_X1_receiverOf_29 rfl ?_
        refine ob_getL d_X1_receiverOf_30 fl_X1_35 sh_45 rfl rfl ?_
        refine ob_ldc2 (v := 1679616) d_X1_receiverOf_33 k_X1_90 ?_
        refine ob_lrem d_X1_receiverOf_36 (by decide) ?_
        refine ob_iload_n d_X1_receiverOf_37 rfl ?_
        refine ob_i2l d_X1_receiverOf_38 ?_
        obtain ⟨hne, k⟩ := k
        refine ob_ldiv d_X1_receiverOf_39 hne ?_
        refine ob_ldc2 (v := 6) d_X1_receiverOf_40 k_X1_95 ?_
        refine ob_lrem d_X1_receiverOf_43 (by decide) ?_
        refine ob_l2i d_X1_receiverOf_44 ?_
        exact ob_iret d_X1_receiverOf_45 rfl ⟨_, rfl, k⟩
      · have k := k.2 cc
        refine ob_iconst (v := -1) d_X1_receiverOf_25 ci_m1 ?_
        refine ob_goto (tgt := 45) d_X1_receiverOf_26 rfl ?_
        exact ob_iret d_X1_receiverOf_45 rfl ⟨_, rfl, k⟩
    · have k := k.2 cc
      refine ob_iconst (v := -1) d_X1_receiverOf_12 ci_m1 ?_
      exact ob_iret d_X1_receiverOf_13 rfl ⟨_, rfl, k⟩
theorem d_X1_leastSum_0 : decode oX1_leastSum.2.1 0 = .ok (.aload_n 0, 1) := by decide +kernel
theorem d_X1_leastSum_1 : decode oX1_leastSum.2.1 1 = .ok (.getfield 35, 3) := by decide +kernel
theorem d_X1_leastSum_4 : decode oX1_leastSum.2.1 4 = .ok (.ldc2_w 90, 3) := by decide +kernel
theorem d_X1_leastSum_7 : decode oX1_leastSum.2.1 7 = .ok (.ldiv, 1) := by decide +kernel
theorem d_X1_leastSum_8 : decode oX1_leastSum.2.1 8 = .ok (.l2i, 1) := by decide +kernel
theorem d_X1_leastSum_9 : decode oX1_leastSum.2.1 9 = .ok (.ireturn, 1) := by decide +kernel
theorem b_X1_leastSum_0 {E : ob_E} {σ : ob_Mem} {Q : Int32 → ob_Mem → Prop} (k : Q (((σ.2 45 6) / (1679616 : Int64))).toInt32 σ) : ob_RT shp E oX1_leastSum 0 [.ref 45] [] σ (ob_qI Q) := by
  refine ob_aload_n d_X1_leastSum_0 rfl ?_
  refine ob_getL d_X1_leastSum_1 fl_X1_35 sh_45 rfl rfl ?_
  refine ob_ldc2 (v := 1679616) d_X1_leastSum_4 k_X1_90 ?_
  refine ob_ldiv d_X1_leastSum_7 (by decide) ?_
  refine ob_l2i d_X1_leastSum_8 ?_
  exact ob_iret d_X1_leastSum_9 rfl ⟨_, rfl, k⟩
theorem d_X1_countOldEnough_0 : decode oX1_countOldEnough.2.1 0 = .ok (.iconst 0, 1) := by decide +kernel
theorem d_X1_countOldEnough_1 : decode oX1_countOldEnough.2.1 1 = .ok (.istore_n 2, 1) := by decide +kernel
theorem d_X1_countOldEnough_2 : decode oX1_countOldEnough.2.1 2 = .ok (.iconst 0, 1) := by decide +kernel
theorem d_X1_countOldEnough_3 : decode oX1_countOldEnough.2.1 3 = .ok (.istore_n 3, 1) := by decide +kernel
theorem d_X1_countOldEnough_4 : decode oX1_countOldEnough.2.1 4 = .ok (.iload_n 3, 1) := by decide +kernel
theorem d_X1_countOldEnough_5 : decode oX1_countOldEnough.2.1 5 = .ok (.aload_n 0, 1) := by decide +kernel
theorem d_X1_countOldEnough_6 : decode oX1_countOldEnough.2.1 6 = .ok (.getfield 39, 3) := by decide +kernel
theorem d_X1_countOldEnough_9 : decode oX1_countOldEnough.2.1 9 = .ok (.getfield 66, 3) := by decide +kernel
theorem d_X1_countOldEnough_12 : decode oX1_countOldEnough.2.1 12 = .ok (.if_icmp .ge 30, 3) := by decide +kernel
theorem d_X1_countOldEnough_15 : decode oX1_countOldEnough.2.1 15 = .ok (.aload_n 0, 1) := by decide +kernel
theorem d_X1_countOldEnough_16 : decode oX1_countOldEnough.2.1 16 = .ok (.iload_n 3, 1) := by decide +kernel
theorem d_X1_countOldEnough_17 : decode oX1_countOldEnough.2.1 17 = .ok (.invokevirtual 69, 3) := by decide +kernel
theorem d_X1_countOldEnough_20 : decode oX1_countOldEnough.2.1 20 = .ok (.ifCond .eq 16, 3) := by decide +kernel
theorem d_X1_countOldEnough_23 : decode oX1_countOldEnough.2.1 23 = .ok (.aload_n 0, 1) := by decide +kernel
theorem d_X1_countOldEnough_24 : decode oX1_countOldEnough.2.1 24 = .ok (.getfield 73, 3) := by decide +kernel
theorem d_X1_countOldEnough_27 : decode oX1_countOldEnough.2.1 27 = .ok (.iload_n 3, 1) := by decide +kernel
theorem d_X1_countOldEnough_28 : decode oX1_countOldEnough.2.1 28 = .ok (.iaload, 1) := by decide +kernel
theorem d_X1_countOldEnough_29 : decode oX1_countOldEnough.2.1 29 = .ok (.iload_n 1, 1) := by decide +kernel
theorem d_X1_countOldEnough_30 : decode oX1_countOldEnough.2.1 30 = .ok (.if_icmp .lt 6, 3) := by decide +kernel
theorem d_X1_countOldEnough_33 : decode oX1_countOldEnough.2.1 33 = .ok (.iinc 2 1, 3) := by decide +kernel
theorem d_X1_countOldEnough_36 : decode oX1_countOldEnough.2.1 36 = .ok (.iinc 3 1, 3) := by decide +kernel
theorem d_X1_countOldEnough_39 : decode oX1_countOldEnough.2.1 39 = .ok (.goto (-35), 3) := by decide +kernel
theorem d_X1_countOldEnough_42 : decode oX1_countOldEnough.2.1 42 = .ok (.iload_n 2, 1) := by decide +kernel
theorem d_X1_countOldEnough_43 : decode oX1_countOldEnough.2.1 43 = .ok (.ireturn, 1) := by decide +kernel
theorem b_X1_countOldEnough_0 {E : ob_E} {σ : ob_Mem} {Q : Int32 → ob_Mem → Prop} {x1 : Int32} (k : ob_RT shp E oX1_countOldEnough 4 [.ref 17, .int x1, .int (0 : Int32), .int (0 : Int32)] [] σ (ob_qI Q)) : ob_RT shp E oX1_countOldEnough 0 [.ref 17, .int x1, .null, .null] [] σ (ob_qI Q) := by
  refine ob_iconst (v := 0) d_X1_countOldEnough_0 ci_0 ?_
  refine ob_istore_n (ls' := [.ref 17, .int x1, .int (0 : Int32), .null]) d_X1_countOldEnough_1 (Nat.le_of_ble_eq_true rfl) rfl ?_
  refine ob_iconst (v := 0) d_X1_countOldEnough_2 ci_0 ?_
  refine ob_istore_n (ls' := [.ref 17, .int x1, .int (0 : Int32), .int (0 : Int32)]) d_X1_countOldEnough_3 (Nat.le_of_ble_eq_true rfl) rfl ?_
  exact k
theorem b_X1_countOldEnough_4 {E : ob_E} {σ : ob_Mem} {Q : Int32 → ob_Mem → Prop} {x1 x2 x3 : Int32} (k : (((σ.1 10 7) ≤ x3 → Q x2 σ) ∧ (¬ (σ.1 10 7) ≤ x3 → ob_RM shp E oX6_lives [.ref 17, .int x3] σ (ob_qI fun v2 σ1 => ((v2 = 0 → ob_RT shp E oX1_countOldEnough 4 [.ref 17, .int x1, .int x2, .int (x3 + (1 : Int32))] [] σ1 (ob_qI Q)) ∧ (¬ v2 = 0 → (vp_in x3 6 ∧ (((σ1.1 18 (x3).toNatClampNeg) < x1 → ob_RT shp E oX1_countOldEnough 4 [.ref 17, .int x1, .int x2, .int (x3 + (1 : Int32))] [] σ1 (ob_qI Q)) ∧ (¬ (σ1.1 18 (x3).toNatClampNeg) < x1 → ob_RT shp E oX1_countOldEnough 4 [.ref 17, .int x1, .int (x2 + (1 : Int32)), .int (x3 + (1 : Int32))] [] σ1 (ob_qI Q)))))))))) : ob_RT shp E oX1_countOldEnough 4 [.ref 17, .int x1, .int x2, .int x3] [] σ (ob_qI Q) := by
  refine ob_iload_n d_X1_countOldEnough_4 rfl ?_
  refine ob_aload_n d_X1_countOldEnough_5 rfl ?_
  refine ob_getR d_X1_countOldEnough_6 fl_X1_39 sh_17 rfl rfl ?_
  refine ob_getI d_X1_countOldEnough_9 fl_X1_66 sh_10 rfl (by decide) ?_
  refine ob_icmp_ge (tgt := 42) d_X1_countOldEnough_12 rfl (fun cc => ?_) (fun cc => ?_)
  · have k := k.1 cc
    refine ob_iload_n d_X1_countOldEnough_42 rfl ?_
    exact ob_iret d_X1_countOldEnough_43 rfl ⟨_, rfl, k⟩
  · have k := k.2 cc
    refine ob_aload_n d_X1_countOldEnough_15 rfl ?_
    refine ob_iload_n d_X1_countOldEnough_16 rfl ?_
    refine ob_callV [.int x3] (z := oX6_lives) (st := []) d_X1_countOldEnough_17 lk_X1_69 mv_X6_lives rfl sh_17 cl_6 rfl (Nat.le_of_ble_eq_true rfl) rfl k (ob_kI fun v2 σ1 k => ?_)
    refine ob_if_eq (tgt := 36) d_X1_countOldEnough_20 rfl (fun cc => ?_) (fun cc => ?_)
    · have k := k.1 cc
      refine ob_iinc (ls' := [.ref 17, .int x1, .int x2, .int (x3 + (1 : Int32))]) (v := 1) d_X1_countOldEnough_36 rfl ci_1 (Nat.le_of_ble_eq_true rfl) rfl ?_
      refine ob_goto (tgt := 4) d_X1_countOldEnough_39 rfl ?_
      exact k
    · have k := k.2 cc
      refine ob_aload_n d_X1_countOldEnough_23 rfl ?_
      refine ob_getR d_X1_countOldEnough_24 fl_X1_73 sh_17 rfl rfl ?_
      refine ob_iload_n d_X1_countOldEnough_27 rfl ?_
      obtain ⟨hin, k⟩ := k
      refine ob_iald d_X1_countOldEnough_28 sh_18 hin ?_
      refine ob_iload_n d_X1_countOldEnough_29 rfl ?_
      refine ob_icmp_lt (tgt := 36) d_X1_countOldEnough_30 rfl (fun cc => ?_) (fun cc => ?_)
      · have k := k.1 cc
        refine ob_iinc (ls' := [.ref 17, .int x1, .int x2, .int (x3 + (1 : Int32))]) (v := 1) d_X1_countOldEnough_36 rfl ci_1 (Nat.le_of_ble_eq_true rfl) rfl ?_
        refine ob_goto (tgt := 4) d_X1_countOldEnough_39 rfl ?_
        exact k
      · have k := k.2 cc
        refine ob_iinc (ls' := [.ref 17, .int x1, .int (x2 + (1 : Int32)), .int x3]) (v := 1) d_X1_countOldEnough_33 rfl ci_1 (Nat.le_of_ble_eq_true rfl) rfl ?_
        refine ob_iinc (ls' := [.ref 17, .int x1, .int (x2 + (1 : Int32)), .int (x3 + (1 : Int32))]) (v := 1) d_X1_countOldEnough_36 rfl ci_1 (Nat.le_of_ble_eq_true rfl) rfl ?_
        refine ob_goto (tgt := 4) d_X1_countOldEnough_39 rfl ?_
        exact k
theorem d_X1_rankLeft_0 : decode oX1_rankLeft.2.1 0 = .ok (.lconst 0, 1) := by decide +kernel
theorem d_X1_rankLeft_1 : decode oX1_rankLeft.2.1 1 = .ok (.lstore_n 1, 1) := by decide +kernel
theorem d_X1_rankLeft_2 : decode oX1_rankLeft.2.1 2 = .ok (.iconst 0, 1) := by decide +kernel
theorem d_X1_rankLeft_3 : decode oX1_rankLeft.2.1 3 = .ok (.istore_n 3, 1) := by decide +kernel
theorem d_X1_rankLeft_4 : decode oX1_rankLeft.2.1 4 = .ok (.iload_n 3, 1) := by decide +kernel
theorem d_X1_rankLeft_5 : decode oX1_rankLeft.2.1 5 = .ok (.aload_n 0, 1) := by decide +kernel
theorem d_X1_rankLeft_6 : decode oX1_rankLeft.2.1 6 = .ok (.getfield 39, 3) := by decide +kernel
theorem d_X1_rankLeft_9 : decode oX1_rankLeft.2.1 9 = .ok (.getfield 45, 3) := by decide +kernel
theorem d_X1_rankLeft_12 : decode oX1_rankLeft.2.1 12 = .ok (.if_icmp .ge 22, 3) := by decide +kernel
theorem d_X1_rankLeft_15 : decode oX1_rankLeft.2.1 15 = .ok (.lload_n 1, 1) := by decide +kernel
theorem d_X1_rankLeft_16 : decode oX1_rankLeft.2.1 16 = .ok (.aload_n 0, 1) := by decide +kernel
theorem d_X1_rankLeft_17 : decode oX1_rankLeft.2.1 17 = .ok (.iload_n 3, 1) := by decide +kernel
theorem d_X1_rankLeft_18 : decode oX1_rankLeft.2.1 18 = .ok (.aload_n 0, 1) := by decide +kernel
theorem d_X1_rankLeft_19 : decode oX1_rankLeft.2.1 19 = .ok (.iload_n 3, 1) := by decide +kernel
theorem d_X1_rankLeft_20 : decode oX1_rankLeft.2.1 20 = .ok (.invokestatic 112, 3) := by decide +kernel
theorem d_X1_rankLeft_23 : decode oX1_rankLeft.2.1 23 = .ok (.invokestatic 115, 3) := by decide +kernel
theorem d_X1_rankLeft_26 : decode oX1_rankLeft.2.1 26 = .ok (.ladd, 1) := by decide +kernel
theorem d_X1_rankLeft_27 : decode oX1_rankLeft.2.1 27 = .ok (.lstore_n 1, 1) := by decide +kernel
theorem d_X1_rankLeft_28 : decode oX1_rankLeft.2.1 28 = .ok (.iinc 3 1, 3) := by decide +kernel
theorem d_X1_rankLeft_31 : decode oX1_rankLeft.2.1 31 = .ok (.goto (-27), 3) := by decide +kernel
theorem d_X1_rankLeft_34 : decode oX1_rankLeft.2.1 34 = .ok (.lload_n 1, 1) := by decide +kernel
theorem d_X1_rankLeft_35 : decode oX1_rankLeft.2.1 35 = .ok (.lreturn, 1) := by decide +kernel
theorem b_X1_rankLeft_0 {E : ob_E} {σ : ob_Mem} {Q : Int64 → ob_Mem → Prop} (k : ob_RT shp E oX1_rankLeft 4 [.ref 17, .long (0 : Int64), .null, .int (0 : Int32)] [] σ (ob_qL Q)) : ob_RT shp E oX1_rankLeft 0 [.ref 17, .null, .null, .null] [] σ (ob_qL Q) := by
  refine ob_lconst (v := 0) d_X1_rankLeft_0 rfl ?_
  refine ob_lstore_n (ls' := [.ref 17, .long (0 : Int64), .null, .null]) d_X1_rankLeft_1 (Nat.le_of_ble_eq_true rfl) rfl ?_
  refine ob_iconst (v := 0) d_X1_rankLeft_2 ci_0 ?_
  refine ob_istore_n (ls' := [.ref 17, .long (0 : Int64), .null, .int (0 : Int32)]) d_X1_rankLeft_3 (Nat.le_of_ble_eq_true rfl) rfl ?_
  exact k
theorem b_X1_rankLeft_4 {E : ob_E} {σ : ob_Mem} {Q : Int64 → ob_Mem → Prop} {x3 : Int32} {x1 : Int64} (k : (((σ.1 10 8) ≤ x3 → Q x1 σ) ∧ (¬ (σ.1 10 8) ≤ x3 → ob_RM shp E oX1_leftTo [.ref 17, .int x3] σ (ob_qI fun v2 σ1 => ob_RM shp E oX1_rankOf [.ref 17, .int x3, .int v2] σ1 (ob_qL fun v4 σ3 => ob_RT shp E oX1_rankLeft 4 [.ref 17, .long (x1 + v4), .null, .int (x3 + (1 : Int32))] [] σ3 (ob_qL Q)))))) : ob_RT shp E oX1_rankLeft 4 [.ref 17, .long x1, .null, .int x3] [] σ (ob_qL Q) := by
  refine ob_iload_n d_X1_rankLeft_4 rfl ?_
  refine ob_aload_n d_X1_rankLeft_5 rfl ?_
  refine ob_getR d_X1_rankLeft_6 fl_X1_39 sh_17 rfl rfl ?_
  refine ob_getI d_X1_rankLeft_9 fl_X1_45 sh_10 rfl (by decide) ?_
  refine ob_icmp_ge (tgt := 34) d_X1_rankLeft_12 rfl (fun cc => ?_) (fun cc => ?_)
  · have k := k.1 cc
    refine ob_lload_n d_X1_rankLeft_34 rfl ?_
    exact ob_lret d_X1_rankLeft_35 rfl ⟨_, rfl, k⟩
  · have k := k.2 cc
    refine ob_lload_n d_X1_rankLeft_15 rfl ?_
    refine ob_aload_n d_X1_rankLeft_16 rfl ?_
    refine ob_iload_n d_X1_rankLeft_17 rfl ?_
    refine ob_aload_n d_X1_rankLeft_18 rfl ?_
    refine ob_iload_n d_X1_rankLeft_19 rfl ?_
    refine ob_callS [.ref 17, .int x3] (z := oX1_leftTo) (st := [.int x3, .ref 17, .long x1]) d_X1_rankLeft_20 lk_X1_112 ms_X1_leftTo rfl (Nat.le_of_ble_eq_true rfl) rfl k (ob_kI fun v2 σ1 k => ?_)
    refine ob_callS [.ref 17, .int x3, .int v2] (z := oX1_rankOf) (st := [.long x1]) d_X1_rankLeft_23 lk_X1_115 ms_X1_rankOf rfl (Nat.le_of_ble_eq_true rfl) rfl k (ob_kL fun v4 σ3 k => ?_)
    refine ob_ladd d_X1_rankLeft_26 ?_
    refine ob_lstore_n (ls' := [.ref 17, .long (x1 + v4), .null, .int x3]) d_X1_rankLeft_27 (Nat.le_of_ble_eq_true rfl) rfl ?_
    refine ob_iinc (ls' := [.ref 17, .long (x1 + v4), .null, .int (x3 + (1 : Int32))]) (v := 1) d_X1_rankLeft_28 rfl ci_1 (Nat.le_of_ble_eq_true rfl) rfl ?_
    refine ob_goto (tgt := 4) d_X1_rankLeft_31 rfl ?_
    exact k
theorem d_X1_addUpYears_0 : decode oX1_addUpYears.2.1 0 = .ok (.aload_n 0, 1) := by decide +kernel
theorem d_X1_addUpYears_1 : decode oX1_addUpYears.2.1 1 = .ok (.getfield 11, 3) := by decide +kernel
theorem d_X1_addUpYears_4 : decode oX1_addUpYears.2.1 4 = .ok (.iconst 0, 1) := by decide +kernel
theorem d_X1_addUpYears_5 : decode oX1_addUpYears.2.1 5 = .ok (.iconst 0, 1) := by decide +kernel
theorem d_X1_addUpYears_6 : decode oX1_addUpYears.2.1 6 = .ok (.iastore, 1) := by decide +kernel
theorem d_X1_addUpYears_7 : decode oX1_addUpYears.2.1 7 = .ok (.iconst 0, 1) := by decide +kernel
theorem d_X1_addUpYears_8 : decode oX1_addUpYears.2.1 8 = .ok (.istore_n 3, 1) := by decide +kernel
theorem d_X1_addUpYears_9 : decode oX1_addUpYears.2.1 9 = .ok (.iload_n 3, 1) := by decide +kernel
theorem d_X1_addUpYears_10 : decode oX1_addUpYears.2.1 10 = .ok (.aload_n 1, 1) := by decide +kernel
theorem d_X1_addUpYears_11 : decode oX1_addUpYears.2.1 11 = .ok (.getfield 39, 3) := by decide +kernel
theorem d_X1_addUpYears_14 : decode oX1_addUpYears.2.1 14 = .ok (.getfield 45, 3) := by decide +kernel
theorem d_X1_addUpYears_17 : decode oX1_addUpYears.2.1 17 = .ok (.if_icmp .ge 55, 3) := by decide +kernel
theorem d_X1_addUpYears_20 : decode oX1_addUpYears.2.1 20 = .ok (.aload_n 1, 1) := by decide +kernel
theorem d_X1_addUpYears_21 : decode oX1_addUpYears.2.1 21 = .ok (.iload_n 3, 1) := by decide +kernel
theorem d_X1_addUpYears_22 : decode oX1_addUpYears.2.1 22 = .ok (.iload_n 2, 1) := by decide +kernel
theorem d_X1_addUpYears_23 : decode oX1_addUpYears.2.1 23 = .ok (.invokevirtual 119, 3) := by decide +kernel
theorem d_X1_addUpYears_26 : decode oX1_addUpYears.2.1 26 = .ok (.istore 4, 2) := by decide +kernel
theorem d_X1_addUpYears_28 : decode oX1_addUpYears.2.1 28 = .ok (.iconst 0, 1) := by decide +kernel
theorem d_X1_addUpYears_29 : decode oX1_addUpYears.2.1 29 = .ok (.istore 5, 2) := by decide +kernel
theorem d_X1_addUpYears_31 : decode oX1_addUpYears.2.1 31 = .ok (.iload 5, 2) := by decide +kernel
theorem d_X1_addUpYears_33 : decode oX1_addUpYears.2.1 33 = .ok (.iconst 1, 1) := by decide +kernel
theorem d_X1_addUpYears_34 : decode oX1_addUpYears.2.1 34 = .ok (.iload_n 3, 1) := by decide +kernel
theorem d_X1_addUpYears_35 : decode oX1_addUpYears.2.1 35 = .ok (.ishl, 1) := by decide +kernel
theorem d_X1_addUpYears_36 : decode oX1_addUpYears.2.1 36 = .ok (.if_icmp .ge 30, 3) := by decide +kernel
theorem d_X1_addUpYears_39 : decode oX1_addUpYears.2.1 39 = .ok (.aload_n 0, 1) := by decide +kernel
theorem d_X1_addUpYears_40 : decode oX1_addUpYears.2.1 40 = .ok (.getfield 11, 3) := by decide +kernel
theorem d_X1_addUpYears_43 : decode oX1_addUpYears.2.1 43 = .ok (.iload 5, 2) := by decide +kernel
theorem d_X1_addUpYears_45 : decode oX1_addUpYears.2.1 45 = .ok (.iconst 1, 1) := by decide +kernel
theorem d_X1_addUpYears_46 : decode oX1_addUpYears.2.1 46 = .ok (.iload_n 3, 1) := by decide +kernel
theorem d_X1_addUpYears_47 : decode oX1_addUpYears.2.1 47 = .ok (.ishl, 1) := by decide +kernel
theorem d_X1_addUpYears_48 : decode oX1_addUpYears.2.1 48 = .ok (.ior, 1) := by decide +kernel
theorem d_X1_addUpYears_49 : decode oX1_addUpYears.2.1 49 = .ok (.aload_n 0, 1) := by decide +kernel
theorem d_X1_addUpYears_50 : decode oX1_addUpYears.2.1 50 = .ok (.getfield 11, 3) := by decide +kernel
theorem d_X1_addUpYears_53 : decode oX1_addUpYears.2.1 53 = .ok (.iload 5, 2) := by decide +kernel
theorem d_X1_addUpYears_55 : decode oX1_addUpYears.2.1 55 = .ok (.iaload, 1) := by decide +kernel
theorem d_X1_addUpYears_56 : decode oX1_addUpYears.2.1 56 = .ok (.iload 4, 2) := by decide +kernel
theorem d_X1_addUpYears_58 : decode oX1_addUpYears.2.1 58 = .ok (.iadd, 1) := by decide +kernel
theorem d_X1_addUpYears_59 : decode oX1_addUpYears.2.1 59 = .ok (.iastore, 1) := by decide +kernel
theorem d_X1_addUpYears_60 : decode oX1_addUpYears.2.1 60 = .ok (.iinc 5 1, 3) := by decide +kernel
theorem d_X1_addUpYears_63 : decode oX1_addUpYears.2.1 63 = .ok (.goto (-32), 3) := by decide +kernel
theorem d_X1_addUpYears_66 : decode oX1_addUpYears.2.1 66 = .ok (.iinc 3 1, 3) := by decide +kernel
theorem d_X1_addUpYears_69 : decode oX1_addUpYears.2.1 69 = .ok (.goto (-60), 3) := by decide +kernel
theorem d_X1_addUpYears_72 : decode oX1_addUpYears.2.1 72 = .ok (.return_, 1) := by decide +kernel
theorem b_X1_addUpYears_0 {E : ob_E} {σ : ob_Mem} {Q : ob_Mem → Prop} {x2 : Int32} (k : ob_RT shp E oX1_addUpYears 9 [.ref 45, .ref 17, .int x2, .int (0 : Int32), .null, .null] [] (ob_wI σ 46 ((0 : Int32)).toNatClampNeg (0 : Int32)) (ob_qV Q)) : ob_RT shp E oX1_addUpYears 0 [.ref 45, .ref 17, .int x2, .null, .null, .null] [] σ (ob_qV Q) := by
  refine ob_aload_n d_X1_addUpYears_0 rfl ?_
  refine ob_getR d_X1_addUpYears_1 fl_X1_11 sh_45 rfl rfl ?_
  refine ob_iconst (v := 0) d_X1_addUpYears_4 ci_0 ?_
  refine ob_iconst (v := 0) d_X1_addUpYears_5 ci_0 ?_
  refine ob_iast d_X1_addUpYears_6 sh_46 (by unfold vp_in; decide) ?_
  refine ob_iconst (v := 0) d_X1_addUpYears_7 ci_0 ?_
  refine ob_istore_n (ls' := [.ref 45, .ref 17, .int x2, .int (0 : Int32), .null, .null]) d_X1_addUpYears_8 (Nat.le_of_ble_eq_true rfl) rfl ?_
  exact k
theorem b_X1_addUpYears_9 {E : ob_E} {σ : ob_Mem} {Q : ob_Mem → Prop} {x2 x3 : Int32} (k : (((σ.1 10 8) ≤ x3 → Q σ) ∧ (¬ (σ.1 10 8) ≤ x3 → ob_RM shp E oX6_comings [.ref 17, .int x3, .int x2] σ (ob_qI fun v2 σ1 => ob_RT shp E oX1_addUpYears 31 [.ref 45, .ref 17, .int x2, .int x3, .int v2, .int (0 : Int32)] [] σ1 (ob_qV Q))))) : ob_RT shp E oX1_addUpYears 9 [.ref 45, .ref 17, .int x2, .int x3, .null, .null] [] σ (ob_qV Q) := by
  refine ob_iload_n d_X1_addUpYears_9 rfl ?_
  refine ob_aload_n d_X1_addUpYears_10 rfl ?_
  refine ob_getR d_X1_addUpYears_11 fl_X1_39 sh_17 rfl rfl ?_
  refine ob_getI d_X1_addUpYears_14 fl_X1_45 sh_10 rfl (by decide) ?_
  refine ob_icmp_ge (tgt := 72) d_X1_addUpYears_17 rfl (fun cc => ?_) (fun cc => ?_)
  · have k := k.1 cc
    exact ob_vret d_X1_addUpYears_72 rfl ⟨rfl, k⟩
  · have k := k.2 cc
    refine ob_aload_n d_X1_addUpYears_20 rfl ?_
    refine ob_iload_n d_X1_addUpYears_21 rfl ?_
    refine ob_iload_n d_X1_addUpYears_22 rfl ?_
    refine ob_callV [.int x3, .int x2] (z := oX6_comings) (st := []) d_X1_addUpYears_23 lk_X1_119 mv_X6_comings rfl sh_17 cl_6 rfl (Nat.le_of_ble_eq_true rfl) rfl k (ob_kI fun v2 σ1 k => ?_)
    refine ob_istore (ls' := [.ref 45, .ref 17, .int x2, .int x3, .int v2, .null]) d_X1_addUpYears_26 (Nat.le_of_ble_eq_true rfl) rfl ?_
    refine ob_iconst (v := 0) d_X1_addUpYears_28 ci_0 ?_
    refine ob_istore (ls' := [.ref 45, .ref 17, .int x2, .int x3, .int v2, .int (0 : Int32)]) d_X1_addUpYears_29 (Nat.le_of_ble_eq_true rfl) rfl ?_
    exact k
theorem b_X1_addUpYears_31 {E : ob_E} {σ : ob_Mem} {Q : ob_Mem → Prop} {x2 x3 x4 x5 : Int32} (k : ((((1 : Int32) <<< (x3 &&& 31)) ≤ x5 → ob_RT shp E oX1_addUpYears 9 [.ref 45, .ref 17, .int x2, .int (x3 + (1 : Int32)), .null, .null] [] σ (ob_qV Q)) ∧ (¬ ((1 : Int32) <<< (x3 &&& 31)) ≤ x5 → (vp_in x5 256 ∧ (vp_in (x5 ||| ((1 : Int32) <<< (x3 &&& 31))) 256 ∧ (∀ σ1, σ1 = (ob_wI σ 46 ((x5 ||| ((1 : Int32) <<< (x3 &&& 31)))).toNatClampNeg ((σ.1 46 (x5).toNatClampNeg) + x4)) → ob_RT shp E oX1_addUpYears 31 [.ref 45, .ref 17, .int x2, .int x3, .int x4, .int (x5 + (1 : Int32))] [] σ1 (ob_qV Q))))))) : ob_RT shp E oX1_addUpYears 31 [.ref 45, .ref 17, .int x2, .int x3, .int x4, .int x5] [] σ (ob_qV Q) := by
  refine ob_iload d_X1_addUpYears_31 rfl ?_
  refine ob_iconst (v := 1) d_X1_addUpYears_33 ci_1 ?_
  refine ob_iload_n d_X1_addUpYears_34 rfl ?_
  refine ob_ishl d_X1_addUpYears_35 ?_
  refine ob_icmp_ge (tgt := 66) d_X1_addUpYears_36 rfl (fun cc => ?_) (fun cc => ?_)
  · have k := k.1 cc
    refine ob_iinc (ls' := [.ref 45, .ref 17, .int x2, .int (x3 + (1 : Int32)), .int x4, .int x5]) (v := 1) d_X1_addUpYears_66 rfl ci_1 (Nat.le_of_ble_eq_true rfl) rfl ?_
    refine ob_goto (tgt := 9) d_X1_addUpYears_69 rfl ?_
    refine ob_drop 4 (ls' := [.ref 45, .ref 17, .int x2, .int (x3 + (1 : Int32)), .null, .int x5]) rfl ?_
    refine ob_drop 5 (ls' := [.ref 45, .ref 17, .int x2, .int (x3 + (1 : Int32)), .null, .null]) rfl ?_
    exact k
  · have k := k.2 cc
    refine ob_aload_n d_X1_addUpYears_39 rfl ?_
    refine ob_getR d_X1_addUpYears_40 fl_X1_11 sh_45 rfl rfl ?_
    refine ob_iload d_X1_addUpYears_43 rfl ?_
    refine ob_iconst (v := 1) d_X1_addUpYears_45 ci_1 ?_
    refine ob_iload_n d_X1_addUpYears_46 rfl ?_
    refine ob_ishl d_X1_addUpYears_47 ?_
    refine ob_ior d_X1_addUpYears_48 ?_
    refine ob_aload_n d_X1_addUpYears_49 rfl ?_
    refine ob_getR d_X1_addUpYears_50 fl_X1_11 sh_45 rfl rfl ?_
    refine ob_iload d_X1_addUpYears_53 rfl ?_
    obtain ⟨hin, k⟩ := k
    refine ob_iald d_X1_addUpYears_55 sh_46 hin ?_
    refine ob_iload d_X1_addUpYears_56 rfl ?_
    refine ob_iadd d_X1_addUpYears_58 ?_
    obtain ⟨hin, k⟩ := k
    refine ob_iast d_X1_addUpYears_59 sh_46 hin ?_
    refine ob_nmM (fun σ1 hσ1 => ?_)
    have k := k σ1 hσ1
    refine ob_iinc (ls' := [.ref 45, .ref 17, .int x2, .int x3, .int x4, .int (x5 + (1 : Int32))]) (v := 1) d_X1_addUpYears_60 rfl ci_1 (Nat.le_of_ble_eq_true rfl) rfl ?_
    refine ob_goto (tgt := 31) d_X1_addUpYears_63 rfl ?_
    exact k
theorem d_X1_leastOf_0 : decode oX1_leastOf.2.1 0 = .ok (.ldc2_w 58, 3) := by decide +kernel
theorem d_X1_leastOf_3 : decode oX1_leastOf.2.1 3 = .ok (.lstore_n 2, 1) := by decide +kernel
theorem d_X1_leastOf_4 : decode oX1_leastOf.2.1 4 = .ok (.iconst 0, 1) := by decide +kernel
theorem d_X1_leastOf_5 : decode oX1_leastOf.2.1 5 = .ok (.istore 4, 2) := by decide +kernel
theorem d_X1_leastOf_7 : decode oX1_leastOf.2.1 7 = .ok (.iload 4, 2) := by decide +kernel
theorem d_X1_leastOf_9 : decode oX1_leastOf.2.1 9 = .ok (.aload_n 0, 1) := by decide +kernel
theorem d_X1_leastOf_10 : decode oX1_leastOf.2.1 10 = .ok (.getfield 51, 3) := by decide +kernel
theorem d_X1_leastOf_13 : decode oX1_leastOf.2.1 13 = .ok (.if_icmp .ge 27, 3) := by decide +kernel
theorem d_X1_leastOf_16 : decode oX1_leastOf.2.1 16 = .ok (.lload_n 2, 1) := by decide +kernel
theorem d_X1_leastOf_17 : decode oX1_leastOf.2.1 17 = .ok (.aload_n 0, 1) := by decide +kernel
theorem d_X1_leastOf_18 : decode oX1_leastOf.2.1 18 = .ok (.getfield 24, 3) := by decide +kernel
theorem d_X1_leastOf_21 : decode oX1_leastOf.2.1 21 = .ok (.iload_n 1, 1) := by decide +kernel
theorem d_X1_leastOf_22 : decode oX1_leastOf.2.1 22 = .ok (.sipush 256, 3) := by decide +kernel
theorem d_X1_leastOf_25 : decode oX1_leastOf.2.1 25 = .ok (.imul, 1) := by decide +kernel
theorem d_X1_leastOf_26 : decode oX1_leastOf.2.1 26 = .ok (.iload 4, 2) := by decide +kernel
theorem d_X1_leastOf_28 : decode oX1_leastOf.2.1 28 = .ok (.iadd, 1) := by decide +kernel
theorem d_X1_leastOf_29 : decode oX1_leastOf.2.1 29 = .ok (.laload, 1) := by decide +kernel
theorem d_X1_leastOf_30 : decode oX1_leastOf.2.1 30 = .ok (.invokestatic 139, 3) := by decide +kernel
theorem d_X1_leastOf_33 : decode oX1_leastOf.2.1 33 = .ok (.lstore_n 2, 1) := by decide +kernel
theorem d_X1_leastOf_34 : decode oX1_leastOf.2.1 34 = .ok (.iinc 4 1, 3) := by decide +kernel
theorem d_X1_leastOf_37 : decode oX1_leastOf.2.1 37 = .ok (.goto (-30), 3) := by decide +kernel
theorem d_X1_leastOf_40 : decode oX1_leastOf.2.1 40 = .ok (.lload_n 2, 1) := by decide +kernel
theorem d_X1_leastOf_41 : decode oX1_leastOf.2.1 41 = .ok (.lreturn, 1) := by decide +kernel
theorem b_X1_leastOf_0 {E : ob_E} {σ : ob_Mem} {Q : Int64 → ob_Mem → Prop} {x1 : Int32} (k : ob_RT shp E oX1_leastOf 7 [.ref 45, .int x1, .long (9223372036854775807 : Int64), .null, .int (0 : Int32)] [] σ (ob_qL Q)) : ob_RT shp E oX1_leastOf 0 [.ref 45, .int x1, .null, .null, .null] [] σ (ob_qL Q) := by
  refine ob_ldc2 (v := 9223372036854775807) d_X1_leastOf_0 k_X1_58 ?_
  refine ob_lstore_n (ls' := [.ref 45, .int x1, .long (9223372036854775807 : Int64), .null, .null]) d_X1_leastOf_3 (Nat.le_of_ble_eq_true rfl) rfl ?_
  refine ob_iconst (v := 0) d_X1_leastOf_4 ci_0 ?_
  refine ob_istore (ls' := [.ref 45, .int x1, .long (9223372036854775807 : Int64), .null, .int (0 : Int32)]) d_X1_leastOf_5 (Nat.le_of_ble_eq_true rfl) rfl ?_
  exact k
theorem b_X1_leastOf_7 {E : ob_E} {σ : ob_Mem} {Q : Int64 → ob_Mem → Prop} {x1 x4 : Int32} {x2 : Int64} (k : (((σ.1 45 4) ≤ x4 → Q x2 σ) ∧ (¬ (σ.1 45 4) ≤ x4 → (vp_in ((x1 * (256 : Int32)) + x4) 1792 ∧ (∀ w1 : Int64, w1 = (ob_minL x2 (σ.2 49 (((x1 * (256 : Int32)) + x4)).toNatClampNeg)) → ob_RT shp E oX1_leastOf 7 [.ref 45, .int x1, .long w1, .null, .int (x4 + (1 : Int32))] [] σ (ob_qL Q)))))) : ob_RT shp E oX1_leastOf 7 [.ref 45, .int x1, .long x2, .null, .int x4] [] σ (ob_qL Q) := by
  refine ob_iload d_X1_leastOf_7 rfl ?_
  refine ob_aload_n d_X1_leastOf_9 rfl ?_
  refine ob_getI d_X1_leastOf_10 fl_X1_51 sh_45 rfl (by decide) ?_
  refine ob_icmp_ge (tgt := 40) d_X1_leastOf_13 rfl (fun cc => ?_) (fun cc => ?_)
  · have k := k.1 cc
    refine ob_lload_n d_X1_leastOf_40 rfl ?_
    exact ob_lret d_X1_leastOf_41 rfl ⟨_, rfl, k⟩
  · have k := k.2 cc
    refine ob_lload_n d_X1_leastOf_16 rfl ?_
    refine ob_aload_n d_X1_leastOf_17 rfl ?_
    refine ob_getR d_X1_leastOf_18 fl_X1_24 sh_45 rfl rfl ?_
    refine ob_iload_n d_X1_leastOf_21 rfl ?_
    refine ob_sipush (v := 256) d_X1_leastOf_22 cs_256 ?_
    refine ob_imul d_X1_leastOf_25 ?_
    refine ob_iload d_X1_leastOf_26 rfl ?_
    refine ob_iadd d_X1_leastOf_28 ?_
    obtain ⟨hin, k⟩ := k
    refine ob_lald d_X1_leastOf_29 sh_49 hin ?_
    refine ob_mminL (st := []) d_X1_leastOf_30 ml_X1_139 (Nat.le_of_ble_eq_true rfl) (Nat.le_of_ble_eq_true rfl) ?_
    refine ob_nmL (fun w1 hw1 => ?_)
    have k := k w1 hw1
    refine ob_lstore_n (ls' := [.ref 45, .int x1, .long w1, .null, .int x4]) d_X1_leastOf_33 (Nat.le_of_ble_eq_true rfl) rfl ?_
    refine ob_iinc (ls' := [.ref 45, .int x1, .long w1, .null, .int (x4 + (1 : Int32))]) (v := 1) d_X1_leastOf_34 rfl ci_1 (Nat.le_of_ble_eq_true rfl) rfl ?_
    refine ob_goto (tgt := 7) d_X1_leastOf_37 rfl ?_
    exact k
theorem d_X1_addUpRanks_0 : decode oX1_addUpRanks.2.1 0 = .ok (.aload_n 0, 1) := by decide +kernel
theorem d_X1_addUpRanks_1 : decode oX1_addUpRanks.2.1 1 = .ok (.getfield 17, 3) := by decide +kernel
theorem d_X1_addUpRanks_4 : decode oX1_addUpRanks.2.1 4 = .ok (.iconst 0, 1) := by decide +kernel
theorem d_X1_addUpRanks_5 : decode oX1_addUpRanks.2.1 5 = .ok (.lconst 0, 1) := by decide +kernel
theorem d_X1_addUpRanks_6 : decode oX1_addUpRanks.2.1 6 = .ok (.lastore, 1) := by decide +kernel
theorem d_X1_addUpRanks_7 : decode oX1_addUpRanks.2.1 7 = .ok (.iconst 0, 1) := by decide +kernel
theorem d_X1_addUpRanks_8 : decode oX1_addUpRanks.2.1 8 = .ok (.istore_n 3, 1) := by decide +kernel
theorem d_X1_addUpRanks_9 : decode oX1_addUpRanks.2.1 9 = .ok (.iload_n 3, 1) := by decide +kernel
theorem d_X1_addUpRanks_10 : decode oX1_addUpRanks.2.1 10 = .ok (.aload_n 1, 1) := by decide +kernel
theorem d_X1_addUpRanks_11 : decode oX1_addUpRanks.2.1 11 = .ok (.getfield 39, 3) := by decide +kernel
theorem d_X1_addUpRanks_14 : decode oX1_addUpRanks.2.1 14 = .ok (.getfield 45, 3) := by decide +kernel
theorem d_X1_addUpRanks_17 : decode oX1_addUpRanks.2.1 17 = .ok (.if_icmp .ge 66, 3) := by decide +kernel
theorem d_X1_addUpRanks_20 : decode oX1_addUpRanks.2.1 20 = .ok (.aload_n 1, 1) := by decide +kernel
theorem d_X1_addUpRanks_21 : decode oX1_addUpRanks.2.1 21 = .ok (.iload_n 3, 1) := by decide +kernel
theorem d_X1_addUpRanks_22 : decode oX1_addUpRanks.2.1 22 = .ok (.iload_n 2, 1) := by decide +kernel
theorem d_X1_addUpRanks_23 : decode oX1_addUpRanks.2.1 23 = .ok (.invokestatic 115, 3) := by decide +kernel
theorem d_X1_addUpRanks_26 : decode oX1_addUpRanks.2.1 26 = .ok (.aload_n 1, 1) := by decide +kernel
theorem d_X1_addUpRanks_27 : decode oX1_addUpRanks.2.1 27 = .ok (.iload_n 3, 1) := by decide +kernel
theorem d_X1_addUpRanks_28 : decode oX1_addUpRanks.2.1 28 = .ok (.aload_n 1, 1) := by decide +kernel
theorem d_X1_addUpRanks_29 : decode oX1_addUpRanks.2.1 29 = .ok (.iload_n 3, 1) := by decide +kernel
theorem d_X1_addUpRanks_30 : decode oX1_addUpRanks.2.1 30 = .ok (.invokestatic 112, 3) := by decide +kernel
theorem d_X1_addUpRanks_33 : decode oX1_addUpRanks.2.1 33 = .ok (.invokestatic 115, 3) := by decide +kernel
theorem d_X1_addUpRanks_36 : decode oX1_addUpRanks.2.1 36 = .ok (.lsub, 1) := by decide +kernel
theorem d_X1_addUpRanks_37 : decode oX1_addUpRanks.2.1 37 = .ok (.lstore 4, 2) := by decide +kernel
theorem d_X1_addUpRanks_39 : decode oX1_addUpRanks.2.1 39 = .ok (.iconst 0, 1) := by decide +kernel
theorem d_X1_addUpRanks_40 : decode oX1_addUpRanks.2.1 40 = .ok (.istore 6, 2) := by decide +kernel
theorem d_X1_addUpRanks_42 : decode oX1_addUpRanks.2.1 42 = .ok (.iload 6, 2) := by decide +kernel
theorem d_X1_addUpRanks_44 : decode oX1_addUpRanks.2.1 44 = .ok (.iconst 1, 1) := by decide +kernel
theorem d_X1_addUpRanks_45 : decode oX1_addUpRanks.2.1 45 = .ok (.iload_n 3, 1) := by decide +kernel
theorem d_X1_addUpRanks_46 : decode oX1_addUpRanks.2.1 46 = .ok (.ishl, 1) := by decide +kernel
theorem d_X1_addUpRanks_47 : decode oX1_addUpRanks.2.1 47 = .ok (.if_icmp .ge 30, 3) := by decide +kernel
theorem d_X1_addUpRanks_50 : decode oX1_addUpRanks.2.1 50 = .ok (.aload_n 0, 1) := by decide +kernel
theorem d_X1_addUpRanks_51 : decode oX1_addUpRanks.2.1 51 = .ok (.getfield 17, 3) := by decide +kernel
theorem d_X1_addUpRanks_54 : decode oX1_addUpRanks.2.1 54 = .ok (.iload 6, 2) := by decide +kernel
theorem d_X1_addUpRanks_56 : decode oX1_addUpRanks.2.1 56 = .ok (.iconst 1, 1) := by decide +kernel
theorem d_X1_addUpRanks_57 : decode oX1_addUpRanks.2.1 57 = .ok (.iload_n 3, 1) := by decide +kernel
theorem d_X1_addUpRanks_58 : decode oX1_addUpRanks.2.1 58 = .ok (.ishl, 1) := by decide +kernel
theorem d_X1_addUpRanks_59 : decode oX1_addUpRanks.2.1 59 = .ok (.ior, 1) := by decide +kernel
theorem d_X1_addUpRanks_60 : decode oX1_addUpRanks.2.1 60 = .ok (.aload_n 0, 1) := by decide +kernel
theorem d_X1_addUpRanks_61 : decode oX1_addUpRanks.2.1 61 = .ok (.getfield 17, 3) := by decide +kernel
theorem d_X1_addUpRanks_64 : decode oX1_addUpRanks.2.1 64 = .ok (.iload 6, 2) := by decide +kernel
theorem d_X1_addUpRanks_66 : decode oX1_addUpRanks.2.1 66 = .ok (.laload, 1) := by decide +kernel
theorem d_X1_addUpRanks_67 : decode oX1_addUpRanks.2.1 67 = .ok (.lload 4, 2) := by decide +kernel
theorem d_X1_addUpRanks_69 : decode oX1_addUpRanks.2.1 69 = .ok (.ladd, 1) := by decide +kernel
theorem d_X1_addUpRanks_70 : decode oX1_addUpRanks.2.1 70 = .ok (.lastore, 1) := by decide +kernel
theorem d_X1_addUpRanks_71 : decode oX1_addUpRanks.2.1 71 = .ok (.iinc 6 1, 3) := by decide +kernel
theorem d_X1_addUpRanks_74 : decode oX1_addUpRanks.2.1 74 = .ok (.goto (-32), 3) := by decide +kernel
theorem d_X1_addUpRanks_77 : decode oX1_addUpRanks.2.1 77 = .ok (.iinc 3 1, 3) := by decide +kernel
theorem d_X1_addUpRanks_80 : decode oX1_addUpRanks.2.1 80 = .ok (.goto (-71), 3) := by decide +kernel
theorem d_X1_addUpRanks_83 : decode oX1_addUpRanks.2.1 83 = .ok (.return_, 1) := by decide +kernel
theorem b_X1_addUpRanks_0 {E : ob_E} {σ : ob_Mem} {Q : ob_Mem → Prop} {x2 : Int32} (k : ob_RT shp E oX1_addUpRanks 9 [.ref 45, .ref 17, .int x2, .int (0 : Int32), .null, .null, .null] [] (ob_wL σ 47 ((0 : Int32)).toNatClampNeg (0 : Int64)) (ob_qV Q)) : ob_RT shp E oX1_addUpRanks 0 [.ref 45, .ref 17, .int x2, .null, .null, .null, .null] [] σ (ob_qV Q) := by
  refine ob_aload_n d_X1_addUpRanks_0 rfl ?_
  refine ob_getR d_X1_addUpRanks_1 fl_X1_17 sh_45 rfl rfl ?_
  refine ob_iconst (v := 0) d_X1_addUpRanks_4 ci_0 ?_
  refine ob_lconst (v := 0) d_X1_addUpRanks_5 rfl ?_
  refine ob_last d_X1_addUpRanks_6 sh_47 (by unfold vp_in; decide) ?_
  refine ob_iconst (v := 0) d_X1_addUpRanks_7 ci_0 ?_
  refine ob_istore_n (ls' := [.ref 45, .ref 17, .int x2, .int (0 : Int32), .null, .null, .null]) d_X1_addUpRanks_8 (Nat.le_of_ble_eq_true rfl) rfl ?_
  exact k
theorem b_X1_addUpRanks_9 {E : ob_E} {σ : ob_Mem} {Q : ob_Mem → Prop} {x2 x3 : Int32} (k : (((σ.1 10 8) ≤ x3 → Q σ) ∧ (¬ (σ.1 10 8) ≤ x3 → ob_RM shp E oX1_rankOf [.ref 17, .int x3, .int x2] σ (ob_qL fun v2 σ1 => ob_RM shp E oX1_leftTo [.ref 17, .int x3] σ1 (ob_qI fun v4 σ3 => ob_RM shp E oX1_rankOf [.ref 17, .int x3, .int v4] σ3 (ob_qL fun v6 σ5 => ob_RT shp E oX1_addUpRanks 42 [.ref 45, .ref 17, .int x2, .int x3, .long (v2 - v6), .null, .int (0 : Int32)] [] σ5 (ob_qV Q))))))) : ob_RT shp E oX1_addUpRanks 9 [.ref 45, .ref 17, .int x2, .int x3, .null, .null, .null] [] σ (ob_qV Q) := by
  refine ob_iload_n d_X1_addUpRanks_9 rfl ?_
  refine ob_aload_n d_X1_addUpRanks_10 rfl ?_
  refine ob_getR d_X1_addUpRanks_11 fl_X1_39 sh_17 rfl rfl ?_
  refine ob_getI d_X1_addUpRanks_14 fl_X1_45 sh_10 rfl (by decide) ?_
  refine ob_icmp_ge (tgt := 83) d_X1_addUpRanks_17 rfl (fun cc => ?_) (fun cc => ?_)
  · have k := k.1 cc
    exact ob_vret d_X1_addUpRanks_83 rfl ⟨rfl, k⟩
  · have k := k.2 cc
    refine ob_aload_n d_X1_addUpRanks_20 rfl ?_
    refine ob_iload_n d_X1_addUpRanks_21 rfl ?_
    refine ob_iload_n d_X1_addUpRanks_22 rfl ?_
    refine ob_callS [.ref 17, .int x3, .int x2] (z := oX1_rankOf) (st := []) d_X1_addUpRanks_23 lk_X1_115 ms_X1_rankOf rfl (Nat.le_of_ble_eq_true rfl) rfl k (ob_kL fun v2 σ1 k => ?_)
    refine ob_aload_n d_X1_addUpRanks_26 rfl ?_
    refine ob_iload_n d_X1_addUpRanks_27 rfl ?_
    refine ob_aload_n d_X1_addUpRanks_28 rfl ?_
    refine ob_iload_n d_X1_addUpRanks_29 rfl ?_
    refine ob_callS [.ref 17, .int x3] (z := oX1_leftTo) (st := [.int x3, .ref 17, .long v2]) d_X1_addUpRanks_30 lk_X1_112 ms_X1_leftTo rfl (Nat.le_of_ble_eq_true rfl) rfl k (ob_kI fun v4 σ3 k => ?_)
    refine ob_callS [.ref 17, .int x3, .int v4] (z := oX1_rankOf) (st := [.long v2]) d_X1_addUpRanks_33 lk_X1_115 ms_X1_rankOf rfl (Nat.le_of_ble_eq_true rfl) rfl k (ob_kL fun v6 σ5 k => ?_)
    refine ob_lsub d_X1_addUpRanks_36 ?_
    refine ob_lstore (ls' := [.ref 45, .ref 17, .int x2, .int x3, .long (v2 - v6), .null, .null]) d_X1_addUpRanks_37 (Nat.le_of_ble_eq_true rfl) rfl ?_
    refine ob_iconst (v := 0) d_X1_addUpRanks_39 ci_0 ?_
    refine ob_istore (ls' := [.ref 45, .ref 17, .int x2, .int x3, .long (v2 - v6), .null, .int (0 : Int32)]) d_X1_addUpRanks_40 (Nat.le_of_ble_eq_true rfl) rfl ?_
    exact k
theorem b_X1_addUpRanks_42 {E : ob_E} {σ : ob_Mem} {Q : ob_Mem → Prop} {x2 x3 x6 : Int32} {x4 : Int64} (k : ((((1 : Int32) <<< (x3 &&& 31)) ≤ x6 → ob_RT shp E oX1_addUpRanks 9 [.ref 45, .ref 17, .int x2, .int (x3 + (1 : Int32)), .null, .null, .null] [] σ (ob_qV Q)) ∧ (¬ ((1 : Int32) <<< (x3 &&& 31)) ≤ x6 → (vp_in x6 256 ∧ (vp_in (x6 ||| ((1 : Int32) <<< (x3 &&& 31))) 256 ∧ (∀ σ1, σ1 = (ob_wL σ 47 ((x6 ||| ((1 : Int32) <<< (x3 &&& 31)))).toNatClampNeg ((σ.2 47 (x6).toNatClampNeg) + x4)) → ob_RT shp E oX1_addUpRanks 42 [.ref 45, .ref 17, .int x2, .int x3, .long x4, .null, .int (x6 + (1 : Int32))] [] σ1 (ob_qV Q))))))) : ob_RT shp E oX1_addUpRanks 42 [.ref 45, .ref 17, .int x2, .int x3, .long x4, .null, .int x6] [] σ (ob_qV Q) := by
  refine ob_iload d_X1_addUpRanks_42 rfl ?_
  refine ob_iconst (v := 1) d_X1_addUpRanks_44 ci_1 ?_
  refine ob_iload_n d_X1_addUpRanks_45 rfl ?_
  refine ob_ishl d_X1_addUpRanks_46 ?_
  refine ob_icmp_ge (tgt := 77) d_X1_addUpRanks_47 rfl (fun cc => ?_) (fun cc => ?_)
  · have k := k.1 cc
    refine ob_iinc (ls' := [.ref 45, .ref 17, .int x2, .int (x3 + (1 : Int32)), .long x4, .null, .int x6]) (v := 1) d_X1_addUpRanks_77 rfl ci_1 (Nat.le_of_ble_eq_true rfl) rfl ?_
    refine ob_goto (tgt := 9) d_X1_addUpRanks_80 rfl ?_
    refine ob_drop 4 (ls' := [.ref 45, .ref 17, .int x2, .int (x3 + (1 : Int32)), .null, .null, .int x6]) rfl ?_
    refine ob_drop 6 (ls' := [.ref 45, .ref 17, .int x2, .int (x3 + (1 : Int32)), .null, .null, .null]) rfl ?_
    exact k
  · have k := k.2 cc
    refine ob_aload_n d_X1_addUpRanks_50 rfl ?_
    refine ob_getR d_X1_addUpRanks_51 fl_X1_17 sh_45 rfl rfl ?_
    refine ob_iload d_X1_addUpRanks_54 rfl ?_
    refine ob_iconst (v := 1) d_X1_addUpRanks_56 ci_1 ?_
    refine ob_iload_n d_X1_addUpRanks_57 rfl ?_
    refine ob_ishl d_X1_addUpRanks_58 ?_
    refine ob_ior d_X1_addUpRanks_59 ?_
    refine ob_aload_n d_X1_addUpRanks_60 rfl ?_
    refine ob_getR d_X1_addUpRanks_61 fl_X1_17 sh_45 rfl rfl ?_
    refine ob_iload d_X1_addUpRanks_64 rfl ?_
    obtain ⟨hin, k⟩ := k
    refine ob_lald d_X1_addUpRanks_66 sh_47 hin ?_
    refine ob_lload d_X1_addUpRanks_67 rfl ?_
    refine ob_ladd d_X1_addUpRanks_69 ?_
    obtain ⟨hin, k⟩ := k
    refine ob_last d_X1_addUpRanks_70 sh_47 hin ?_
    refine ob_nmM (fun σ1 hσ1 => ?_)
    have k := k σ1 hσ1
    refine ob_iinc (ls' := [.ref 45, .ref 17, .int x2, .int x3, .long x4, .null, .int (x6 + (1 : Int32))]) (v := 1) d_X1_addUpRanks_71 rfl ci_1 (Nat.le_of_ble_eq_true rfl) rfl ?_
    refine ob_goto (tgt := 42) d_X1_addUpRanks_74 rfl ?_
    exact k
theorem d_X1_findEnough_0 : decode oX1_findEnough.2.1 0 = .ok (.aload_n 0, 1) := by decide +kernel
theorem d_X1_findEnough_1 : decode oX1_findEnough.2.1 1 = .ok (.iconst 0, 1) := by decide +kernel
theorem d_X1_findEnough_2 : decode oX1_findEnough.2.1 2 = .ok (.putfield 123, 3) := by decide +kernel
theorem d_X1_findEnough_5 : decode oX1_findEnough.2.1 5 = .ok (.iconst 0, 1) := by decide +kernel
theorem d_X1_findEnough_6 : decode oX1_findEnough.2.1 6 = .ok (.istore_n 2, 1) := by decide +kernel
theorem d_X1_findEnough_7 : decode oX1_findEnough.2.1 7 = .ok (.iload_n 2, 1) := by decide +kernel
theorem d_X1_findEnough_8 : decode oX1_findEnough.2.1 8 = .ok (.aload_n 0, 1) := by decide +kernel
theorem d_X1_findEnough_9 : decode oX1_findEnough.2.1 9 = .ok (.getfield 51, 3) := by decide +kernel
theorem d_X1_findEnough_12 : decode oX1_findEnough.2.1 12 = .ok (.if_icmp .ge 38, 3) := by decide +kernel
theorem d_X1_findEnough_15 : decode oX1_findEnough.2.1 15 = .ok (.aload_n 0, 1) := by decide +kernel
theorem d_X1_findEnough_16 : decode oX1_findEnough.2.1 16 = .ok (.iload_n 2, 1) := by decide +kernel
theorem d_X1_findEnough_17 : decode oX1_findEnough.2.1 17 = .ok (.iload_n 1, 1) := by decide +kernel
theorem d_X1_findEnough_18 : decode oX1_findEnough.2.1 18 = .ok (.invokevirtual 126, 3) := by decide +kernel
theorem d_X1_findEnough_21 : decode oX1_findEnough.2.1 21 = .ok (.ifCond .eq 23, 3) := by decide +kernel
theorem d_X1_findEnough_24 : decode oX1_findEnough.2.1 24 = .ok (.aload_n 0, 1) := by decide +kernel
theorem d_X1_findEnough_25 : decode oX1_findEnough.2.1 25 = .ok (.getfield 21, 3) := by decide +kernel
theorem d_X1_findEnough_28 : decode oX1_findEnough.2.1 28 = .ok (.aload_n 0, 1) := by decide +kernel
theorem d_X1_findEnough_29 : decode oX1_findEnough.2.1 29 = .ok (.getfield 123, 3) := by decide +kernel
theorem d_X1_findEnough_32 : decode oX1_findEnough.2.1 32 = .ok (.iload_n 2, 1) := by decide +kernel
theorem d_X1_findEnough_33 : decode oX1_findEnough.2.1 33 = .ok (.iastore, 1) := by decide +kernel
theorem d_X1_findEnough_34 : decode oX1_findEnough.2.1 34 = .ok (.aload_n 0, 1) := by decide +kernel
theorem d_X1_findEnough_35 : decode oX1_findEnough.2.1 35 = .ok (.dup, 1) := by decide +kernel
theorem d_X1_findEnough_36 : decode oX1_findEnough.2.1 36 = .ok (.getfield 123, 3) := by decide +kernel
theorem d_X1_findEnough_39 : decode oX1_findEnough.2.1 39 = .ok (.iconst 1, 1) := by decide +kernel
theorem d_X1_findEnough_40 : decode oX1_findEnough.2.1 40 = .ok (.iadd, 1) := by decide +kernel
theorem d_X1_findEnough_41 : decode oX1_findEnough.2.1 41 = .ok (.putfield 123, 3) := by decide +kernel
theorem d_X1_findEnough_44 : decode oX1_findEnough.2.1 44 = .ok (.iinc 2 1, 3) := by decide +kernel
theorem d_X1_findEnough_47 : decode oX1_findEnough.2.1 47 = .ok (.goto (-40), 3) := by decide +kernel
theorem d_X1_findEnough_50 : decode oX1_findEnough.2.1 50 = .ok (.return_, 1) := by decide +kernel
theorem b_X1_findEnough_0 {E : ob_E} {σ : ob_Mem} {Q : ob_Mem → Prop} {x1 : Int32} (k : ob_RT shp E oX1_findEnough 7 [.ref 45, .int x1, .int (0 : Int32)] [] (ob_wI σ 45 5 (0 : Int32)) (ob_qV Q)) : ob_RT shp E oX1_findEnough 0 [.ref 45, .int x1, .null] [] σ (ob_qV Q) := by
  refine ob_aload_n d_X1_findEnough_0 rfl ?_
  refine ob_iconst (v := 0) d_X1_findEnough_1 ci_0 ?_
  refine ob_putI d_X1_findEnough_2 fp_X1_123 sh_45 rfl rfl ?_
  refine ob_iconst (v := 0) d_X1_findEnough_5 ci_0 ?_
  refine ob_istore_n (ls' := [.ref 45, .int x1, .int (0 : Int32)]) d_X1_findEnough_6 (Nat.le_of_ble_eq_true rfl) rfl ?_
  exact k
theorem b_X1_findEnough_7 {E : ob_E} {σ : ob_Mem} {Q : ob_Mem → Prop} {x1 x2 : Int32} (k : (((σ.1 45 4) ≤ x2 → Q σ) ∧ (¬ (σ.1 45 4) ≤ x2 → ob_RM shp E oX1_isJustEnough [.ref 45, .int x2, .int x1] σ (ob_qI fun v2 σ1 => ((v2 = 0 → ob_RT shp E oX1_findEnough 7 [.ref 45, .int x1, .int (x2 + (1 : Int32))] [] σ1 (ob_qV Q)) ∧ (¬ v2 = 0 → (vp_in (σ1.1 45 5) 256 ∧ (∀ σ3, σ3 = (ob_wI (ob_wI σ1 48 ((σ1.1 45 5)).toNatClampNeg x2) 45 5 (((ob_wI σ1 48 ((σ1.1 45 5)).toNatClampNeg x2).1 45 5) + (1 : Int32))) → ob_RT shp E oX1_findEnough 7 [.ref 45, .int x1, .int (x2 + (1 : Int32))] [] σ3 (ob_qV Q))))))))) : ob_RT shp E oX1_findEnough 7 [.ref 45, .int x1, .int x2] [] σ (ob_qV Q) := by
  refine ob_iload_n d_X1_findEnough_7 rfl ?_
  refine ob_aload_n d_X1_findEnough_8 rfl ?_
  refine ob_getI d_X1_findEnough_9 fl_X1_51 sh_45 rfl (by decide) ?_
  refine ob_icmp_ge (tgt := 50) d_X1_findEnough_12 rfl (fun cc => ?_) (fun cc => ?_)
  · have k := k.1 cc
    exact ob_vret d_X1_findEnough_50 rfl ⟨rfl, k⟩
  · have k := k.2 cc
    refine ob_aload_n d_X1_findEnough_15 rfl ?_
    refine ob_iload_n d_X1_findEnough_16 rfl ?_
    refine ob_iload_n d_X1_findEnough_17 rfl ?_
    refine ob_callV [.int x2, .int x1] (z := oX1_isJustEnough) (st := []) d_X1_findEnough_18 lk_X1_126 mv_X1_isJustEnough rfl sh_45 cl_1 rfl (Nat.le_of_ble_eq_true rfl) rfl k (ob_kI fun v2 σ1 k => ?_)
    refine ob_if_eq (tgt := 44) d_X1_findEnough_21 rfl (fun cc => ?_) (fun cc => ?_)
    · have k := k.1 cc
      refine ob_iinc (ls' := [.ref 45, .int x1, .int (x2 + (1 : Int32))]) (v := 1) d_X1_findEnough_44 rfl ci_1 (Nat.le_of_ble_eq_true rfl) rfl ?_
      refine ob_goto (tgt := 7) d_X1_findEnough_47 rfl ?_
      exact k
    · have k := k.2 cc
      refine ob_aload_n d_X1_findEnough_24 rfl ?_
      refine ob_getR d_X1_findEnough_25 fl_X1_21 sh_45 rfl rfl ?_
      refine ob_aload_n d_X1_findEnough_28 rfl ?_
      refine ob_getI d_X1_findEnough_29 fl_X1_123 sh_45 rfl (by decide) ?_
      refine ob_iload_n d_X1_findEnough_32 rfl ?_
      obtain ⟨hin, k⟩ := k
      refine ob_iast d_X1_findEnough_33 sh_48 hin ?_
      refine ob_aload_n d_X1_findEnough_34 rfl ?_
      refine ob_dup d_X1_findEnough_35 rfl ?_
      refine ob_getI d_X1_findEnough_36 fl_X1_123 sh_45 rfl (by decide) ?_
      refine ob_iconst (v := 1) d_X1_findEnough_39 ci_1 ?_
      refine ob_iadd d_X1_findEnough_40 ?_
      refine ob_putI d_X1_findEnough_41 fp_X1_123 sh_45 rfl rfl ?_
      refine ob_nmM (fun σ3 hσ3 => ?_)
      have k := k σ3 hσ3
      refine ob_iinc (ls' := [.ref 45, .int x1, .int (x2 + (1 : Int32))]) (v := 1) d_X1_findEnough_44 rfl ci_1 (Nat.le_of_ble_eq_true rfl) rfl ?_
      refine ob_goto (tgt := 7) d_X1_findEnough_47 rfl ?_
      exact k
theorem d_X1_tryPerson_0 : decode oX1_tryPerson.2.1 0 = .ok (.iload_n 1, 1) := by decide +kernel
theorem d_X1_tryPerson_1 : decode oX1_tryPerson.2.1 1 = .ok (.bipush 6, 2) := by decide +kernel
theorem d_X1_tryPerson_3 : decode oX1_tryPerson.2.1 3 = .ok (.invokestatic 130, 3) := by decide +kernel
theorem d_X1_tryPerson_6 : decode oX1_tryPerson.2.1 6 = .ok (.iconst 1, 1) := by decide +kernel
theorem d_X1_tryPerson_7 : decode oX1_tryPerson.2.1 7 = .ok (.isub, 1) := by decide +kernel
theorem d_X1_tryPerson_8 : decode oX1_tryPerson.2.1 8 = .ok (.istore_n 2, 1) := by decide +kernel
theorem d_X1_tryPerson_9 : decode oX1_tryPerson.2.1 9 = .ok (.iload_n 2, 1) := by decide +kernel
theorem d_X1_tryPerson_10 : decode oX1_tryPerson.2.1 10 = .ok (.ifCond .lt 58, 3) := by decide +kernel
theorem d_X1_tryPerson_13 : decode oX1_tryPerson.2.1 13 = .ok (.iconst 0, 1) := by decide +kernel
theorem d_X1_tryPerson_14 : decode oX1_tryPerson.2.1 14 = .ok (.istore_n 3, 1) := by decide +kernel
theorem d_X1_tryPerson_15 : decode oX1_tryPerson.2.1 15 = .ok (.iload_n 3, 1) := by decide +kernel
theorem d_X1_tryPerson_16 : decode oX1_tryPerson.2.1 16 = .ok (.aload_n 0, 1) := by decide +kernel
theorem d_X1_tryPerson_17 : decode oX1_tryPerson.2.1 17 = .ok (.getfield 51, 3) := by decide +kernel
theorem d_X1_tryPerson_20 : decode oX1_tryPerson.2.1 20 = .ok (.if_icmp .ge 42, 3) := by decide +kernel
theorem d_X1_tryPerson_23 : decode oX1_tryPerson.2.1 23 = .ok (.aload_n 0, 1) := by decide +kernel
theorem d_X1_tryPerson_24 : decode oX1_tryPerson.2.1 24 = .ok (.getfield 24, 3) := by decide +kernel
theorem d_X1_tryPerson_27 : decode oX1_tryPerson.2.1 27 = .ok (.iload_n 2, 1) := by decide +kernel
theorem d_X1_tryPerson_28 : decode oX1_tryPerson.2.1 28 = .ok (.sipush 256, 3) := by decide +kernel
theorem d_X1_tryPerson_31 : decode oX1_tryPerson.2.1 31 = .ok (.imul, 1) := by decide +kernel
theorem d_X1_tryPerson_32 : decode oX1_tryPerson.2.1 32 = .ok (.iload_n 3, 1) := by decide +kernel
theorem d_X1_tryPerson_33 : decode oX1_tryPerson.2.1 33 = .ok (.iadd, 1) := by decide +kernel
theorem d_X1_tryPerson_34 : decode oX1_tryPerson.2.1 34 = .ok (.laload, 1) := by decide +kernel
theorem d_X1_tryPerson_35 : decode oX1_tryPerson.2.1 35 = .ok (.lstore 4, 2) := by decide +kernel
theorem d_X1_tryPerson_37 : decode oX1_tryPerson.2.1 37 = .ok (.lload 4, 2) := by decide +kernel
theorem d_X1_tryPerson_39 : decode oX1_tryPerson.2.1 39 = .ok (.ldc2_w 58, 3) := by decide +kernel
theorem d_X1_tryPerson_42 : decode oX1_tryPerson.2.1 42 = .ok (.lcmp, 1) := by decide +kernel
theorem d_X1_tryPerson_43 : decode oX1_tryPerson.2.1 43 = .ok (.ifCond .eq 13, 3) := by decide +kernel
theorem d_X1_tryPerson_46 : decode oX1_tryPerson.2.1 46 = .ok (.aload_n 0, 1) := by decide +kernel
theorem d_X1_tryPerson_47 : decode oX1_tryPerson.2.1 47 = .ok (.iload_n 2, 1) := by decide +kernel
theorem d_X1_tryPerson_48 : decode oX1_tryPerson.2.1 48 = .ok (.iconst 1, 1) := by decide +kernel
theorem d_X1_tryPerson_49 : decode oX1_tryPerson.2.1 49 = .ok (.iadd, 1) := by decide +kernel
theorem d_X1_tryPerson_50 : decode oX1_tryPerson.2.1 50 = .ok (.iload_n 3, 1) := by decide +kernel
theorem d_X1_tryPerson_51 : decode oX1_tryPerson.2.1 51 = .ok (.lload 4, 2) := by decide +kernel
theorem d_X1_tryPerson_53 : decode oX1_tryPerson.2.1 53 = .ok (.invokevirtual 135, 3) := by decide +kernel
theorem d_X1_tryPerson_56 : decode oX1_tryPerson.2.1 56 = .ok (.iinc 3 1, 3) := by decide +kernel
theorem d_X1_tryPerson_59 : decode oX1_tryPerson.2.1 59 = .ok (.goto (-44), 3) := by decide +kernel
theorem d_X1_tryPerson_62 : decode oX1_tryPerson.2.1 62 = .ok (.iinc 2 (-1), 3) := by decide +kernel
theorem d_X1_tryPerson_65 : decode oX1_tryPerson.2.1 65 = .ok (.goto (-56), 3) := by decide +kernel
theorem d_X1_tryPerson_68 : decode oX1_tryPerson.2.1 68 = .ok (.return_, 1) := by decide +kernel
theorem b_X1_tryPerson_0 {E : ob_E} {σ : ob_Mem} {Q : ob_Mem → Prop} {x1 : Int32} (k : ob_RT shp E oX1_tryPerson 9 [.ref 45, .int x1, .int ((ob_min x1 (6 : Int32)) - (1 : Int32)), .null, .null, .null] [] σ (ob_qV Q)) : ob_RT shp E oX1_tryPerson 0 [.ref 45, .int x1, .null, .null, .null, .null] [] σ (ob_qV Q) := by
  refine ob_iload_n d_X1_tryPerson_0 rfl ?_
  refine ob_bipush (v := 6) d_X1_tryPerson_1 cb_6 ?_
  refine ob_mmin (st := []) d_X1_tryPerson_3 ml_X1_130 (Nat.le_of_ble_eq_true rfl) (Nat.le_of_ble_eq_true rfl) ?_
  refine ob_iconst (v := 1) d_X1_tryPerson_6 ci_1 ?_
  refine ob_isub d_X1_tryPerson_7 ?_
  refine ob_istore_n (ls' := [.ref 45, .int x1, .int ((ob_min x1 (6 : Int32)) - (1 : Int32)), .null, .null, .null]) d_X1_tryPerson_8 (Nat.le_of_ble_eq_true rfl) rfl ?_
  exact k
theorem b_X1_tryPerson_9 {E : ob_E} {σ : ob_Mem} {Q : ob_Mem → Prop} {x1 x2 : Int32} (k : ((x2 < 0 → Q σ) ∧ (¬ x2 < 0 → ob_RT shp E oX1_tryPerson 15 [.ref 45, .int x1, .int x2, .int (0 : Int32), .null, .null] [] σ (ob_qV Q)))) : ob_RT shp E oX1_tryPerson 9 [.ref 45, .int x1, .int x2, .null, .null, .null] [] σ (ob_qV Q) := by
  refine ob_iload_n d_X1_tryPerson_9 rfl ?_
  refine ob_if_lt (tgt := 68) d_X1_tryPerson_10 rfl (fun cc => ?_) (fun cc => ?_)
  · have k := k.1 cc
    exact ob_vret d_X1_tryPerson_68 rfl ⟨rfl, k⟩
  · have k := k.2 cc
    refine ob_iconst (v := 0) d_X1_tryPerson_13 ci_0 ?_
    refine ob_istore_n (ls' := [.ref 45, .int x1, .int x2, .int (0 : Int32), .null, .null]) d_X1_tryPerson_14 (Nat.le_of_ble_eq_true rfl) rfl ?_
    exact k
theorem b_X1_tryPerson_15 {E : ob_E} {σ : ob_Mem} {Q : ob_Mem → Prop} {x1 x2 x3 : Int32} (k : (((σ.1 45 4) ≤ x3 → ob_RT shp E oX1_tryPerson 9 [.ref 45, .int x1, .int (x2 + (-1 : Int32)), .null, .null, .null] [] σ (ob_qV Q)) ∧ (¬ (σ.1 45 4) ≤ x3 → (vp_in ((x2 * (256 : Int32)) + x3) 1792 ∧ (((σ.2 49 (((x2 * (256 : Int32)) + x3)).toNatClampNeg) = (9223372036854775807 : Int64) → ob_RT shp E oX1_tryPerson 15 [.ref 45, .int x1, .int x2, .int (x3 + (1 : Int32)), .null, .null] [] σ (ob_qV Q)) ∧ (¬ (σ.2 49 (((x2 * (256 : Int32)) + x3)).toNatClampNeg) = (9223372036854775807 : Int64) → ob_RM shp E oX1_tryEnough [.ref 45, .int (x2 + (1 : Int32)), .int x3, .long (σ.2 49 (((x2 * (256 : Int32)) + x3)).toNatClampNeg)] σ (ob_qV fun σ1 => ob_RT shp E oX1_tryPerson 15 [.ref 45, .int x1, .int x2, .int (x3 + (1 : Int32)), .null, .null] [] σ1 (ob_qV Q)))))))) : ob_RT shp E oX1_tryPerson 15 [.ref 45, .int x1, .int x2, .int x3, .null, .null] [] σ (ob_qV Q) := by
  refine ob_iload_n d_X1_tryPerson_15 rfl ?_
  refine ob_aload_n d_X1_tryPerson_16 rfl ?_
  refine ob_getI d_X1_tryPerson_17 fl_X1_51 sh_45 rfl (by decide) ?_
  refine ob_icmp_ge (tgt := 62) d_X1_tryPerson_20 rfl (fun cc => ?_) (fun cc => ?_)
  · have k := k.1 cc
    refine ob_iinc (ls' := [.ref 45, .int x1, .int (x2 + (-1 : Int32)), .int x3, .null, .null]) (v := -1) d_X1_tryPerson_62 rfl ci_m1 (Nat.le_of_ble_eq_true rfl) rfl ?_
    refine ob_goto (tgt := 9) d_X1_tryPerson_65 rfl ?_
    refine ob_drop 3 (ls' := [.ref 45, .int x1, .int (x2 + (-1 : Int32)), .null, .null, .null]) rfl ?_
    exact k
  · have k := k.2 cc
    refine ob_aload_n d_X1_tryPerson_23 rfl ?_
    refine ob_getR d_X1_tryPerson_24 fl_X1_24 sh_45 rfl rfl ?_
    refine ob_iload_n d_X1_tryPerson_27 rfl ?_
    refine ob_sipush (v := 256) d_X1_tryPerson_28 cs_256 ?_
    refine ob_imul d_X1_tryPerson_31 ?_
    refine ob_iload_n d_X1_tryPerson_32 rfl ?_
    refine ob_iadd d_X1_tryPerson_33 ?_
    obtain ⟨hin, k⟩ := k
    refine ob_lald d_X1_tryPerson_34 sh_49 hin ?_
    refine ob_lstore (ls' := [.ref 45, .int x1, .int x2, .int x3, .long (σ.2 49 (((x2 * (256 : Int32)) + x3)).toNatClampNeg), .null]) d_X1_tryPerson_35 (Nat.le_of_ble_eq_true rfl) rfl ?_
    refine ob_lload d_X1_tryPerson_37 rfl ?_
    refine ob_ldc2 (v := 9223372036854775807) d_X1_tryPerson_39 k_X1_58 ?_
    refine ob_lcmp d_X1_tryPerson_42 ?_
    refine ob_if_eq (tgt := 56) d_X1_tryPerson_43 rfl (fun cc => ?_) (fun cc => ?_)
    · have k := k.1 (ob_c_eq.mp cc)
      refine ob_iinc (ls' := [.ref 45, .int x1, .int x2, .int (x3 + (1 : Int32)), .long (σ.2 49 (((x2 * (256 : Int32)) + x3)).toNatClampNeg), .null]) (v := 1) d_X1_tryPerson_56 rfl ci_1 (Nat.le_of_ble_eq_true rfl) rfl ?_
      refine ob_goto (tgt := 15) d_X1_tryPerson_59 rfl ?_
      refine ob_drop 4 (ls' := [.ref 45, .int x1, .int x2, .int (x3 + (1 : Int32)), .null, .null]) rfl ?_
      exact k
    · have k := k.2 (mt ob_c_eq.mpr cc)
      refine ob_aload_n d_X1_tryPerson_46 rfl ?_
      refine ob_iload_n d_X1_tryPerson_47 rfl ?_
      refine ob_iconst (v := 1) d_X1_tryPerson_48 ci_1 ?_
      refine ob_iadd d_X1_tryPerson_49 ?_
      refine ob_iload_n d_X1_tryPerson_50 rfl ?_
      refine ob_lload d_X1_tryPerson_51 rfl ?_
      refine ob_callV [.int (x2 + (1 : Int32)), .int x3, .long (σ.2 49 (((x2 * (256 : Int32)) + x3)).toNatClampNeg)] (z := oX1_tryEnough) (st := []) d_X1_tryPerson_53 lk_X1_135 mv_X1_tryEnough rfl sh_45 cl_1 rfl (Nat.le_of_ble_eq_true rfl) rfl k (ob_kV fun σ1 k => ?_)
      refine ob_iinc (ls' := [.ref 45, .int x1, .int x2, .int (x3 + (1 : Int32)), .long (σ.2 49 (((x2 * (256 : Int32)) + x3)).toNatClampNeg), .null]) (v := 1) d_X1_tryPerson_56 rfl ci_1 (Nat.le_of_ble_eq_true rfl) rfl ?_
      refine ob_goto (tgt := 15) d_X1_tryPerson_59 rfl ?_
      refine ob_drop 4 (ls' := [.ref 45, .int x1, .int x2, .int (x3 + (1 : Int32)), .null, .null]) rfl ?_
      exact k
theorem d_X1_leftTo_0 : decode oX1_leftTo.2.1 0 = .ok (.aload_n 0, 1) := by decide +kernel
theorem d_X1_leftTo_1 : decode oX1_leftTo.2.1 1 = .ok (.iload_n 1, 1) := by decide +kernel
theorem d_X1_leftTo_2 : decode oX1_leftTo.2.1 2 = .ok (.invokevirtual 97, 3) := by decide +kernel
theorem d_X1_leftTo_5 : decode oX1_leftTo.2.1 5 = .ok (.istore_n 2, 1) := by decide +kernel
theorem d_X1_leftTo_6 : decode oX1_leftTo.2.1 6 = .ok (.aload_n 0, 1) := by decide +kernel
theorem d_X1_leftTo_7 : decode oX1_leftTo.2.1 7 = .ok (.iload_n 2, 1) := by decide +kernel
theorem d_X1_leftTo_8 : decode oX1_leftTo.2.1 8 = .ok (.invokevirtual 69, 3) := by decide +kernel
theorem d_X1_leftTo_11 : decode oX1_leftTo.2.1 11 = .ok (.ifCond .eq 7, 3) := by decide +kernel
theorem d_X1_leftTo_14 : decode oX1_leftTo.2.1 14 = .ok (.iload_n 2, 1) := by decide +kernel
theorem d_X1_leftTo_15 : decode oX1_leftTo.2.1 15 = .ok (.goto 10, 3) := by decide +kernel
theorem d_X1_leftTo_18 : decode oX1_leftTo.2.1 18 = .ok (.aload_n 0, 1) := by decide +kernel
theorem d_X1_leftTo_19 : decode oX1_leftTo.2.1 19 = .ok (.getfield 101, 3) := by decide +kernel
theorem d_X1_leftTo_22 : decode oX1_leftTo.2.1 22 = .ok (.invokestatic 104, 3) := by decide +kernel
theorem d_X1_leftTo_25 : decode oX1_leftTo.2.1 25 = .ok (.ireturn, 1) := by decide +kernel
theorem b_X1_leftTo_0 {E : ob_E} {σ : ob_Mem} {Q : Int32 → ob_Mem → Prop} {x1 : Int32} (k : ob_RM shp E oX6_userOf [.ref 17, .int x1] σ (ob_qI fun v2 σ1 => ob_RM shp E oX6_lives [.ref 17, .int v2] σ1 (ob_qI fun v4 σ3 => ((v4 = 0 → ob_RM shp E oJ6_numberOfTrailingZeros_0f7a4 [.int (σ3.1 17 6)] σ3 (ob_qI fun v6 σ5 => Q v6 σ5)) ∧ (¬ v4 = 0 → Q v2 σ3))))) : ob_RT shp E oX1_leftTo 0 [.ref 17, .int x1, .null] [] σ (ob_qI Q) := by
  refine ob_aload_n d_X1_leftTo_0 rfl ?_
  refine ob_iload_n d_X1_leftTo_1 rfl ?_
  refine ob_callV [.int x1] (z := oX6_userOf) (st := []) d_X1_leftTo_2 lk_X1_97 mv_X6_userOf rfl sh_17 cl_6 rfl (Nat.le_of_ble_eq_true rfl) rfl k (ob_kI fun v2 σ1 k => ?_)
  refine ob_istore_n (ls' := [.ref 17, .int x1, .int v2]) d_X1_leftTo_5 (Nat.le_of_ble_eq_true rfl) rfl ?_
  refine ob_aload_n d_X1_leftTo_6 rfl ?_
  refine ob_iload_n d_X1_leftTo_7 rfl ?_
  refine ob_callV [.int v2] (z := oX6_lives) (st := []) d_X1_leftTo_8 lk_X1_69 mv_X6_lives rfl sh_17 cl_6 rfl (Nat.le_of_ble_eq_true rfl) rfl k (ob_kI fun v4 σ3 k => ?_)
  refine ob_if_eq (tgt := 18) d_X1_leftTo_11 rfl (fun cc => ?_) (fun cc => ?_)
  · have k := k.1 cc
    refine ob_aload_n d_X1_leftTo_18 rfl ?_
    refine ob_getI d_X1_leftTo_19 fl_X1_101 sh_17 rfl (by decide) ?_
    refine ob_callS [.int (σ3.1 17 6)] (z := oJ6_numberOfTrailingZeros_0f7a4) (st := []) d_X1_leftTo_22 lk_X1_104 ms_J6_numberOfTrailingZeros_0f7a4 rfl (Nat.le_of_ble_eq_true rfl) rfl k (ob_kI fun v6 σ5 k => ?_)
    exact ob_iret d_X1_leftTo_25 rfl ⟨_, rfl, k⟩
  · have k := k.2 cc
    refine ob_iload_n d_X1_leftTo_14 rfl ?_
    refine ob_goto (tgt := 25) d_X1_leftTo_15 rfl ?_
    exact ob_iret d_X1_leftTo_25 rfl ⟨_, rfl, k⟩
theorem d_X1_rankOf_0 : decode oX1_rankOf.2.1 0 = .ok (.aload_n 0, 1) := by decide +kernel
theorem d_X1_rankOf_1 : decode oX1_rankOf.2.1 1 = .ok (.iload_n 1, 1) := by decide +kernel
theorem d_X1_rankOf_2 : decode oX1_rankOf.2.1 2 = .ok (.invokevirtual 97, 3) := by decide +kernel
theorem d_X1_rankOf_5 : decode oX1_rankOf.2.1 5 = .ok (.iload_n 2, 1) := by decide +kernel
theorem d_X1_rankOf_6 : decode oX1_rankOf.2.1 6 = .ok (.if_icmp .ne 7, 3) := by decide +kernel
theorem d_X1_rankOf_9 : decode oX1_rankOf.2.1 9 = .ok (.lconst 0, 1) := by decide +kernel
theorem d_X1_rankOf_10 : decode oX1_rankOf.2.1 10 = .ok (.goto 13, 3) := by decide +kernel
theorem d_X1_rankOf_13 : decode oX1_rankOf.2.1 13 = .ok (.aload_n 0, 1) := by decide +kernel
theorem d_X1_rankOf_14 : decode oX1_rankOf.2.1 14 = .ok (.getfield 39, 3) := by decide +kernel
theorem d_X1_rankOf_17 : decode oX1_rankOf.2.1 17 = .ok (.getfield 109, 3) := by decide +kernel
theorem d_X1_rankOf_20 : decode oX1_rankOf.2.1 20 = .ok (.iload_n 1, 1) := by decide +kernel
theorem d_X1_rankOf_21 : decode oX1_rankOf.2.1 21 = .ok (.iaload, 1) := by decide +kernel
theorem d_X1_rankOf_22 : decode oX1_rankOf.2.1 22 = .ok (.i2l, 1) := by decide +kernel
theorem d_X1_rankOf_23 : decode oX1_rankOf.2.1 23 = .ok (.lstore_n 3, 1) := by decide +kernel
theorem d_X1_rankOf_24 : decode oX1_rankOf.2.1 24 = .ok (.lload_n 3, 1) := by decide +kernel
theorem d_X1_rankOf_25 : decode oX1_rankOf.2.1 25 = .ok (.ldc2_w 90, 3) := by decide +kernel
theorem d_X1_rankOf_28 : decode oX1_rankOf.2.1 28 = .ok (.lmul, 1) := by decide +kernel
theorem d_X1_rankOf_29 : decode oX1_rankOf.2.1 29 = .ok (.iload_n 2, 1) := by decide +kernel
theorem d_X1_rankOf_30 : decode oX1_rankOf.2.1 30 = .ok (.i2l, 1) := by decide +kernel
theorem d_X1_rankOf_31 : decode oX1_rankOf.2.1 31 = .ok (.getstatic 92, 3) := by decide +kernel
theorem d_X1_rankOf_34 : decode oX1_rankOf.2.1 34 = .ok (.iload_n 1, 1) := by decide +kernel
theorem d_X1_rankOf_35 : decode oX1_rankOf.2.1 35 = .ok (.iaload, 1) := by decide +kernel
theorem d_X1_rankOf_36 : decode oX1_rankOf.2.1 36 = .ok (.i2l, 1) := by decide +kernel
theorem d_X1_rankOf_37 : decode oX1_rankOf.2.1 37 = .ok (.lmul, 1) := by decide +kernel
theorem d_X1_rankOf_38 : decode oX1_rankOf.2.1 38 = .ok (.ladd, 1) := by decide +kernel
theorem d_X1_rankOf_39 : decode oX1_rankOf.2.1 39 = .ok (.lreturn, 1) := by decide +kernel
theorem b_X1_rankOf_0 {E : ob_E} {σ : ob_Mem} {Q : Int64 → ob_Mem → Prop} {x1 x2 : Int32} (k : ob_RM shp E oX6_userOf [.ref 17, .int x1] σ (ob_qI fun v2 σ1 => ((¬ v2 = x2 → (vp_in x1 8 ∧ ob_RT shp E oX1_rankOf 23 [.ref 17, .int x1, .int x2, .null, .null] [.long ((σ1.1 15 (x1).toNatClampNeg)).toInt64] σ1 (ob_qL Q))) ∧ (v2 = x2 → ob_RT shp E oX1_rankOf 23 [.ref 17, .int x1, .int x2, .null, .null] [.long (0 : Int64)] σ1 (ob_qL Q))))) : ob_RT shp E oX1_rankOf 0 [.ref 17, .int x1, .int x2, .null, .null] [] σ (ob_qL Q) := by
  refine ob_aload_n d_X1_rankOf_0 rfl ?_
  refine ob_iload_n d_X1_rankOf_1 rfl ?_
  refine ob_callV [.int x1] (z := oX6_userOf) (st := []) d_X1_rankOf_2 lk_X1_97 mv_X6_userOf rfl sh_17 cl_6 rfl (Nat.le_of_ble_eq_true rfl) rfl k (ob_kI fun v2 σ1 k => ?_)
  refine ob_iload_n d_X1_rankOf_5 rfl ?_
  refine ob_icmp_ne (tgt := 13) d_X1_rankOf_6 rfl (fun cc => ?_) (fun cc => ?_)
  · have k := k.1 cc
    refine ob_aload_n d_X1_rankOf_13 rfl ?_
    refine ob_getR d_X1_rankOf_14 fl_X1_39 sh_17 rfl rfl ?_
    refine ob_getR d_X1_rankOf_17 fl_X1_109 sh_10 rfl rfl ?_
    refine ob_iload_n d_X1_rankOf_20 rfl ?_
    obtain ⟨hin, k⟩ := k
    refine ob_iald d_X1_rankOf_21 sh_15 hin ?_
    refine ob_i2l d_X1_rankOf_22 ?_
    exact k
  · have k := k.2 cc
    refine ob_lconst (v := 0) d_X1_rankOf_9 rfl ?_
    refine ob_goto (tgt := 23) d_X1_rankOf_10 rfl ?_
    exact k
theorem b_X1_rankOf_23 {E : ob_E} {σ : ob_Mem} {Q : Int64 → ob_Mem → Prop} {x1 x2 : Int32} {s0 : Int64} (k : (vp_in x1 8 ∧ Q ((s0 * (1679616 : Int64)) + ((x2).toInt64 * ((ob_fig (x1).toNatClampNeg)).toInt64)) σ)) : ob_RT shp E oX1_rankOf 23 [.ref 17, .int x1, .int x2, .null, .null] [.long s0] σ (ob_qL Q) := by
  refine ob_lstore_n (ls' := [.ref 17, .int x1, .int x2, .long s0, .null]) d_X1_rankOf_23 (Nat.le_of_ble_eq_true rfl) rfl ?_
  refine ob_lload_n d_X1_rankOf_24 rfl ?_
  refine ob_ldc2 (v := 1679616) d_X1_rankOf_25 k_X1_90 ?_
  refine ob_lmul d_X1_rankOf_28 ?_
  refine ob_iload_n d_X1_rankOf_29 rfl ?_
  refine ob_i2l d_X1_rankOf_30 ?_
  refine ob_figget d_X1_rankOf_31 sl_X1_92 ?_
  refine ob_iload_n d_X1_rankOf_34 rfl ?_
  obtain ⟨hin, k⟩ := k
  refine ob_figld d_X1_rankOf_35 hin ?_
  refine ob_i2l d_X1_rankOf_36 ?_
  refine ob_lmul d_X1_rankOf_37 ?_
  refine ob_ladd d_X1_rankOf_38 ?_
  exact ob_lret d_X1_rankOf_39 rfl ⟨_, rfl, k⟩
theorem d_X1_isJustEnough_0 : decode oX1_isJustEnough.2.1 0 = .ok (.aload_n 0, 1) := by decide +kernel
theorem d_X1_isJustEnough_1 : decode oX1_isJustEnough.2.1 1 = .ok (.getfield 11, 3) := by decide +kernel
theorem d_X1_isJustEnough_4 : decode oX1_isJustEnough.2.1 4 = .ok (.iload_n 1, 1) := by decide +kernel
theorem d_X1_isJustEnough_5 : decode oX1_isJustEnough.2.1 5 = .ok (.iaload, 1) := by decide +kernel
theorem d_X1_isJustEnough_6 : decode oX1_isJustEnough.2.1 6 = .ok (.iload_n 2, 1) := by decide +kernel
theorem d_X1_isJustEnough_7 : decode oX1_isJustEnough.2.1 7 = .ok (.if_icmp .ge 5, 3) := by decide +kernel
theorem d_X1_isJustEnough_10 : decode oX1_isJustEnough.2.1 10 = .ok (.iconst 0, 1) := by decide +kernel
theorem d_X1_isJustEnough_11 : decode oX1_isJustEnough.2.1 11 = .ok (.ireturn, 1) := by decide +kernel
theorem d_X1_isJustEnough_12 : decode oX1_isJustEnough.2.1 12 = .ok (.iconst 0, 1) := by decide +kernel
theorem d_X1_isJustEnough_13 : decode oX1_isJustEnough.2.1 13 = .ok (.istore_n 3, 1) := by decide +kernel
theorem d_X1_isJustEnough_14 : decode oX1_isJustEnough.2.1 14 = .ok (.iload_n 3, 1) := by decide +kernel
theorem d_X1_isJustEnough_15 : decode oX1_isJustEnough.2.1 15 = .ok (.bipush 8, 2) := by decide +kernel
theorem d_X1_isJustEnough_17 : decode oX1_isJustEnough.2.1 17 = .ok (.if_icmp .ge 36, 3) := by decide +kernel
theorem d_X1_isJustEnough_20 : decode oX1_isJustEnough.2.1 20 = .ok (.iload_n 1, 1) := by decide +kernel
theorem d_X1_isJustEnough_21 : decode oX1_isJustEnough.2.1 21 = .ok (.iload_n 3, 1) := by decide +kernel
theorem d_X1_isJustEnough_22 : decode oX1_isJustEnough.2.1 22 = .ok (.ishr, 1) := by decide +kernel
theorem d_X1_isJustEnough_23 : decode oX1_isJustEnough.2.1 23 = .ok (.iconst 1, 1) := by decide +kernel
theorem d_X1_isJustEnough_24 : decode oX1_isJustEnough.2.1 24 = .ok (.iand, 1) := by decide +kernel
theorem d_X1_isJustEnough_25 : decode oX1_isJustEnough.2.1 25 = .ok (.iconst 1, 1) := by decide +kernel
theorem d_X1_isJustEnough_26 : decode oX1_isJustEnough.2.1 26 = .ok (.if_icmp .ne 21, 3) := by decide +kernel
theorem d_X1_isJustEnough_29 : decode oX1_isJustEnough.2.1 29 = .ok (.aload_n 0, 1) := by decide +kernel
theorem d_X1_isJustEnough_30 : decode oX1_isJustEnough.2.1 30 = .ok (.getfield 11, 3) := by decide +kernel
theorem d_X1_isJustEnough_33 : decode oX1_isJustEnough.2.1 33 = .ok (.iload_n 1, 1) := by decide +kernel
theorem d_X1_isJustEnough_34 : decode oX1_isJustEnough.2.1 34 = .ok (.iconst 1, 1) := by decide +kernel
theorem d_X1_isJustEnough_35 : decode oX1_isJustEnough.2.1 35 = .ok (.iload_n 3, 1) := by decide +kernel
theorem d_X1_isJustEnough_36 : decode oX1_isJustEnough.2.1 36 = .ok (.ishl, 1) := by decide +kernel
theorem d_X1_isJustEnough_37 : decode oX1_isJustEnough.2.1 37 = .ok (.iconst (-1), 1) := by decide +kernel
theorem d_X1_isJustEnough_38 : decode oX1_isJustEnough.2.1 38 = .ok (.ixor, 1) := by decide +kernel
theorem d_X1_isJustEnough_39 : decode oX1_isJustEnough.2.1 39 = .ok (.iand, 1) := by decide +kernel
theorem d_X1_isJustEnough_40 : decode oX1_isJustEnough.2.1 40 = .ok (.iaload, 1) := by decide +kernel
theorem d_X1_isJustEnough_41 : decode oX1_isJustEnough.2.1 41 = .ok (.iload_n 2, 1) := by decide +kernel
theorem d_X1_isJustEnough_42 : decode oX1_isJustEnough.2.1 42 = .ok (.if_icmp .lt 5, 3) := by decide +kernel
theorem d_X1_isJustEnough_45 : decode oX1_isJustEnough.2.1 45 = .ok (.iconst 0, 1) := by decide +kernel
theorem d_X1_isJustEnough_46 : decode oX1_isJustEnough.2.1 46 = .ok (.ireturn, 1) := by decide +kernel
theorem d_X1_isJustEnough_47 : decode oX1_isJustEnough.2.1 47 = .ok (.iinc 3 1, 3) := by decide +kernel
theorem d_X1_isJustEnough_50 : decode oX1_isJustEnough.2.1 50 = .ok (.goto (-36), 3) := by decide +kernel
theorem d_X1_isJustEnough_53 : decode oX1_isJustEnough.2.1 53 = .ok (.iconst 1, 1) := by decide +kernel
theorem d_X1_isJustEnough_54 : decode oX1_isJustEnough.2.1 54 = .ok (.ireturn, 1) := by decide +kernel
theorem b_X1_isJustEnough_0 {E : ob_E} {σ : ob_Mem} {Q : Int32 → ob_Mem → Prop} {x1 x2 : Int32} (k : (vp_in x1 256 ∧ ((x2 ≤ (σ.1 46 (x1).toNatClampNeg) → ob_RT shp E oX1_isJustEnough 14 [.ref 45, .int x1, .int x2, .int (0 : Int32)] [] σ (ob_qI Q)) ∧ (¬ x2 ≤ (σ.1 46 (x1).toNatClampNeg) → Q (0 : Int32) σ)))) : ob_RT shp E oX1_isJustEnough 0 [.ref 45, .int x1, .int x2, .null] [] σ (ob_qI Q) := by
  refine ob_aload_n d_X1_isJustEnough_0 rfl ?_
  refine ob_getR d_X1_isJustEnough_1 fl_X1_11 sh_45 rfl rfl ?_
  refine ob_iload_n d_X1_isJustEnough_4 rfl ?_
  obtain ⟨hin, k⟩ := k
  refine ob_iald d_X1_isJustEnough_5 sh_46 hin ?_
  refine ob_iload_n d_X1_isJustEnough_6 rfl ?_
  refine ob_icmp_ge (tgt := 12) d_X1_isJustEnough_7 rfl (fun cc => ?_) (fun cc => ?_)
  · have k := k.1 cc
    refine ob_iconst (v := 0) d_X1_isJustEnough_12 ci_0 ?_
    refine ob_istore_n (ls' := [.ref 45, .int x1, .int x2, .int (0 : Int32)]) d_X1_isJustEnough_13 (Nat.le_of_ble_eq_true rfl) rfl ?_
    exact k
  · have k := k.2 cc
    refine ob_iconst (v := 0) d_X1_isJustEnough_10 ci_0 ?_
    exact ob_zret d_X1_isJustEnough_11 rfl rfl ⟨_, rfl, k⟩
theorem b_X1_isJustEnough_14 {E : ob_E} {σ : ob_Mem} {Q : Int32 → ob_Mem → Prop} {x1 x2 x3 : Int32} (k : (((8 : Int32) ≤ x3 → Q (1 : Int32) σ) ∧ (¬ (8 : Int32) ≤ x3 → ((¬ ((x1 >>> (x3 &&& 31)) &&& (1 : Int32)) = (1 : Int32) → ob_RT shp E oX1_isJustEnough 14 [.ref 45, .int x1, .int x2, .int (x3 + (1 : Int32))] [] σ (ob_qI Q)) ∧ (((x1 >>> (x3 &&& 31)) &&& (1 : Int32)) = (1 : Int32) → (vp_in (x1 &&& (((1 : Int32) <<< (x3 &&& 31)) ^^^ (-1 : Int32))) 256 ∧ (((σ.1 46 ((x1 &&& (((1 : Int32) <<< (x3 &&& 31)) ^^^ (-1 : Int32)))).toNatClampNeg) < x2 → ob_RT shp E oX1_isJustEnough 14 [.ref 45, .int x1, .int x2, .int (x3 + (1 : Int32))] [] σ (ob_qI Q)) ∧ (¬ (σ.1 46 ((x1 &&& (((1 : Int32) <<< (x3 &&& 31)) ^^^ (-1 : Int32)))).toNatClampNeg) < x2 → Q (0 : Int32) σ)))))))) : ob_RT shp E oX1_isJustEnough 14 [.ref 45, .int x1, .int x2, .int x3] [] σ (ob_qI Q) := by
  refine ob_iload_n d_X1_isJustEnough_14 rfl ?_
  refine ob_bipush (v := 8) d_X1_isJustEnough_15 cb_8 ?_
  refine ob_icmp_ge (tgt := 53) d_X1_isJustEnough_17 rfl (fun cc => ?_) (fun cc => ?_)
  · have k := k.1 cc
    refine ob_iconst (v := 1) d_X1_isJustEnough_53 ci_1 ?_
    exact ob_zret d_X1_isJustEnough_54 rfl rfl ⟨_, rfl, k⟩
  · have k := k.2 cc
    refine ob_iload_n d_X1_isJustEnough_20 rfl ?_
    refine ob_iload_n d_X1_isJustEnough_21 rfl ?_
    refine ob_ishr d_X1_isJustEnough_22 ?_
    refine ob_iconst (v := 1) d_X1_isJustEnough_23 ci_1 ?_
    refine ob_iand d_X1_isJustEnough_24 ?_
    refine ob_iconst (v := 1) d_X1_isJustEnough_25 ci_1 ?_
    refine ob_icmp_ne (tgt := 47) d_X1_isJustEnough_26 rfl (fun cc => ?_) (fun cc => ?_)
    · have k := k.1 cc
      refine ob_iinc (ls' := [.ref 45, .int x1, .int x2, .int (x3 + (1 : Int32))]) (v := 1) d_X1_isJustEnough_47 rfl ci_1 (Nat.le_of_ble_eq_true rfl) rfl ?_
      refine ob_goto (tgt := 14) d_X1_isJustEnough_50 rfl ?_
      exact k
    · have k := k.2 cc
      refine ob_aload_n d_X1_isJustEnough_29 rfl ?_
      refine ob_getR d_X1_isJustEnough_30 fl_X1_11 sh_45 rfl rfl ?_
      refine ob_iload_n d_X1_isJustEnough_33 rfl ?_
      refine ob_iconst (v := 1) d_X1_isJustEnough_34 ci_1 ?_
      refine ob_iload_n d_X1_isJustEnough_35 rfl ?_
      refine ob_ishl d_X1_isJustEnough_36 ?_
      refine ob_iconst (v := -1) d_X1_isJustEnough_37 ci_m1 ?_
      refine ob_ixor d_X1_isJustEnough_38 ?_
      refine ob_iand d_X1_isJustEnough_39 ?_
      obtain ⟨hin, k⟩ := k
      refine ob_iald d_X1_isJustEnough_40 sh_46 hin ?_
      refine ob_iload_n d_X1_isJustEnough_41 rfl ?_
      refine ob_icmp_lt (tgt := 47) d_X1_isJustEnough_42 rfl (fun cc => ?_) (fun cc => ?_)
      · have k := k.1 cc
        refine ob_iinc (ls' := [.ref 45, .int x1, .int x2, .int (x3 + (1 : Int32))]) (v := 1) d_X1_isJustEnough_47 rfl ci_1 (Nat.le_of_ble_eq_true rfl) rfl ?_
        refine ob_goto (tgt := 14) d_X1_isJustEnough_50 rfl ?_
        exact k
      · have k := k.2 cc
        refine ob_iconst (v := 0) d_X1_isJustEnough_45 ci_0 ?_
        exact ob_zret d_X1_isJustEnough_46 rfl rfl ⟨_, rfl, k⟩
theorem d_X1_tryEnough_0 : decode oX1_tryEnough.2.1 0 = .ok (.iconst 0, 1) := by decide +kernel
theorem d_X1_tryEnough_1 : decode oX1_tryEnough.2.1 1 = .ok (.istore 5, 2) := by decide +kernel
theorem d_X1_tryEnough_3 : decode oX1_tryEnough.2.1 3 = .ok (.iload 5, 2) := by decide +kernel
theorem d_X1_tryEnough_5 : decode oX1_tryEnough.2.1 5 = .ok (.aload_n 0, 1) := by decide +kernel
theorem d_X1_tryEnough_6 : decode oX1_tryEnough.2.1 6 = .ok (.getfield 123, 3) := by decide +kernel
theorem d_X1_tryEnough_9 : decode oX1_tryEnough.2.1 9 = .ok (.if_icmp .ge 63, 3) := by decide +kernel
theorem d_X1_tryEnough_12 : decode oX1_tryEnough.2.1 12 = .ok (.aload_n 0, 1) := by decide +kernel
theorem d_X1_tryEnough_13 : decode oX1_tryEnough.2.1 13 = .ok (.getfield 21, 3) := by decide +kernel
theorem d_X1_tryEnough_16 : decode oX1_tryEnough.2.1 16 = .ok (.iload 5, 2) := by decide +kernel
theorem d_X1_tryEnough_18 : decode oX1_tryEnough.2.1 18 = .ok (.iaload, 1) := by decide +kernel
theorem d_X1_tryEnough_19 : decode oX1_tryEnough.2.1 19 = .ok (.istore 6, 2) := by decide +kernel
theorem d_X1_tryEnough_21 : decode oX1_tryEnough.2.1 21 = .ok (.iload 6, 2) := by decide +kernel
theorem d_X1_tryEnough_23 : decode oX1_tryEnough.2.1 23 = .ok (.iload_n 2, 1) := by decide +kernel
theorem d_X1_tryEnough_24 : decode oX1_tryEnough.2.1 24 = .ok (.iand, 1) := by decide +kernel
theorem d_X1_tryEnough_25 : decode oX1_tryEnough.2.1 25 = .ok (.ifCond .ne 41, 3) := by decide +kernel
theorem d_X1_tryEnough_28 : decode oX1_tryEnough.2.1 28 = .ok (.iload_n 1, 1) := by decide +kernel
theorem d_X1_tryEnough_29 : decode oX1_tryEnough.2.1 29 = .ok (.sipush 256, 3) := by decide +kernel
theorem d_X1_tryEnough_32 : decode oX1_tryEnough.2.1 32 = .ok (.imul, 1) := by decide +kernel
theorem d_X1_tryEnough_33 : decode oX1_tryEnough.2.1 33 = .ok (.iload 6, 2) := by decide +kernel
theorem d_X1_tryEnough_35 : decode oX1_tryEnough.2.1 35 = .ok (.iload_n 2, 1) := by decide +kernel
theorem d_X1_tryEnough_36 : decode oX1_tryEnough.2.1 36 = .ok (.ior, 1) := by decide +kernel
theorem d_X1_tryEnough_37 : decode oX1_tryEnough.2.1 37 = .ok (.iadd, 1) := by decide +kernel
theorem d_X1_tryEnough_38 : decode oX1_tryEnough.2.1 38 = .ok (.istore 7, 2) := by decide +kernel
theorem d_X1_tryEnough_40 : decode oX1_tryEnough.2.1 40 = .ok (.aload_n 0, 1) := by decide +kernel
theorem d_X1_tryEnough_41 : decode oX1_tryEnough.2.1 41 = .ok (.getfield 24, 3) := by decide +kernel
theorem d_X1_tryEnough_44 : decode oX1_tryEnough.2.1 44 = .ok (.iload 7, 2) := by decide +kernel
theorem d_X1_tryEnough_46 : decode oX1_tryEnough.2.1 46 = .ok (.aload_n 0, 1) := by decide +kernel
theorem d_X1_tryEnough_47 : decode oX1_tryEnough.2.1 47 = .ok (.getfield 24, 3) := by decide +kernel
theorem d_X1_tryEnough_50 : decode oX1_tryEnough.2.1 50 = .ok (.iload 7, 2) := by decide +kernel
theorem d_X1_tryEnough_52 : decode oX1_tryEnough.2.1 52 = .ok (.laload, 1) := by decide +kernel
theorem d_X1_tryEnough_53 : decode oX1_tryEnough.2.1 53 = .ok (.lload_n 3, 1) := by decide +kernel
theorem d_X1_tryEnough_54 : decode oX1_tryEnough.2.1 54 = .ok (.aload_n 0, 1) := by decide +kernel
theorem d_X1_tryEnough_55 : decode oX1_tryEnough.2.1 55 = .ok (.getfield 17, 3) := by decide +kernel
theorem d_X1_tryEnough_58 : decode oX1_tryEnough.2.1 58 = .ok (.iload 6, 2) := by decide +kernel
theorem d_X1_tryEnough_60 : decode oX1_tryEnough.2.1 60 = .ok (.laload, 1) := by decide +kernel
theorem d_X1_tryEnough_61 : decode oX1_tryEnough.2.1 61 = .ok (.ladd, 1) := by decide +kernel
theorem d_X1_tryEnough_62 : decode oX1_tryEnough.2.1 62 = .ok (.invokestatic 139, 3) := by decide +kernel
theorem d_X1_tryEnough_65 : decode oX1_tryEnough.2.1 65 = .ok (.lastore, 1) := by decide +kernel
theorem d_X1_tryEnough_66 : decode oX1_tryEnough.2.1 66 = .ok (.iinc 5 1, 3) := by decide +kernel
theorem d_X1_tryEnough_69 : decode oX1_tryEnough.2.1 69 = .ok (.goto (-66), 3) := by decide +kernel
theorem d_X1_tryEnough_72 : decode oX1_tryEnough.2.1 72 = .ok (.return_, 1) := by decide +kernel
theorem b_X1_tryEnough_0 {E : ob_E} {σ : ob_Mem} {Q : ob_Mem → Prop} {x1 x2 : Int32} {x3 : Int64} (k : ob_RT shp E oX1_tryEnough 3 [.ref 45, .int x1, .int x2, .long x3, .null, .int (0 : Int32), .null, .null] [] σ (ob_qV Q)) : ob_RT shp E oX1_tryEnough 0 [.ref 45, .int x1, .int x2, .long x3, .null, .null, .null, .null] [] σ (ob_qV Q) := by
  refine ob_iconst (v := 0) d_X1_tryEnough_0 ci_0 ?_
  refine ob_istore (ls' := [.ref 45, .int x1, .int x2, .long x3, .null, .int (0 : Int32), .null, .null]) d_X1_tryEnough_1 (Nat.le_of_ble_eq_true rfl) rfl ?_
  exact k
theorem b_X1_tryEnough_3 {E : ob_E} {σ : ob_Mem} {Q : ob_Mem → Prop} {x1 x2 x5 : Int32} {x3 : Int64} (k : (((σ.1 45 5) ≤ x5 → Q σ) ∧ (¬ (σ.1 45 5) ≤ x5 → (vp_in x5 256 ∧ ((¬ ((σ.1 48 (x5).toNatClampNeg) &&& x2) = 0 → ob_RT shp E oX1_tryEnough 3 [.ref 45, .int x1, .int x2, .long x3, .null, .int (x5 + (1 : Int32)), .null, .null] [] σ (ob_qV Q)) ∧ (((σ.1 48 (x5).toNatClampNeg) &&& x2) = 0 → (∀ w1 : Int32, w1 = ((x1 * (256 : Int32)) + ((σ.1 48 (x5).toNatClampNeg) ||| x2)) → (vp_in w1 1792 ∧ (vp_in (σ.1 48 (x5).toNatClampNeg) 256 ∧ (vp_in w1 1792 ∧ (∀ σ2, σ2 = (ob_wL σ 49 (w1).toNatClampNeg (ob_minL (σ.2 49 (w1).toNatClampNeg) (x3 + (σ.2 47 ((σ.1 48 (x5).toNatClampNeg)).toNatClampNeg)))) → ob_RT shp E oX1_tryEnough 3 [.ref 45, .int x1, .int x2, .long x3, .null, .int (x5 + (1 : Int32)), .null, .null] [] σ2 (ob_qV Q)))))))))))) : ob_RT shp E oX1_tryEnough 3 [.ref 45, .int x1, .int x2, .long x3, .null, .int x5, .null, .null] [] σ (ob_qV Q) := by
  refine ob_iload d_X1_tryEnough_3 rfl ?_
  refine ob_aload_n d_X1_tryEnough_5 rfl ?_
  refine ob_getI d_X1_tryEnough_6 fl_X1_123 sh_45 rfl (by decide) ?_
  refine ob_icmp_ge (tgt := 72) d_X1_tryEnough_9 rfl (fun cc => ?_) (fun cc => ?_)
  · have k := k.1 cc
    exact ob_vret d_X1_tryEnough_72 rfl ⟨rfl, k⟩
  · have k := k.2 cc
    refine ob_aload_n d_X1_tryEnough_12 rfl ?_
    refine ob_getR d_X1_tryEnough_13 fl_X1_21 sh_45 rfl rfl ?_
    refine ob_iload d_X1_tryEnough_16 rfl ?_
    obtain ⟨hin, k⟩ := k
    refine ob_iald d_X1_tryEnough_18 sh_48 hin ?_
    refine ob_istore (ls' := [.ref 45, .int x1, .int x2, .long x3, .null, .int x5, .int (σ.1 48 (x5).toNatClampNeg), .null]) d_X1_tryEnough_19 (Nat.le_of_ble_eq_true rfl) rfl ?_
    refine ob_iload d_X1_tryEnough_21 rfl ?_
    refine ob_iload_n d_X1_tryEnough_23 rfl ?_
    refine ob_iand d_X1_tryEnough_24 ?_
    refine ob_if_ne (tgt := 66) d_X1_tryEnough_25 rfl (fun cc => ?_) (fun cc => ?_)
    · have k := k.1 cc
      refine ob_iinc (ls' := [.ref 45, .int x1, .int x2, .long x3, .null, .int (x5 + (1 : Int32)), .int (σ.1 48 (x5).toNatClampNeg), .null]) (v := 1) d_X1_tryEnough_66 rfl ci_1 (Nat.le_of_ble_eq_true rfl) rfl ?_
      refine ob_goto (tgt := 3) d_X1_tryEnough_69 rfl ?_
      refine ob_drop 6 (ls' := [.ref 45, .int x1, .int x2, .long x3, .null, .int (x5 + (1 : Int32)), .null, .null]) rfl ?_
      exact k
    · have k := k.2 cc
      refine ob_iload_n d_X1_tryEnough_28 rfl ?_
      refine ob_sipush (v := 256) d_X1_tryEnough_29 cs_256 ?_
      refine ob_imul d_X1_tryEnough_32 ?_
      refine ob_iload d_X1_tryEnough_33 rfl ?_
      refine ob_iload_n d_X1_tryEnough_35 rfl ?_
      refine ob_ior d_X1_tryEnough_36 ?_
      refine ob_iadd d_X1_tryEnough_37 ?_
      refine ob_nmI (fun w1 hw1 => ?_)
      have k := k w1 hw1
      refine ob_istore (ls' := [.ref 45, .int x1, .int x2, .long x3, .null, .int x5, .int (σ.1 48 (x5).toNatClampNeg), .int w1]) d_X1_tryEnough_38 (Nat.le_of_ble_eq_true rfl) rfl ?_
      refine ob_aload_n d_X1_tryEnough_40 rfl ?_
      refine ob_getR d_X1_tryEnough_41 fl_X1_24 sh_45 rfl rfl ?_
      refine ob_iload d_X1_tryEnough_44 rfl ?_
      refine ob_aload_n d_X1_tryEnough_46 rfl ?_
      refine ob_getR d_X1_tryEnough_47 fl_X1_24 sh_45 rfl rfl ?_
      refine ob_iload d_X1_tryEnough_50 rfl ?_
      obtain ⟨hin, k⟩ := k
      refine ob_lald d_X1_tryEnough_52 sh_49 hin ?_
      refine ob_lload_n d_X1_tryEnough_53 rfl ?_
      refine ob_aload_n d_X1_tryEnough_54 rfl ?_
      refine ob_getR d_X1_tryEnough_55 fl_X1_17 sh_45 rfl rfl ?_
      refine ob_iload d_X1_tryEnough_58 rfl ?_
      obtain ⟨hin, k⟩ := k
      refine ob_lald d_X1_tryEnough_60 sh_47 hin ?_
      refine ob_ladd d_X1_tryEnough_61 ?_
      refine ob_mminL (st := [.int w1, .ref 49]) d_X1_tryEnough_62 ml_X1_139 (Nat.le_of_ble_eq_true rfl) (Nat.le_of_ble_eq_true rfl) ?_
      obtain ⟨hin, k⟩ := k
      refine ob_last d_X1_tryEnough_65 sh_49 hin ?_
      refine ob_nmM (fun σ2 hσ2 => ?_)
      have k := k σ2 hσ2
      refine ob_iinc (ls' := [.ref 45, .int x1, .int x2, .long x3, .null, .int (x5 + (1 : Int32)), .int (σ.1 48 (x5).toNatClampNeg), .int w1]) (v := 1) d_X1_tryEnough_66 rfl ci_1 (Nat.le_of_ble_eq_true rfl) rfl ?_
      refine ob_goto (tgt := 3) d_X1_tryEnough_69 rfl ?_
      refine ob_drop 6 (ls' := [.ref 45, .int x1, .int x2, .long x3, .null, .int (x5 + (1 : Int32)), .null, .int w1]) rfl ?_
      refine ob_drop 7 (ls' := [.ref 45, .int x1, .int x2, .long x3, .null, .int (x5 + (1 : Int32)), .null, .null]) rfl ?_
      exact k
