/-! code of X0: the decode rows and a row for each piece between cut points (printed by wip/whole/mk.py) -/
theorem d_X0_search_0 : decode oX0_search.2.1 0 = .ok (.aload_n 0, 1) := by decide +kernel
theorem d_X0_search_1 : decode oX0_search.2.1 1 = .ok (.iconst (-1), 1) := by decide +kernel
theorem d_X0_search_2 : decode oX0_search.2.1 2 = .ok (.putfield 18, 3) := by decide +kernel
theorem d_X0_search_5 : decode oX0_search.2.1 5 = .ok (.aload_n 0, 1) := by decide +kernel
theorem d_X0_search_6 : decode oX0_search.2.1 6 = .ok (.iconst (-1), 1) := by decide +kernel
theorem d_X0_search_7 : decode oX0_search.2.1 7 = .ok (.putfield 22, 3) := by decide +kernel
theorem d_X0_search_10 : decode oX0_search.2.1 10 = .ok (.iload_n 3, 1) := by decide +kernel
theorem d_X0_search_11 : decode oX0_search.2.1 11 = .ok (.aload_n 1, 1) := by decide +kernel
theorem d_X0_search_12 : decode oX0_search.2.1 12 = .ok (.iload_n 2, 1) := by decide +kernel
theorem d_X0_search_13 : decode oX0_search.2.1 13 = .ok (.iload 4, 2) := by decide +kernel
theorem d_X0_search_15 : decode oX0_search.2.1 15 = .ok (.iconst (-1), 1) := by decide +kernel
theorem d_X0_search_16 : decode oX0_search.2.1 16 = .ok (.invokevirtual 25, 3) := by decide +kernel
theorem d_X0_search_19 : decode oX0_search.2.1 19 = .ok (.isub, 1) := by decide +kernel
theorem d_X0_search_20 : decode oX0_search.2.1 20 = .ok (.istore 5, 2) := by decide +kernel
theorem d_X0_search_22 : decode oX0_search.2.1 22 = .ok (.aload_n 0, 1) := by decide +kernel
theorem d_X0_search_23 : decode oX0_search.2.1 23 = .ok (.aload_n 1, 1) := by decide +kernel
theorem d_X0_search_24 : decode oX0_search.2.1 24 = .ok (.iload_n 2, 1) := by decide +kernel
theorem d_X0_search_25 : decode oX0_search.2.1 25 = .ok (.iload 4, 2) := by decide +kernel
theorem d_X0_search_27 : decode oX0_search.2.1 27 = .ok (.invokevirtual 31, 3) := by decide +kernel
theorem d_X0_search_30 : decode oX0_search.2.1 30 = .ok (.istore 6, 2) := by decide +kernel
theorem d_X0_search_32 : decode oX0_search.2.1 32 = .ok (.iconst 0, 1) := by decide +kernel
theorem d_X0_search_33 : decode oX0_search.2.1 33 = .ok (.istore 7, 2) := by decide +kernel
theorem d_X0_search_35 : decode oX0_search.2.1 35 = .ok (.iload 7, 2) := by decide +kernel
theorem d_X0_search_37 : decode oX0_search.2.1 37 = .ok (.iload 6, 2) := by decide +kernel
theorem d_X0_search_39 : decode oX0_search.2.1 39 = .ok (.if_icmp .gt 73, 3) := by decide +kernel
theorem d_X0_search_42 : decode oX0_search.2.1 42 = .ok (.iload 7, 2) := by decide +kernel
theorem d_X0_search_44 : decode oX0_search.2.1 44 = .ok (.iload 6, 2) := by decide +kernel
theorem d_X0_search_46 : decode oX0_search.2.1 46 = .ok (.iconst (-1), 1) := by decide +kernel
theorem d_X0_search_47 : decode oX0_search.2.1 47 = .ok (.ixor, 1) := by decide +kernel
theorem d_X0_search_48 : decode oX0_search.2.1 48 = .ok (.iand, 1) := by decide +kernel
theorem d_X0_search_49 : decode oX0_search.2.1 49 = .ok (.ifCond .ne 57, 3) := by decide +kernel
theorem d_X0_search_52 : decode oX0_search.2.1 52 = .ok (.aload_n 0, 1) := by decide +kernel
theorem d_X0_search_53 : decode oX0_search.2.1 53 = .ok (.getfield 9, 3) := by decide +kernel
theorem d_X0_search_56 : decode oX0_search.2.1 56 = .ok (.iload 7, 2) := by decide +kernel
theorem d_X0_search_58 : decode oX0_search.2.1 58 = .ok (.invokestatic 35, 3) := by decide +kernel
theorem d_X0_search_61 : decode oX0_search.2.1 61 = .ok (.iload 5, 2) := by decide +kernel
theorem d_X0_search_63 : decode oX0_search.2.1 63 = .ok (.if_icmp .ne 43, 3) := by decide +kernel
theorem d_X0_search_66 : decode oX0_search.2.1 66 = .ok (.aload_n 0, 1) := by decide +kernel
theorem d_X0_search_67 : decode oX0_search.2.1 67 = .ok (.getfield 15, 3) := by decide +kernel
theorem d_X0_search_70 : decode oX0_search.2.1 70 = .ok (.iload 7, 2) := by decide +kernel
theorem d_X0_search_72 : decode oX0_search.2.1 72 = .ok (.invokestatic 35, 3) := by decide +kernel
theorem d_X0_search_75 : decode oX0_search.2.1 75 = .ok (.istore 8, 2) := by decide +kernel
theorem d_X0_search_77 : decode oX0_search.2.1 77 = .ok (.aload_n 0, 1) := by decide +kernel
theorem d_X0_search_78 : decode oX0_search.2.1 78 = .ok (.getfield 18, 3) := by decide +kernel
theorem d_X0_search_81 : decode oX0_search.2.1 81 = .ok (.iconst (-1), 1) := by decide +kernel
theorem d_X0_search_82 : decode oX0_search.2.1 82 = .ok (.if_icmp .eq 12, 3) := by decide +kernel
theorem d_X0_search_85 : decode oX0_search.2.1 85 = .ok (.iload 8, 2) := by decide +kernel
theorem d_X0_search_87 : decode oX0_search.2.1 87 = .ok (.aload_n 0, 1) := by decide +kernel
theorem d_X0_search_88 : decode oX0_search.2.1 88 = .ok (.getfield 18, 3) := by decide +kernel
theorem d_X0_search_91 : decode oX0_search.2.1 91 = .ok (.if_icmp .ge 15, 3) := by decide +kernel
theorem d_X0_search_94 : decode oX0_search.2.1 94 = .ok (.aload_n 0, 1) := by decide +kernel
theorem d_X0_search_95 : decode oX0_search.2.1 95 = .ok (.iload 8, 2) := by decide +kernel
theorem d_X0_search_97 : decode oX0_search.2.1 97 = .ok (.putfield 18, 3) := by decide +kernel
theorem d_X0_search_100 : decode oX0_search.2.1 100 = .ok (.aload_n 0, 1) := by decide +kernel
theorem d_X0_search_101 : decode oX0_search.2.1 101 = .ok (.iload 7, 2) := by decide +kernel
theorem d_X0_search_103 : decode oX0_search.2.1 103 = .ok (.putfield 22, 3) := by decide +kernel
theorem d_X0_search_106 : decode oX0_search.2.1 106 = .ok (.iinc 7 1, 3) := by decide +kernel
theorem d_X0_search_109 : decode oX0_search.2.1 109 = .ok (.goto (-74), 3) := by decide +kernel
theorem d_X0_search_112 : decode oX0_search.2.1 112 = .ok (.return_, 1) := by decide +kernel
theorem b_X0_search_0 {E : ob_E} {σ : ob_Mem} {Q : ob_Mem → Prop} {x2 x3 x4 : Int32} (k : ob_RM shp E oX6_yearsBehind [.ref 17, .int x2, .int x4, .int (-1 : Int32)] (ob_wI (ob_wI σ 39 2 (-1 : Int32)) 39 3 (-1 : Int32)) (ob_qI fun v2 σ1 => ob_RM shp E oX0_freeFor [.ref 39, .ref 17, .int x2, .int x4] σ1 (ob_qI fun v4 σ3 => ob_RT shp E oX0_search 35 [.ref 39, .ref 17, .int x2, .int x3, .int x4, .int (x3 - v2), .int v4, .int (0 : Int32), .null] [] σ3 (ob_qV Q)))) : ob_RT shp E oX0_search 0 [.ref 39, .ref 17, .int x2, .int x3, .int x4, .null, .null, .null, .null] [] σ (ob_qV Q) := by
  refine ob_aload_n d_X0_search_0 rfl ?_
  refine ob_iconst (v := -1) d_X0_search_1 ci_m1 ?_
  refine ob_putI d_X0_search_2 fp_X0_18 sh_39 rfl rfl ?_
  refine ob_aload_n d_X0_search_5 rfl ?_
  refine ob_iconst (v := -1) d_X0_search_6 ci_m1 ?_
  refine ob_putI d_X0_search_7 fp_X0_22 sh_39 rfl rfl ?_
  refine ob_iload_n d_X0_search_10 rfl ?_
  refine ob_aload_n d_X0_search_11 rfl ?_
  refine ob_iload_n d_X0_search_12 rfl ?_
  refine ob_iload d_X0_search_13 rfl ?_
  refine ob_iconst (v := -1) d_X0_search_15 ci_m1 ?_
  refine ob_callV [.int x2, .int x4, .int (-1 : Int32)] (z := oX6_yearsBehind) (st := [.int x3]) d_X0_search_16 lk_X0_25 mv_X6_yearsBehind rfl sh_17 cl_6 rfl (Nat.le_of_ble_eq_true rfl) rfl k (ob_kI fun v2 σ1 k => ?_)
  refine ob_isub d_X0_search_19 ?_
  refine ob_istore (ls' := [.ref 39, .ref 17, .int x2, .int x3, .int x4, .int (x3 - v2), .null, .null, .null]) d_X0_search_20 (Nat.le_of_ble_eq_true rfl) rfl ?_
  refine ob_aload_n d_X0_search_22 rfl ?_
  refine ob_aload_n d_X0_search_23 rfl ?_
  refine ob_iload_n d_X0_search_24 rfl ?_
  refine ob_iload d_X0_search_25 rfl ?_
  refine ob_callV [.ref 17, .int x2, .int x4] (z := oX0_freeFor) (st := []) d_X0_search_27 lk_X0_31 mv_X0_freeFor rfl sh_39 cl_0 rfl (Nat.le_of_ble_eq_true rfl) rfl k (ob_kI fun v4 σ3 k => ?_)
  refine ob_istore (ls' := [.ref 39, .ref 17, .int x2, .int x3, .int x4, .int (x3 - v2), .int v4, .null, .null]) d_X0_search_30 (Nat.le_of_ble_eq_true rfl) rfl ?_
  refine ob_iconst (v := 0) d_X0_search_32 ci_0 ?_
  refine ob_istore (ls' := [.ref 39, .ref 17, .int x2, .int x3, .int x4, .int (x3 - v2), .int v4, .int (0 : Int32), .null]) d_X0_search_33 (Nat.le_of_ble_eq_true rfl) rfl ?_
  exact k
theorem b_X0_search_35 {E : ob_E} {σ : ob_Mem} {Q : ob_Mem → Prop} {x2 x3 x4 x5 x6 x7 : Int32} (k : ((x6 < x7 → Q σ) ∧ (¬ x6 < x7 → ((¬ (x7 &&& (x6 ^^^ (-1 : Int32))) = 0 → ob_RT shp E oX0_search 35 [.ref 39, .ref 17, .int x2, .int x3, .int x4, .int x5, .int x6, .int (x7 + (1 : Int32)), .null] [] σ (ob_qV Q)) ∧ ((x7 &&& (x6 ^^^ (-1 : Int32))) = 0 → ob_RM shp E oX0_totalOf [.ref 40, .int x7] σ (ob_qI fun v2 σ1 => ((¬ v2 = x5 → ob_RT shp E oX0_search 35 [.ref 39, .ref 17, .int x2, .int x3, .int x4, .int x5, .int x6, .int (x7 + (1 : Int32)), .null] [] σ1 (ob_qV Q)) ∧ (v2 = x5 → ob_RM shp E oX0_totalOf [.ref 41, .int x7] σ1 (ob_qI fun v4 σ3 => (((σ3.1 39 2) = (-1 : Int32) → ob_RT shp E oX0_search 35 [.ref 39, .ref 17, .int x2, .int x3, .int x4, .int x5, .int x6, .int (x7 + (1 : Int32)), .null] [] (ob_wI (ob_wI σ3 39 2 v4) 39 3 x7) (ob_qV Q)) ∧ (¬ (σ3.1 39 2) = (-1 : Int32) → (((σ3.1 39 2) ≤ v4 → ob_RT shp E oX0_search 35 [.ref 39, .ref 17, .int x2, .int x3, .int x4, .int x5, .int x6, .int (x7 + (1 : Int32)), .null] [] σ3 (ob_qV Q)) ∧ (¬ (σ3.1 39 2) ≤ v4 → ob_RT shp E oX0_search 35 [.ref 39, .ref 17, .int x2, .int x3, .int x4, .int x5, .int x6, .int (x7 + (1 : Int32)), .null] [] (ob_wI (ob_wI σ3 39 2 v4) 39 3 x7) (ob_qV Q)))))))))))))) : ob_RT shp E oX0_search 35 [.ref 39, .ref 17, .int x2, .int x3, .int x4, .int x5, .int x6, .int x7, .null] [] σ (ob_qV Q) := by
  refine ob_iload d_X0_search_35 rfl ?_
  refine ob_iload d_X0_search_37 rfl ?_
  refine ob_icmp_gt (tgt := 112) d_X0_search_39 rfl (fun cc => ?_) (fun cc => ?_)
  · have k := k.1 cc
    exact ob_vret d_X0_search_112 rfl ⟨rfl, k⟩
  · have k := k.2 cc
    refine ob_iload d_X0_search_42 rfl ?_
    refine ob_iload d_X0_search_44 rfl ?_
    refine ob_iconst (v := -1) d_X0_search_46 ci_m1 ?_
    refine ob_ixor d_X0_search_47 ?_
    refine ob_iand d_X0_search_48 ?_
    refine ob_if_ne (tgt := 106) d_X0_search_49 rfl (fun cc => ?_) (fun cc => ?_)
    · have k := k.1 cc
      refine ob_iinc (ls' := [.ref 39, .ref 17, .int x2, .int x3, .int x4, .int x5, .int x6, .int (x7 + (1 : Int32)), .null]) (v := 1) d_X0_search_106 rfl ci_1 (Nat.le_of_ble_eq_true rfl) rfl ?_
      refine ob_goto (tgt := 35) d_X0_search_109 rfl ?_
      exact k
    · have k := k.2 cc
      refine ob_aload_n d_X0_search_52 rfl ?_
      refine ob_getR d_X0_search_53 fl_X0_9 sh_39 rfl rfl ?_
      refine ob_iload d_X0_search_56 rfl ?_
      refine ob_callS [.ref 40, .int x7] (z := oX0_totalOf) (st := []) d_X0_search_58 lk_X0_35 ms_X0_totalOf rfl (Nat.le_of_ble_eq_true rfl) rfl k (ob_kI fun v2 σ1 k => ?_)
      refine ob_iload d_X0_search_61 rfl ?_
      refine ob_icmp_ne (tgt := 106) d_X0_search_63 rfl (fun cc => ?_) (fun cc => ?_)
      · have k := k.1 cc
        refine ob_iinc (ls' := [.ref 39, .ref 17, .int x2, .int x3, .int x4, .int x5, .int x6, .int (x7 + (1 : Int32)), .null]) (v := 1) d_X0_search_106 rfl ci_1 (Nat.le_of_ble_eq_true rfl) rfl ?_
        refine ob_goto (tgt := 35) d_X0_search_109 rfl ?_
        exact k
      · have k := k.2 cc
        refine ob_aload_n d_X0_search_66 rfl ?_
        refine ob_getR d_X0_search_67 fl_X0_15 sh_39 rfl rfl ?_
        refine ob_iload d_X0_search_70 rfl ?_
        refine ob_callS [.ref 41, .int x7] (z := oX0_totalOf) (st := []) d_X0_search_72 lk_X0_35 ms_X0_totalOf rfl (Nat.le_of_ble_eq_true rfl) rfl k (ob_kI fun v4 σ3 k => ?_)
        refine ob_istore (ls' := [.ref 39, .ref 17, .int x2, .int x3, .int x4, .int x5, .int x6, .int x7, .int v4]) d_X0_search_75 (Nat.le_of_ble_eq_true rfl) rfl ?_
        refine ob_aload_n d_X0_search_77 rfl ?_
        refine ob_getI d_X0_search_78 fl_X0_18 sh_39 rfl (by decide) ?_
        refine ob_iconst (v := -1) d_X0_search_81 ci_m1 ?_
        refine ob_icmp_eq (tgt := 94) d_X0_search_82 rfl (fun cc => ?_) (fun cc => ?_)
        · have k := k.1 cc
          refine ob_aload_n d_X0_search_94 rfl ?_
          refine ob_iload d_X0_search_95 rfl ?_
          refine ob_putI d_X0_search_97 fp_X0_18 sh_39 rfl rfl ?_
          refine ob_aload_n d_X0_search_100 rfl ?_
          refine ob_iload d_X0_search_101 rfl ?_
          refine ob_putI d_X0_search_103 fp_X0_22 sh_39 rfl rfl ?_
          refine ob_iinc (ls' := [.ref 39, .ref 17, .int x2, .int x3, .int x4, .int x5, .int x6, .int (x7 + (1 : Int32)), .int v4]) (v := 1) d_X0_search_106 rfl ci_1 (Nat.le_of_ble_eq_true rfl) rfl ?_
          refine ob_goto (tgt := 35) d_X0_search_109 rfl ?_
          refine ob_drop 8 (ls' := [.ref 39, .ref 17, .int x2, .int x3, .int x4, .int x5, .int x6, .int (x7 + (1 : Int32)), .null]) rfl ?_
          exact k
        · have k := k.2 cc
          refine ob_iload d_X0_search_85 rfl ?_
          refine ob_aload_n d_X0_search_87 rfl ?_
          refine ob_getI d_X0_search_88 fl_X0_18 sh_39 rfl (by decide) ?_
          refine ob_icmp_ge (tgt := 106) d_X0_search_91 rfl (fun cc => ?_) (fun cc => ?_)
          · have k := k.1 cc
            refine ob_iinc (ls' := [.ref 39, .ref 17, .int x2, .int x3, .int x4, .int x5, .int x6, .int (x7 + (1 : Int32)), .int v4]) (v := 1) d_X0_search_106 rfl ci_1 (Nat.le_of_ble_eq_true rfl) rfl ?_
            refine ob_goto (tgt := 35) d_X0_search_109 rfl ?_
            refine ob_drop 8 (ls' := [.ref 39, .ref 17, .int x2, .int x3, .int x4, .int x5, .int x6, .int (x7 + (1 : Int32)), .null]) rfl ?_
            exact k
          · have k := k.2 cc
            refine ob_aload_n d_X0_search_94 rfl ?_
            refine ob_iload d_X0_search_95 rfl ?_
            refine ob_putI d_X0_search_97 fp_X0_18 sh_39 rfl rfl ?_
            refine ob_aload_n d_X0_search_100 rfl ?_
            refine ob_iload d_X0_search_101 rfl ?_
            refine ob_putI d_X0_search_103 fp_X0_22 sh_39 rfl rfl ?_
            refine ob_iinc (ls' := [.ref 39, .ref 17, .int x2, .int x3, .int x4, .int x5, .int x6, .int (x7 + (1 : Int32)), .int v4]) (v := 1) d_X0_search_106 rfl ci_1 (Nat.le_of_ble_eq_true rfl) rfl ?_
            refine ob_goto (tgt := 35) d_X0_search_109 rfl ?_
            refine ob_drop 8 (ls' := [.ref 39, .ref 17, .int x2, .int x3, .int x4, .int x5, .int x6, .int (x7 + (1 : Int32)), .null]) rfl ?_
            exact k
theorem d_X0_freeFor_0 : decode oX0_freeFor.2.1 0 = .ok (.iconst 0, 1) := by decide +kernel
theorem d_X0_freeFor_1 : decode oX0_freeFor.2.1 1 = .ok (.istore 4, 2) := by decide +kernel
theorem d_X0_freeFor_3 : decode oX0_freeFor.2.1 3 = .ok (.iconst 0, 1) := by decide +kernel
theorem d_X0_freeFor_4 : decode oX0_freeFor.2.1 4 = .ok (.istore 5, 2) := by decide +kernel
theorem d_X0_freeFor_6 : decode oX0_freeFor.2.1 6 = .ok (.iload 5, 2) := by decide +kernel
theorem d_X0_freeFor_8 : decode oX0_freeFor.2.1 8 = .ok (.aload_n 1, 1) := by decide +kernel
theorem d_X0_freeFor_9 : decode oX0_freeFor.2.1 9 = .ok (.getfield 39, 3) := by decide +kernel
theorem d_X0_freeFor_12 : decode oX0_freeFor.2.1 12 = .ok (.getfield 43, 3) := by decide +kernel
theorem d_X0_freeFor_15 : decode oX0_freeFor.2.1 15 = .ok (.if_icmp .ge 86, 3) := by decide +kernel
theorem d_X0_freeFor_18 : decode oX0_freeFor.2.1 18 = .ok (.aload_n 0, 1) := by decide +kernel
theorem d_X0_freeFor_19 : decode oX0_freeFor.2.1 19 = .ok (.getfield 9, 3) := by decide +kernel
theorem d_X0_freeFor_22 : decode oX0_freeFor.2.1 22 = .ok (.iload 5, 2) := by decide +kernel
theorem d_X0_freeFor_24 : decode oX0_freeFor.2.1 24 = .ok (.aload_n 1, 1) := by decide +kernel
theorem d_X0_freeFor_25 : decode oX0_freeFor.2.1 25 = .ok (.iload 5, 2) := by decide +kernel
theorem d_X0_freeFor_27 : decode oX0_freeFor.2.1 27 = .ok (.iload_n 3, 1) := by decide +kernel
theorem d_X0_freeFor_28 : decode oX0_freeFor.2.1 28 = .ok (.invokevirtual 48, 3) := by decide +kernel
theorem d_X0_freeFor_31 : decode oX0_freeFor.2.1 31 = .ok (.iastore, 1) := by decide +kernel
theorem d_X0_freeFor_32 : decode oX0_freeFor.2.1 32 = .ok (.aload_n 0, 1) := by decide +kernel
theorem d_X0_freeFor_33 : decode oX0_freeFor.2.1 33 = .ok (.getfield 15, 3) := by decide +kernel
theorem d_X0_freeFor_36 : decode oX0_freeFor.2.1 36 = .ok (.iload 5, 2) := by decide +kernel
theorem d_X0_freeFor_38 : decode oX0_freeFor.2.1 38 = .ok (.aload_n 1, 1) := by decide +kernel
theorem d_X0_freeFor_39 : decode oX0_freeFor.2.1 39 = .ok (.iload 5, 2) := by decide +kernel
theorem d_X0_freeFor_41 : decode oX0_freeFor.2.1 41 = .ok (.invokevirtual 52, 3) := by decide +kernel
theorem d_X0_freeFor_44 : decode oX0_freeFor.2.1 44 = .ok (.iastore, 1) := by decide +kernel
theorem d_X0_freeFor_45 : decode oX0_freeFor.2.1 45 = .ok (.aload_n 1, 1) := by decide +kernel
theorem d_X0_freeFor_46 : decode oX0_freeFor.2.1 46 = .ok (.getfield 56, 3) := by decide +kernel
theorem d_X0_freeFor_49 : decode oX0_freeFor.2.1 49 = .ok (.iload 5, 2) := by decide +kernel
theorem d_X0_freeFor_51 : decode oX0_freeFor.2.1 51 = .ok (.iaload, 1) := by decide +kernel
theorem d_X0_freeFor_52 : decode oX0_freeFor.2.1 52 = .ok (.iconst (-1), 1) := by decide +kernel
theorem d_X0_freeFor_53 : decode oX0_freeFor.2.1 53 = .ok (.if_icmp .eq 42, 3) := by decide +kernel
theorem d_X0_freeFor_56 : decode oX0_freeFor.2.1 56 = .ok (.aload_n 1, 1) := by decide +kernel
theorem d_X0_freeFor_57 : decode oX0_freeFor.2.1 57 = .ok (.getfield 56, 3) := by decide +kernel
theorem d_X0_freeFor_60 : decode oX0_freeFor.2.1 60 = .ok (.iload 5, 2) := by decide +kernel
theorem d_X0_freeFor_62 : decode oX0_freeFor.2.1 62 = .ok (.iaload, 1) := by decide +kernel
theorem d_X0_freeFor_63 : decode oX0_freeFor.2.1 63 = .ok (.iload_n 2, 1) := by decide +kernel
theorem d_X0_freeFor_64 : decode oX0_freeFor.2.1 64 = .ok (.if_icmp .eq 31, 3) := by decide +kernel
theorem d_X0_freeFor_67 : decode oX0_freeFor.2.1 67 = .ok (.aload_n 1, 1) := by decide +kernel
theorem d_X0_freeFor_68 : decode oX0_freeFor.2.1 68 = .ok (.iload 5, 2) := by decide +kernel
theorem d_X0_freeFor_70 : decode oX0_freeFor.2.1 70 = .ok (.invokevirtual 59, 3) := by decide +kernel
theorem d_X0_freeFor_73 : decode oX0_freeFor.2.1 73 = .ok (.ifCond .ne 22, 3) := by decide +kernel
theorem d_X0_freeFor_76 : decode oX0_freeFor.2.1 76 = .ok (.aload_n 0, 1) := by decide +kernel
theorem d_X0_freeFor_77 : decode oX0_freeFor.2.1 77 = .ok (.getfield 9, 3) := by decide +kernel
theorem d_X0_freeFor_80 : decode oX0_freeFor.2.1 80 = .ok (.iload 5, 2) := by decide +kernel
theorem d_X0_freeFor_82 : decode oX0_freeFor.2.1 82 = .ok (.iaload, 1) := by decide +kernel
theorem d_X0_freeFor_83 : decode oX0_freeFor.2.1 83 = .ok (.ifCond .le 12, 3) := by decide +kernel
theorem d_X0_freeFor_86 : decode oX0_freeFor.2.1 86 = .ok (.iload 4, 2) := by decide +kernel
theorem d_X0_freeFor_88 : decode oX0_freeFor.2.1 88 = .ok (.iconst 1, 1) := by decide +kernel
theorem d_X0_freeFor_89 : decode oX0_freeFor.2.1 89 = .ok (.iload 5, 2) := by decide +kernel
theorem d_X0_freeFor_91 : decode oX0_freeFor.2.1 91 = .ok (.ishl, 1) := by decide +kernel
theorem d_X0_freeFor_92 : decode oX0_freeFor.2.1 92 = .ok (.ior, 1) := by decide +kernel
theorem d_X0_freeFor_93 : decode oX0_freeFor.2.1 93 = .ok (.istore 4, 2) := by decide +kernel
theorem d_X0_freeFor_95 : decode oX0_freeFor.2.1 95 = .ok (.iinc 5 1, 3) := by decide +kernel
theorem d_X0_freeFor_98 : decode oX0_freeFor.2.1 98 = .ok (.goto (-92), 3) := by decide +kernel
theorem d_X0_freeFor_101 : decode oX0_freeFor.2.1 101 = .ok (.iload 4, 2) := by decide +kernel
theorem d_X0_freeFor_103 : decode oX0_freeFor.2.1 103 = .ok (.ireturn, 1) := by decide +kernel
theorem b_X0_freeFor_0 {E : ob_E} {σ : ob_Mem} {Q : Int32 → ob_Mem → Prop} {x2 x3 : Int32} (k : ob_RT shp E oX0_freeFor 6 [.ref 39, .ref 17, .int x2, .int x3, .int (0 : Int32), .int (0 : Int32)] [] σ (ob_qI Q)) : ob_RT shp E oX0_freeFor 0 [.ref 39, .ref 17, .int x2, .int x3, .null, .null] [] σ (ob_qI Q) := by
  refine ob_iconst (v := 0) d_X0_freeFor_0 ci_0 ?_
  refine ob_istore (ls' := [.ref 39, .ref 17, .int x2, .int x3, .int (0 : Int32), .null]) d_X0_freeFor_1 (Nat.le_of_ble_eq_true rfl) rfl ?_
  refine ob_iconst (v := 0) d_X0_freeFor_3 ci_0 ?_
  refine ob_istore (ls' := [.ref 39, .ref 17, .int x2, .int x3, .int (0 : Int32), .int (0 : Int32)]) d_X0_freeFor_4 (Nat.le_of_ble_eq_true rfl) rfl ?_
  exact k
theorem b_X0_freeFor_6 {E : ob_E} {σ : ob_Mem} {Q : Int32 → ob_Mem → Prop} {x2 x3 x4 x5 : Int32} (k : (((σ.1 10 8) ≤ x5 → Q x4 σ) ∧ (¬ (σ.1 10 8) ≤ x5 → ob_RM shp E oX6_comings [.ref 17, .int x5, .int x3] σ (ob_qI fun v2 σ1 => (vp_in x5 8 ∧ ob_RM shp E oX6_seasonOf [.ref 17, .int x5] (ob_wI σ1 40 (x5).toNatClampNeg v2) (ob_qI fun v4 σ3 => (vp_in x5 8 ∧ (vp_in x5 8 ∧ ((((ob_wI σ3 41 (x5).toNatClampNeg v4).1 20 (x5).toNatClampNeg) = (-1 : Int32) → ob_RT shp E oX0_freeFor 6 [.ref 39, .ref 17, .int x2, .int x3, .int x4, .int (x5 + (1 : Int32))] [] (ob_wI σ3 41 (x5).toNatClampNeg v4) (ob_qI Q)) ∧ (¬ ((ob_wI σ3 41 (x5).toNatClampNeg v4).1 20 (x5).toNatClampNeg) = (-1 : Int32) → (vp_in x5 8 ∧ ((((ob_wI σ3 41 (x5).toNatClampNeg v4).1 20 (x5).toNatClampNeg) = x2 → ob_RT shp E oX0_freeFor 6 [.ref 39, .ref 17, .int x2, .int x3, .int x4, .int (x5 + (1 : Int32))] [] (ob_wI σ3 41 (x5).toNatClampNeg v4) (ob_qI Q)) ∧ (¬ ((ob_wI σ3 41 (x5).toNatClampNeg v4).1 20 (x5).toNatClampNeg) = x2 → ob_RM shp E oX6_isLent [.ref 17, .int x5] (ob_wI σ3 41 (x5).toNatClampNeg v4) (ob_qI fun v6 σ5 => ((¬ v6 = 0 → ob_RT shp E oX0_freeFor 6 [.ref 39, .ref 17, .int x2, .int x3, .int x4, .int (x5 + (1 : Int32))] [] σ5 (ob_qI Q)) ∧ (v6 = 0 → (vp_in x5 8 ∧ (((σ5.1 40 (x5).toNatClampNeg) ≤ 0 → ob_RT shp E oX0_freeFor 6 [.ref 39, .ref 17, .int x2, .int x3, .int x4, .int (x5 + (1 : Int32))] [] σ5 (ob_qI Q)) ∧ (¬ (σ5.1 40 (x5).toNatClampNeg) ≤ 0 → ob_RT shp E oX0_freeFor 6 [.ref 39, .ref 17, .int x2, .int x3, .int (x4 ||| ((1 : Int32) <<< (x5 &&& 31))), .int (x5 + (1 : Int32))] [] σ5 (ob_qI Q)))))))))))))))))))) : ob_RT shp E oX0_freeFor 6 [.ref 39, .ref 17, .int x2, .int x3, .int x4, .int x5] [] σ (ob_qI Q) := by
  refine ob_iload d_X0_freeFor_6 rfl ?_
  refine ob_aload_n d_X0_freeFor_8 rfl ?_
  refine ob_getR d_X0_freeFor_9 fl_X0_39 sh_17 rfl rfl ?_
  refine ob_getI d_X0_freeFor_12 fl_X0_43 sh_10 rfl (by decide) ?_
  refine ob_icmp_ge (tgt := 101) d_X0_freeFor_15 rfl (fun cc => ?_) (fun cc => ?_)
  · have k := k.1 cc
    refine ob_iload d_X0_freeFor_101 rfl ?_
    exact ob_iret d_X0_freeFor_103 rfl ⟨_, rfl, k⟩
  · have k := k.2 cc
    refine ob_aload_n d_X0_freeFor_18 rfl ?_
    refine ob_getR d_X0_freeFor_19 fl_X0_9 sh_39 rfl rfl ?_
    refine ob_iload d_X0_freeFor_22 rfl ?_
    refine ob_aload_n d_X0_freeFor_24 rfl ?_
    refine ob_iload d_X0_freeFor_25 rfl ?_
    refine ob_iload_n d_X0_freeFor_27 rfl ?_
    refine ob_callV [.int x5, .int x3] (z := oX6_comings) (st := [.int x5, .ref 40]) d_X0_freeFor_28 lk_X0_48 mv_X6_comings rfl sh_17 cl_6 rfl (Nat.le_of_ble_eq_true rfl) rfl k (ob_kI fun v2 σ1 k => ?_)
    obtain ⟨hin, k⟩ := k
    refine ob_iast d_X0_freeFor_31 sh_40 hin ?_
    refine ob_aload_n d_X0_freeFor_32 rfl ?_
    refine ob_getR d_X0_freeFor_33 fl_X0_15 sh_39 rfl rfl ?_
    refine ob_iload d_X0_freeFor_36 rfl ?_
    refine ob_aload_n d_X0_freeFor_38 rfl ?_
    refine ob_iload d_X0_freeFor_39 rfl ?_
    refine ob_callV [.int x5] (z := oX6_seasonOf) (st := [.int x5, .ref 41]) d_X0_freeFor_41 lk_X0_52 mv_X6_seasonOf rfl sh_17 cl_6 rfl (Nat.le_of_ble_eq_true rfl) rfl k (ob_kI fun v4 σ3 k => ?_)
    obtain ⟨hin, k⟩ := k
    refine ob_iast d_X0_freeFor_44 sh_41 hin ?_
    refine ob_aload_n d_X0_freeFor_45 rfl ?_
    refine ob_getR d_X0_freeFor_46 fl_X0_56 sh_17 rfl rfl ?_
    refine ob_iload d_X0_freeFor_49 rfl ?_
    obtain ⟨hin, k⟩ := k
    refine ob_iald d_X0_freeFor_51 sh_20 hin ?_
    refine ob_iconst (v := -1) d_X0_freeFor_52 ci_m1 ?_
    refine ob_icmp_eq (tgt := 95) d_X0_freeFor_53 rfl (fun cc => ?_) (fun cc => ?_)
    · have k := k.1 cc
      refine ob_iinc (ls' := [.ref 39, .ref 17, .int x2, .int x3, .int x4, .int (x5 + (1 : Int32))]) (v := 1) d_X0_freeFor_95 rfl ci_1 (Nat.le_of_ble_eq_true rfl) rfl ?_
      refine ob_goto (tgt := 6) d_X0_freeFor_98 rfl ?_
      exact k
    · have k := k.2 cc
      refine ob_aload_n d_X0_freeFor_56 rfl ?_
      refine ob_getR d_X0_freeFor_57 fl_X0_56 sh_17 rfl rfl ?_
      refine ob_iload d_X0_freeFor_60 rfl ?_
      obtain ⟨hin, k⟩ := k
      refine ob_iald d_X0_freeFor_62 sh_20 hin ?_
      refine ob_iload_n d_X0_freeFor_63 rfl ?_
      refine ob_icmp_eq (tgt := 95) d_X0_freeFor_64 rfl (fun cc => ?_) (fun cc => ?_)
      · have k := k.1 cc
        refine ob_iinc (ls' := [.ref 39, .ref 17, .int x2, .int x3, .int x4, .int (x5 + (1 : Int32))]) (v := 1) d_X0_freeFor_95 rfl ci_1 (Nat.le_of_ble_eq_true rfl) rfl ?_
        refine ob_goto (tgt := 6) d_X0_freeFor_98 rfl ?_
        exact k
      · have k := k.2 cc
        refine ob_aload_n d_X0_freeFor_67 rfl ?_
        refine ob_iload d_X0_freeFor_68 rfl ?_
        refine ob_callV [.int x5] (z := oX6_isLent) (st := []) d_X0_freeFor_70 lk_X0_59 mv_X6_isLent rfl sh_17 cl_6 rfl (Nat.le_of_ble_eq_true rfl) rfl k (ob_kI fun v6 σ5 k => ?_)
        refine ob_if_ne (tgt := 95) d_X0_freeFor_73 rfl (fun cc => ?_) (fun cc => ?_)
        · have k := k.1 cc
          refine ob_iinc (ls' := [.ref 39, .ref 17, .int x2, .int x3, .int x4, .int (x5 + (1 : Int32))]) (v := 1) d_X0_freeFor_95 rfl ci_1 (Nat.le_of_ble_eq_true rfl) rfl ?_
          refine ob_goto (tgt := 6) d_X0_freeFor_98 rfl ?_
          exact k
        · have k := k.2 cc
          refine ob_aload_n d_X0_freeFor_76 rfl ?_
          refine ob_getR d_X0_freeFor_77 fl_X0_9 sh_39 rfl rfl ?_
          refine ob_iload d_X0_freeFor_80 rfl ?_
          obtain ⟨hin, k⟩ := k
          refine ob_iald d_X0_freeFor_82 sh_40 hin ?_
          refine ob_if_le (tgt := 95) d_X0_freeFor_83 rfl (fun cc => ?_) (fun cc => ?_)
          · have k := k.1 cc
            refine ob_iinc (ls' := [.ref 39, .ref 17, .int x2, .int x3, .int x4, .int (x5 + (1 : Int32))]) (v := 1) d_X0_freeFor_95 rfl ci_1 (Nat.le_of_ble_eq_true rfl) rfl ?_
            refine ob_goto (tgt := 6) d_X0_freeFor_98 rfl ?_
            exact k
          · have k := k.2 cc
            refine ob_iload d_X0_freeFor_86 rfl ?_
            refine ob_iconst (v := 1) d_X0_freeFor_88 ci_1 ?_
            refine ob_iload d_X0_freeFor_89 rfl ?_
            refine ob_ishl d_X0_freeFor_91 ?_
            refine ob_ior d_X0_freeFor_92 ?_
            refine ob_istore (ls' := [.ref 39, .ref 17, .int x2, .int x3, .int (x4 ||| ((1 : Int32) <<< (x5 &&& 31))), .int x5]) d_X0_freeFor_93 (Nat.le_of_ble_eq_true rfl) rfl ?_
            refine ob_iinc (ls' := [.ref 39, .ref 17, .int x2, .int x3, .int (x4 ||| ((1 : Int32) <<< (x5 &&& 31))), .int (x5 + (1 : Int32))]) (v := 1) d_X0_freeFor_95 rfl ci_1 (Nat.le_of_ble_eq_true rfl) rfl ?_
            refine ob_goto (tgt := 6) d_X0_freeFor_98 rfl ?_
            exact k
theorem d_X0_totalOf_0 : decode oX0_totalOf.2.1 0 = .ok (.iconst 0, 1) := by decide +kernel
theorem d_X0_totalOf_1 : decode oX0_totalOf.2.1 1 = .ok (.istore_n 2, 1) := by decide +kernel
theorem d_X0_totalOf_2 : decode oX0_totalOf.2.1 2 = .ok (.iconst 0, 1) := by decide +kernel
theorem d_X0_totalOf_3 : decode oX0_totalOf.2.1 3 = .ok (.istore_n 3, 1) := by decide +kernel
theorem d_X0_totalOf_4 : decode oX0_totalOf.2.1 4 = .ok (.iload_n 3, 1) := by decide +kernel
theorem d_X0_totalOf_5 : decode oX0_totalOf.2.1 5 = .ok (.aload_n 0, 1) := by decide +kernel
theorem d_X0_totalOf_6 : decode oX0_totalOf.2.1 6 = .ok (.arraylength, 1) := by decide +kernel
theorem d_X0_totalOf_7 : decode oX0_totalOf.2.1 7 = .ok (.if_icmp .ge 24, 3) := by decide +kernel
theorem d_X0_totalOf_10 : decode oX0_totalOf.2.1 10 = .ok (.iload_n 1, 1) := by decide +kernel
theorem d_X0_totalOf_11 : decode oX0_totalOf.2.1 11 = .ok (.iload_n 3, 1) := by decide +kernel
theorem d_X0_totalOf_12 : decode oX0_totalOf.2.1 12 = .ok (.ishr, 1) := by decide +kernel
theorem d_X0_totalOf_13 : decode oX0_totalOf.2.1 13 = .ok (.iconst 1, 1) := by decide +kernel
theorem d_X0_totalOf_14 : decode oX0_totalOf.2.1 14 = .ok (.iand, 1) := by decide +kernel
theorem d_X0_totalOf_15 : decode oX0_totalOf.2.1 15 = .ok (.iconst 1, 1) := by decide +kernel
theorem d_X0_totalOf_16 : decode oX0_totalOf.2.1 16 = .ok (.if_icmp .ne 9, 3) := by decide +kernel
theorem d_X0_totalOf_19 : decode oX0_totalOf.2.1 19 = .ok (.iload_n 2, 1) := by decide +kernel
theorem d_X0_totalOf_20 : decode oX0_totalOf.2.1 20 = .ok (.aload_n 0, 1) := by decide +kernel
theorem d_X0_totalOf_21 : decode oX0_totalOf.2.1 21 = .ok (.iload_n 3, 1) := by decide +kernel
theorem d_X0_totalOf_22 : decode oX0_totalOf.2.1 22 = .ok (.iaload, 1) := by decide +kernel
theorem d_X0_totalOf_23 : decode oX0_totalOf.2.1 23 = .ok (.iadd, 1) := by decide +kernel
theorem d_X0_totalOf_24 : decode oX0_totalOf.2.1 24 = .ok (.istore_n 2, 1) := by decide +kernel
theorem d_X0_totalOf_25 : decode oX0_totalOf.2.1 25 = .ok (.iinc 3 1, 3) := by decide +kernel
theorem d_X0_totalOf_28 : decode oX0_totalOf.2.1 28 = .ok (.goto (-24), 3) := by decide +kernel
theorem d_X0_totalOf_31 : decode oX0_totalOf.2.1 31 = .ok (.iload_n 2, 1) := by decide +kernel
theorem d_X0_totalOf_32 : decode oX0_totalOf.2.1 32 = .ok (.ireturn, 1) := by decide +kernel
theorem b_X0_totalOf_40_0 {E : ob_E} {σ : ob_Mem} {Q : Int32 → ob_Mem → Prop} {x1 : Int32} (k : ob_RT shp E oX0_totalOf 4 [.ref 40, .int x1, .int (0 : Int32), .int (0 : Int32)] [] σ (ob_qI Q)) : ob_RT shp E oX0_totalOf 0 [.ref 40, .int x1, .null, .null] [] σ (ob_qI Q) := by
  refine ob_iconst (v := 0) d_X0_totalOf_0 ci_0 ?_
  refine ob_istore_n (ls' := [.ref 40, .int x1, .int (0 : Int32), .null]) d_X0_totalOf_1 (Nat.le_of_ble_eq_true rfl) rfl ?_
  refine ob_iconst (v := 0) d_X0_totalOf_2 ci_0 ?_
  refine ob_istore_n (ls' := [.ref 40, .int x1, .int (0 : Int32), .int (0 : Int32)]) d_X0_totalOf_3 (Nat.le_of_ble_eq_true rfl) rfl ?_
  exact k
theorem b_X0_totalOf_40_4 {E : ob_E} {σ : ob_Mem} {Q : Int32 → ob_Mem → Prop} {x1 x2 x3 : Int32} (k : (((8 : Int32) ≤ x3 → Q x2 σ) ∧ (¬ (8 : Int32) ≤ x3 → ((¬ ((x1 >>> (x3 &&& 31)) &&& (1 : Int32)) = (1 : Int32) → ob_RT shp E oX0_totalOf 4 [.ref 40, .int x1, .int x2, .int (x3 + (1 : Int32))] [] σ (ob_qI Q)) ∧ (((x1 >>> (x3 &&& 31)) &&& (1 : Int32)) = (1 : Int32) → (vp_in x3 8 ∧ ob_RT shp E oX0_totalOf 4 [.ref 40, .int x1, .int (x2 + (σ.1 40 (x3).toNatClampNeg)), .int (x3 + (1 : Int32))] [] σ (ob_qI Q))))))) : ob_RT shp E oX0_totalOf 4 [.ref 40, .int x1, .int x2, .int x3] [] σ (ob_qI Q) := by
  refine ob_iload_n d_X0_totalOf_4 rfl ?_
  refine ob_aload_n d_X0_totalOf_5 rfl ?_
  refine ob_alen (v := 8) d_X0_totalOf_6 sh_40 (by decide) (by decide) ?_
  refine ob_icmp_ge (tgt := 31) d_X0_totalOf_7 rfl (fun cc => ?_) (fun cc => ?_)
  · have k := k.1 cc
    refine ob_iload_n d_X0_totalOf_31 rfl ?_
    exact ob_iret d_X0_totalOf_32 rfl ⟨_, rfl, k⟩
  · have k := k.2 cc
    refine ob_iload_n d_X0_totalOf_10 rfl ?_
    refine ob_iload_n d_X0_totalOf_11 rfl ?_
    refine ob_ishr d_X0_totalOf_12 ?_
    refine ob_iconst (v := 1) d_X0_totalOf_13 ci_1 ?_
    refine ob_iand d_X0_totalOf_14 ?_
    refine ob_iconst (v := 1) d_X0_totalOf_15 ci_1 ?_
    refine ob_icmp_ne (tgt := 25) d_X0_totalOf_16 rfl (fun cc => ?_) (fun cc => ?_)
    · have k := k.1 cc
      refine ob_iinc (ls' := [.ref 40, .int x1, .int x2, .int (x3 + (1 : Int32))]) (v := 1) d_X0_totalOf_25 rfl ci_1 (Nat.le_of_ble_eq_true rfl) rfl ?_
      refine ob_goto (tgt := 4) d_X0_totalOf_28 rfl ?_
      exact k
    · have k := k.2 cc
      refine ob_iload_n d_X0_totalOf_19 rfl ?_
      refine ob_aload_n d_X0_totalOf_20 rfl ?_
      refine ob_iload_n d_X0_totalOf_21 rfl ?_
      obtain ⟨hin, k⟩ := k
      refine ob_iald d_X0_totalOf_22 sh_40 hin ?_
      refine ob_iadd d_X0_totalOf_23 ?_
      refine ob_istore_n (ls' := [.ref 40, .int x1, .int (x2 + (σ.1 40 (x3).toNatClampNeg)), .int x3]) d_X0_totalOf_24 (Nat.le_of_ble_eq_true rfl) rfl ?_
      refine ob_iinc (ls' := [.ref 40, .int x1, .int (x2 + (σ.1 40 (x3).toNatClampNeg)), .int (x3 + (1 : Int32))]) (v := 1) d_X0_totalOf_25 rfl ci_1 (Nat.le_of_ble_eq_true rfl) rfl ?_
      refine ob_goto (tgt := 4) d_X0_totalOf_28 rfl ?_
      exact k
theorem b_X0_totalOf_41_0 {E : ob_E} {σ : ob_Mem} {Q : Int32 → ob_Mem → Prop} {x1 : Int32} (k : ob_RT shp E oX0_totalOf 4 [.ref 41, .int x1, .int (0 : Int32), .int (0 : Int32)] [] σ (ob_qI Q)) : ob_RT shp E oX0_totalOf 0 [.ref 41, .int x1, .null, .null] [] σ (ob_qI Q) := by
  refine ob_iconst (v := 0) d_X0_totalOf_0 ci_0 ?_
  refine ob_istore_n (ls' := [.ref 41, .int x1, .int (0 : Int32), .null]) d_X0_totalOf_1 (Nat.le_of_ble_eq_true rfl) rfl ?_
  refine ob_iconst (v := 0) d_X0_totalOf_2 ci_0 ?_
  refine ob_istore_n (ls' := [.ref 41, .int x1, .int (0 : Int32), .int (0 : Int32)]) d_X0_totalOf_3 (Nat.le_of_ble_eq_true rfl) rfl ?_
  exact k
theorem b_X0_totalOf_41_4 {E : ob_E} {σ : ob_Mem} {Q : Int32 → ob_Mem → Prop} {x1 x2 x3 : Int32} (k : (((8 : Int32) ≤ x3 → Q x2 σ) ∧ (¬ (8 : Int32) ≤ x3 → ((¬ ((x1 >>> (x3 &&& 31)) &&& (1 : Int32)) = (1 : Int32) → ob_RT shp E oX0_totalOf 4 [.ref 41, .int x1, .int x2, .int (x3 + (1 : Int32))] [] σ (ob_qI Q)) ∧ (((x1 >>> (x3 &&& 31)) &&& (1 : Int32)) = (1 : Int32) → (vp_in x3 8 ∧ ob_RT shp E oX0_totalOf 4 [.ref 41, .int x1, .int (x2 + (σ.1 41 (x3).toNatClampNeg)), .int (x3 + (1 : Int32))] [] σ (ob_qI Q))))))) : ob_RT shp E oX0_totalOf 4 [.ref 41, .int x1, .int x2, .int x3] [] σ (ob_qI Q) := by
  refine ob_iload_n d_X0_totalOf_4 rfl ?_
  refine ob_aload_n d_X0_totalOf_5 rfl ?_
  refine ob_alen (v := 8) d_X0_totalOf_6 sh_41 (by decide) (by decide) ?_
  refine ob_icmp_ge (tgt := 31) d_X0_totalOf_7 rfl (fun cc => ?_) (fun cc => ?_)
  · have k := k.1 cc
    refine ob_iload_n d_X0_totalOf_31 rfl ?_
    exact ob_iret d_X0_totalOf_32 rfl ⟨_, rfl, k⟩
  · have k := k.2 cc
    refine ob_iload_n d_X0_totalOf_10 rfl ?_
    refine ob_iload_n d_X0_totalOf_11 rfl ?_
    refine ob_ishr d_X0_totalOf_12 ?_
    refine ob_iconst (v := 1) d_X0_totalOf_13 ci_1 ?_
    refine ob_iand d_X0_totalOf_14 ?_
    refine ob_iconst (v := 1) d_X0_totalOf_15 ci_1 ?_
    refine ob_icmp_ne (tgt := 25) d_X0_totalOf_16 rfl (fun cc => ?_) (fun cc => ?_)
    · have k := k.1 cc
      refine ob_iinc (ls' := [.ref 41, .int x1, .int x2, .int (x3 + (1 : Int32))]) (v := 1) d_X0_totalOf_25 rfl ci_1 (Nat.le_of_ble_eq_true rfl) rfl ?_
      refine ob_goto (tgt := 4) d_X0_totalOf_28 rfl ?_
      exact k
    · have k := k.2 cc
      refine ob_iload_n d_X0_totalOf_19 rfl ?_
      refine ob_aload_n d_X0_totalOf_20 rfl ?_
      refine ob_iload_n d_X0_totalOf_21 rfl ?_
      obtain ⟨hin, k⟩ := k
      refine ob_iald d_X0_totalOf_22 sh_41 hin ?_
      refine ob_iadd d_X0_totalOf_23 ?_
      refine ob_istore_n (ls' := [.ref 41, .int x1, .int (x2 + (σ.1 41 (x3).toNatClampNeg)), .int x3]) d_X0_totalOf_24 (Nat.le_of_ble_eq_true rfl) rfl ?_
      refine ob_iinc (ls' := [.ref 41, .int x1, .int (x2 + (σ.1 41 (x3).toNatClampNeg)), .int (x3 + (1 : Int32))]) (v := 1) d_X0_totalOf_25 rfl ci_1 (Nat.le_of_ble_eq_true rfl) rfl ?_
      refine ob_goto (tgt := 4) d_X0_totalOf_28 rfl ?_
      exact k
