/-! code of X9: the decode rows and a row for each piece between cut points (printed by wip/whole/mk.py) -/
theorem d_X9_given_0 : decode oX9_given.2.1 0 = .ok (.iload 4, 2) := by decide +kernel
theorem d_X9_given_2 : decode oX9_given.2.1 2 = .ok (.iconst (-1), 1) := by decide +kernel
theorem d_X9_given_3 : decode oX9_given.2.1 3 = .ok (.if_icmp .eq 15, 3) := by decide +kernel
theorem d_X9_given_6 : decode oX9_given.2.1 6 = .ok (.aload_n 0, 1) := by decide +kernel
theorem d_X9_given_7 : decode oX9_given.2.1 7 = .ok (.iload 4, 2) := by decide +kernel
theorem d_X9_given_9 : decode oX9_given.2.1 9 = .ok (.invokevirtual 251, 3) := by decide +kernel
theorem d_X9_given_12 : decode oX9_given.2.1 12 = .ok (.ifCond .ne 6, 3) := by decide +kernel
theorem d_X9_given_15 : decode oX9_given.2.1 15 = .ok (.ldc 241, 2) := by decide +kernel
theorem d_X9_given_17 : decode oX9_given.2.1 17 = .ok (.ireturn, 1) := by decide +kernel
theorem d_X9_given_18 : decode oX9_given.2.1 18 = .ok (.iload_n 1, 1) := by decide +kernel
theorem d_X9_given_19 : decode oX9_given.2.1 19 = .ok (.i2l, 1) := by decide +kernel
theorem d_X9_given_20 : decode oX9_given.2.1 20 = .ok (.lconst 0, 1) := by decide +kernel
theorem d_X9_given_21 : decode oX9_given.2.1 21 = .ok (.ldc2_w 308, 3) := by decide +kernel
theorem d_X9_given_24 : decode oX9_given.2.1 24 = .ok (.invokestatic 111, 3) := by decide +kernel
theorem d_X9_given_27 : decode oX9_given.2.1 27 = .ok (.ifCond .eq 27, 3) := by decide +kernel
theorem d_X9_given_30 : decode oX9_given.2.1 30 = .ok (.iload_n 2, 1) := by decide +kernel
theorem d_X9_given_31 : decode oX9_given.2.1 31 = .ok (.i2l, 1) := by decide +kernel
theorem d_X9_given_32 : decode oX9_given.2.1 32 = .ok (.lconst 0, 1) := by decide +kernel
theorem d_X9_given_33 : decode oX9_given.2.1 33 = .ok (.ldc2_w 257, 3) := by decide +kernel
theorem d_X9_given_36 : decode oX9_given.2.1 36 = .ok (.invokestatic 111, 3) := by decide +kernel
theorem d_X9_given_39 : decode oX9_given.2.1 39 = .ok (.ifCond .eq 15, 3) := by decide +kernel
theorem d_X9_given_42 : decode oX9_given.2.1 42 = .ok (.iload_n 3, 1) := by decide +kernel
theorem d_X9_given_43 : decode oX9_given.2.1 43 = .ok (.i2l, 1) := by decide +kernel
theorem d_X9_given_44 : decode oX9_given.2.1 44 = .ok (.lconst 1, 1) := by decide +kernel
theorem d_X9_given_45 : decode oX9_given.2.1 45 = .ok (.ldc2_w 266, 3) := by decide +kernel
theorem d_X9_given_48 : decode oX9_given.2.1 48 = .ok (.invokestatic 111, 3) := by decide +kernel
theorem d_X9_given_51 : decode oX9_given.2.1 51 = .ok (.ifCond .ne 6, 3) := by decide +kernel
theorem d_X9_given_54 : decode oX9_given.2.1 54 = .ok (.ldc 123, 2) := by decide +kernel
theorem d_X9_given_56 : decode oX9_given.2.1 56 = .ok (.ireturn, 1) := by decide +kernel
theorem d_X9_given_57 : decode oX9_given.2.1 57 = .ok (.aload_n 0, 1) := by decide +kernel
theorem d_X9_given_58 : decode oX9_given.2.1 58 = .ok (.invokevirtual 227, 3) := by decide +kernel
theorem d_X9_given_61 : decode oX9_given.2.1 61 = .ok (.ifCond .ne 7, 3) := by decide +kernel
theorem d_X9_given_64 : decode oX9_given.2.1 64 = .ok (.ldc_w 275, 3) := by decide +kernel
theorem d_X9_given_67 : decode oX9_given.2.1 67 = .ok (.ireturn, 1) := by decide +kernel
theorem d_X9_given_68 : decode oX9_given.2.1 68 = .ok (.aload_n 0, 1) := by decide +kernel
theorem d_X9_given_69 : decode oX9_given.2.1 69 = .ok (.iload_n 1, 1) := by decide +kernel
theorem d_X9_given_70 : decode oX9_given.2.1 70 = .ok (.iload_n 2, 1) := by decide +kernel
theorem d_X9_given_71 : decode oX9_given.2.1 71 = .ok (.iload_n 3, 1) := by decide +kernel
theorem d_X9_given_72 : decode oX9_given.2.1 72 = .ok (.invokevirtual 310, 3) := by decide +kernel
theorem d_X9_given_75 : decode oX9_given.2.1 75 = .ok (.istore 5, 2) := by decide +kernel
theorem d_X9_given_77 : decode oX9_given.2.1 77 = .ok (.iload 5, 2) := by decide +kernel
theorem d_X9_given_79 : decode oX9_given.2.1 79 = .ok (.ifCond .lt 9, 3) := by decide +kernel
theorem d_X9_given_82 : decode oX9_given.2.1 82 = .ok (.iload 4, 2) := by decide +kernel
theorem d_X9_given_84 : decode oX9_given.2.1 84 = .ok (.iconst (-1), 1) := by decide +kernel
theorem d_X9_given_85 : decode oX9_given.2.1 85 = .ok (.if_icmp .ne 8, 3) := by decide +kernel
theorem d_X9_given_88 : decode oX9_given.2.1 88 = .ok (.iload 5, 2) := by decide +kernel
theorem d_X9_given_90 : decode oX9_given.2.1 90 = .ok (.goto 10, 3) := by decide +kernel
theorem d_X9_given_93 : decode oX9_given.2.1 93 = .ok (.aload_n 0, 1) := by decide +kernel
theorem d_X9_given_94 : decode oX9_given.2.1 94 = .ok (.getfield 87, 3) := by decide +kernel
theorem d_X9_given_97 : decode oX9_given.2.1 97 = .ok (.iload 4, 2) := by decide +kernel
theorem d_X9_given_99 : decode oX9_given.2.1 99 = .ok (.iaload, 1) := by decide +kernel
theorem d_X9_given_100 : decode oX9_given.2.1 100 = .ok (.ireturn, 1) := by decide +kernel
theorem b_X9_given_0 {E : ob_E} {σ : ob_Mem} {Q : Int32 → ob_Mem → Prop} {x1 x2 x3 x4 : Int32} (k : ((x4 = (-1 : Int32) → ob_RT shp E oX9_given 18 [.ref 53, .int x1, .int x2, .int x3, .int x4, .null] [] σ (ob_qI Q)) ∧ (¬ x4 = (-1 : Int32) → ob_RM shp E oX9_isBirthday [.ref 53, .int x4] σ (ob_qI fun v2 σ1 => ((¬ v2 = 0 → ob_RT shp E oX9_given 18 [.ref 53, .int x1, .int x2, .int x3, .int x4, .null] [] σ1 (ob_qI Q)) ∧ (v2 = 0 → Q (-1000000001 : Int32) σ1)))))) : ob_RT shp E oX9_given 0 [.ref 53, .int x1, .int x2, .int x3, .int x4, .null] [] σ (ob_qI Q) := by
  refine ob_iload d_X9_given_0 rfl ?_
  refine ob_iconst (v := -1) d_X9_given_2 ci_m1 ?_
  refine ob_icmp_eq (tgt := 18) d_X9_given_3 rfl (fun cc => ?_) (fun cc => ?_)
  · have k := k.1 cc
    exact k
  · have k := k.2 cc
    refine ob_aload_n d_X9_given_6 rfl ?_
    refine ob_iload d_X9_given_7 rfl ?_
    refine ob_callV [.int x4] (z := oX9_isBirthday) (st := []) d_X9_given_9 lk_X9_251 mv_X9_isBirthday rfl sh_53 cl_9 rfl (Nat.le_of_ble_eq_true rfl) rfl k (ob_kI fun v2 σ1 k => ?_)
    refine ob_if_ne (tgt := 18) d_X9_given_12 rfl (fun cc => ?_) (fun cc => ?_)
    · have k := k.1 cc
      exact k
    · have k := k.2 cc
      refine ob_ldc (v := -1000000001) d_X9_given_15 k_X9_241 ?_
      exact ob_iret d_X9_given_17 rfl ⟨_, rfl, k⟩
theorem b_X9_given_18 {E : ob_E} {σ : ob_Mem} {Q : Int32 → ob_Mem → Prop} {x1 x2 x3 x4 : Int32} (k : ob_RM shp E oX9_in [.long (x1).toInt64, .long (0 : Int64), .long (6 : Int64)] σ (ob_qI fun v2 σ1 => ((v2 = 0 → Q (-1000000002 : Int32) σ1) ∧ (¬ v2 = 0 → ob_RM shp E oX9_in [.long (x2).toInt64, .long (0 : Int64), .long (999 : Int64)] σ1 (ob_qI fun v4 σ3 => ((v4 = 0 → Q (-1000000002 : Int32) σ3) ∧ (¬ v4 = 0 → ob_RM shp E oX9_in [.long (x3).toInt64, .long (1 : Int64), .long (9999 : Int64)] σ3 (ob_qI fun v6 σ5 => ((¬ v6 = 0 → ob_RM shp E oX9_alive [.ref 53] σ5 (ob_qI fun v8 σ7 => ((¬ v8 = 0 → ob_RM shp E oX9_findGiven [.ref 53, .int x1, .int x2, .int x3] σ7 (ob_qI fun v10 σ9 => ((v10 < 0 → Q v10 σ9) ∧ (¬ v10 < 0 → ((¬ x4 = (-1 : Int32) → (vp_in x4 8 ∧ Q (σ9.1 77 (x4).toNatClampNeg) σ9)) ∧ (x4 = (-1 : Int32) → Q v10 σ9)))))) ∧ (v8 = 0 → Q (-1000000003 : Int32) σ7)))) ∧ (v6 = 0 → Q (-1000000002 : Int32) σ5)))))))))) : ob_RT shp E oX9_given 18 [.ref 53, .int x1, .int x2, .int x3, .int x4, .null] [] σ (ob_qI Q) := by
  refine ob_iload_n d_X9_given_18 rfl ?_
  refine ob_i2l d_X9_given_19 ?_
  refine ob_lconst (v := 0) d_X9_given_20 rfl ?_
  refine ob_ldc2 (v := 6) d_X9_given_21 k_X9_308 ?_
  refine ob_callS [.long (x1).toInt64, .long (0 : Int64), .long (6 : Int64)] (z := oX9_in) (st := []) d_X9_given_24 lk_X9_111 ms_X9_in rfl (Nat.le_of_ble_eq_true rfl) rfl k (ob_kI fun v2 σ1 k => ?_)
  refine ob_if_eq (tgt := 54) d_X9_given_27 rfl (fun cc => ?_) (fun cc => ?_)
  · have k := k.1 cc
    refine ob_ldc (v := -1000000002) d_X9_given_54 k_X9_123 ?_
    exact ob_iret d_X9_given_56 rfl ⟨_, rfl, k⟩
  · have k := k.2 cc
    refine ob_iload_n d_X9_given_30 rfl ?_
    refine ob_i2l d_X9_given_31 ?_
    refine ob_lconst (v := 0) d_X9_given_32 rfl ?_
    refine ob_ldc2 (v := 999) d_X9_given_33 k_X9_257 ?_
    refine ob_callS [.long (x2).toInt64, .long (0 : Int64), .long (999 : Int64)] (z := oX9_in) (st := []) d_X9_given_36 lk_X9_111 ms_X9_in rfl (Nat.le_of_ble_eq_true rfl) rfl k (ob_kI fun v4 σ3 k => ?_)
    refine ob_if_eq (tgt := 54) d_X9_given_39 rfl (fun cc => ?_) (fun cc => ?_)
    · have k := k.1 cc
      refine ob_ldc (v := -1000000002) d_X9_given_54 k_X9_123 ?_
      exact ob_iret d_X9_given_56 rfl ⟨_, rfl, k⟩
    · have k := k.2 cc
      refine ob_iload_n d_X9_given_42 rfl ?_
      refine ob_i2l d_X9_given_43 ?_
      refine ob_lconst (v := 1) d_X9_given_44 rfl ?_
      refine ob_ldc2 (v := 9999) d_X9_given_45 k_X9_266 ?_
      refine ob_callS [.long (x3).toInt64, .long (1 : Int64), .long (9999 : Int64)] (z := oX9_in) (st := []) d_X9_given_48 lk_X9_111 ms_X9_in rfl (Nat.le_of_ble_eq_true rfl) rfl k (ob_kI fun v6 σ5 k => ?_)
      refine ob_if_ne (tgt := 57) d_X9_given_51 rfl (fun cc => ?_) (fun cc => ?_)
      · have k := k.1 cc
        refine ob_aload_n d_X9_given_57 rfl ?_
        refine ob_callV [] (z := oX9_alive) (st := []) d_X9_given_58 lk_X9_227 mv_X9_alive rfl sh_53 cl_9 rfl (Nat.le_of_ble_eq_true rfl) rfl k (ob_kI fun v8 σ7 k => ?_)
        refine ob_if_ne (tgt := 68) d_X9_given_61 rfl (fun cc => ?_) (fun cc => ?_)
        · have k := k.1 cc
          refine ob_aload_n d_X9_given_68 rfl ?_
          refine ob_iload_n d_X9_given_69 rfl ?_
          refine ob_iload_n d_X9_given_70 rfl ?_
          refine ob_iload_n d_X9_given_71 rfl ?_
          refine ob_callV [.int x1, .int x2, .int x3] (z := oX9_findGiven) (st := []) d_X9_given_72 lk_X9_310 mv_X9_findGiven rfl sh_53 cl_9 rfl (Nat.le_of_ble_eq_true rfl) rfl k (ob_kI fun v10 σ9 k => ?_)
          refine ob_istore (ls' := [.ref 53, .int x1, .int x2, .int x3, .int x4, .int v10]) d_X9_given_75 (Nat.le_of_ble_eq_true rfl) rfl ?_
          refine ob_iload d_X9_given_77 rfl ?_
          refine ob_if_lt (tgt := 88) d_X9_given_79 rfl (fun cc => ?_) (fun cc => ?_)
          · have k := k.1 cc
            refine ob_iload d_X9_given_88 rfl ?_
            refine ob_goto (tgt := 100) d_X9_given_90 rfl ?_
            exact ob_iret d_X9_given_100 rfl ⟨_, rfl, k⟩
          · have k := k.2 cc
            refine ob_iload d_X9_given_82 rfl ?_
            refine ob_iconst (v := -1) d_X9_given_84 ci_m1 ?_
            refine ob_icmp_ne (tgt := 93) d_X9_given_85 rfl (fun cc => ?_) (fun cc => ?_)
            · have k := k.1 cc
              refine ob_aload_n d_X9_given_93 rfl ?_
              refine ob_getR d_X9_given_94 fl_X9_87 sh_53 rfl rfl ?_
              refine ob_iload d_X9_given_97 rfl ?_
              obtain ⟨hin, k⟩ := k
              refine ob_iald d_X9_given_99 sh_77 hin ?_
              exact ob_iret d_X9_given_100 rfl ⟨_, rfl, k⟩
            · have k := k.2 cc
              refine ob_iload d_X9_given_88 rfl ?_
              refine ob_goto (tgt := 100) d_X9_given_90 rfl ?_
              exact ob_iret d_X9_given_100 rfl ⟨_, rfl, k⟩
        · have k := k.2 cc
          refine ob_ldcw (v := -1000000003) d_X9_given_64 k_X9_275 ?_
          exact ob_iret d_X9_given_67 rfl ⟨_, rfl, k⟩
      · have k := k.2 cc
        refine ob_ldc (v := -1000000002) d_X9_given_54 k_X9_123 ?_
        exact ob_iret d_X9_given_56 rfl ⟨_, rfl, k⟩
theorem d_X9_rests_0 : decode oX9_rests.2.1 0 = .ok (.iload_n 1, 1) := by decide +kernel
theorem d_X9_rests_1 : decode oX9_rests.2.1 1 = .ok (.iconst (-1), 1) := by decide +kernel
theorem d_X9_rests_2 : decode oX9_rests.2.1 2 = .ok (.if_icmp .eq 14, 3) := by decide +kernel
theorem d_X9_rests_5 : decode oX9_rests.2.1 5 = .ok (.aload_n 0, 1) := by decide +kernel
theorem d_X9_rests_6 : decode oX9_rests.2.1 6 = .ok (.iload_n 1, 1) := by decide +kernel
theorem d_X9_rests_7 : decode oX9_rests.2.1 7 = .ok (.invokevirtual 251, 3) := by decide +kernel
theorem d_X9_rests_10 : decode oX9_rests.2.1 10 = .ok (.ifCond .ne 6, 3) := by decide +kernel
theorem d_X9_rests_13 : decode oX9_rests.2.1 13 = .ok (.ldc 241, 2) := by decide +kernel
theorem d_X9_rests_15 : decode oX9_rests.2.1 15 = .ok (.ireturn, 1) := by decide +kernel
theorem d_X9_rests_16 : decode oX9_rests.2.1 16 = .ok (.iconst 0, 1) := by decide +kernel
theorem d_X9_rests_17 : decode oX9_rests.2.1 17 = .ok (.istore_n 2, 1) := by decide +kernel
theorem d_X9_rests_18 : decode oX9_rests.2.1 18 = .ok (.iload_n 2, 1) := by decide +kernel
theorem d_X9_rests_19 : decode oX9_rests.2.1 19 = .ok (.aload_n 0, 1) := by decide +kernel
theorem d_X9_rests_20 : decode oX9_rests.2.1 20 = .ok (.getfield 115, 3) := by decide +kernel
theorem d_X9_rests_23 : decode oX9_rests.2.1 23 = .ok (.if_icmp .ge 21, 3) := by decide +kernel
theorem d_X9_rests_26 : decode oX9_rests.2.1 26 = .ok (.aload_n 0, 1) := by decide +kernel
theorem d_X9_rests_27 : decode oX9_rests.2.1 27 = .ok (.getfield 90, 3) := by decide +kernel
theorem d_X9_rests_30 : decode oX9_rests.2.1 30 = .ok (.iload_n 2, 1) := by decide +kernel
theorem d_X9_rests_31 : decode oX9_rests.2.1 31 = .ok (.aload_n 0, 1) := by decide +kernel
theorem d_X9_rests_32 : decode oX9_rests.2.1 32 = .ok (.getfield 42, 3) := by decide +kernel
theorem d_X9_rests_35 : decode oX9_rests.2.1 35 = .ok (.iload_n 2, 1) := by decide +kernel
theorem d_X9_rests_36 : decode oX9_rests.2.1 36 = .ok (.iaload, 1) := by decide +kernel
theorem d_X9_rests_37 : decode oX9_rests.2.1 37 = .ok (.iastore, 1) := by decide +kernel
theorem d_X9_rests_38 : decode oX9_rests.2.1 38 = .ok (.iinc 2 1, 3) := by decide +kernel
theorem d_X9_rests_41 : decode oX9_rests.2.1 41 = .ok (.goto (-23), 3) := by decide +kernel
theorem d_X9_rests_44 : decode oX9_rests.2.1 44 = .ok (.iconst 0, 1) := by decide +kernel
theorem d_X9_rests_45 : decode oX9_rests.2.1 45 = .ok (.istore_n 2, 1) := by decide +kernel
theorem d_X9_rests_46 : decode oX9_rests.2.1 46 = .ok (.iload_n 2, 1) := by decide +kernel
theorem d_X9_rests_47 : decode oX9_rests.2.1 47 = .ok (.bipush 40, 2) := by decide +kernel
theorem d_X9_rests_49 : decode oX9_rests.2.1 49 = .ok (.if_icmp .ge 16, 3) := by decide +kernel
theorem d_X9_rests_52 : decode oX9_rests.2.1 52 = .ok (.aload_n 0, 1) := by decide +kernel
theorem d_X9_rests_53 : decode oX9_rests.2.1 53 = .ok (.invokevirtual 319, 3) := by decide +kernel
theorem d_X9_rests_56 : decode oX9_rests.2.1 56 = .ok (.ifCond .eq 9, 3) := by decide +kernel
theorem d_X9_rests_59 : decode oX9_rests.2.1 59 = .ok (.iinc 2 1, 3) := by decide +kernel
theorem d_X9_rests_62 : decode oX9_rests.2.1 62 = .ok (.goto (-16), 3) := by decide +kernel
theorem d_X9_rests_65 : decode oX9_rests.2.1 65 = .ok (.iload_n 1, 1) := by decide +kernel
theorem d_X9_rests_66 : decode oX9_rests.2.1 66 = .ok (.iconst (-1), 1) := by decide +kernel
theorem d_X9_rests_67 : decode oX9_rests.2.1 67 = .ok (.if_icmp .ne 7, 3) := by decide +kernel
theorem d_X9_rests_70 : decode oX9_rests.2.1 70 = .ok (.iload_n 2, 1) := by decide +kernel
theorem d_X9_rests_71 : decode oX9_rests.2.1 71 = .ok (.goto 9, 3) := by decide +kernel
theorem d_X9_rests_74 : decode oX9_rests.2.1 74 = .ok (.aload_n 0, 1) := by decide +kernel
theorem d_X9_rests_75 : decode oX9_rests.2.1 75 = .ok (.getfield 42, 3) := by decide +kernel
theorem d_X9_rests_78 : decode oX9_rests.2.1 78 = .ok (.iload_n 1, 1) := by decide +kernel
theorem d_X9_rests_79 : decode oX9_rests.2.1 79 = .ok (.iaload, 1) := by decide +kernel
theorem d_X9_rests_80 : decode oX9_rests.2.1 80 = .ok (.istore_n 3, 1) := by decide +kernel
theorem d_X9_rests_81 : decode oX9_rests.2.1 81 = .ok (.iconst 0, 1) := by decide +kernel
theorem d_X9_rests_82 : decode oX9_rests.2.1 82 = .ok (.istore 4, 2) := by decide +kernel
theorem d_X9_rests_84 : decode oX9_rests.2.1 84 = .ok (.iload 4, 2) := by decide +kernel
theorem d_X9_rests_86 : decode oX9_rests.2.1 86 = .ok (.aload_n 0, 1) := by decide +kernel
theorem d_X9_rests_87 : decode oX9_rests.2.1 87 = .ok (.getfield 115, 3) := by decide +kernel
theorem d_X9_rests_90 : decode oX9_rests.2.1 90 = .ok (.if_icmp .ge 23, 3) := by decide +kernel
theorem d_X9_rests_93 : decode oX9_rests.2.1 93 = .ok (.aload_n 0, 1) := by decide +kernel
theorem d_X9_rests_94 : decode oX9_rests.2.1 94 = .ok (.getfield 42, 3) := by decide +kernel
theorem d_X9_rests_97 : decode oX9_rests.2.1 97 = .ok (.iload 4, 2) := by decide +kernel
theorem d_X9_rests_99 : decode oX9_rests.2.1 99 = .ok (.aload_n 0, 1) := by decide +kernel
theorem d_X9_rests_100 : decode oX9_rests.2.1 100 = .ok (.getfield 90, 3) := by decide +kernel
theorem d_X9_rests_103 : decode oX9_rests.2.1 103 = .ok (.iload 4, 2) := by decide +kernel
theorem d_X9_rests_105 : decode oX9_rests.2.1 105 = .ok (.iaload, 1) := by decide +kernel
theorem d_X9_rests_106 : decode oX9_rests.2.1 106 = .ok (.iastore, 1) := by decide +kernel
theorem d_X9_rests_107 : decode oX9_rests.2.1 107 = .ok (.iinc 4 1, 3) := by decide +kernel
theorem d_X9_rests_110 : decode oX9_rests.2.1 110 = .ok (.goto (-26), 3) := by decide +kernel
theorem d_X9_rests_113 : decode oX9_rests.2.1 113 = .ok (.iload_n 3, 1) := by decide +kernel
theorem d_X9_rests_114 : decode oX9_rests.2.1 114 = .ok (.ireturn, 1) := by decide +kernel
theorem b_X9_rests_0 {E : ob_E} {σ : ob_Mem} {Q : Int32 → ob_Mem → Prop} {x1 : Int32} (k : ((x1 = (-1 : Int32) → ob_RT shp E oX9_rests 18 [.ref 53, .int x1, .int (0 : Int32), .null, .null] [] σ (ob_qI Q)) ∧ (¬ x1 = (-1 : Int32) → ob_RM shp E oX9_isBirthday [.ref 53, .int x1] σ (ob_qI fun v2 σ1 => ((¬ v2 = 0 → ob_RT shp E oX9_rests 18 [.ref 53, .int x1, .int (0 : Int32), .null, .null] [] σ1 (ob_qI Q)) ∧ (v2 = 0 → Q (-1000000001 : Int32) σ1)))))) : ob_RT shp E oX9_rests 0 [.ref 53, .int x1, .null, .null, .null] [] σ (ob_qI Q) := by
  refine ob_iload_n d_X9_rests_0 rfl ?_
  refine ob_iconst (v := -1) d_X9_rests_1 ci_m1 ?_
  refine ob_icmp_eq (tgt := 16) d_X9_rests_2 rfl (fun cc => ?_) (fun cc => ?_)
  · have k := k.1 cc
    refine ob_iconst (v := 0) d_X9_rests_16 ci_0 ?_
    refine ob_istore_n (ls' := [.ref 53, .int x1, .int (0 : Int32), .null, .null]) d_X9_rests_17 (Nat.le_of_ble_eq_true rfl) rfl ?_
    exact k
  · have k := k.2 cc
    refine ob_aload_n d_X9_rests_5 rfl ?_
    refine ob_iload_n d_X9_rests_6 rfl ?_
    refine ob_callV [.int x1] (z := oX9_isBirthday) (st := []) d_X9_rests_7 lk_X9_251 mv_X9_isBirthday rfl sh_53 cl_9 rfl (Nat.le_of_ble_eq_true rfl) rfl k (ob_kI fun v2 σ1 k => ?_)
    refine ob_if_ne (tgt := 16) d_X9_rests_10 rfl (fun cc => ?_) (fun cc => ?_)
    · have k := k.1 cc
      refine ob_iconst (v := 0) d_X9_rests_16 ci_0 ?_
      refine ob_istore_n (ls' := [.ref 53, .int x1, .int (0 : Int32), .null, .null]) d_X9_rests_17 (Nat.le_of_ble_eq_true rfl) rfl ?_
      exact k
    · have k := k.2 cc
      refine ob_ldc (v := -1000000001) d_X9_rests_13 k_X9_241 ?_
      exact ob_iret d_X9_rests_15 rfl ⟨_, rfl, k⟩
theorem b_X9_rests_18 {E : ob_E} {σ : ob_Mem} {Q : Int32 → ob_Mem → Prop} {x1 x2 : Int32} (k : (((σ.1 53 4) ≤ x2 → ob_RT shp E oX9_rests 46 [.ref 53, .int x1, .int (0 : Int32), .null, .null] [] σ (ob_qI Q)) ∧ (¬ (σ.1 53 4) ≤ x2 → (vp_in x2 8 ∧ (vp_in x2 8 ∧ ob_RT shp E oX9_rests 18 [.ref 53, .int x1, .int (x2 + (1 : Int32)), .null, .null] [] (ob_wI σ 78 (x2).toNatClampNeg (σ.1 63 (x2).toNatClampNeg)) (ob_qI Q)))))) : ob_RT shp E oX9_rests 18 [.ref 53, .int x1, .int x2, .null, .null] [] σ (ob_qI Q) := by
  refine ob_iload_n d_X9_rests_18 rfl ?_
  refine ob_aload_n d_X9_rests_19 rfl ?_
  refine ob_getI d_X9_rests_20 fl_X9_115 sh_53 rfl (by decide) ?_
  refine ob_icmp_ge (tgt := 44) d_X9_rests_23 rfl (fun cc => ?_) (fun cc => ?_)
  · have k := k.1 cc
    refine ob_iconst (v := 0) d_X9_rests_44 ci_0 ?_
    refine ob_istore_n (ls' := [.ref 53, .int x1, .int (0 : Int32), .null, .null]) d_X9_rests_45 (Nat.le_of_ble_eq_true rfl) rfl ?_
    exact k
  · have k := k.2 cc
    refine ob_aload_n d_X9_rests_26 rfl ?_
    refine ob_getR d_X9_rests_27 fl_X9_90 sh_53 rfl rfl ?_
    refine ob_iload_n d_X9_rests_30 rfl ?_
    refine ob_aload_n d_X9_rests_31 rfl ?_
    refine ob_getR d_X9_rests_32 fl_X9_42 sh_53 rfl rfl ?_
    refine ob_iload_n d_X9_rests_35 rfl ?_
    obtain ⟨hin, k⟩ := k
    refine ob_iald d_X9_rests_36 sh_63 hin ?_
    obtain ⟨hin, k⟩ := k
    refine ob_iast d_X9_rests_37 sh_78 hin ?_
    refine ob_iinc (ls' := [.ref 53, .int x1, .int (x2 + (1 : Int32)), .null, .null]) (v := 1) d_X9_rests_38 rfl ci_1 (Nat.le_of_ble_eq_true rfl) rfl ?_
    refine ob_goto (tgt := 18) d_X9_rests_41 rfl ?_
    exact k
theorem b_X9_rests_46 {E : ob_E} {σ : ob_Mem} {Q : Int32 → ob_Mem → Prop} {x1 x2 : Int32} (k : (((40 : Int32) ≤ x2 → ob_RT shp E oX9_rests 65 [.ref 53, .int x1, .int x2, .null, .null] [] σ (ob_qI Q)) ∧ (¬ (40 : Int32) ≤ x2 → ob_RM shp E oX9_changes [.ref 53] σ (ob_qI fun v2 σ1 => ((v2 = 0 → ob_RT shp E oX9_rests 65 [.ref 53, .int x1, .int x2, .null, .null] [] σ1 (ob_qI Q)) ∧ (¬ v2 = 0 → ob_RT shp E oX9_rests 46 [.ref 53, .int x1, .int (x2 + (1 : Int32)), .null, .null] [] σ1 (ob_qI Q))))))) : ob_RT shp E oX9_rests 46 [.ref 53, .int x1, .int x2, .null, .null] [] σ (ob_qI Q) := by
  refine ob_iload_n d_X9_rests_46 rfl ?_
  refine ob_bipush (v := 40) d_X9_rests_47 cb_40 ?_
  refine ob_icmp_ge (tgt := 65) d_X9_rests_49 rfl (fun cc => ?_) (fun cc => ?_)
  · have k := k.1 cc
    exact k
  · have k := k.2 cc
    refine ob_aload_n d_X9_rests_52 rfl ?_
    refine ob_callV [] (z := oX9_changes) (st := []) d_X9_rests_53 lk_X9_319 mv_X9_changes rfl sh_53 cl_9 rfl (Nat.le_of_ble_eq_true rfl) rfl k (ob_kI fun v2 σ1 k => ?_)
    refine ob_if_eq (tgt := 65) d_X9_rests_56 rfl (fun cc => ?_) (fun cc => ?_)
    · have k := k.1 cc
      exact k
    · have k := k.2 cc
      refine ob_iinc (ls' := [.ref 53, .int x1, .int (x2 + (1 : Int32)), .null, .null]) (v := 1) d_X9_rests_59 rfl ci_1 (Nat.le_of_ble_eq_true rfl) rfl ?_
      refine ob_goto (tgt := 46) d_X9_rests_62 rfl ?_
      exact k
theorem b_X9_rests_65 {E : ob_E} {σ : ob_Mem} {Q : Int32 → ob_Mem → Prop} {x1 x2 : Int32} (k : ((¬ x1 = (-1 : Int32) → (vp_in x1 8 ∧ ob_RT shp E oX9_rests 84 [.ref 53, .int x1, .int x2, .int (σ.1 63 (x1).toNatClampNeg), .int (0 : Int32)] [] σ (ob_qI Q))) ∧ (x1 = (-1 : Int32) → ob_RT shp E oX9_rests 84 [.ref 53, .int x1, .int x2, .int x2, .int (0 : Int32)] [] σ (ob_qI Q)))) : ob_RT shp E oX9_rests 65 [.ref 53, .int x1, .int x2, .null, .null] [] σ (ob_qI Q) := by
  refine ob_iload_n d_X9_rests_65 rfl ?_
  refine ob_iconst (v := -1) d_X9_rests_66 ci_m1 ?_
  refine ob_icmp_ne (tgt := 74) d_X9_rests_67 rfl (fun cc => ?_) (fun cc => ?_)
  · have k := k.1 cc
    refine ob_aload_n d_X9_rests_74 rfl ?_
    refine ob_getR d_X9_rests_75 fl_X9_42 sh_53 rfl rfl ?_
    refine ob_iload_n d_X9_rests_78 rfl ?_
    obtain ⟨hin, k⟩ := k
    refine ob_iald d_X9_rests_79 sh_63 hin ?_
    refine ob_istore_n (ls' := [.ref 53, .int x1, .int x2, .int (σ.1 63 (x1).toNatClampNeg), .null]) d_X9_rests_80 (Nat.le_of_ble_eq_true rfl) rfl ?_
    refine ob_iconst (v := 0) d_X9_rests_81 ci_0 ?_
    refine ob_istore (ls' := [.ref 53, .int x1, .int x2, .int (σ.1 63 (x1).toNatClampNeg), .int (0 : Int32)]) d_X9_rests_82 (Nat.le_of_ble_eq_true rfl) rfl ?_
    exact k
  · have k := k.2 cc
    refine ob_iload_n d_X9_rests_70 rfl ?_
    refine ob_goto (tgt := 80) d_X9_rests_71 rfl ?_
    refine ob_istore_n (ls' := [.ref 53, .int x1, .int x2, .int x2, .null]) d_X9_rests_80 (Nat.le_of_ble_eq_true rfl) rfl ?_
    refine ob_iconst (v := 0) d_X9_rests_81 ci_0 ?_
    refine ob_istore (ls' := [.ref 53, .int x1, .int x2, .int x2, .int (0 : Int32)]) d_X9_rests_82 (Nat.le_of_ble_eq_true rfl) rfl ?_
    exact k
theorem b_X9_rests_84 {E : ob_E} {σ : ob_Mem} {Q : Int32 → ob_Mem → Prop} {x1 x2 x3 x4 : Int32} (k : (((σ.1 53 4) ≤ x4 → Q x3 σ) ∧ (¬ (σ.1 53 4) ≤ x4 → (vp_in x4 8 ∧ (vp_in x4 8 ∧ ob_RT shp E oX9_rests 84 [.ref 53, .int x1, .int x2, .int x3, .int (x4 + (1 : Int32))] [] (ob_wI σ 63 (x4).toNatClampNeg (σ.1 78 (x4).toNatClampNeg)) (ob_qI Q)))))) : ob_RT shp E oX9_rests 84 [.ref 53, .int x1, .int x2, .int x3, .int x4] [] σ (ob_qI Q) := by
  refine ob_iload d_X9_rests_84 rfl ?_
  refine ob_aload_n d_X9_rests_86 rfl ?_
  refine ob_getI d_X9_rests_87 fl_X9_115 sh_53 rfl (by decide) ?_
  refine ob_icmp_ge (tgt := 113) d_X9_rests_90 rfl (fun cc => ?_) (fun cc => ?_)
  · have k := k.1 cc
    refine ob_iload_n d_X9_rests_113 rfl ?_
    exact ob_iret d_X9_rests_114 rfl ⟨_, rfl, k⟩
  · have k := k.2 cc
    refine ob_aload_n d_X9_rests_93 rfl ?_
    refine ob_getR d_X9_rests_94 fl_X9_42 sh_53 rfl rfl ?_
    refine ob_iload d_X9_rests_97 rfl ?_
    refine ob_aload_n d_X9_rests_99 rfl ?_
    refine ob_getR d_X9_rests_100 fl_X9_90 sh_53 rfl rfl ?_
    refine ob_iload d_X9_rests_103 rfl ?_
    obtain ⟨hin, k⟩ := k
    refine ob_iald d_X9_rests_105 sh_78 hin ?_
    obtain ⟨hin, k⟩ := k
    refine ob_iast d_X9_rests_106 sh_63 hin ?_
    refine ob_iinc (ls' := [.ref 53, .int x1, .int x2, .int x3, .int (x4 + (1 : Int32))]) (v := 1) d_X9_rests_107 rfl ci_1 (Nat.le_of_ble_eq_true rfl) rfl ?_
    refine ob_goto (tgt := 84) d_X9_rests_110 rfl ?_
    exact k
theorem d_X9_tell_0 : decode oX9_tell.2.1 0 = .ok (.aload_n 0, 1) := by decide +kernel
theorem d_X9_tell_1 : decode oX9_tell.2.1 1 = .ok (.iload_n 1, 1) := by decide +kernel
theorem d_X9_tell_2 : decode oX9_tell.2.1 2 = .ok (.invokevirtual 237, 3) := by decide +kernel
theorem d_X9_tell_5 : decode oX9_tell.2.1 5 = .ok (.ifCond .ne 6, 3) := by decide +kernel
theorem d_X9_tell_8 : decode oX9_tell.2.1 8 = .ok (.ldc 241, 2) := by decide +kernel
theorem d_X9_tell_10 : decode oX9_tell.2.1 10 = .ok (.ireturn, 1) := by decide +kernel
theorem d_X9_tell_11 : decode oX9_tell.2.1 11 = .ok (.iload_n 2, 1) := by decide +kernel
theorem d_X9_tell_12 : decode oX9_tell.2.1 12 = .ok (.i2l, 1) := by decide +kernel
theorem d_X9_tell_13 : decode oX9_tell.2.1 13 = .ok (.lconst 0, 1) := by decide +kernel
theorem d_X9_tell_14 : decode oX9_tell.2.1 14 = .ok (.ldc2_w 266, 3) := by decide +kernel
theorem d_X9_tell_17 : decode oX9_tell.2.1 17 = .ok (.invokestatic 111, 3) := by decide +kernel
theorem d_X9_tell_20 : decode oX9_tell.2.1 20 = .ok (.ifCond .eq 15, 3) := by decide +kernel
theorem d_X9_tell_23 : decode oX9_tell.2.1 23 = .ok (.iload_n 3, 1) := by decide +kernel
theorem d_X9_tell_24 : decode oX9_tell.2.1 24 = .ok (.i2l, 1) := by decide +kernel
theorem d_X9_tell_25 : decode oX9_tell.2.1 25 = .ok (.lconst 0, 1) := by decide +kernel
theorem d_X9_tell_26 : decode oX9_tell.2.1 26 = .ok (.ldc2_w 257, 3) := by decide +kernel
theorem d_X9_tell_29 : decode oX9_tell.2.1 29 = .ok (.invokestatic 111, 3) := by decide +kernel
theorem d_X9_tell_32 : decode oX9_tell.2.1 32 = .ok (.ifCond .ne 6, 3) := by decide +kernel
theorem d_X9_tell_35 : decode oX9_tell.2.1 35 = .ok (.ldc 123, 2) := by decide +kernel
theorem d_X9_tell_37 : decode oX9_tell.2.1 37 = .ok (.ireturn, 1) := by decide +kernel
theorem d_X9_tell_38 : decode oX9_tell.2.1 38 = .ok (.aload_n 0, 1) := by decide +kernel
theorem d_X9_tell_39 : decode oX9_tell.2.1 39 = .ok (.getfield 221, 3) := by decide +kernel
theorem d_X9_tell_42 : decode oX9_tell.2.1 42 = .ok (.bipush 20, 2) := by decide +kernel
theorem d_X9_tell_44 : decode oX9_tell.2.1 44 = .ok (.if_icmp .ne 6, 3) := by decide +kernel
theorem d_X9_tell_47 : decode oX9_tell.2.1 47 = .ok (.ldc 127, 2) := by decide +kernel
theorem d_X9_tell_49 : decode oX9_tell.2.1 49 = .ok (.ireturn, 1) := by decide +kernel
theorem d_X9_tell_50 : decode oX9_tell.2.1 50 = .ok (.aload_n 0, 1) := by decide +kernel
theorem d_X9_tell_51 : decode oX9_tell.2.1 51 = .ok (.getfield 93, 3) := by decide +kernel
theorem d_X9_tell_54 : decode oX9_tell.2.1 54 = .ok (.aload_n 0, 1) := by decide +kernel
theorem d_X9_tell_55 : decode oX9_tell.2.1 55 = .ok (.getfield 221, 3) := by decide +kernel
theorem d_X9_tell_58 : decode oX9_tell.2.1 58 = .ok (.iload_n 1, 1) := by decide +kernel
theorem d_X9_tell_59 : decode oX9_tell.2.1 59 = .ok (.iastore, 1) := by decide +kernel
theorem d_X9_tell_60 : decode oX9_tell.2.1 60 = .ok (.aload_n 0, 1) := by decide +kernel
theorem d_X9_tell_61 : decode oX9_tell.2.1 61 = .ok (.getfield 96, 3) := by decide +kernel
theorem d_X9_tell_64 : decode oX9_tell.2.1 64 = .ok (.aload_n 0, 1) := by decide +kernel
theorem d_X9_tell_65 : decode oX9_tell.2.1 65 = .ok (.getfield 221, 3) := by decide +kernel
theorem d_X9_tell_68 : decode oX9_tell.2.1 68 = .ok (.iload_n 2, 1) := by decide +kernel
theorem d_X9_tell_69 : decode oX9_tell.2.1 69 = .ok (.iastore, 1) := by decide +kernel
theorem d_X9_tell_70 : decode oX9_tell.2.1 70 = .ok (.aload_n 0, 1) := by decide +kernel
theorem d_X9_tell_71 : decode oX9_tell.2.1 71 = .ok (.getfield 99, 3) := by decide +kernel
theorem d_X9_tell_74 : decode oX9_tell.2.1 74 = .ok (.aload_n 0, 1) := by decide +kernel
theorem d_X9_tell_75 : decode oX9_tell.2.1 75 = .ok (.getfield 221, 3) := by decide +kernel
theorem d_X9_tell_78 : decode oX9_tell.2.1 78 = .ok (.iload_n 3, 1) := by decide +kernel
theorem d_X9_tell_79 : decode oX9_tell.2.1 79 = .ok (.iastore, 1) := by decide +kernel
theorem d_X9_tell_80 : decode oX9_tell.2.1 80 = .ok (.aload_n 0, 1) := by decide +kernel
theorem d_X9_tell_81 : decode oX9_tell.2.1 81 = .ok (.dup, 1) := by decide +kernel
theorem d_X9_tell_82 : decode oX9_tell.2.1 82 = .ok (.getfield 221, 3) := by decide +kernel
theorem d_X9_tell_85 : decode oX9_tell.2.1 85 = .ok (.iconst 1, 1) := by decide +kernel
theorem d_X9_tell_86 : decode oX9_tell.2.1 86 = .ok (.iadd, 1) := by decide +kernel
theorem d_X9_tell_87 : decode oX9_tell.2.1 87 = .ok (.putfield 221, 3) := by decide +kernel
theorem d_X9_tell_90 : decode oX9_tell.2.1 90 = .ok (.aload_n 0, 1) := by decide +kernel
theorem d_X9_tell_91 : decode oX9_tell.2.1 91 = .ok (.getfield 221, 3) := by decide +kernel
theorem d_X9_tell_94 : decode oX9_tell.2.1 94 = .ok (.ireturn, 1) := by decide +kernel
theorem b_X9_tell_0 {E : ob_E} {σ : ob_Mem} {Q : Int32 → ob_Mem → Prop} {x1 x2 x3 : Int32} (k : ob_RM shp E oX9_isPerson [.ref 53, .int x1] σ (ob_qI fun v2 σ1 => ((¬ v2 = 0 → ob_RM shp E oX9_in [.long (x2).toInt64, .long (0 : Int64), .long (9999 : Int64)] σ1 (ob_qI fun v4 σ3 => ((v4 = 0 → Q (-1000000002 : Int32) σ3) ∧ (¬ v4 = 0 → ob_RM shp E oX9_in [.long (x3).toInt64, .long (0 : Int64), .long (999 : Int64)] σ3 (ob_qI fun v6 σ5 => ((¬ v6 = 0 → ((¬ (σ5.1 53 42) = (20 : Int32) → (vp_in (σ5.1 53 42) 20 ∧ (vp_in ((ob_wI σ5 79 ((σ5.1 53 42)).toNatClampNeg x1).1 53 42) 20 ∧ (∀ σ7, σ7 = (ob_wI (ob_wI σ5 79 ((σ5.1 53 42)).toNatClampNeg x1) 80 (((ob_wI σ5 79 ((σ5.1 53 42)).toNatClampNeg x1).1 53 42)).toNatClampNeg x2) → (vp_in (σ7.1 53 42) 20 ∧ (∀ σ8, σ8 = (ob_wI (ob_wI σ7 81 ((σ7.1 53 42)).toNatClampNeg x3) 53 42 (((ob_wI σ7 81 ((σ7.1 53 42)).toNatClampNeg x3).1 53 42) + (1 : Int32))) → Q (σ8.1 53 42) σ8)))))) ∧ ((σ5.1 53 42) = (20 : Int32) → Q (-1000000004 : Int32) σ5))) ∧ (v6 = 0 → Q (-1000000002 : Int32) σ5))))))) ∧ (v2 = 0 → Q (-1000000001 : Int32) σ1)))) : ob_RT shp E oX9_tell 0 [.ref 53, .int x1, .int x2, .int x3] [] σ (ob_qI Q) := by
  refine ob_aload_n d_X9_tell_0 rfl ?_
  refine ob_iload_n d_X9_tell_1 rfl ?_
  refine ob_callV [.int x1] (z := oX9_isPerson) (st := []) d_X9_tell_2 lk_X9_237 mv_X9_isPerson rfl sh_53 cl_9 rfl (Nat.le_of_ble_eq_true rfl) rfl k (ob_kI fun v2 σ1 k => ?_)
  refine ob_if_ne (tgt := 11) d_X9_tell_5 rfl (fun cc => ?_) (fun cc => ?_)
  · have k := k.1 cc
    refine ob_iload_n d_X9_tell_11 rfl ?_
    refine ob_i2l d_X9_tell_12 ?_
    refine ob_lconst (v := 0) d_X9_tell_13 rfl ?_
    refine ob_ldc2 (v := 9999) d_X9_tell_14 k_X9_266 ?_
    refine ob_callS [.long (x2).toInt64, .long (0 : Int64), .long (9999 : Int64)] (z := oX9_in) (st := []) d_X9_tell_17 lk_X9_111 ms_X9_in rfl (Nat.le_of_ble_eq_true rfl) rfl k (ob_kI fun v4 σ3 k => ?_)
    refine ob_if_eq (tgt := 35) d_X9_tell_20 rfl (fun cc => ?_) (fun cc => ?_)
    · have k := k.1 cc
      refine ob_ldc (v := -1000000002) d_X9_tell_35 k_X9_123 ?_
      exact ob_iret d_X9_tell_37 rfl ⟨_, rfl, k⟩
    · have k := k.2 cc
      refine ob_iload_n d_X9_tell_23 rfl ?_
      refine ob_i2l d_X9_tell_24 ?_
      refine ob_lconst (v := 0) d_X9_tell_25 rfl ?_
      refine ob_ldc2 (v := 999) d_X9_tell_26 k_X9_257 ?_
      refine ob_callS [.long (x3).toInt64, .long (0 : Int64), .long (999 : Int64)] (z := oX9_in) (st := []) d_X9_tell_29 lk_X9_111 ms_X9_in rfl (Nat.le_of_ble_eq_true rfl) rfl k (ob_kI fun v6 σ5 k => ?_)
      refine ob_if_ne (tgt := 38) d_X9_tell_32 rfl (fun cc => ?_) (fun cc => ?_)
      · have k := k.1 cc
        refine ob_aload_n d_X9_tell_38 rfl ?_
        refine ob_getI d_X9_tell_39 fl_X9_221 sh_53 rfl (by decide) ?_
        refine ob_bipush (v := 20) d_X9_tell_42 cb_20 ?_
        refine ob_icmp_ne (tgt := 50) d_X9_tell_44 rfl (fun cc => ?_) (fun cc => ?_)
        · have k := k.1 cc
          refine ob_aload_n d_X9_tell_50 rfl ?_
          refine ob_getR d_X9_tell_51 fl_X9_93 sh_53 rfl rfl ?_
          refine ob_aload_n d_X9_tell_54 rfl ?_
          refine ob_getI d_X9_tell_55 fl_X9_221 sh_53 rfl (by decide) ?_
          refine ob_iload_n d_X9_tell_58 rfl ?_
          obtain ⟨hin, k⟩ := k
          refine ob_iast d_X9_tell_59 sh_79 hin ?_
          refine ob_aload_n d_X9_tell_60 rfl ?_
          refine ob_getR d_X9_tell_61 fl_X9_96 sh_53 rfl rfl ?_
          refine ob_aload_n d_X9_tell_64 rfl ?_
          refine ob_getI d_X9_tell_65 fl_X9_221 sh_53 rfl (by decide) ?_
          refine ob_iload_n d_X9_tell_68 rfl ?_
          obtain ⟨hin, k⟩ := k
          refine ob_iast d_X9_tell_69 sh_80 hin ?_
          refine ob_nmM (fun σ7 hσ7 => ?_)
          have k := k σ7 hσ7
          refine ob_aload_n d_X9_tell_70 rfl ?_
          refine ob_getR d_X9_tell_71 fl_X9_99 sh_53 rfl rfl ?_
          refine ob_aload_n d_X9_tell_74 rfl ?_
          refine ob_getI d_X9_tell_75 fl_X9_221 sh_53 rfl (by decide) ?_
          refine ob_iload_n d_X9_tell_78 rfl ?_
          obtain ⟨hin, k⟩ := k
          refine ob_iast d_X9_tell_79 sh_81 hin ?_
          refine ob_aload_n d_X9_tell_80 rfl ?_
          refine ob_dup d_X9_tell_81 rfl ?_
          refine ob_getI d_X9_tell_82 fl_X9_221 sh_53 rfl (by decide) ?_
          refine ob_iconst (v := 1) d_X9_tell_85 ci_1 ?_
          refine ob_iadd d_X9_tell_86 ?_
          refine ob_putI d_X9_tell_87 fp_X9_221 sh_53 rfl rfl ?_
          refine ob_nmM (fun σ8 hσ8 => ?_)
          have k := k σ8 hσ8
          refine ob_aload_n d_X9_tell_90 rfl ?_
          refine ob_getI d_X9_tell_91 fl_X9_221 sh_53 rfl (by decide) ?_
          exact ob_iret d_X9_tell_94 rfl ⟨_, rfl, k⟩
        · have k := k.2 cc
          refine ob_ldc (v := -1000000004) d_X9_tell_47 k_X9_127 ?_
          exact ob_iret d_X9_tell_49 rfl ⟨_, rfl, k⟩
      · have k := k.2 cc
        refine ob_ldc (v := -1000000002) d_X9_tell_35 k_X9_123 ?_
        exact ob_iret d_X9_tell_37 rfl ⟨_, rfl, k⟩
  · have k := k.2 cc
    refine ob_ldc (v := -1000000001) d_X9_tell_8 k_X9_241 ?_
    exact ob_iret d_X9_tell_10 rfl ⟨_, rfl, k⟩
theorem d_X9_tear_0 : decode oX9_tear.2.1 0 = .ok (.aload_n 0, 1) := by decide +kernel
theorem d_X9_tear_1 : decode oX9_tear.2.1 1 = .ok (.getfield 221, 3) := by decide +kernel
theorem d_X9_tear_4 : decode oX9_tear.2.1 4 = .ok (.istore_n 1, 1) := by decide +kernel
theorem d_X9_tear_5 : decode oX9_tear.2.1 5 = .ok (.aload_n 0, 1) := by decide +kernel
theorem d_X9_tear_6 : decode oX9_tear.2.1 6 = .ok (.iconst 0, 1) := by decide +kernel
theorem d_X9_tear_7 : decode oX9_tear.2.1 7 = .ok (.putfield 221, 3) := by decide +kernel
theorem d_X9_tear_10 : decode oX9_tear.2.1 10 = .ok (.iload_n 1, 1) := by decide +kernel
theorem d_X9_tear_11 : decode oX9_tear.2.1 11 = .ok (.ireturn, 1) := by decide +kernel
theorem b_X9_tear_0 {E : ob_E} {σ : ob_Mem} {Q : Int32 → ob_Mem → Prop} (k : Q (σ.1 53 42) (ob_wI σ 53 42 (0 : Int32))) : ob_RT shp E oX9_tear 0 [.ref 53, .null] [] σ (ob_qI Q) := by
  refine ob_aload_n d_X9_tear_0 rfl ?_
  refine ob_getI d_X9_tear_1 fl_X9_221 sh_53 rfl (by decide) ?_
  refine ob_istore_n (ls' := [.ref 53, .int (σ.1 53 42)]) d_X9_tear_4 (Nat.le_of_ble_eq_true rfl) rfl ?_
  refine ob_aload_n d_X9_tear_5 rfl ?_
  refine ob_iconst (v := 0) d_X9_tear_6 ci_0 ?_
  refine ob_putI d_X9_tear_7 fp_X9_221 sh_53 rfl rfl ?_
  refine ob_iload_n d_X9_tear_10 rfl ?_
  exact ob_iret d_X9_tear_11 rfl ⟨_, rfl, k⟩
theorem d_X9_judge_0 : decode oX9_judge.2.1 0 = .ok (.aload_n 0, 1) := by decide +kernel
theorem d_X9_judge_1 : decode oX9_judge.2.1 1 = .ok (.iconst (-1), 1) := by decide +kernel
theorem d_X9_judge_2 : decode oX9_judge.2.1 2 = .ok (.invokevirtual 323, 3) := by decide +kernel
theorem d_X9_judge_5 : decode oX9_judge.2.1 5 = .ok (.ireturn, 1) := by decide +kernel
theorem b_X9_judge_0 {E : ob_E} {σ : ob_Mem} {Q : Int32 → ob_Mem → Prop} (k : ob_RM shp E oX9_wrongWithout [.ref 53, .int (-1 : Int32)] σ (ob_qI fun v2 σ1 => Q v2 σ1)) : ob_RT shp E oX9_judge 0 [.ref 53] [] σ (ob_qI Q) := by
  refine ob_aload_n d_X9_judge_0 rfl ?_
  refine ob_iconst (v := -1) d_X9_judge_1 ci_m1 ?_
  refine ob_callV [.int (-1 : Int32)] (z := oX9_wrongWithout) (st := []) d_X9_judge_2 lk_X9_323 mv_X9_wrongWithout rfl sh_53 cl_9 rfl (Nat.le_of_ble_eq_true rfl) rfl k (ob_kI fun v2 σ1 k => ?_)
  exact ob_iret d_X9_judge_5 rfl ⟨_, rfl, k⟩
theorem d_X9_forged_0 : decode oX9_forged.2.1 0 = .ok (.iconst 0, 1) := by decide +kernel
theorem d_X9_forged_1 : decode oX9_forged.2.1 1 = .ok (.istore_n 1, 1) := by decide +kernel
theorem d_X9_forged_2 : decode oX9_forged.2.1 2 = .ok (.iconst 0, 1) := by decide +kernel
theorem d_X9_forged_3 : decode oX9_forged.2.1 3 = .ok (.istore_n 2, 1) := by decide +kernel
theorem d_X9_forged_4 : decode oX9_forged.2.1 4 = .ok (.iload_n 2, 1) := by decide +kernel
theorem d_X9_forged_5 : decode oX9_forged.2.1 5 = .ok (.aload_n 0, 1) := by decide +kernel
theorem d_X9_forged_6 : decode oX9_forged.2.1 6 = .ok (.getfield 115, 3) := by decide +kernel
theorem d_X9_forged_9 : decode oX9_forged.2.1 9 = .ok (.if_icmp .ge 27, 3) := by decide +kernel
theorem d_X9_forged_12 : decode oX9_forged.2.1 12 = .ok (.iload_n 1, 1) := by decide +kernel
theorem d_X9_forged_13 : decode oX9_forged.2.1 13 = .ok (.aload_n 0, 1) := by decide +kernel
theorem d_X9_forged_14 : decode oX9_forged.2.1 14 = .ok (.iload_n 2, 1) := by decide +kernel
theorem d_X9_forged_15 : decode oX9_forged.2.1 15 = .ok (.invokevirtual 323, 3) := by decide +kernel
theorem d_X9_forged_18 : decode oX9_forged.2.1 18 = .ok (.ifCond .ge 9, 3) := by decide +kernel
theorem d_X9_forged_21 : decode oX9_forged.2.1 21 = .ok (.iconst 1, 1) := by decide +kernel
theorem d_X9_forged_22 : decode oX9_forged.2.1 22 = .ok (.iload_n 2, 1) := by decide +kernel
theorem d_X9_forged_23 : decode oX9_forged.2.1 23 = .ok (.ishl, 1) := by decide +kernel
theorem d_X9_forged_24 : decode oX9_forged.2.1 24 = .ok (.goto 4, 3) := by decide +kernel
theorem d_X9_forged_27 : decode oX9_forged.2.1 27 = .ok (.iconst 0, 1) := by decide +kernel
theorem d_X9_forged_28 : decode oX9_forged.2.1 28 = .ok (.ior, 1) := by decide +kernel
theorem d_X9_forged_29 : decode oX9_forged.2.1 29 = .ok (.istore_n 1, 1) := by decide +kernel
theorem d_X9_forged_30 : decode oX9_forged.2.1 30 = .ok (.iinc 2 1, 3) := by decide +kernel
theorem d_X9_forged_33 : decode oX9_forged.2.1 33 = .ok (.goto (-29), 3) := by decide +kernel
theorem d_X9_forged_36 : decode oX9_forged.2.1 36 = .ok (.iload_n 1, 1) := by decide +kernel
theorem d_X9_forged_37 : decode oX9_forged.2.1 37 = .ok (.ireturn, 1) := by decide +kernel
theorem b_X9_forged_0 {E : ob_E} {σ : ob_Mem} {Q : Int32 → ob_Mem → Prop} (k : ob_RT shp E oX9_forged 4 [.ref 53, .int (0 : Int32), .int (0 : Int32)] [] σ (ob_qI Q)) : ob_RT shp E oX9_forged 0 [.ref 53, .null, .null] [] σ (ob_qI Q) := by
  refine ob_iconst (v := 0) d_X9_forged_0 ci_0 ?_
  refine ob_istore_n (ls' := [.ref 53, .int (0 : Int32), .null]) d_X9_forged_1 (Nat.le_of_ble_eq_true rfl) rfl ?_
  refine ob_iconst (v := 0) d_X9_forged_2 ci_0 ?_
  refine ob_istore_n (ls' := [.ref 53, .int (0 : Int32), .int (0 : Int32)]) d_X9_forged_3 (Nat.le_of_ble_eq_true rfl) rfl ?_
  exact k
theorem b_X9_forged_4 {E : ob_E} {σ : ob_Mem} {Q : Int32 → ob_Mem → Prop} {x1 x2 : Int32} (k : (((σ.1 53 4) ≤ x2 → Q x1 σ) ∧ (¬ (σ.1 53 4) ≤ x2 → ob_RM shp E oX9_wrongWithout [.ref 53, .int x2] σ (ob_qI fun v2 σ1 => ((0 ≤ v2 → ob_RT shp E oX9_forged 4 [.ref 53, .int (x1 ||| (0 : Int32)), .int (x2 + (1 : Int32))] [] σ1 (ob_qI Q)) ∧ (¬ 0 ≤ v2 → ob_RT shp E oX9_forged 4 [.ref 53, .int (x1 ||| ((1 : Int32) <<< (x2 &&& 31))), .int (x2 + (1 : Int32))] [] σ1 (ob_qI Q))))))) : ob_RT shp E oX9_forged 4 [.ref 53, .int x1, .int x2] [] σ (ob_qI Q) := by
  refine ob_iload_n d_X9_forged_4 rfl ?_
  refine ob_aload_n d_X9_forged_5 rfl ?_
  refine ob_getI d_X9_forged_6 fl_X9_115 sh_53 rfl (by decide) ?_
  refine ob_icmp_ge (tgt := 36) d_X9_forged_9 rfl (fun cc => ?_) (fun cc => ?_)
  · have k := k.1 cc
    refine ob_iload_n d_X9_forged_36 rfl ?_
    exact ob_iret d_X9_forged_37 rfl ⟨_, rfl, k⟩
  · have k := k.2 cc
    refine ob_iload_n d_X9_forged_12 rfl ?_
    refine ob_aload_n d_X9_forged_13 rfl ?_
    refine ob_iload_n d_X9_forged_14 rfl ?_
    refine ob_callV [.int x2] (z := oX9_wrongWithout) (st := [.int x1]) d_X9_forged_15 lk_X9_323 mv_X9_wrongWithout rfl sh_53 cl_9 rfl (Nat.le_of_ble_eq_true rfl) rfl k (ob_kI fun v2 σ1 k => ?_)
    refine ob_if_ge (tgt := 27) d_X9_forged_18 rfl (fun cc => ?_) (fun cc => ?_)
    · have k := k.1 cc
      refine ob_iconst (v := 0) d_X9_forged_27 ci_0 ?_
      refine ob_ior d_X9_forged_28 ?_
      refine ob_istore_n (ls' := [.ref 53, .int (x1 ||| (0 : Int32)), .int x2]) d_X9_forged_29 (Nat.le_of_ble_eq_true rfl) rfl ?_
      refine ob_iinc (ls' := [.ref 53, .int (x1 ||| (0 : Int32)), .int (x2 + (1 : Int32))]) (v := 1) d_X9_forged_30 rfl ci_1 (Nat.le_of_ble_eq_true rfl) rfl ?_
      refine ob_goto (tgt := 4) d_X9_forged_33 rfl ?_
      exact k
    · have k := k.2 cc
      refine ob_iconst (v := 1) d_X9_forged_21 ci_1 ?_
      refine ob_iload_n d_X9_forged_22 rfl ?_
      refine ob_ishl d_X9_forged_23 ?_
      refine ob_goto (tgt := 28) d_X9_forged_24 rfl ?_
      refine ob_ior d_X9_forged_28 ?_
      refine ob_istore_n (ls' := [.ref 53, .int (x1 ||| ((1 : Int32) <<< (x2 &&& 31))), .int x2]) d_X9_forged_29 (Nat.le_of_ble_eq_true rfl) rfl ?_
      refine ob_iinc (ls' := [.ref 53, .int (x1 ||| ((1 : Int32) <<< (x2 &&& 31))), .int (x2 + (1 : Int32))]) (v := 1) d_X9_forged_30 rfl ci_1 (Nat.le_of_ble_eq_true rfl) rfl ?_
      refine ob_goto (tgt := 4) d_X9_forged_33 rfl ?_
      exact k
theorem d_X9_drift_0 : decode oX9_drift.2.1 0 = .ok (.iload_n 1, 1) := by decide +kernel
theorem d_X9_drift_1 : decode oX9_drift.2.1 1 = .ok (.i2l, 1) := by decide +kernel
theorem d_X9_drift_2 : decode oX9_drift.2.1 2 = .ok (.lconst 1, 1) := by decide +kernel
theorem d_X9_drift_3 : decode oX9_drift.2.1 3 = .ok (.ldc2_w 257, 3) := by decide +kernel
theorem d_X9_drift_6 : decode oX9_drift.2.1 6 = .ok (.invokestatic 111, 3) := by decide +kernel
theorem d_X9_drift_9 : decode oX9_drift.2.1 9 = .ok (.ifCond .ne 6, 3) := by decide +kernel
theorem d_X9_drift_12 : decode oX9_drift.2.1 12 = .ok (.ldc 123, 2) := by decide +kernel
theorem d_X9_drift_14 : decode oX9_drift.2.1 14 = .ok (.ireturn, 1) := by decide +kernel
theorem d_X9_drift_15 : decode oX9_drift.2.1 15 = .ok (.aload_n 0, 1) := by decide +kernel
theorem d_X9_drift_16 : decode oX9_drift.2.1 16 = .ok (.getfield 108, 3) := by decide +kernel
theorem d_X9_drift_19 : decode oX9_drift.2.1 19 = .ok (.ifCond .ne 7, 3) := by decide +kernel
theorem d_X9_drift_22 : decode oX9_drift.2.1 22 = .ok (.ldc_w 275, 3) := by decide +kernel
theorem d_X9_drift_25 : decode oX9_drift.2.1 25 = .ok (.ireturn, 1) := by decide +kernel
theorem d_X9_drift_26 : decode oX9_drift.2.1 26 = .ok (.iconst 0, 1) := by decide +kernel
theorem d_X9_drift_27 : decode oX9_drift.2.1 27 = .ok (.istore_n 2, 1) := by decide +kernel
theorem d_X9_drift_28 : decode oX9_drift.2.1 28 = .ok (.iload_n 2, 1) := by decide +kernel
theorem d_X9_drift_29 : decode oX9_drift.2.1 29 = .ok (.iload_n 1, 1) := by decide +kernel
theorem d_X9_drift_30 : decode oX9_drift.2.1 30 = .ok (.if_icmp .ge 61, 3) := by decide +kernel
theorem d_X9_drift_33 : decode oX9_drift.2.1 33 = .ok (.aload_n 0, 1) := by decide +kernel
theorem d_X9_drift_34 : decode oX9_drift.2.1 34 = .ok (.getfield 115, 3) := by decide +kernel
theorem d_X9_drift_37 : decode oX9_drift.2.1 37 = .ok (.ifCond .le 44, 3) := by decide +kernel
theorem d_X9_drift_40 : decode oX9_drift.2.1 40 = .ok (.aload_n 0, 1) := by decide +kernel
theorem d_X9_drift_41 : decode oX9_drift.2.1 41 = .ok (.iconst 4, 1) := by decide +kernel
theorem d_X9_drift_42 : decode oX9_drift.2.1 42 = .ok (.invokevirtual 336, 3) := by decide +kernel
theorem d_X9_drift_45 : decode oX9_drift.2.1 45 = .ok (.ifCond .ne 36, 3) := by decide +kernel
theorem d_X9_drift_48 : decode oX9_drift.2.1 48 = .ok (.aload_n 0, 1) := by decide +kernel
theorem d_X9_drift_49 : decode oX9_drift.2.1 49 = .ok (.aload_n 0, 1) := by decide +kernel
theorem d_X9_drift_50 : decode oX9_drift.2.1 50 = .ok (.getfield 115, 3) := by decide +kernel
theorem d_X9_drift_53 : decode oX9_drift.2.1 53 = .ok (.invokevirtual 336, 3) := by decide +kernel
theorem d_X9_drift_56 : decode oX9_drift.2.1 56 = .ok (.istore_n 3, 1) := by decide +kernel
theorem d_X9_drift_57 : decode oX9_drift.2.1 57 = .ok (.aload_n 0, 1) := by decide +kernel
theorem d_X9_drift_58 : decode oX9_drift.2.1 58 = .ok (.aload_n 0, 1) := by decide +kernel
theorem d_X9_drift_59 : decode oX9_drift.2.1 59 = .ok (.getfield 108, 3) := by decide +kernel
theorem d_X9_drift_62 : decode oX9_drift.2.1 62 = .ok (.invokevirtual 336, 3) := by decide +kernel
theorem d_X9_drift_65 : decode oX9_drift.2.1 65 = .ok (.istore 4, 2) := by decide +kernel
theorem d_X9_drift_67 : decode oX9_drift.2.1 67 = .ok (.aload_n 0, 1) := by decide +kernel
theorem d_X9_drift_68 : decode oX9_drift.2.1 68 = .ok (.iload_n 3, 1) := by decide +kernel
theorem d_X9_drift_69 : decode oX9_drift.2.1 69 = .ok (.iload 4, 2) := by decide +kernel
theorem d_X9_drift_71 : decode oX9_drift.2.1 71 = .ok (.aload_n 0, 1) := by decide +kernel
theorem d_X9_drift_72 : decode oX9_drift.2.1 72 = .ok (.iload_n 3, 1) := by decide +kernel
theorem d_X9_drift_73 : decode oX9_drift.2.1 73 = .ok (.invokevirtual 254, 3) := by decide +kernel
theorem d_X9_drift_76 : decode oX9_drift.2.1 76 = .ok (.invokevirtual 339, 3) := by decide +kernel
theorem d_X9_drift_79 : decode oX9_drift.2.1 79 = .ok (.istore 5, 2) := by decide +kernel
theorem d_X9_drift_81 : decode oX9_drift.2.1 81 = .ok (.aload_n 0, 1) := by decide +kernel
theorem d_X9_drift_82 : decode oX9_drift.2.1 82 = .ok (.invokevirtual 268, 3) := by decide +kernel
theorem d_X9_drift_85 : decode oX9_drift.2.1 85 = .ok (.iinc 2 1, 3) := by decide +kernel
theorem d_X9_drift_88 : decode oX9_drift.2.1 88 = .ok (.goto (-60), 3) := by decide +kernel
theorem d_X9_drift_91 : decode oX9_drift.2.1 91 = .ok (.aload_n 0, 1) := by decide +kernel
theorem d_X9_drift_92 : decode oX9_drift.2.1 92 = .ok (.getfield 118, 3) := by decide +kernel
theorem d_X9_drift_95 : decode oX9_drift.2.1 95 = .ok (.ireturn, 1) := by decide +kernel
theorem b_X9_drift_0 {E : ob_E} {σ : ob_Mem} {Q : Int32 → ob_Mem → Prop} {x1 : Int32} (k : ob_RM shp E oX9_in [.long (x1).toInt64, .long (1 : Int64), .long (999 : Int64)] σ (ob_qI fun v2 σ1 => ((¬ v2 = 0 → ((¬ (σ1.1 53 1) = 0 → ob_RT shp E oX9_drift 28 [.ref 53, .int x1, .int (0 : Int32), .null, .null, .null] [] σ1 (ob_qI Q)) ∧ ((σ1.1 53 1) = 0 → Q (-1000000003 : Int32) σ1))) ∧ (v2 = 0 → Q (-1000000002 : Int32) σ1)))) : ob_RT shp E oX9_drift 0 [.ref 53, .int x1, .null, .null, .null, .null] [] σ (ob_qI Q) := by
  refine ob_iload_n d_X9_drift_0 rfl ?_
  refine ob_i2l d_X9_drift_1 ?_
  refine ob_lconst (v := 1) d_X9_drift_2 rfl ?_
  refine ob_ldc2 (v := 999) d_X9_drift_3 k_X9_257 ?_
  refine ob_callS [.long (x1).toInt64, .long (1 : Int64), .long (999 : Int64)] (z := oX9_in) (st := []) d_X9_drift_6 lk_X9_111 ms_X9_in rfl (Nat.le_of_ble_eq_true rfl) rfl k (ob_kI fun v2 σ1 k => ?_)
  refine ob_if_ne (tgt := 15) d_X9_drift_9 rfl (fun cc => ?_) (fun cc => ?_)
  · have k := k.1 cc
    refine ob_aload_n d_X9_drift_15 rfl ?_
    refine ob_getI d_X9_drift_16 fl_X9_108 sh_53 rfl (by decide) ?_
    refine ob_if_ne (tgt := 26) d_X9_drift_19 rfl (fun cc => ?_) (fun cc => ?_)
    · have k := k.1 cc
      refine ob_iconst (v := 0) d_X9_drift_26 ci_0 ?_
      refine ob_istore_n (ls' := [.ref 53, .int x1, .int (0 : Int32), .null, .null, .null]) d_X9_drift_27 (Nat.le_of_ble_eq_true rfl) rfl ?_
      exact k
    · have k := k.2 cc
      refine ob_ldcw (v := -1000000003) d_X9_drift_22 k_X9_275 ?_
      exact ob_iret d_X9_drift_25 rfl ⟨_, rfl, k⟩
  · have k := k.2 cc
    refine ob_ldc (v := -1000000002) d_X9_drift_12 k_X9_123 ?_
    exact ob_iret d_X9_drift_14 rfl ⟨_, rfl, k⟩
theorem b_X9_drift_28 {E : ob_E} {σ : ob_Mem} {Q : Int32 → ob_Mem → Prop} {x1 x2 : Int32} (k : ((x1 ≤ x2 → Q (σ.1 53 9) σ) ∧ (¬ x1 ≤ x2 → (((σ.1 53 4) ≤ 0 → ob_RM shp E oX9_dayNow [.ref 53] σ (ob_qV fun σ1 => ob_RT shp E oX9_drift 28 [.ref 53, .int x1, .int (x2 + (1 : Int32)), .null, .null, .null] [] σ1 (ob_qI Q))) ∧ (¬ (σ.1 53 4) ≤ 0 → ob_RM shp E oX9_draw [.ref 53, .int (4 : Int32)] σ (ob_qI fun v3 σ2 => ((¬ v3 = 0 → ob_RM shp E oX9_dayNow [.ref 53] σ2 (ob_qV fun σ4 => ob_RT shp E oX9_drift 28 [.ref 53, .int x1, .int (x2 + (1 : Int32)), .null, .null, .null] [] σ4 (ob_qI Q))) ∧ (v3 = 0 → ob_RM shp E oX9_draw [.ref 53, .int (σ2.1 53 4)] σ2 (ob_qI fun v6 σ5 => ob_RM shp E oX9_draw [.ref 53, .int (σ5.1 53 1)] σ5 (ob_qI fun v8 σ7 => ob_RM shp E oX9_seasonOf [.ref 53, .int v6] σ7 (ob_qI fun v10 σ9 => ob_RM shp E oX9_sell [.ref 53, .int v6, .int v8, .int v10] σ9 (ob_qI fun v12 σ11 => ob_RM shp E oX9_dayNow [.ref 53] σ11 (ob_qV fun σ13 => ob_RT shp E oX9_drift 28 [.ref 53, .int x1, .int (x2 + (1 : Int32)), .null, .null, .null] [] σ13 (ob_qI Q)))))))))))))) : ob_RT shp E oX9_drift 28 [.ref 53, .int x1, .int x2, .null, .null, .null] [] σ (ob_qI Q) := by
  refine ob_iload_n d_X9_drift_28 rfl ?_
  refine ob_iload_n d_X9_drift_29 rfl ?_
  refine ob_icmp_ge (tgt := 91) d_X9_drift_30 rfl (fun cc => ?_) (fun cc => ?_)
  · have k := k.1 cc
    refine ob_aload_n d_X9_drift_91 rfl ?_
    refine ob_getI d_X9_drift_92 fl_X9_118 sh_53 rfl (by decide) ?_
    exact ob_iret d_X9_drift_95 rfl ⟨_, rfl, k⟩
  · have k := k.2 cc
    refine ob_aload_n d_X9_drift_33 rfl ?_
    refine ob_getI d_X9_drift_34 fl_X9_115 sh_53 rfl (by decide) ?_
    refine ob_if_le (tgt := 81) d_X9_drift_37 rfl (fun cc => ?_) (fun cc => ?_)
    · have k := k.1 cc
      refine ob_aload_n d_X9_drift_81 rfl ?_
      refine ob_callV [] (z := oX9_dayNow) (st := []) d_X9_drift_82 lk_X9_268 mv_X9_dayNow rfl sh_53 cl_9 rfl (Nat.le_of_ble_eq_true rfl) rfl k (ob_kV fun σ1 k => ?_)
      refine ob_iinc (ls' := [.ref 53, .int x1, .int (x2 + (1 : Int32)), .null, .null, .null]) (v := 1) d_X9_drift_85 rfl ci_1 (Nat.le_of_ble_eq_true rfl) rfl ?_
      refine ob_goto (tgt := 28) d_X9_drift_88 rfl ?_
      exact k
    · have k := k.2 cc
      refine ob_aload_n d_X9_drift_40 rfl ?_
      refine ob_iconst (v := 4) d_X9_drift_41 ci_4 ?_
      refine ob_callV [.int (4 : Int32)] (z := oX9_draw) (st := []) d_X9_drift_42 lk_X9_336 mv_X9_draw rfl sh_53 cl_9 rfl (Nat.le_of_ble_eq_true rfl) rfl k (ob_kI fun v3 σ2 k => ?_)
      refine ob_if_ne (tgt := 81) d_X9_drift_45 rfl (fun cc => ?_) (fun cc => ?_)
      · have k := k.1 cc
        refine ob_aload_n d_X9_drift_81 rfl ?_
        refine ob_callV [] (z := oX9_dayNow) (st := []) d_X9_drift_82 lk_X9_268 mv_X9_dayNow rfl sh_53 cl_9 rfl (Nat.le_of_ble_eq_true rfl) rfl k (ob_kV fun σ4 k => ?_)
        refine ob_iinc (ls' := [.ref 53, .int x1, .int (x2 + (1 : Int32)), .null, .null, .null]) (v := 1) d_X9_drift_85 rfl ci_1 (Nat.le_of_ble_eq_true rfl) rfl ?_
        refine ob_goto (tgt := 28) d_X9_drift_88 rfl ?_
        exact k
      · have k := k.2 cc
        refine ob_aload_n d_X9_drift_48 rfl ?_
        refine ob_aload_n d_X9_drift_49 rfl ?_
        refine ob_getI d_X9_drift_50 fl_X9_115 sh_53 rfl (by decide) ?_
        refine ob_callV [.int (σ2.1 53 4)] (z := oX9_draw) (st := []) d_X9_drift_53 lk_X9_336 mv_X9_draw rfl sh_53 cl_9 rfl (Nat.le_of_ble_eq_true rfl) rfl k (ob_kI fun v6 σ5 k => ?_)
        refine ob_istore_n (ls' := [.ref 53, .int x1, .int x2, .int v6, .null, .null]) d_X9_drift_56 (Nat.le_of_ble_eq_true rfl) rfl ?_
        refine ob_aload_n d_X9_drift_57 rfl ?_
        refine ob_aload_n d_X9_drift_58 rfl ?_
        refine ob_getI d_X9_drift_59 fl_X9_108 sh_53 rfl (by decide) ?_
        refine ob_callV [.int (σ5.1 53 1)] (z := oX9_draw) (st := []) d_X9_drift_62 lk_X9_336 mv_X9_draw rfl sh_53 cl_9 rfl (Nat.le_of_ble_eq_true rfl) rfl k (ob_kI fun v8 σ7 k => ?_)
        refine ob_istore (ls' := [.ref 53, .int x1, .int x2, .int v6, .int v8, .null]) d_X9_drift_65 (Nat.le_of_ble_eq_true rfl) rfl ?_
        refine ob_aload_n d_X9_drift_67 rfl ?_
        refine ob_iload_n d_X9_drift_68 rfl ?_
        refine ob_iload d_X9_drift_69 rfl ?_
        refine ob_aload_n d_X9_drift_71 rfl ?_
        refine ob_iload_n d_X9_drift_72 rfl ?_
        refine ob_callV [.int v6] (z := oX9_seasonOf) (st := [.int v8, .int v6, .ref 53]) d_X9_drift_73 lk_X9_254 mv_X9_seasonOf rfl sh_53 cl_9 rfl (Nat.le_of_ble_eq_true rfl) rfl k (ob_kI fun v10 σ9 k => ?_)
        refine ob_callV [.int v6, .int v8, .int v10] (z := oX9_sell) (st := []) d_X9_drift_76 lk_X9_339 mv_X9_sell rfl sh_53 cl_9 rfl (Nat.le_of_ble_eq_true rfl) rfl k (ob_kI fun v12 σ11 k => ?_)
        refine ob_istore (ls' := [.ref 53, .int x1, .int x2, .int v6, .int v8, .int v12]) d_X9_drift_79 (Nat.le_of_ble_eq_true rfl) rfl ?_
        refine ob_aload_n d_X9_drift_81 rfl ?_
        refine ob_callV [] (z := oX9_dayNow) (st := []) d_X9_drift_82 lk_X9_268 mv_X9_dayNow rfl sh_53 cl_9 rfl (Nat.le_of_ble_eq_true rfl) rfl k (ob_kV fun σ13 k => ?_)
        refine ob_iinc (ls' := [.ref 53, .int x1, .int (x2 + (1 : Int32)), .int v6, .int v8, .int v12]) (v := 1) d_X9_drift_85 rfl ci_1 (Nat.le_of_ble_eq_true rfl) rfl ?_
        refine ob_goto (tgt := 28) d_X9_drift_88 rfl ?_
        refine ob_drop 3 (ls' := [.ref 53, .int x1, .int (x2 + (1 : Int32)), .null, .int v8, .int v12]) rfl ?_
        refine ob_drop 4 (ls' := [.ref 53, .int x1, .int (x2 + (1 : Int32)), .null, .null, .int v12]) rfl ?_
        refine ob_drop 5 (ls' := [.ref 53, .int x1, .int (x2 + (1 : Int32)), .null, .null, .null]) rfl ?_
        exact k
theorem d_X9_seed_0 : decode oX9_seed.2.1 0 = .ok (.iload_n 1, 1) := by decide +kernel
theorem d_X9_seed_1 : decode oX9_seed.2.1 1 = .ok (.ifCond .ge 6, 3) := by decide +kernel
theorem d_X9_seed_4 : decode oX9_seed.2.1 4 = .ok (.ldc 123, 2) := by decide +kernel
theorem d_X9_seed_6 : decode oX9_seed.2.1 6 = .ok (.ireturn, 1) := by decide +kernel
theorem d_X9_seed_7 : decode oX9_seed.2.1 7 = .ok (.aload_n 0, 1) := by decide +kernel
theorem d_X9_seed_8 : decode oX9_seed.2.1 8 = .ok (.getfield 326, 3) := by decide +kernel
theorem d_X9_seed_11 : decode oX9_seed.2.1 11 = .ok (.istore_n 2, 1) := by decide +kernel
theorem d_X9_seed_12 : decode oX9_seed.2.1 12 = .ok (.aload_n 0, 1) := by decide +kernel
theorem d_X9_seed_13 : decode oX9_seed.2.1 13 = .ok (.iload_n 1, 1) := by decide +kernel
theorem d_X9_seed_14 : decode oX9_seed.2.1 14 = .ok (.putfield 326, 3) := by decide +kernel
theorem d_X9_seed_17 : decode oX9_seed.2.1 17 = .ok (.iload_n 2, 1) := by decide +kernel
theorem d_X9_seed_18 : decode oX9_seed.2.1 18 = .ok (.ireturn, 1) := by decide +kernel
theorem b_X9_seed_0 {E : ob_E} {σ : ob_Mem} {Q : Int32 → ob_Mem → Prop} {x1 : Int32} (k : ((0 ≤ x1 → Q (σ.1 53 16) (ob_wI σ 53 16 x1)) ∧ (¬ 0 ≤ x1 → Q (-1000000002 : Int32) σ))) : ob_RT shp E oX9_seed 0 [.ref 53, .int x1, .null] [] σ (ob_qI Q) := by
  refine ob_iload_n d_X9_seed_0 rfl ?_
  refine ob_if_ge (tgt := 7) d_X9_seed_1 rfl (fun cc => ?_) (fun cc => ?_)
  · have k := k.1 cc
    refine ob_aload_n d_X9_seed_7 rfl ?_
    refine ob_getI d_X9_seed_8 fl_X9_326 sh_53 rfl (by decide) ?_
    refine ob_istore_n (ls' := [.ref 53, .int x1, .int (σ.1 53 16)]) d_X9_seed_11 (Nat.le_of_ble_eq_true rfl) rfl ?_
    refine ob_aload_n d_X9_seed_12 rfl ?_
    refine ob_iload_n d_X9_seed_13 rfl ?_
    refine ob_putI d_X9_seed_14 fp_X9_326 sh_53 rfl rfl ?_
    refine ob_iload_n d_X9_seed_17 rfl ?_
    exact ob_iret d_X9_seed_18 rfl ⟨_, rfl, k⟩
  · have k := k.2 cc
    refine ob_ldc (v := -1000000002) d_X9_seed_4 k_X9_123 ?_
    exact ob_iret d_X9_seed_6 rfl ⟨_, rfl, k⟩
theorem d_X9_keep_0 : decode oX9_keep.2.1 0 = .ok (.iload_n 1, 1) := by decide +kernel
theorem d_X9_keep_1 : decode oX9_keep.2.1 1 = .ok (.i2l, 1) := by decide +kernel
theorem d_X9_keep_2 : decode oX9_keep.2.1 2 = .ok (.lconst 0, 1) := by decide +kernel
theorem d_X9_keep_3 : decode oX9_keep.2.1 3 = .ok (.lconst 1, 1) := by decide +kernel
theorem d_X9_keep_4 : decode oX9_keep.2.1 4 = .ok (.invokestatic 111, 3) := by decide +kernel
theorem d_X9_keep_7 : decode oX9_keep.2.1 7 = .ok (.ifCond .ne 6, 3) := by decide +kernel
theorem d_X9_keep_10 : decode oX9_keep.2.1 10 = .ok (.ldc 241, 2) := by decide +kernel
theorem d_X9_keep_12 : decode oX9_keep.2.1 12 = .ok (.ireturn, 1) := by decide +kernel
theorem d_X9_keep_13 : decode oX9_keep.2.1 13 = .ok (.bipush 50, 2) := by decide +kernel
theorem d_X9_keep_15 : decode oX9_keep.2.1 15 = .ok (.iload_n 1, 1) := by decide +kernel
theorem d_X9_keep_16 : decode oX9_keep.2.1 16 = .ok (.imul, 1) := by decide +kernel
theorem d_X9_keep_17 : decode oX9_keep.2.1 17 = .ok (.istore_n 2, 1) := by decide +kernel
theorem d_X9_keep_18 : decode oX9_keep.2.1 18 = .ok (.iconst 0, 1) := by decide +kernel
theorem d_X9_keep_19 : decode oX9_keep.2.1 19 = .ok (.istore_n 3, 1) := by decide +kernel
theorem d_X9_keep_20 : decode oX9_keep.2.1 20 = .ok (.iload_n 3, 1) := by decide +kernel
theorem d_X9_keep_21 : decode oX9_keep.2.1 21 = .ok (.bipush 6, 2) := by decide +kernel
theorem d_X9_keep_23 : decode oX9_keep.2.1 23 = .ok (.if_icmp .ge 65, 3) := by decide +kernel
theorem d_X9_keep_26 : decode oX9_keep.2.1 26 = .ok (.aload_n 0, 1) := by decide +kernel
theorem d_X9_keep_27 : decode oX9_keep.2.1 27 = .ok (.getfield 102, 3) := by decide +kernel
theorem d_X9_keep_30 : decode oX9_keep.2.1 30 = .ok (.iload_n 2, 1) := by decide +kernel
theorem d_X9_keep_31 : decode oX9_keep.2.1 31 = .ok (.iload_n 3, 1) := by decide +kernel
theorem d_X9_keep_32 : decode oX9_keep.2.1 32 = .ok (.iadd, 1) := by decide +kernel
theorem d_X9_keep_33 : decode oX9_keep.2.1 33 = .ok (.aload_n 0, 1) := by decide +kernel
theorem d_X9_keep_34 : decode oX9_keep.2.1 34 = .ok (.getfield 32, 3) := by decide +kernel
theorem d_X9_keep_37 : decode oX9_keep.2.1 37 = .ok (.iload_n 3, 1) := by decide +kernel
theorem d_X9_keep_38 : decode oX9_keep.2.1 38 = .ok (.iaload, 1) := by decide +kernel
theorem d_X9_keep_39 : decode oX9_keep.2.1 39 = .ok (.iastore, 1) := by decide +kernel
theorem d_X9_keep_40 : decode oX9_keep.2.1 40 = .ok (.aload_n 0, 1) := by decide +kernel
theorem d_X9_keep_41 : decode oX9_keep.2.1 41 = .ok (.getfield 102, 3) := by decide +kernel
theorem d_X9_keep_44 : decode oX9_keep.2.1 44 = .ok (.iload_n 2, 1) := by decide +kernel
theorem d_X9_keep_45 : decode oX9_keep.2.1 45 = .ok (.bipush 6, 2) := by decide +kernel
theorem d_X9_keep_47 : decode oX9_keep.2.1 47 = .ok (.iadd, 1) := by decide +kernel
theorem d_X9_keep_48 : decode oX9_keep.2.1 48 = .ok (.iload_n 3, 1) := by decide +kernel
theorem d_X9_keep_49 : decode oX9_keep.2.1 49 = .ok (.iadd, 1) := by decide +kernel
theorem d_X9_keep_50 : decode oX9_keep.2.1 50 = .ok (.aload_n 0, 1) := by decide +kernel
theorem d_X9_keep_51 : decode oX9_keep.2.1 51 = .ok (.getfield 35, 3) := by decide +kernel
theorem d_X9_keep_54 : decode oX9_keep.2.1 54 = .ok (.iload_n 3, 1) := by decide +kernel
theorem d_X9_keep_55 : decode oX9_keep.2.1 55 = .ok (.iaload, 1) := by decide +kernel
theorem d_X9_keep_56 : decode oX9_keep.2.1 56 = .ok (.iastore, 1) := by decide +kernel
theorem d_X9_keep_57 : decode oX9_keep.2.1 57 = .ok (.aload_n 0, 1) := by decide +kernel
theorem d_X9_keep_58 : decode oX9_keep.2.1 58 = .ok (.getfield 102, 3) := by decide +kernel
theorem d_X9_keep_61 : decode oX9_keep.2.1 61 = .ok (.iload_n 2, 1) := by decide +kernel
theorem d_X9_keep_62 : decode oX9_keep.2.1 62 = .ok (.bipush 12, 2) := by decide +kernel
theorem d_X9_keep_64 : decode oX9_keep.2.1 64 = .ok (.iadd, 1) := by decide +kernel
theorem d_X9_keep_65 : decode oX9_keep.2.1 65 = .ok (.iload_n 3, 1) := by decide +kernel
theorem d_X9_keep_66 : decode oX9_keep.2.1 66 = .ok (.iadd, 1) := by decide +kernel
theorem d_X9_keep_67 : decode oX9_keep.2.1 67 = .ok (.aload_n 0, 1) := by decide +kernel
theorem d_X9_keep_68 : decode oX9_keep.2.1 68 = .ok (.getfield 38, 3) := by decide +kernel
theorem d_X9_keep_71 : decode oX9_keep.2.1 71 = .ok (.iload_n 3, 1) := by decide +kernel
theorem d_X9_keep_72 : decode oX9_keep.2.1 72 = .ok (.baload, 1) := by decide +kernel
theorem d_X9_keep_73 : decode oX9_keep.2.1 73 = .ok (.ifCond .eq 7, 3) := by decide +kernel
theorem d_X9_keep_76 : decode oX9_keep.2.1 76 = .ok (.iconst 1, 1) := by decide +kernel
theorem d_X9_keep_77 : decode oX9_keep.2.1 77 = .ok (.goto 4, 3) := by decide +kernel
theorem d_X9_keep_80 : decode oX9_keep.2.1 80 = .ok (.iconst 0, 1) := by decide +kernel
theorem d_X9_keep_81 : decode oX9_keep.2.1 81 = .ok (.iastore, 1) := by decide +kernel
theorem d_X9_keep_82 : decode oX9_keep.2.1 82 = .ok (.iinc 3 1, 3) := by decide +kernel
theorem d_X9_keep_85 : decode oX9_keep.2.1 85 = .ok (.goto (-65), 3) := by decide +kernel
theorem d_X9_keep_88 : decode oX9_keep.2.1 88 = .ok (.iconst 0, 1) := by decide +kernel
theorem d_X9_keep_89 : decode oX9_keep.2.1 89 = .ok (.istore_n 3, 1) := by decide +kernel
theorem d_X9_keep_90 : decode oX9_keep.2.1 90 = .ok (.iload_n 3, 1) := by decide +kernel
theorem d_X9_keep_91 : decode oX9_keep.2.1 91 = .ok (.bipush 8, 2) := by decide +kernel
theorem d_X9_keep_93 : decode oX9_keep.2.1 93 = .ok (.if_icmp .ge 60, 3) := by decide +kernel
theorem d_X9_keep_96 : decode oX9_keep.2.1 96 = .ok (.aload_n 0, 1) := by decide +kernel
theorem d_X9_keep_97 : decode oX9_keep.2.1 97 = .ok (.getfield 102, 3) := by decide +kernel
theorem d_X9_keep_100 : decode oX9_keep.2.1 100 = .ok (.iload_n 2, 1) := by decide +kernel
theorem d_X9_keep_101 : decode oX9_keep.2.1 101 = .ok (.bipush 18, 2) := by decide +kernel
theorem d_X9_keep_103 : decode oX9_keep.2.1 103 = .ok (.iadd, 1) := by decide +kernel
theorem d_X9_keep_104 : decode oX9_keep.2.1 104 = .ok (.iload_n 3, 1) := by decide +kernel
theorem d_X9_keep_105 : decode oX9_keep.2.1 105 = .ok (.iadd, 1) := by decide +kernel
theorem d_X9_keep_106 : decode oX9_keep.2.1 106 = .ok (.aload_n 0, 1) := by decide +kernel
theorem d_X9_keep_107 : decode oX9_keep.2.1 107 = .ok (.getfield 42, 3) := by decide +kernel
theorem d_X9_keep_110 : decode oX9_keep.2.1 110 = .ok (.iload_n 3, 1) := by decide +kernel
theorem d_X9_keep_111 : decode oX9_keep.2.1 111 = .ok (.iaload, 1) := by decide +kernel
theorem d_X9_keep_112 : decode oX9_keep.2.1 112 = .ok (.iastore, 1) := by decide +kernel
theorem d_X9_keep_113 : decode oX9_keep.2.1 113 = .ok (.aload_n 0, 1) := by decide +kernel
theorem d_X9_keep_114 : decode oX9_keep.2.1 114 = .ok (.getfield 102, 3) := by decide +kernel
theorem d_X9_keep_117 : decode oX9_keep.2.1 117 = .ok (.iload_n 2, 1) := by decide +kernel
theorem d_X9_keep_118 : decode oX9_keep.2.1 118 = .ok (.bipush 26, 2) := by decide +kernel
theorem d_X9_keep_120 : decode oX9_keep.2.1 120 = .ok (.iadd, 1) := by decide +kernel
theorem d_X9_keep_121 : decode oX9_keep.2.1 121 = .ok (.iload_n 3, 1) := by decide +kernel
theorem d_X9_keep_122 : decode oX9_keep.2.1 122 = .ok (.iadd, 1) := by decide +kernel
theorem d_X9_keep_123 : decode oX9_keep.2.1 123 = .ok (.aload_n 0, 1) := by decide +kernel
theorem d_X9_keep_124 : decode oX9_keep.2.1 124 = .ok (.getfield 45, 3) := by decide +kernel
theorem d_X9_keep_127 : decode oX9_keep.2.1 127 = .ok (.iload_n 3, 1) := by decide +kernel
theorem d_X9_keep_128 : decode oX9_keep.2.1 128 = .ok (.iaload, 1) := by decide +kernel
theorem d_X9_keep_129 : decode oX9_keep.2.1 129 = .ok (.iastore, 1) := by decide +kernel
theorem d_X9_keep_130 : decode oX9_keep.2.1 130 = .ok (.aload_n 0, 1) := by decide +kernel
theorem d_X9_keep_131 : decode oX9_keep.2.1 131 = .ok (.getfield 102, 3) := by decide +kernel
theorem d_X9_keep_134 : decode oX9_keep.2.1 134 = .ok (.iload_n 2, 1) := by decide +kernel
theorem d_X9_keep_135 : decode oX9_keep.2.1 135 = .ok (.bipush 34, 2) := by decide +kernel
theorem d_X9_keep_137 : decode oX9_keep.2.1 137 = .ok (.iadd, 1) := by decide +kernel
theorem d_X9_keep_138 : decode oX9_keep.2.1 138 = .ok (.iload_n 3, 1) := by decide +kernel
theorem d_X9_keep_139 : decode oX9_keep.2.1 139 = .ok (.iadd, 1) := by decide +kernel
theorem d_X9_keep_140 : decode oX9_keep.2.1 140 = .ok (.aload_n 0, 1) := by decide +kernel
theorem d_X9_keep_141 : decode oX9_keep.2.1 141 = .ok (.getfield 48, 3) := by decide +kernel
theorem d_X9_keep_144 : decode oX9_keep.2.1 144 = .ok (.iload_n 3, 1) := by decide +kernel
theorem d_X9_keep_145 : decode oX9_keep.2.1 145 = .ok (.iaload, 1) := by decide +kernel
theorem d_X9_keep_146 : decode oX9_keep.2.1 146 = .ok (.iastore, 1) := by decide +kernel
theorem d_X9_keep_147 : decode oX9_keep.2.1 147 = .ok (.iinc 3 1, 3) := by decide +kernel
theorem d_X9_keep_150 : decode oX9_keep.2.1 150 = .ok (.goto (-60), 3) := by decide +kernel
theorem d_X9_keep_153 : decode oX9_keep.2.1 153 = .ok (.aload_n 0, 1) := by decide +kernel
theorem d_X9_keep_154 : decode oX9_keep.2.1 154 = .ok (.getfield 102, 3) := by decide +kernel
theorem d_X9_keep_157 : decode oX9_keep.2.1 157 = .ok (.iload_n 2, 1) := by decide +kernel
theorem d_X9_keep_158 : decode oX9_keep.2.1 158 = .ok (.bipush 42, 2) := by decide +kernel
theorem d_X9_keep_160 : decode oX9_keep.2.1 160 = .ok (.iadd, 1) := by decide +kernel
theorem d_X9_keep_161 : decode oX9_keep.2.1 161 = .ok (.aload_n 0, 1) := by decide +kernel
theorem d_X9_keep_162 : decode oX9_keep.2.1 162 = .ok (.getfield 118, 3) := by decide +kernel
theorem d_X9_keep_165 : decode oX9_keep.2.1 165 = .ok (.iastore, 1) := by decide +kernel
theorem d_X9_keep_166 : decode oX9_keep.2.1 166 = .ok (.aload_n 0, 1) := by decide +kernel
theorem d_X9_keep_167 : decode oX9_keep.2.1 167 = .ok (.getfield 102, 3) := by decide +kernel
theorem d_X9_keep_170 : decode oX9_keep.2.1 170 = .ok (.iload_n 2, 1) := by decide +kernel
theorem d_X9_keep_171 : decode oX9_keep.2.1 171 = .ok (.bipush 43, 2) := by decide +kernel
theorem d_X9_keep_173 : decode oX9_keep.2.1 173 = .ok (.iadd, 1) := by decide +kernel
theorem d_X9_keep_174 : decode oX9_keep.2.1 174 = .ok (.aload_n 0, 1) := by decide +kernel
theorem d_X9_keep_175 : decode oX9_keep.2.1 175 = .ok (.getfield 326, 3) := by decide +kernel
theorem d_X9_keep_178 : decode oX9_keep.2.1 178 = .ok (.iastore, 1) := by decide +kernel
theorem d_X9_keep_179 : decode oX9_keep.2.1 179 = .ok (.aload_n 0, 1) := by decide +kernel
theorem d_X9_keep_180 : decode oX9_keep.2.1 180 = .ok (.getfield 105, 3) := by decide +kernel
theorem d_X9_keep_183 : decode oX9_keep.2.1 183 = .ok (.iload_n 1, 1) := by decide +kernel
theorem d_X9_keep_184 : decode oX9_keep.2.1 184 = .ok (.iconst 1, 1) := by decide +kernel
theorem d_X9_keep_185 : decode oX9_keep.2.1 185 = .ok (.bastore, 1) := by decide +kernel
theorem d_X9_keep_186 : decode oX9_keep.2.1 186 = .ok (.iconst 1, 1) := by decide +kernel
theorem d_X9_keep_187 : decode oX9_keep.2.1 187 = .ok (.ireturn, 1) := by decide +kernel
theorem b_X9_keep_0 {E : ob_E} {σ : ob_Mem} {Q : Int32 → ob_Mem → Prop} {x1 : Int32} (k : ob_RM shp E oX9_in [.long (x1).toInt64, .long (0 : Int64), .long (1 : Int64)] σ (ob_qI fun v2 σ1 => ((¬ v2 = 0 → ob_RT shp E oX9_keep 20 [.ref 53, .int x1, .int ((50 : Int32) * x1), .int (0 : Int32)] [] σ1 (ob_qI Q)) ∧ (v2 = 0 → Q (-1000000001 : Int32) σ1)))) : ob_RT shp E oX9_keep 0 [.ref 53, .int x1, .null, .null] [] σ (ob_qI Q) := by
  refine ob_iload_n d_X9_keep_0 rfl ?_
  refine ob_i2l d_X9_keep_1 ?_
  refine ob_lconst (v := 0) d_X9_keep_2 rfl ?_
  refine ob_lconst (v := 1) d_X9_keep_3 rfl ?_
  refine ob_callS [.long (x1).toInt64, .long (0 : Int64), .long (1 : Int64)] (z := oX9_in) (st := []) d_X9_keep_4 lk_X9_111 ms_X9_in rfl (Nat.le_of_ble_eq_true rfl) rfl k (ob_kI fun v2 σ1 k => ?_)
  refine ob_if_ne (tgt := 13) d_X9_keep_7 rfl (fun cc => ?_) (fun cc => ?_)
  · have k := k.1 cc
    refine ob_bipush (v := 50) d_X9_keep_13 cb_50 ?_
    refine ob_iload_n d_X9_keep_15 rfl ?_
    refine ob_imul d_X9_keep_16 ?_
    refine ob_istore_n (ls' := [.ref 53, .int x1, .int ((50 : Int32) * x1), .null]) d_X9_keep_17 (Nat.le_of_ble_eq_true rfl) rfl ?_
    refine ob_iconst (v := 0) d_X9_keep_18 ci_0 ?_
    refine ob_istore_n (ls' := [.ref 53, .int x1, .int ((50 : Int32) * x1), .int (0 : Int32)]) d_X9_keep_19 (Nat.le_of_ble_eq_true rfl) rfl ?_
    exact k
  · have k := k.2 cc
    refine ob_ldc (v := -1000000001) d_X9_keep_10 k_X9_241 ?_
    exact ob_iret d_X9_keep_12 rfl ⟨_, rfl, k⟩
theorem b_X9_keep_20 {E : ob_E} {σ : ob_Mem} {Q : Int32 → ob_Mem → Prop} {x1 x2 x3 : Int32} (k : (((6 : Int32) ≤ x3 → ob_RT shp E oX9_keep 90 [.ref 53, .int x1, .int x2, .int (0 : Int32)] [] σ (ob_qI Q)) ∧ (¬ (6 : Int32) ≤ x3 → (vp_in x3 6 ∧ (vp_in (x2 + x3) 100 ∧ (vp_in x3 6 ∧ (vp_in ((x2 + (6 : Int32)) + x3) 100 ∧ (∀ σ1, σ1 = (ob_wI (ob_wI σ 82 ((x2 + x3)).toNatClampNeg (σ.1 60 (x3).toNatClampNeg)) 82 (((x2 + (6 : Int32)) + x3)).toNatClampNeg ((ob_wI σ 82 ((x2 + x3)).toNatClampNeg (σ.1 60 (x3).toNatClampNeg)).1 61 (x3).toNatClampNeg)) → (vp_in x3 6 ∧ (((σ1.1 62 (x3).toNatClampNeg) = 0 → (vp_in ((x2 + (12 : Int32)) + x3) 100 ∧ ob_RT shp E oX9_keep 20 [.ref 53, .int x1, .int x2, .int (x3 + (1 : Int32))] [] (ob_wI σ1 82 (((x2 + (12 : Int32)) + x3)).toNatClampNeg (0 : Int32)) (ob_qI Q))) ∧ (¬ (σ1.1 62 (x3).toNatClampNeg) = 0 → (vp_in ((x2 + (12 : Int32)) + x3) 100 ∧ ob_RT shp E oX9_keep 20 [.ref 53, .int x1, .int x2, .int (x3 + (1 : Int32))] [] (ob_wI σ1 82 (((x2 + (12 : Int32)) + x3)).toNatClampNeg (1 : Int32)) (ob_qI Q))))))))))))) : ob_RT shp E oX9_keep 20 [.ref 53, .int x1, .int x2, .int x3] [] σ (ob_qI Q) := by
  refine ob_iload_n d_X9_keep_20 rfl ?_
  refine ob_bipush (v := 6) d_X9_keep_21 cb_6 ?_
  refine ob_icmp_ge (tgt := 88) d_X9_keep_23 rfl (fun cc => ?_) (fun cc => ?_)
  · have k := k.1 cc
    refine ob_iconst (v := 0) d_X9_keep_88 ci_0 ?_
    refine ob_istore_n (ls' := [.ref 53, .int x1, .int x2, .int (0 : Int32)]) d_X9_keep_89 (Nat.le_of_ble_eq_true rfl) rfl ?_
    exact k
  · have k := k.2 cc
    refine ob_aload_n d_X9_keep_26 rfl ?_
    refine ob_getR d_X9_keep_27 fl_X9_102 sh_53 rfl rfl ?_
    refine ob_iload_n d_X9_keep_30 rfl ?_
    refine ob_iload_n d_X9_keep_31 rfl ?_
    refine ob_iadd d_X9_keep_32 ?_
    refine ob_aload_n d_X9_keep_33 rfl ?_
    refine ob_getR d_X9_keep_34 fl_X9_32 sh_53 rfl rfl ?_
    refine ob_iload_n d_X9_keep_37 rfl ?_
    obtain ⟨hin, k⟩ := k
    refine ob_iald d_X9_keep_38 sh_60 hin ?_
    obtain ⟨hin, k⟩ := k
    refine ob_iast d_X9_keep_39 sh_82 hin ?_
    refine ob_aload_n d_X9_keep_40 rfl ?_
    refine ob_getR d_X9_keep_41 fl_X9_102 sh_53 rfl rfl ?_
    refine ob_iload_n d_X9_keep_44 rfl ?_
    refine ob_bipush (v := 6) d_X9_keep_45 cb_6 ?_
    refine ob_iadd d_X9_keep_47 ?_
    refine ob_iload_n d_X9_keep_48 rfl ?_
    refine ob_iadd d_X9_keep_49 ?_
    refine ob_aload_n d_X9_keep_50 rfl ?_
    refine ob_getR d_X9_keep_51 fl_X9_35 sh_53 rfl rfl ?_
    refine ob_iload_n d_X9_keep_54 rfl ?_
    obtain ⟨hin, k⟩ := k
    refine ob_iald d_X9_keep_55 sh_61 hin ?_
    obtain ⟨hin, k⟩ := k
    refine ob_iast d_X9_keep_56 sh_82 hin ?_
    refine ob_nmM (fun σ1 hσ1 => ?_)
    have k := k σ1 hσ1
    refine ob_aload_n d_X9_keep_57 rfl ?_
    refine ob_getR d_X9_keep_58 fl_X9_102 sh_53 rfl rfl ?_
    refine ob_iload_n d_X9_keep_61 rfl ?_
    refine ob_bipush (v := 12) d_X9_keep_62 cb_12 ?_
    refine ob_iadd d_X9_keep_64 ?_
    refine ob_iload_n d_X9_keep_65 rfl ?_
    refine ob_iadd d_X9_keep_66 ?_
    refine ob_aload_n d_X9_keep_67 rfl ?_
    refine ob_getR d_X9_keep_68 fl_X9_38 sh_53 rfl rfl ?_
    refine ob_iload_n d_X9_keep_71 rfl ?_
    obtain ⟨hin, k⟩ := k
    refine ob_zald d_X9_keep_72 sh_62 hin ?_
    refine ob_if_eq (tgt := 80) d_X9_keep_73 rfl (fun cc => ?_) (fun cc => ?_)
    · have k := k.1 cc
      refine ob_iconst (v := 0) d_X9_keep_80 ci_0 ?_
      obtain ⟨hin, k⟩ := k
      refine ob_iast d_X9_keep_81 sh_82 hin ?_
      refine ob_iinc (ls' := [.ref 53, .int x1, .int x2, .int (x3 + (1 : Int32))]) (v := 1) d_X9_keep_82 rfl ci_1 (Nat.le_of_ble_eq_true rfl) rfl ?_
      refine ob_goto (tgt := 20) d_X9_keep_85 rfl ?_
      exact k
    · have k := k.2 cc
      refine ob_iconst (v := 1) d_X9_keep_76 ci_1 ?_
      refine ob_goto (tgt := 81) d_X9_keep_77 rfl ?_
      obtain ⟨hin, k⟩ := k
      refine ob_iast d_X9_keep_81 sh_82 hin ?_
      refine ob_iinc (ls' := [.ref 53, .int x1, .int x2, .int (x3 + (1 : Int32))]) (v := 1) d_X9_keep_82 rfl ci_1 (Nat.le_of_ble_eq_true rfl) rfl ?_
      refine ob_goto (tgt := 20) d_X9_keep_85 rfl ?_
      exact k
theorem b_X9_keep_90 {E : ob_E} {σ : ob_Mem} {Q : Int32 → ob_Mem → Prop} {x1 x2 x3 : Int32} (k : (((8 : Int32) ≤ x3 → (vp_in (x2 + (42 : Int32)) 100 ∧ (vp_in (x2 + (43 : Int32)) 100 ∧ (∀ σ1, σ1 = (ob_wI (ob_wI σ 82 ((x2 + (42 : Int32))).toNatClampNeg (σ.1 53 9)) 82 ((x2 + (43 : Int32))).toNatClampNeg ((ob_wI σ 82 ((x2 + (42 : Int32))).toNatClampNeg (σ.1 53 9)).1 53 16)) → (vp_in x1 2 ∧ Q (1 : Int32) (ob_wI σ1 83 (x1).toNatClampNeg (vp_nar .boolean (1 : Int32)))))))) ∧ (¬ (8 : Int32) ≤ x3 → (vp_in x3 8 ∧ (vp_in ((x2 + (18 : Int32)) + x3) 100 ∧ (∀ σ2, σ2 = (ob_wI σ 82 (((x2 + (18 : Int32)) + x3)).toNatClampNeg (σ.1 63 (x3).toNatClampNeg)) → (vp_in x3 8 ∧ (vp_in ((x2 + (26 : Int32)) + x3) 100 ∧ (∀ σ3, σ3 = (ob_wI σ2 82 (((x2 + (26 : Int32)) + x3)).toNatClampNeg (σ2.1 64 (x3).toNatClampNeg)) → (vp_in x3 8 ∧ (vp_in ((x2 + (34 : Int32)) + x3) 100 ∧ (∀ σ4, σ4 = (ob_wI σ3 82 (((x2 + (34 : Int32)) + x3)).toNatClampNeg (σ3.1 65 (x3).toNatClampNeg)) → ob_RT shp E oX9_keep 90 [.ref 53, .int x1, .int x2, .int (x3 + (1 : Int32))] [] σ4 (ob_qI Q))))))))))))) : ob_RT shp E oX9_keep 90 [.ref 53, .int x1, .int x2, .int x3] [] σ (ob_qI Q) := by
  refine ob_iload_n d_X9_keep_90 rfl ?_
  refine ob_bipush (v := 8) d_X9_keep_91 cb_8 ?_
  refine ob_icmp_ge (tgt := 153) d_X9_keep_93 rfl (fun cc => ?_) (fun cc => ?_)
  · have k := k.1 cc
    refine ob_aload_n d_X9_keep_153 rfl ?_
    refine ob_getR d_X9_keep_154 fl_X9_102 sh_53 rfl rfl ?_
    refine ob_iload_n d_X9_keep_157 rfl ?_
    refine ob_bipush (v := 42) d_X9_keep_158 cb_42 ?_
    refine ob_iadd d_X9_keep_160 ?_
    refine ob_aload_n d_X9_keep_161 rfl ?_
    refine ob_getI d_X9_keep_162 fl_X9_118 sh_53 rfl (by decide) ?_
    obtain ⟨hin, k⟩ := k
    refine ob_iast d_X9_keep_165 sh_82 hin ?_
    refine ob_aload_n d_X9_keep_166 rfl ?_
    refine ob_getR d_X9_keep_167 fl_X9_102 sh_53 rfl rfl ?_
    refine ob_iload_n d_X9_keep_170 rfl ?_
    refine ob_bipush (v := 43) d_X9_keep_171 cb_43 ?_
    refine ob_iadd d_X9_keep_173 ?_
    refine ob_aload_n d_X9_keep_174 rfl ?_
    refine ob_getI d_X9_keep_175 fl_X9_326 sh_53 rfl (by decide) ?_
    obtain ⟨hin, k⟩ := k
    refine ob_iast d_X9_keep_178 sh_82 hin ?_
    refine ob_nmM (fun σ1 hσ1 => ?_)
    have k := k σ1 hσ1
    refine ob_aload_n d_X9_keep_179 rfl ?_
    refine ob_getR d_X9_keep_180 fl_X9_105 sh_53 rfl rfl ?_
    refine ob_iload_n d_X9_keep_183 rfl ?_
    refine ob_iconst (v := 1) d_X9_keep_184 ci_1 ?_
    obtain ⟨hin, k⟩ := k
    refine ob_zast d_X9_keep_185 sh_83 hin ?_
    refine ob_iconst (v := 1) d_X9_keep_186 ci_1 ?_
    exact ob_iret d_X9_keep_187 rfl ⟨_, rfl, k⟩
  · have k := k.2 cc
    refine ob_aload_n d_X9_keep_96 rfl ?_
    refine ob_getR d_X9_keep_97 fl_X9_102 sh_53 rfl rfl ?_
    refine ob_iload_n d_X9_keep_100 rfl ?_
    refine ob_bipush (v := 18) d_X9_keep_101 cb_18 ?_
    refine ob_iadd d_X9_keep_103 ?_
    refine ob_iload_n d_X9_keep_104 rfl ?_
    refine ob_iadd d_X9_keep_105 ?_
    refine ob_aload_n d_X9_keep_106 rfl ?_
    refine ob_getR d_X9_keep_107 fl_X9_42 sh_53 rfl rfl ?_
    refine ob_iload_n d_X9_keep_110 rfl ?_
    obtain ⟨hin, k⟩ := k
    refine ob_iald d_X9_keep_111 sh_63 hin ?_
    obtain ⟨hin, k⟩ := k
    refine ob_iast d_X9_keep_112 sh_82 hin ?_
    refine ob_nmM (fun σ2 hσ2 => ?_)
    have k := k σ2 hσ2
    refine ob_aload_n d_X9_keep_113 rfl ?_
    refine ob_getR d_X9_keep_114 fl_X9_102 sh_53 rfl rfl ?_
    refine ob_iload_n d_X9_keep_117 rfl ?_
    refine ob_bipush (v := 26) d_X9_keep_118 cb_26 ?_
    refine ob_iadd d_X9_keep_120 ?_
    refine ob_iload_n d_X9_keep_121 rfl ?_
    refine ob_iadd d_X9_keep_122 ?_
    refine ob_aload_n d_X9_keep_123 rfl ?_
    refine ob_getR d_X9_keep_124 fl_X9_45 sh_53 rfl rfl ?_
    refine ob_iload_n d_X9_keep_127 rfl ?_
    obtain ⟨hin, k⟩ := k
    refine ob_iald d_X9_keep_128 sh_64 hin ?_
    obtain ⟨hin, k⟩ := k
    refine ob_iast d_X9_keep_129 sh_82 hin ?_
    refine ob_nmM (fun σ3 hσ3 => ?_)
    have k := k σ3 hσ3
    refine ob_aload_n d_X9_keep_130 rfl ?_
    refine ob_getR d_X9_keep_131 fl_X9_102 sh_53 rfl rfl ?_
    refine ob_iload_n d_X9_keep_134 rfl ?_
    refine ob_bipush (v := 34) d_X9_keep_135 cb_34 ?_
    refine ob_iadd d_X9_keep_137 ?_
    refine ob_iload_n d_X9_keep_138 rfl ?_
    refine ob_iadd d_X9_keep_139 ?_
    refine ob_aload_n d_X9_keep_140 rfl ?_
    refine ob_getR d_X9_keep_141 fl_X9_48 sh_53 rfl rfl ?_
    refine ob_iload_n d_X9_keep_144 rfl ?_
    obtain ⟨hin, k⟩ := k
    refine ob_iald d_X9_keep_145 sh_65 hin ?_
    obtain ⟨hin, k⟩ := k
    refine ob_iast d_X9_keep_146 sh_82 hin ?_
    refine ob_nmM (fun σ4 hσ4 => ?_)
    have k := k σ4 hσ4
    refine ob_iinc (ls' := [.ref 53, .int x1, .int x2, .int (x3 + (1 : Int32))]) (v := 1) d_X9_keep_147 rfl ci_1 (Nat.le_of_ble_eq_true rfl) rfl ?_
    refine ob_goto (tgt := 90) d_X9_keep_150 rfl ?_
    exact k
theorem d_X9_goBack_0 : decode oX9_goBack.2.1 0 = .ok (.iload_n 1, 1) := by decide +kernel
theorem d_X9_goBack_1 : decode oX9_goBack.2.1 1 = .ok (.i2l, 1) := by decide +kernel
theorem d_X9_goBack_2 : decode oX9_goBack.2.1 2 = .ok (.lconst 0, 1) := by decide +kernel
theorem d_X9_goBack_3 : decode oX9_goBack.2.1 3 = .ok (.lconst 1, 1) := by decide +kernel
theorem d_X9_goBack_4 : decode oX9_goBack.2.1 4 = .ok (.invokestatic 111, 3) := by decide +kernel
theorem d_X9_goBack_7 : decode oX9_goBack.2.1 7 = .ok (.ifCond .ne 6, 3) := by decide +kernel
theorem d_X9_goBack_10 : decode oX9_goBack.2.1 10 = .ok (.ldc 241, 2) := by decide +kernel
theorem d_X9_goBack_12 : decode oX9_goBack.2.1 12 = .ok (.ireturn, 1) := by decide +kernel
theorem d_X9_goBack_13 : decode oX9_goBack.2.1 13 = .ok (.aload_n 0, 1) := by decide +kernel
theorem d_X9_goBack_14 : decode oX9_goBack.2.1 14 = .ok (.getfield 105, 3) := by decide +kernel
theorem d_X9_goBack_17 : decode oX9_goBack.2.1 17 = .ok (.iload_n 1, 1) := by decide +kernel
theorem d_X9_goBack_18 : decode oX9_goBack.2.1 18 = .ok (.baload, 1) := by decide +kernel
theorem d_X9_goBack_19 : decode oX9_goBack.2.1 19 = .ok (.ifCond .ne 7, 3) := by decide +kernel
theorem d_X9_goBack_22 : decode oX9_goBack.2.1 22 = .ok (.ldc_w 275, 3) := by decide +kernel
theorem d_X9_goBack_25 : decode oX9_goBack.2.1 25 = .ok (.ireturn, 1) := by decide +kernel
theorem d_X9_goBack_26 : decode oX9_goBack.2.1 26 = .ok (.bipush 50, 2) := by decide +kernel
theorem d_X9_goBack_28 : decode oX9_goBack.2.1 28 = .ok (.iload_n 1, 1) := by decide +kernel
theorem d_X9_goBack_29 : decode oX9_goBack.2.1 29 = .ok (.imul, 1) := by decide +kernel
theorem d_X9_goBack_30 : decode oX9_goBack.2.1 30 = .ok (.istore_n 2, 1) := by decide +kernel
theorem d_X9_goBack_31 : decode oX9_goBack.2.1 31 = .ok (.iconst 0, 1) := by decide +kernel
theorem d_X9_goBack_32 : decode oX9_goBack.2.1 32 = .ok (.istore_n 3, 1) := by decide +kernel
theorem d_X9_goBack_33 : decode oX9_goBack.2.1 33 = .ok (.iload_n 3, 1) := by decide +kernel
theorem d_X9_goBack_34 : decode oX9_goBack.2.1 34 = .ok (.bipush 6, 2) := by decide +kernel
theorem d_X9_goBack_36 : decode oX9_goBack.2.1 36 = .ok (.if_icmp .ge 66, 3) := by decide +kernel
theorem d_X9_goBack_39 : decode oX9_goBack.2.1 39 = .ok (.aload_n 0, 1) := by decide +kernel
theorem d_X9_goBack_40 : decode oX9_goBack.2.1 40 = .ok (.getfield 32, 3) := by decide +kernel
theorem d_X9_goBack_43 : decode oX9_goBack.2.1 43 = .ok (.iload_n 3, 1) := by decide +kernel
theorem d_X9_goBack_44 : decode oX9_goBack.2.1 44 = .ok (.aload_n 0, 1) := by decide +kernel
theorem d_X9_goBack_45 : decode oX9_goBack.2.1 45 = .ok (.getfield 102, 3) := by decide +kernel
theorem d_X9_goBack_48 : decode oX9_goBack.2.1 48 = .ok (.iload_n 2, 1) := by decide +kernel
theorem d_X9_goBack_49 : decode oX9_goBack.2.1 49 = .ok (.iload_n 3, 1) := by decide +kernel
theorem d_X9_goBack_50 : decode oX9_goBack.2.1 50 = .ok (.iadd, 1) := by decide +kernel
theorem d_X9_goBack_51 : decode oX9_goBack.2.1 51 = .ok (.iaload, 1) := by decide +kernel
theorem d_X9_goBack_52 : decode oX9_goBack.2.1 52 = .ok (.iastore, 1) := by decide +kernel
theorem d_X9_goBack_53 : decode oX9_goBack.2.1 53 = .ok (.aload_n 0, 1) := by decide +kernel
theorem d_X9_goBack_54 : decode oX9_goBack.2.1 54 = .ok (.getfield 35, 3) := by decide +kernel
theorem d_X9_goBack_57 : decode oX9_goBack.2.1 57 = .ok (.iload_n 3, 1) := by decide +kernel
theorem d_X9_goBack_58 : decode oX9_goBack.2.1 58 = .ok (.aload_n 0, 1) := by decide +kernel
theorem d_X9_goBack_59 : decode oX9_goBack.2.1 59 = .ok (.getfield 102, 3) := by decide +kernel
theorem d_X9_goBack_62 : decode oX9_goBack.2.1 62 = .ok (.iload_n 2, 1) := by decide +kernel
theorem d_X9_goBack_63 : decode oX9_goBack.2.1 63 = .ok (.bipush 6, 2) := by decide +kernel
theorem d_X9_goBack_65 : decode oX9_goBack.2.1 65 = .ok (.iadd, 1) := by decide +kernel
theorem d_X9_goBack_66 : decode oX9_goBack.2.1 66 = .ok (.iload_n 3, 1) := by decide +kernel
theorem d_X9_goBack_67 : decode oX9_goBack.2.1 67 = .ok (.iadd, 1) := by decide +kernel
theorem d_X9_goBack_68 : decode oX9_goBack.2.1 68 = .ok (.iaload, 1) := by decide +kernel
theorem d_X9_goBack_69 : decode oX9_goBack.2.1 69 = .ok (.iastore, 1) := by decide +kernel
theorem d_X9_goBack_70 : decode oX9_goBack.2.1 70 = .ok (.aload_n 0, 1) := by decide +kernel
theorem d_X9_goBack_71 : decode oX9_goBack.2.1 71 = .ok (.getfield 38, 3) := by decide +kernel
theorem d_X9_goBack_74 : decode oX9_goBack.2.1 74 = .ok (.iload_n 3, 1) := by decide +kernel
theorem d_X9_goBack_75 : decode oX9_goBack.2.1 75 = .ok (.aload_n 0, 1) := by decide +kernel
theorem d_X9_goBack_76 : decode oX9_goBack.2.1 76 = .ok (.getfield 102, 3) := by decide +kernel
theorem d_X9_goBack_79 : decode oX9_goBack.2.1 79 = .ok (.iload_n 2, 1) := by decide +kernel
theorem d_X9_goBack_80 : decode oX9_goBack.2.1 80 = .ok (.bipush 12, 2) := by decide +kernel
theorem d_X9_goBack_82 : decode oX9_goBack.2.1 82 = .ok (.iadd, 1) := by decide +kernel
theorem d_X9_goBack_83 : decode oX9_goBack.2.1 83 = .ok (.iload_n 3, 1) := by decide +kernel
theorem d_X9_goBack_84 : decode oX9_goBack.2.1 84 = .ok (.iadd, 1) := by decide +kernel
theorem d_X9_goBack_85 : decode oX9_goBack.2.1 85 = .ok (.iaload, 1) := by decide +kernel
theorem d_X9_goBack_86 : decode oX9_goBack.2.1 86 = .ok (.iconst 1, 1) := by decide +kernel
theorem d_X9_goBack_87 : decode oX9_goBack.2.1 87 = .ok (.if_icmp .ne 7, 3) := by decide +kernel
theorem d_X9_goBack_90 : decode oX9_goBack.2.1 90 = .ok (.iconst 1, 1) := by decide +kernel
theorem d_X9_goBack_91 : decode oX9_goBack.2.1 91 = .ok (.goto 4, 3) := by decide +kernel
theorem d_X9_goBack_94 : decode oX9_goBack.2.1 94 = .ok (.iconst 0, 1) := by decide +kernel
theorem d_X9_goBack_95 : decode oX9_goBack.2.1 95 = .ok (.bastore, 1) := by decide +kernel
theorem d_X9_goBack_96 : decode oX9_goBack.2.1 96 = .ok (.iinc 3 1, 3) := by decide +kernel
theorem d_X9_goBack_99 : decode oX9_goBack.2.1 99 = .ok (.goto (-66), 3) := by decide +kernel
theorem d_X9_goBack_102 : decode oX9_goBack.2.1 102 = .ok (.iconst 0, 1) := by decide +kernel
theorem d_X9_goBack_103 : decode oX9_goBack.2.1 103 = .ok (.istore_n 3, 1) := by decide +kernel
theorem d_X9_goBack_104 : decode oX9_goBack.2.1 104 = .ok (.iload_n 3, 1) := by decide +kernel
theorem d_X9_goBack_105 : decode oX9_goBack.2.1 105 = .ok (.bipush 8, 2) := by decide +kernel
theorem d_X9_goBack_107 : decode oX9_goBack.2.1 107 = .ok (.if_icmp .ge 60, 3) := by decide +kernel
theorem d_X9_goBack_110 : decode oX9_goBack.2.1 110 = .ok (.aload_n 0, 1) := by decide +kernel
theorem d_X9_goBack_111 : decode oX9_goBack.2.1 111 = .ok (.getfield 42, 3) := by decide +kernel
theorem d_X9_goBack_114 : decode oX9_goBack.2.1 114 = .ok (.iload_n 3, 1) := by decide +kernel
theorem d_X9_goBack_115 : decode oX9_goBack.2.1 115 = .ok (.aload_n 0, 1) := by decide +kernel
theorem d_X9_goBack_116 : decode oX9_goBack.2.1 116 = .ok (.getfield 102, 3) := by decide +kernel
theorem d_X9_goBack_119 : decode oX9_goBack.2.1 119 = .ok (.iload_n 2, 1) := by decide +kernel
theorem d_X9_goBack_120 : decode oX9_goBack.2.1 120 = .ok (.bipush 18, 2) := by decide +kernel
theorem d_X9_goBack_122 : decode oX9_goBack.2.1 122 = .ok (.iadd, 1) := by decide +kernel
theorem d_X9_goBack_123 : decode oX9_goBack.2.1 123 = .ok (.iload_n 3, 1) := by decide +kernel
theorem d_X9_goBack_124 : decode oX9_goBack.2.1 124 = .ok (.iadd, 1) := by decide +kernel
theorem d_X9_goBack_125 : decode oX9_goBack.2.1 125 = .ok (.iaload, 1) := by decide +kernel
theorem d_X9_goBack_126 : decode oX9_goBack.2.1 126 = .ok (.iastore, 1) := by decide +kernel
theorem d_X9_goBack_127 : decode oX9_goBack.2.1 127 = .ok (.aload_n 0, 1) := by decide +kernel
theorem d_X9_goBack_128 : decode oX9_goBack.2.1 128 = .ok (.getfield 45, 3) := by decide +kernel
theorem d_X9_goBack_131 : decode oX9_goBack.2.1 131 = .ok (.iload_n 3, 1) := by decide +kernel
theorem d_X9_goBack_132 : decode oX9_goBack.2.1 132 = .ok (.aload_n 0, 1) := by decide +kernel
theorem d_X9_goBack_133 : decode oX9_goBack.2.1 133 = .ok (.getfield 102, 3) := by decide +kernel
theorem d_X9_goBack_136 : decode oX9_goBack.2.1 136 = .ok (.iload_n 2, 1) := by decide +kernel
theorem d_X9_goBack_137 : decode oX9_goBack.2.1 137 = .ok (.bipush 26, 2) := by decide +kernel
theorem d_X9_goBack_139 : decode oX9_goBack.2.1 139 = .ok (.iadd, 1) := by decide +kernel
theorem d_X9_goBack_140 : decode oX9_goBack.2.1 140 = .ok (.iload_n 3, 1) := by decide +kernel
theorem d_X9_goBack_141 : decode oX9_goBack.2.1 141 = .ok (.iadd, 1) := by decide +kernel
theorem d_X9_goBack_142 : decode oX9_goBack.2.1 142 = .ok (.iaload, 1) := by decide +kernel
theorem d_X9_goBack_143 : decode oX9_goBack.2.1 143 = .ok (.iastore, 1) := by decide +kernel
theorem d_X9_goBack_144 : decode oX9_goBack.2.1 144 = .ok (.aload_n 0, 1) := by decide +kernel
theorem d_X9_goBack_145 : decode oX9_goBack.2.1 145 = .ok (.getfield 48, 3) := by decide +kernel
theorem d_X9_goBack_148 : decode oX9_goBack.2.1 148 = .ok (.iload_n 3, 1) := by decide +kernel
theorem d_X9_goBack_149 : decode oX9_goBack.2.1 149 = .ok (.aload_n 0, 1) := by decide +kernel
theorem d_X9_goBack_150 : decode oX9_goBack.2.1 150 = .ok (.getfield 102, 3) := by decide +kernel
theorem d_X9_goBack_153 : decode oX9_goBack.2.1 153 = .ok (.iload_n 2, 1) := by decide +kernel
theorem d_X9_goBack_154 : decode oX9_goBack.2.1 154 = .ok (.bipush 34, 2) := by decide +kernel
theorem d_X9_goBack_156 : decode oX9_goBack.2.1 156 = .ok (.iadd, 1) := by decide +kernel
theorem d_X9_goBack_157 : decode oX9_goBack.2.1 157 = .ok (.iload_n 3, 1) := by decide +kernel
theorem d_X9_goBack_158 : decode oX9_goBack.2.1 158 = .ok (.iadd, 1) := by decide +kernel
theorem d_X9_goBack_159 : decode oX9_goBack.2.1 159 = .ok (.iaload, 1) := by decide +kernel
theorem d_X9_goBack_160 : decode oX9_goBack.2.1 160 = .ok (.iastore, 1) := by decide +kernel
theorem d_X9_goBack_161 : decode oX9_goBack.2.1 161 = .ok (.iinc 3 1, 3) := by decide +kernel
theorem d_X9_goBack_164 : decode oX9_goBack.2.1 164 = .ok (.goto (-60), 3) := by decide +kernel
theorem d_X9_goBack_167 : decode oX9_goBack.2.1 167 = .ok (.aload_n 0, 1) := by decide +kernel
theorem d_X9_goBack_168 : decode oX9_goBack.2.1 168 = .ok (.aload_n 0, 1) := by decide +kernel
theorem d_X9_goBack_169 : decode oX9_goBack.2.1 169 = .ok (.getfield 102, 3) := by decide +kernel
theorem d_X9_goBack_172 : decode oX9_goBack.2.1 172 = .ok (.iload_n 2, 1) := by decide +kernel
theorem d_X9_goBack_173 : decode oX9_goBack.2.1 173 = .ok (.bipush 42, 2) := by decide +kernel
theorem d_X9_goBack_175 : decode oX9_goBack.2.1 175 = .ok (.iadd, 1) := by decide +kernel
theorem d_X9_goBack_176 : decode oX9_goBack.2.1 176 = .ok (.iaload, 1) := by decide +kernel
theorem d_X9_goBack_177 : decode oX9_goBack.2.1 177 = .ok (.putfield 118, 3) := by decide +kernel
theorem d_X9_goBack_180 : decode oX9_goBack.2.1 180 = .ok (.aload_n 0, 1) := by decide +kernel
theorem d_X9_goBack_181 : decode oX9_goBack.2.1 181 = .ok (.aload_n 0, 1) := by decide +kernel
theorem d_X9_goBack_182 : decode oX9_goBack.2.1 182 = .ok (.getfield 102, 3) := by decide +kernel
theorem d_X9_goBack_185 : decode oX9_goBack.2.1 185 = .ok (.iload_n 2, 1) := by decide +kernel
theorem d_X9_goBack_186 : decode oX9_goBack.2.1 186 = .ok (.bipush 43, 2) := by decide +kernel
theorem d_X9_goBack_188 : decode oX9_goBack.2.1 188 = .ok (.iadd, 1) := by decide +kernel
theorem d_X9_goBack_189 : decode oX9_goBack.2.1 189 = .ok (.iaload, 1) := by decide +kernel
theorem d_X9_goBack_190 : decode oX9_goBack.2.1 190 = .ok (.putfield 326, 3) := by decide +kernel
theorem d_X9_goBack_193 : decode oX9_goBack.2.1 193 = .ok (.iconst 1, 1) := by decide +kernel
theorem d_X9_goBack_194 : decode oX9_goBack.2.1 194 = .ok (.ireturn, 1) := by decide +kernel
theorem b_X9_goBack_0 {E : ob_E} {σ : ob_Mem} {Q : Int32 → ob_Mem → Prop} {x1 : Int32} (k : ob_RM shp E oX9_in [.long (x1).toInt64, .long (0 : Int64), .long (1 : Int64)] σ (ob_qI fun v2 σ1 => ((¬ v2 = 0 → (vp_in x1 2 ∧ ((¬ (σ1.1 83 (x1).toNatClampNeg) = 0 → ob_RT shp E oX9_goBack 33 [.ref 53, .int x1, .int ((50 : Int32) * x1), .int (0 : Int32)] [] σ1 (ob_qI Q)) ∧ ((σ1.1 83 (x1).toNatClampNeg) = 0 → Q (-1000000003 : Int32) σ1)))) ∧ (v2 = 0 → Q (-1000000001 : Int32) σ1)))) : ob_RT shp E oX9_goBack 0 [.ref 53, .int x1, .null, .null] [] σ (ob_qI Q) := by
  refine ob_iload_n d_X9_goBack_0 rfl ?_
  refine ob_i2l d_X9_goBack_1 ?_
  refine ob_lconst (v := 0) d_X9_goBack_2 rfl ?_
  refine ob_lconst (v := 1) d_X9_goBack_3 rfl ?_
  refine ob_callS [.long (x1).toInt64, .long (0 : Int64), .long (1 : Int64)] (z := oX9_in) (st := []) d_X9_goBack_4 lk_X9_111 ms_X9_in rfl (Nat.le_of_ble_eq_true rfl) rfl k (ob_kI fun v2 σ1 k => ?_)
  refine ob_if_ne (tgt := 13) d_X9_goBack_7 rfl (fun cc => ?_) (fun cc => ?_)
  · have k := k.1 cc
    refine ob_aload_n d_X9_goBack_13 rfl ?_
    refine ob_getR d_X9_goBack_14 fl_X9_105 sh_53 rfl rfl ?_
    refine ob_iload_n d_X9_goBack_17 rfl ?_
    obtain ⟨hin, k⟩ := k
    refine ob_zald d_X9_goBack_18 sh_83 hin ?_
    refine ob_if_ne (tgt := 26) d_X9_goBack_19 rfl (fun cc => ?_) (fun cc => ?_)
    · have k := k.1 cc
      refine ob_bipush (v := 50) d_X9_goBack_26 cb_50 ?_
      refine ob_iload_n d_X9_goBack_28 rfl ?_
      refine ob_imul d_X9_goBack_29 ?_
      refine ob_istore_n (ls' := [.ref 53, .int x1, .int ((50 : Int32) * x1), .null]) d_X9_goBack_30 (Nat.le_of_ble_eq_true rfl) rfl ?_
      refine ob_iconst (v := 0) d_X9_goBack_31 ci_0 ?_
      refine ob_istore_n (ls' := [.ref 53, .int x1, .int ((50 : Int32) * x1), .int (0 : Int32)]) d_X9_goBack_32 (Nat.le_of_ble_eq_true rfl) rfl ?_
      exact k
    · have k := k.2 cc
      refine ob_ldcw (v := -1000000003) d_X9_goBack_22 k_X9_275 ?_
      exact ob_iret d_X9_goBack_25 rfl ⟨_, rfl, k⟩
  · have k := k.2 cc
    refine ob_ldc (v := -1000000001) d_X9_goBack_10 k_X9_241 ?_
    exact ob_iret d_X9_goBack_12 rfl ⟨_, rfl, k⟩
theorem b_X9_goBack_33 {E : ob_E} {σ : ob_Mem} {Q : Int32 → ob_Mem → Prop} {x1 x2 x3 : Int32} (k : (((6 : Int32) ≤ x3 → ob_RT shp E oX9_goBack 104 [.ref 53, .int x1, .int x2, .int (0 : Int32)] [] σ (ob_qI Q)) ∧ (¬ (6 : Int32) ≤ x3 → (vp_in (x2 + x3) 100 ∧ (vp_in x3 6 ∧ (vp_in ((x2 + (6 : Int32)) + x3) 100 ∧ (vp_in x3 6 ∧ (∀ σ1, σ1 = (ob_wI (ob_wI σ 60 (x3).toNatClampNeg (σ.1 82 ((x2 + x3)).toNatClampNeg)) 61 (x3).toNatClampNeg ((ob_wI σ 60 (x3).toNatClampNeg (σ.1 82 ((x2 + x3)).toNatClampNeg)).1 82 (((x2 + (6 : Int32)) + x3)).toNatClampNeg)) → (vp_in ((x2 + (12 : Int32)) + x3) 100 ∧ ((¬ (σ1.1 82 (((x2 + (12 : Int32)) + x3)).toNatClampNeg) = (1 : Int32) → (vp_in x3 6 ∧ ob_RT shp E oX9_goBack 33 [.ref 53, .int x1, .int x2, .int (x3 + (1 : Int32))] [] (ob_wI σ1 62 (x3).toNatClampNeg (vp_nar .boolean (0 : Int32))) (ob_qI Q))) ∧ ((σ1.1 82 (((x2 + (12 : Int32)) + x3)).toNatClampNeg) = (1 : Int32) → (vp_in x3 6 ∧ ob_RT shp E oX9_goBack 33 [.ref 53, .int x1, .int x2, .int (x3 + (1 : Int32))] [] (ob_wI σ1 62 (x3).toNatClampNeg (vp_nar .boolean (1 : Int32))) (ob_qI Q))))))))))))) : ob_RT shp E oX9_goBack 33 [.ref 53, .int x1, .int x2, .int x3] [] σ (ob_qI Q) := by
  refine ob_iload_n d_X9_goBack_33 rfl ?_
  refine ob_bipush (v := 6) d_X9_goBack_34 cb_6 ?_
  refine ob_icmp_ge (tgt := 102) d_X9_goBack_36 rfl (fun cc => ?_) (fun cc => ?_)
  · have k := k.1 cc
    refine ob_iconst (v := 0) d_X9_goBack_102 ci_0 ?_
    refine ob_istore_n (ls' := [.ref 53, .int x1, .int x2, .int (0 : Int32)]) d_X9_goBack_103 (Nat.le_of_ble_eq_true rfl) rfl ?_
    exact k
  · have k := k.2 cc
    refine ob_aload_n d_X9_goBack_39 rfl ?_
    refine ob_getR d_X9_goBack_40 fl_X9_32 sh_53 rfl rfl ?_
    refine ob_iload_n d_X9_goBack_43 rfl ?_
    refine ob_aload_n d_X9_goBack_44 rfl ?_
    refine ob_getR d_X9_goBack_45 fl_X9_102 sh_53 rfl rfl ?_
    refine ob_iload_n d_X9_goBack_48 rfl ?_
    refine ob_iload_n d_X9_goBack_49 rfl ?_
    refine ob_iadd d_X9_goBack_50 ?_
    obtain ⟨hin, k⟩ := k
    refine ob_iald d_X9_goBack_51 sh_82 hin ?_
    obtain ⟨hin, k⟩ := k
    refine ob_iast d_X9_goBack_52 sh_60 hin ?_
    refine ob_aload_n d_X9_goBack_53 rfl ?_
    refine ob_getR d_X9_goBack_54 fl_X9_35 sh_53 rfl rfl ?_
    refine ob_iload_n d_X9_goBack_57 rfl ?_
    refine ob_aload_n d_X9_goBack_58 rfl ?_
    refine ob_getR d_X9_goBack_59 fl_X9_102 sh_53 rfl rfl ?_
    refine ob_iload_n d_X9_goBack_62 rfl ?_
    refine ob_bipush (v := 6) d_X9_goBack_63 cb_6 ?_
    refine ob_iadd d_X9_goBack_65 ?_
    refine ob_iload_n d_X9_goBack_66 rfl ?_
    refine ob_iadd d_X9_goBack_67 ?_
    obtain ⟨hin, k⟩ := k
    refine ob_iald d_X9_goBack_68 sh_82 hin ?_
    obtain ⟨hin, k⟩ := k
    refine ob_iast d_X9_goBack_69 sh_61 hin ?_
    refine ob_nmM (fun σ1 hσ1 => ?_)
    have k := k σ1 hσ1
    refine ob_aload_n d_X9_goBack_70 rfl ?_
    refine ob_getR d_X9_goBack_71 fl_X9_38 sh_53 rfl rfl ?_
    refine ob_iload_n d_X9_goBack_74 rfl ?_
    refine ob_aload_n d_X9_goBack_75 rfl ?_
    refine ob_getR d_X9_goBack_76 fl_X9_102 sh_53 rfl rfl ?_
    refine ob_iload_n d_X9_goBack_79 rfl ?_
    refine ob_bipush (v := 12) d_X9_goBack_80 cb_12 ?_
    refine ob_iadd d_X9_goBack_82 ?_
    refine ob_iload_n d_X9_goBack_83 rfl ?_
    refine ob_iadd d_X9_goBack_84 ?_
    obtain ⟨hin, k⟩ := k
    refine ob_iald d_X9_goBack_85 sh_82 hin ?_
    refine ob_iconst (v := 1) d_X9_goBack_86 ci_1 ?_
    refine ob_icmp_ne (tgt := 94) d_X9_goBack_87 rfl (fun cc => ?_) (fun cc => ?_)
    · have k := k.1 cc
      refine ob_iconst (v := 0) d_X9_goBack_94 ci_0 ?_
      obtain ⟨hin, k⟩ := k
      refine ob_zast d_X9_goBack_95 sh_62 hin ?_
      refine ob_iinc (ls' := [.ref 53, .int x1, .int x2, .int (x3 + (1 : Int32))]) (v := 1) d_X9_goBack_96 rfl ci_1 (Nat.le_of_ble_eq_true rfl) rfl ?_
      refine ob_goto (tgt := 33) d_X9_goBack_99 rfl ?_
      exact k
    · have k := k.2 cc
      refine ob_iconst (v := 1) d_X9_goBack_90 ci_1 ?_
      refine ob_goto (tgt := 95) d_X9_goBack_91 rfl ?_
      obtain ⟨hin, k⟩ := k
      refine ob_zast d_X9_goBack_95 sh_62 hin ?_
      refine ob_iinc (ls' := [.ref 53, .int x1, .int x2, .int (x3 + (1 : Int32))]) (v := 1) d_X9_goBack_96 rfl ci_1 (Nat.le_of_ble_eq_true rfl) rfl ?_
      refine ob_goto (tgt := 33) d_X9_goBack_99 rfl ?_
      exact k
theorem b_X9_goBack_104 {E : ob_E} {σ : ob_Mem} {Q : Int32 → ob_Mem → Prop} {x1 x2 x3 : Int32} (k : (((8 : Int32) ≤ x3 → (vp_in (x2 + (42 : Int32)) 100 ∧ (vp_in (x2 + (43 : Int32)) 100 ∧ (∀ σ1, σ1 = (ob_wI (ob_wI σ 53 9 (σ.1 82 ((x2 + (42 : Int32))).toNatClampNeg)) 53 16 ((ob_wI σ 53 9 (σ.1 82 ((x2 + (42 : Int32))).toNatClampNeg)).1 82 ((x2 + (43 : Int32))).toNatClampNeg)) → Q (1 : Int32) σ1)))) ∧ (¬ (8 : Int32) ≤ x3 → (vp_in ((x2 + (18 : Int32)) + x3) 100 ∧ (vp_in x3 8 ∧ (∀ σ2, σ2 = (ob_wI σ 63 (x3).toNatClampNeg (σ.1 82 (((x2 + (18 : Int32)) + x3)).toNatClampNeg)) → (vp_in ((x2 + (26 : Int32)) + x3) 100 ∧ (vp_in x3 8 ∧ (∀ σ3, σ3 = (ob_wI σ2 64 (x3).toNatClampNeg (σ2.1 82 (((x2 + (26 : Int32)) + x3)).toNatClampNeg)) → (vp_in ((x2 + (34 : Int32)) + x3) 100 ∧ (vp_in x3 8 ∧ (∀ σ4, σ4 = (ob_wI σ3 65 (x3).toNatClampNeg (σ3.1 82 (((x2 + (34 : Int32)) + x3)).toNatClampNeg)) → ob_RT shp E oX9_goBack 104 [.ref 53, .int x1, .int x2, .int (x3 + (1 : Int32))] [] σ4 (ob_qI Q))))))))))))) : ob_RT shp E oX9_goBack 104 [.ref 53, .int x1, .int x2, .int x3] [] σ (ob_qI Q) := by
  refine ob_iload_n d_X9_goBack_104 rfl ?_
  refine ob_bipush (v := 8) d_X9_goBack_105 cb_8 ?_
  refine ob_icmp_ge (tgt := 167) d_X9_goBack_107 rfl (fun cc => ?_) (fun cc => ?_)
  · have k := k.1 cc
    refine ob_aload_n d_X9_goBack_167 rfl ?_
    refine ob_aload_n d_X9_goBack_168 rfl ?_
    refine ob_getR d_X9_goBack_169 fl_X9_102 sh_53 rfl rfl ?_
    refine ob_iload_n d_X9_goBack_172 rfl ?_
    refine ob_bipush (v := 42) d_X9_goBack_173 cb_42 ?_
    refine ob_iadd d_X9_goBack_175 ?_
    obtain ⟨hin, k⟩ := k
    refine ob_iald d_X9_goBack_176 sh_82 hin ?_
    refine ob_putI d_X9_goBack_177 fp_X9_118 sh_53 rfl rfl ?_
    refine ob_aload_n d_X9_goBack_180 rfl ?_
    refine ob_aload_n d_X9_goBack_181 rfl ?_
    refine ob_getR d_X9_goBack_182 fl_X9_102 sh_53 rfl rfl ?_
    refine ob_iload_n d_X9_goBack_185 rfl ?_
    refine ob_bipush (v := 43) d_X9_goBack_186 cb_43 ?_
    refine ob_iadd d_X9_goBack_188 ?_
    obtain ⟨hin, k⟩ := k
    refine ob_iald d_X9_goBack_189 sh_82 hin ?_
    refine ob_putI d_X9_goBack_190 fp_X9_326 sh_53 rfl rfl ?_
    refine ob_nmM (fun σ1 hσ1 => ?_)
    have k := k σ1 hσ1
    refine ob_iconst (v := 1) d_X9_goBack_193 ci_1 ?_
    exact ob_iret d_X9_goBack_194 rfl ⟨_, rfl, k⟩
  · have k := k.2 cc
    refine ob_aload_n d_X9_goBack_110 rfl ?_
    refine ob_getR d_X9_goBack_111 fl_X9_42 sh_53 rfl rfl ?_
    refine ob_iload_n d_X9_goBack_114 rfl ?_
    refine ob_aload_n d_X9_goBack_115 rfl ?_
    refine ob_getR d_X9_goBack_116 fl_X9_102 sh_53 rfl rfl ?_
    refine ob_iload_n d_X9_goBack_119 rfl ?_
    refine ob_bipush (v := 18) d_X9_goBack_120 cb_18 ?_
    refine ob_iadd d_X9_goBack_122 ?_
    refine ob_iload_n d_X9_goBack_123 rfl ?_
    refine ob_iadd d_X9_goBack_124 ?_
    obtain ⟨hin, k⟩ := k
    refine ob_iald d_X9_goBack_125 sh_82 hin ?_
    obtain ⟨hin, k⟩ := k
    refine ob_iast d_X9_goBack_126 sh_63 hin ?_
    refine ob_nmM (fun σ2 hσ2 => ?_)
    have k := k σ2 hσ2
    refine ob_aload_n d_X9_goBack_127 rfl ?_
    refine ob_getR d_X9_goBack_128 fl_X9_45 sh_53 rfl rfl ?_
    refine ob_iload_n d_X9_goBack_131 rfl ?_
    refine ob_aload_n d_X9_goBack_132 rfl ?_
    refine ob_getR d_X9_goBack_133 fl_X9_102 sh_53 rfl rfl ?_
    refine ob_iload_n d_X9_goBack_136 rfl ?_
    refine ob_bipush (v := 26) d_X9_goBack_137 cb_26 ?_
    refine ob_iadd d_X9_goBack_139 ?_
    refine ob_iload_n d_X9_goBack_140 rfl ?_
    refine ob_iadd d_X9_goBack_141 ?_
    obtain ⟨hin, k⟩ := k
    refine ob_iald d_X9_goBack_142 sh_82 hin ?_
    obtain ⟨hin, k⟩ := k
    refine ob_iast d_X9_goBack_143 sh_64 hin ?_
    refine ob_nmM (fun σ3 hσ3 => ?_)
    have k := k σ3 hσ3
    refine ob_aload_n d_X9_goBack_144 rfl ?_
    refine ob_getR d_X9_goBack_145 fl_X9_48 sh_53 rfl rfl ?_
    refine ob_iload_n d_X9_goBack_148 rfl ?_
    refine ob_aload_n d_X9_goBack_149 rfl ?_
    refine ob_getR d_X9_goBack_150 fl_X9_102 sh_53 rfl rfl ?_
    refine ob_iload_n d_X9_goBack_153 rfl ?_
    refine ob_bipush (v := 34) d_X9_goBack_154 cb_34 ?_
    refine ob_iadd d_X9_goBack_156 ?_
    refine ob_iload_n d_X9_goBack_157 rfl ?_
    refine ob_iadd d_X9_goBack_158 ?_
    obtain ⟨hin, k⟩ := k
    refine ob_iald d_X9_goBack_159 sh_82 hin ?_
    obtain ⟨hin, k⟩ := k
    refine ob_iast d_X9_goBack_160 sh_65 hin ?_
    refine ob_nmM (fun σ4 hσ4 => ?_)
    have k := k σ4 hσ4
    refine ob_iinc (ls' := [.ref 53, .int x1, .int x2, .int (x3 + (1 : Int32))]) (v := 1) d_X9_goBack_161 rfl ci_1 (Nat.le_of_ble_eq_true rfl) rfl ?_
    refine ob_goto (tgt := 104) d_X9_goBack_164 rfl ?_
    exact k
theorem d_X9_in_0 : decode oX9_in.2.1 0 = .ok (.lload_n 0, 1) := by decide +kernel
theorem d_X9_in_1 : decode oX9_in.2.1 1 = .ok (.lload_n 2, 1) := by decide +kernel
theorem d_X9_in_2 : decode oX9_in.2.1 2 = .ok (.lcmp, 1) := by decide +kernel
theorem d_X9_in_3 : decode oX9_in.2.1 3 = .ok (.ifCond .lt 14, 3) := by decide +kernel
theorem d_X9_in_6 : decode oX9_in.2.1 6 = .ok (.lload_n 0, 1) := by decide +kernel
theorem d_X9_in_7 : decode oX9_in.2.1 7 = .ok (.lload 4, 2) := by decide +kernel
theorem d_X9_in_9 : decode oX9_in.2.1 9 = .ok (.lcmp, 1) := by decide +kernel
theorem d_X9_in_10 : decode oX9_in.2.1 10 = .ok (.ifCond .gt 7, 3) := by decide +kernel
theorem d_X9_in_13 : decode oX9_in.2.1 13 = .ok (.iconst 1, 1) := by decide +kernel
theorem d_X9_in_14 : decode oX9_in.2.1 14 = .ok (.goto 4, 3) := by decide +kernel
theorem d_X9_in_17 : decode oX9_in.2.1 17 = .ok (.iconst 0, 1) := by decide +kernel
theorem d_X9_in_18 : decode oX9_in.2.1 18 = .ok (.ireturn, 1) := by decide +kernel
theorem b_X9_in_0 {E : ob_E} {σ : ob_Mem} {Q : Int32 → ob_Mem → Prop} {x0 x2 x4 : Int64} (k : ((x0 < x2 → Q (0 : Int32) σ) ∧ (¬ x0 < x2 → ((x4 < x0 → Q (0 : Int32) σ) ∧ (¬ x4 < x0 → Q (1 : Int32) σ))))) : ob_RT shp E oX9_in 0 [.long x0, .null, .long x2, .null, .long x4, .null] [] σ (ob_qI Q) := by
  refine ob_lload_n d_X9_in_0 rfl ?_
  refine ob_lload_n d_X9_in_1 rfl ?_
  refine ob_lcmp d_X9_in_2 ?_
  refine ob_if_lt (tgt := 17) d_X9_in_3 rfl (fun cc => ?_) (fun cc => ?_)
  · have k := k.1 (ob_c_lt.mp cc)
    refine ob_iconst (v := 0) d_X9_in_17 ci_0 ?_
    exact ob_zret d_X9_in_18 rfl rfl ⟨_, rfl, k⟩
  · have k := k.2 (mt ob_c_lt.mpr cc)
    refine ob_lload_n d_X9_in_6 rfl ?_
    refine ob_lload d_X9_in_7 rfl ?_
    refine ob_lcmp d_X9_in_9 ?_
    refine ob_if_gt (tgt := 17) d_X9_in_10 rfl (fun cc => ?_) (fun cc => ?_)
    · have k := k.1 (ob_c_gt.mp cc)
      refine ob_iconst (v := 0) d_X9_in_17 ci_0 ?_
      exact ob_zret d_X9_in_18 rfl rfl ⟨_, rfl, k⟩
    · have k := k.2 (mt ob_c_gt.mpr cc)
      refine ob_iconst (v := 1) d_X9_in_13 ci_1 ?_
      refine ob_goto (tgt := 18) d_X9_in_14 rfl ?_
      exact ob_zret d_X9_in_18 rfl rfl ⟨_, rfl, k⟩
theorem d_X9_here_0 : decode oX9_here.2.1 0 = .ok (.aload_n 0, 1) := by decide +kernel
theorem d_X9_here_1 : decode oX9_here.2.1 1 = .ok (.getfield 130, 3) := by decide +kernel
theorem d_X9_here_4 : decode oX9_here.2.1 4 = .ok (.aload_n 0, 1) := by decide +kernel
theorem d_X9_here_5 : decode oX9_here.2.1 5 = .ok (.getfield 124, 3) := by decide +kernel
theorem d_X9_here_8 : decode oX9_here.2.1 8 = .ok (.if_icmp .ge 30, 3) := by decide +kernel
theorem d_X9_here_11 : decode oX9_here.2.1 11 = .ok (.aload_n 0, 1) := by decide +kernel
theorem d_X9_here_12 : decode oX9_here.2.1 12 = .ok (.getfield 51, 3) := by decide +kernel
theorem d_X9_here_15 : decode oX9_here.2.1 15 = .ok (.aload_n 0, 1) := by decide +kernel
theorem d_X9_here_16 : decode oX9_here.2.1 16 = .ok (.getfield 130, 3) := by decide +kernel
theorem d_X9_here_19 : decode oX9_here.2.1 19 = .ok (.iaload, 1) := by decide +kernel
theorem d_X9_here_20 : decode oX9_here.2.1 20 = .ok (.bipush 32, 2) := by decide +kernel
theorem d_X9_here_22 : decode oX9_here.2.1 22 = .ok (.if_icmp .ne 16, 3) := by decide +kernel
theorem d_X9_here_25 : decode oX9_here.2.1 25 = .ok (.aload_n 0, 1) := by decide +kernel
theorem d_X9_here_26 : decode oX9_here.2.1 26 = .ok (.dup, 1) := by decide +kernel
theorem d_X9_here_27 : decode oX9_here.2.1 27 = .ok (.getfield 130, 3) := by decide +kernel
theorem d_X9_here_30 : decode oX9_here.2.1 30 = .ok (.iconst 1, 1) := by decide +kernel
theorem d_X9_here_31 : decode oX9_here.2.1 31 = .ok (.iadd, 1) := by decide +kernel
theorem d_X9_here_32 : decode oX9_here.2.1 32 = .ok (.putfield 130, 3) := by decide +kernel
theorem d_X9_here_35 : decode oX9_here.2.1 35 = .ok (.goto (-35), 3) := by decide +kernel
theorem d_X9_here_38 : decode oX9_here.2.1 38 = .ok (.aload_n 0, 1) := by decide +kernel
theorem d_X9_here_39 : decode oX9_here.2.1 39 = .ok (.getfield 130, 3) := by decide +kernel
theorem d_X9_here_42 : decode oX9_here.2.1 42 = .ok (.aload_n 0, 1) := by decide +kernel
theorem d_X9_here_43 : decode oX9_here.2.1 43 = .ok (.getfield 124, 3) := by decide +kernel
theorem d_X9_here_46 : decode oX9_here.2.1 46 = .ok (.if_icmp .ge 15, 3) := by decide +kernel
theorem d_X9_here_49 : decode oX9_here.2.1 49 = .ok (.aload_n 0, 1) := by decide +kernel
theorem d_X9_here_50 : decode oX9_here.2.1 50 = .ok (.getfield 51, 3) := by decide +kernel
theorem d_X9_here_53 : decode oX9_here.2.1 53 = .ok (.aload_n 0, 1) := by decide +kernel
theorem d_X9_here_54 : decode oX9_here.2.1 54 = .ok (.getfield 130, 3) := by decide +kernel
theorem d_X9_here_57 : decode oX9_here.2.1 57 = .ok (.iaload, 1) := by decide +kernel
theorem d_X9_here_58 : decode oX9_here.2.1 58 = .ok (.goto 4, 3) := by decide +kernel
theorem d_X9_here_61 : decode oX9_here.2.1 61 = .ok (.iconst (-1), 1) := by decide +kernel
theorem d_X9_here_62 : decode oX9_here.2.1 62 = .ok (.ireturn, 1) := by decide +kernel
theorem b_X9_here_0 {E : ob_E} {σ : ob_Mem} {Q : Int32 → ob_Mem → Prop} (k : (((σ.1 53 18) ≤ (σ.1 53 20) → ob_RT shp E oX9_here 38 [.ref 53] [] σ (ob_qI Q)) ∧ (¬ (σ.1 53 18) ≤ (σ.1 53 20) → (vp_in (σ.1 53 20) 500 ∧ ((¬ (σ.1 66 ((σ.1 53 20)).toNatClampNeg) = (32 : Int32) → ob_RT shp E oX9_here 38 [.ref 53] [] σ (ob_qI Q)) ∧ ((σ.1 66 ((σ.1 53 20)).toNatClampNeg) = (32 : Int32) → ob_RT shp E oX9_here 0 [.ref 53] [] (ob_wI σ 53 20 ((σ.1 53 20) + (1 : Int32))) (ob_qI Q))))))) : ob_RT shp E oX9_here 0 [.ref 53] [] σ (ob_qI Q) := by
  refine ob_aload_n d_X9_here_0 rfl ?_
  refine ob_getI d_X9_here_1 fl_X9_130 sh_53 rfl (by decide) ?_
  refine ob_aload_n d_X9_here_4 rfl ?_
  refine ob_getI d_X9_here_5 fl_X9_124 sh_53 rfl (by decide) ?_
  refine ob_icmp_ge (tgt := 38) d_X9_here_8 rfl (fun cc => ?_) (fun cc => ?_)
  · have k := k.1 cc
    exact k
  · have k := k.2 cc
    refine ob_aload_n d_X9_here_11 rfl ?_
    refine ob_getR d_X9_here_12 fl_X9_51 sh_53 rfl rfl ?_
    refine ob_aload_n d_X9_here_15 rfl ?_
    refine ob_getI d_X9_here_16 fl_X9_130 sh_53 rfl (by decide) ?_
    obtain ⟨hin, k⟩ := k
    refine ob_iald d_X9_here_19 sh_66 hin ?_
    refine ob_bipush (v := 32) d_X9_here_20 cb_32 ?_
    refine ob_icmp_ne (tgt := 38) d_X9_here_22 rfl (fun cc => ?_) (fun cc => ?_)
    · have k := k.1 cc
      exact k
    · have k := k.2 cc
      refine ob_aload_n d_X9_here_25 rfl ?_
      refine ob_dup d_X9_here_26 rfl ?_
      refine ob_getI d_X9_here_27 fl_X9_130 sh_53 rfl (by decide) ?_
      refine ob_iconst (v := 1) d_X9_here_30 ci_1 ?_
      refine ob_iadd d_X9_here_31 ?_
      refine ob_putI d_X9_here_32 fp_X9_130 sh_53 rfl rfl ?_
      refine ob_goto (tgt := 0) d_X9_here_35 rfl ?_
      exact k
theorem b_X9_here_38 {E : ob_E} {σ : ob_Mem} {Q : Int32 → ob_Mem → Prop} (k : (((σ.1 53 18) ≤ (σ.1 53 20) → Q (-1 : Int32) σ) ∧ (¬ (σ.1 53 18) ≤ (σ.1 53 20) → (vp_in (σ.1 53 20) 500 ∧ Q (σ.1 66 ((σ.1 53 20)).toNatClampNeg) σ)))) : ob_RT shp E oX9_here 38 [.ref 53] [] σ (ob_qI Q) := by
  refine ob_aload_n d_X9_here_38 rfl ?_
  refine ob_getI d_X9_here_39 fl_X9_130 sh_53 rfl (by decide) ?_
  refine ob_aload_n d_X9_here_42 rfl ?_
  refine ob_getI d_X9_here_43 fl_X9_124 sh_53 rfl (by decide) ?_
  refine ob_icmp_ge (tgt := 61) d_X9_here_46 rfl (fun cc => ?_) (fun cc => ?_)
  · have k := k.1 cc
    refine ob_iconst (v := -1) d_X9_here_61 ci_m1 ?_
    exact ob_iret d_X9_here_62 rfl ⟨_, rfl, k⟩
  · have k := k.2 cc
    refine ob_aload_n d_X9_here_49 rfl ?_
    refine ob_getR d_X9_here_50 fl_X9_51 sh_53 rfl rfl ?_
    refine ob_aload_n d_X9_here_53 rfl ?_
    refine ob_getI d_X9_here_54 fl_X9_130 sh_53 rfl (by decide) ?_
    obtain ⟨hin, k⟩ := k
    refine ob_iald d_X9_here_57 sh_66 hin ?_
    refine ob_goto (tgt := 62) d_X9_here_58 rfl ?_
    exact ob_iret d_X9_here_62 rfl ⟨_, rfl, k⟩
theorem d_X9_takeClause_0 : decode oX9_takeClause.2.1 0 = .ok (.aload_n 0, 1) := by decide +kernel
theorem d_X9_takeClause_1 : decode oX9_takeClause.2.1 1 = .ok (.invokevirtual 189, 3) := by decide +kernel
theorem d_X9_takeClause_4 : decode oX9_takeClause.2.1 4 = .ok (.bipush 98, 2) := by decide +kernel
theorem d_X9_takeClause_6 : decode oX9_takeClause.2.1 6 = .ok (.bipush 105, 2) := by decide +kernel
theorem d_X9_takeClause_8 : decode oX9_takeClause.2.1 8 = .ok (.bipush 114, 2) := by decide +kernel
theorem d_X9_takeClause_10 : decode oX9_takeClause.2.1 10 = .ok (.bipush 116, 2) := by decide +kernel
theorem d_X9_takeClause_12 : decode oX9_takeClause.2.1 12 = .ok (.invokestatic 192, 3) := by decide +kernel
theorem d_X9_takeClause_15 : decode oX9_takeClause.2.1 15 = .ok (.lstore_n 1, 1) := by decide +kernel
theorem d_X9_takeClause_16 : decode oX9_takeClause.2.1 16 = .ok (.ldc2_w 152, 3) := by decide +kernel
theorem d_X9_takeClause_19 : decode oX9_takeClause.2.1 19 = .ok (.ldc2_w 152, 3) := by decide +kernel
theorem d_X9_takeClause_22 : decode oX9_takeClause.2.1 22 = .ok (.ldc2_w 152, 3) := by decide +kernel
theorem d_X9_takeClause_25 : decode oX9_takeClause.2.1 25 = .ok (.ldc2_w 152, 3) := by decide +kernel
theorem d_X9_takeClause_28 : decode oX9_takeClause.2.1 28 = .ok (.lload_n 1, 1) := by decide +kernel
theorem d_X9_takeClause_29 : decode oX9_takeClause.2.1 29 = .ok (.lmul, 1) := by decide +kernel
theorem d_X9_takeClause_30 : decode oX9_takeClause.2.1 30 = .ok (.ldc2_w 196, 3) := by decide +kernel
theorem d_X9_takeClause_33 : decode oX9_takeClause.2.1 33 = .ok (.ladd, 1) := by decide +kernel
theorem d_X9_takeClause_34 : decode oX9_takeClause.2.1 34 = .ok (.ldc2_w 154, 3) := by decide +kernel
theorem d_X9_takeClause_37 : decode oX9_takeClause.2.1 37 = .ok (.lsub, 1) := by decide +kernel
theorem d_X9_takeClause_38 : decode oX9_takeClause.2.1 38 = .ok (.lmul, 1) := by decide +kernel
theorem d_X9_takeClause_39 : decode oX9_takeClause.2.1 39 = .ok (.ldc2_w 198, 3) := by decide +kernel
theorem d_X9_takeClause_42 : decode oX9_takeClause.2.1 42 = .ok (.ladd, 1) := by decide +kernel
theorem d_X9_takeClause_43 : decode oX9_takeClause.2.1 43 = .ok (.ldc2_w 154, 3) := by decide +kernel
theorem d_X9_takeClause_46 : decode oX9_takeClause.2.1 46 = .ok (.lsub, 1) := by decide +kernel
theorem d_X9_takeClause_47 : decode oX9_takeClause.2.1 47 = .ok (.lmul, 1) := by decide +kernel
theorem d_X9_takeClause_48 : decode oX9_takeClause.2.1 48 = .ok (.ldc2_w 144, 3) := by decide +kernel
theorem d_X9_takeClause_51 : decode oX9_takeClause.2.1 51 = .ok (.ladd, 1) := by decide +kernel
theorem d_X9_takeClause_52 : decode oX9_takeClause.2.1 52 = .ok (.ldc2_w 154, 3) := by decide +kernel
theorem d_X9_takeClause_55 : decode oX9_takeClause.2.1 55 = .ok (.lsub, 1) := by decide +kernel
theorem d_X9_takeClause_56 : decode oX9_takeClause.2.1 56 = .ok (.lmul, 1) := by decide +kernel
theorem d_X9_takeClause_57 : decode oX9_takeClause.2.1 57 = .ok (.ldc2_w 200, 3) := by decide +kernel
theorem d_X9_takeClause_60 : decode oX9_takeClause.2.1 60 = .ok (.ladd, 1) := by decide +kernel
theorem d_X9_takeClause_61 : decode oX9_takeClause.2.1 61 = .ok (.ldc2_w 154, 3) := by decide +kernel
theorem d_X9_takeClause_64 : decode oX9_takeClause.2.1 64 = .ok (.lsub, 1) := by decide +kernel
theorem d_X9_takeClause_65 : decode oX9_takeClause.2.1 65 = .ok (.lstore_n 3, 1) := by decide +kernel
theorem d_X9_takeClause_66 : decode oX9_takeClause.2.1 66 = .ok (.aload_n 0, 1) := by decide +kernel
theorem d_X9_takeClause_67 : decode oX9_takeClause.2.1 67 = .ok (.getfield 137, 3) := by decide +kernel
theorem d_X9_takeClause_70 : decode oX9_takeClause.2.1 70 = .ok (.bipush 121, 2) := by decide +kernel
theorem d_X9_takeClause_72 : decode oX9_takeClause.2.1 72 = .ok (.bipush 101, 2) := by decide +kernel
theorem d_X9_takeClause_74 : decode oX9_takeClause.2.1 74 = .ok (.bipush 97, 2) := by decide +kernel
theorem d_X9_takeClause_76 : decode oX9_takeClause.2.1 76 = .ok (.bipush 114, 2) := by decide +kernel
theorem d_X9_takeClause_78 : decode oX9_takeClause.2.1 78 = .ok (.invokestatic 192, 3) := by decide +kernel
theorem d_X9_takeClause_81 : decode oX9_takeClause.2.1 81 = .ok (.lcmp, 1) := by decide +kernel
theorem d_X9_takeClause_82 : decode oX9_takeClause.2.1 82 = .ok (.ifCond .ne 7, 3) := by decide +kernel
theorem d_X9_takeClause_85 : decode oX9_takeClause.2.1 85 = .ok (.iconst 0, 1) := by decide +kernel
theorem d_X9_takeClause_86 : decode oX9_takeClause.2.1 86 = .ok (.goto 51, 3) := by decide +kernel
theorem d_X9_takeClause_89 : decode oX9_takeClause.2.1 89 = .ok (.aload_n 0, 1) := by decide +kernel
theorem d_X9_takeClause_90 : decode oX9_takeClause.2.1 90 = .ok (.getfield 137, 3) := by decide +kernel
theorem d_X9_takeClause_93 : decode oX9_takeClause.2.1 93 = .ok (.ldc2_w 152, 3) := by decide +kernel
theorem d_X9_takeClause_96 : decode oX9_takeClause.2.1 96 = .ok (.ldc2_w 152, 3) := by decide +kernel
theorem d_X9_takeClause_99 : decode oX9_takeClause.2.1 99 = .ok (.bipush 112, 2) := by decide +kernel
theorem d_X9_takeClause_101 : decode oX9_takeClause.2.1 101 = .ok (.bipush 101, 2) := by decide +kernel
theorem d_X9_takeClause_103 : decode oX9_takeClause.2.1 103 = .ok (.bipush 114, 2) := by decide +kernel
theorem d_X9_takeClause_105 : decode oX9_takeClause.2.1 105 = .ok (.bipush 115, 2) := by decide +kernel
theorem d_X9_takeClause_107 : decode oX9_takeClause.2.1 107 = .ok (.invokestatic 192, 3) := by decide +kernel
theorem d_X9_takeClause_110 : decode oX9_takeClause.2.1 110 = .ok (.lmul, 1) := by decide +kernel
theorem d_X9_takeClause_111 : decode oX9_takeClause.2.1 111 = .ok (.ldc2_w 202, 3) := by decide +kernel
theorem d_X9_takeClause_114 : decode oX9_takeClause.2.1 114 = .ok (.ladd, 1) := by decide +kernel
theorem d_X9_takeClause_115 : decode oX9_takeClause.2.1 115 = .ok (.ldc2_w 154, 3) := by decide +kernel
theorem d_X9_takeClause_118 : decode oX9_takeClause.2.1 118 = .ok (.lsub, 1) := by decide +kernel
theorem d_X9_takeClause_119 : decode oX9_takeClause.2.1 119 = .ok (.lmul, 1) := by decide +kernel
theorem d_X9_takeClause_120 : decode oX9_takeClause.2.1 120 = .ok (.ldc2_w 204, 3) := by decide +kernel
theorem d_X9_takeClause_123 : decode oX9_takeClause.2.1 123 = .ok (.ladd, 1) := by decide +kernel
theorem d_X9_takeClause_124 : decode oX9_takeClause.2.1 124 = .ok (.ldc2_w 154, 3) := by decide +kernel
theorem d_X9_takeClause_127 : decode oX9_takeClause.2.1 127 = .ok (.lsub, 1) := by decide +kernel
theorem d_X9_takeClause_128 : decode oX9_takeClause.2.1 128 = .ok (.lcmp, 1) := by decide +kernel
theorem d_X9_takeClause_129 : decode oX9_takeClause.2.1 129 = .ok (.ifCond .ne 7, 3) := by decide +kernel
theorem d_X9_takeClause_132 : decode oX9_takeClause.2.1 132 = .ok (.iconst 1, 1) := by decide +kernel
theorem d_X9_takeClause_133 : decode oX9_takeClause.2.1 133 = .ok (.goto 4, 3) := by decide +kernel
theorem d_X9_takeClause_136 : decode oX9_takeClause.2.1 136 = .ok (.iconst (-1), 1) := by decide +kernel
theorem d_X9_takeClause_137 : decode oX9_takeClause.2.1 137 = .ok (.istore 5, 2) := by decide +kernel
theorem d_X9_takeClause_139 : decode oX9_takeClause.2.1 139 = .ok (.iload 5, 2) := by decide +kernel
theorem d_X9_takeClause_141 : decode oX9_takeClause.2.1 141 = .ok (.ifCond .lt 8, 3) := by decide +kernel
theorem d_X9_takeClause_144 : decode oX9_takeClause.2.1 144 = .ok (.iload 5, 2) := by decide +kernel
theorem d_X9_takeClause_146 : decode oX9_takeClause.2.1 146 = .ok (.goto 40, 3) := by decide +kernel
theorem d_X9_takeClause_149 : decode oX9_takeClause.2.1 149 = .ok (.aload_n 0, 1) := by decide +kernel
theorem d_X9_takeClause_150 : decode oX9_takeClause.2.1 150 = .ok (.getfield 137, 3) := by decide +kernel
theorem d_X9_takeClause_153 : decode oX9_takeClause.2.1 153 = .ok (.lload_n 3, 1) := by decide +kernel
theorem d_X9_takeClause_154 : decode oX9_takeClause.2.1 154 = .ok (.lcmp, 1) := by decide +kernel
theorem d_X9_takeClause_155 : decode oX9_takeClause.2.1 155 = .ok (.ifCond .ne 7, 3) := by decide +kernel
theorem d_X9_takeClause_158 : decode oX9_takeClause.2.1 158 = .ok (.iconst 2, 1) := by decide +kernel
theorem d_X9_takeClause_159 : decode oX9_takeClause.2.1 159 = .ok (.goto 27, 3) := by decide +kernel
theorem d_X9_takeClause_162 : decode oX9_takeClause.2.1 162 = .ok (.aload_n 0, 1) := by decide +kernel
theorem d_X9_takeClause_163 : decode oX9_takeClause.2.1 163 = .ok (.getfield 137, 3) := by decide +kernel
theorem d_X9_takeClause_166 : decode oX9_takeClause.2.1 166 = .ok (.bipush 103, 2) := by decide +kernel
theorem d_X9_takeClause_168 : decode oX9_takeClause.2.1 168 = .ok (.bipush 111, 2) := by decide +kernel
theorem d_X9_takeClause_170 : decode oX9_takeClause.2.1 170 = .ok (.bipush 111, 2) := by decide +kernel
theorem d_X9_takeClause_172 : decode oX9_takeClause.2.1 172 = .ok (.bipush 100, 2) := by decide +kernel
theorem d_X9_takeClause_174 : decode oX9_takeClause.2.1 174 = .ok (.invokestatic 192, 3) := by decide +kernel
theorem d_X9_takeClause_177 : decode oX9_takeClause.2.1 177 = .ok (.lcmp, 1) := by decide +kernel
theorem d_X9_takeClause_178 : decode oX9_takeClause.2.1 178 = .ok (.ifCond .ne 7, 3) := by decide +kernel
theorem d_X9_takeClause_181 : decode oX9_takeClause.2.1 181 = .ok (.iconst 3, 1) := by decide +kernel
theorem d_X9_takeClause_182 : decode oX9_takeClause.2.1 182 = .ok (.goto 4, 3) := by decide +kernel
theorem d_X9_takeClause_185 : decode oX9_takeClause.2.1 185 = .ok (.iconst (-1), 1) := by decide +kernel
theorem d_X9_takeClause_186 : decode oX9_takeClause.2.1 186 = .ok (.istore 6, 2) := by decide +kernel
theorem d_X9_takeClause_188 : decode oX9_takeClause.2.1 188 = .ok (.iload 6, 2) := by decide +kernel
theorem d_X9_takeClause_190 : decode oX9_takeClause.2.1 190 = .ok (.ifCond .lt 15, 3) := by decide +kernel
theorem d_X9_takeClause_193 : decode oX9_takeClause.2.1 193 = .ok (.iload 6, 2) := by decide +kernel
theorem d_X9_takeClause_195 : decode oX9_takeClause.2.1 195 = .ok (.ifCond .ne 20, 3) := by decide +kernel
theorem d_X9_takeClause_198 : decode oX9_takeClause.2.1 198 = .ok (.aload_n 0, 1) := by decide +kernel
theorem d_X9_takeClause_199 : decode oX9_takeClause.2.1 199 = .ok (.getfield 206, 3) := by decide +kernel
theorem d_X9_takeClause_202 : decode oX9_takeClause.2.1 202 = .ok (.ifCond .le 13, 3) := by decide +kernel
theorem d_X9_takeClause_205 : decode oX9_takeClause.2.1 205 = .ok (.aload_n 0, 1) := by decide +kernel
theorem d_X9_takeClause_206 : decode oX9_takeClause.2.1 206 = .ok (.iconst 1, 1) := by decide +kernel
theorem d_X9_takeClause_207 : decode oX9_takeClause.2.1 207 = .ok (.aload_n 0, 1) := by decide +kernel
theorem d_X9_takeClause_208 : decode oX9_takeClause.2.1 208 = .ok (.getfield 130, 3) := by decide +kernel
theorem d_X9_takeClause_211 : decode oX9_takeClause.2.1 211 = .ok (.invokevirtual 160, 3) := by decide +kernel
theorem d_X9_takeClause_214 : decode oX9_takeClause.2.1 214 = .ok (.ireturn, 1) := by decide +kernel
theorem d_X9_takeClause_215 : decode oX9_takeClause.2.1 215 = .ok (.iload 6, 2) := by decide +kernel
theorem d_X9_takeClause_217 : decode oX9_takeClause.2.1 217 = .ok (.ifCond .ne 13, 3) := by decide +kernel
theorem d_X9_takeClause_220 : decode oX9_takeClause.2.1 220 = .ok (.aload_n 0, 1) := by decide +kernel
theorem d_X9_takeClause_221 : decode oX9_takeClause.2.1 221 = .ok (.getfield 183, 3) := by decide +kernel
theorem d_X9_takeClause_224 : decode oX9_takeClause.2.1 224 = .ok (.ifCond .le 61, 3) := by decide +kernel
theorem d_X9_takeClause_227 : decode oX9_takeClause.2.1 227 = .ok (.goto 48, 3) := by decide +kernel
theorem d_X9_takeClause_230 : decode oX9_takeClause.2.1 230 = .ok (.iload 6, 2) := by decide +kernel
theorem d_X9_takeClause_232 : decode oX9_takeClause.2.1 232 = .ok (.iconst 1, 1) := by decide +kernel
theorem d_X9_takeClause_233 : decode oX9_takeClause.2.1 233 = .ok (.if_icmp .ne 15, 3) := by decide +kernel
theorem d_X9_takeClause_236 : decode oX9_takeClause.2.1 236 = .ok (.aload_n 0, 1) := by decide +kernel
theorem d_X9_takeClause_237 : decode oX9_takeClause.2.1 237 = .ok (.getfield 173, 3) := by decide +kernel
theorem d_X9_takeClause_240 : decode oX9_takeClause.2.1 240 = .ok (.bipush 6, 2) := by decide +kernel
theorem d_X9_takeClause_242 : decode oX9_takeClause.2.1 242 = .ok (.if_icmp .ne 43, 3) := by decide +kernel
theorem d_X9_takeClause_245 : decode oX9_takeClause.2.1 245 = .ok (.goto 30, 3) := by decide +kernel
theorem d_X9_takeClause_248 : decode oX9_takeClause.2.1 248 = .ok (.iload 6, 2) := by decide +kernel
theorem d_X9_takeClause_250 : decode oX9_takeClause.2.1 250 = .ok (.iconst 2, 1) := by decide +kernel
theorem d_X9_takeClause_251 : decode oX9_takeClause.2.1 251 = .ok (.if_icmp .ne 15, 3) := by decide +kernel
theorem d_X9_takeClause_254 : decode oX9_takeClause.2.1 254 = .ok (.aload_n 0, 1) := by decide +kernel
theorem d_X9_takeClause_255 : decode oX9_takeClause.2.1 255 = .ok (.getfield 180, 3) := by decide +kernel
theorem d_X9_takeClause_258 : decode oX9_takeClause.2.1 258 = .ok (.bipush 8, 2) := by decide +kernel
theorem d_X9_takeClause_260 : decode oX9_takeClause.2.1 260 = .ok (.if_icmp .ne 25, 3) := by decide +kernel
theorem d_X9_takeClause_263 : decode oX9_takeClause.2.1 263 = .ok (.goto 12, 3) := by decide +kernel
theorem d_X9_takeClause_266 : decode oX9_takeClause.2.1 266 = .ok (.aload_n 0, 1) := by decide +kernel
theorem d_X9_takeClause_267 : decode oX9_takeClause.2.1 267 = .ok (.getfield 186, 3) := by decide +kernel
theorem d_X9_takeClause_270 : decode oX9_takeClause.2.1 270 = .ok (.bipush 10, 2) := by decide +kernel
theorem d_X9_takeClause_272 : decode oX9_takeClause.2.1 272 = .ok (.if_icmp .ne 13, 3) := by decide +kernel
theorem d_X9_takeClause_275 : decode oX9_takeClause.2.1 275 = .ok (.aload_n 0, 1) := by decide +kernel
theorem d_X9_takeClause_276 : decode oX9_takeClause.2.1 276 = .ok (.iconst 3, 1) := by decide +kernel
theorem d_X9_takeClause_277 : decode oX9_takeClause.2.1 277 = .ok (.aload_n 0, 1) := by decide +kernel
theorem d_X9_takeClause_278 : decode oX9_takeClause.2.1 278 = .ok (.getfield 130, 3) := by decide +kernel
theorem d_X9_takeClause_281 : decode oX9_takeClause.2.1 281 = .ok (.invokevirtual 160, 3) := by decide +kernel
theorem d_X9_takeClause_284 : decode oX9_takeClause.2.1 284 = .ok (.ireturn, 1) := by decide +kernel
theorem d_X9_takeClause_285 : decode oX9_takeClause.2.1 285 = .ok (.aload_n 0, 1) := by decide +kernel
theorem d_X9_takeClause_286 : decode oX9_takeClause.2.1 286 = .ok (.aload_n 0, 1) := by decide +kernel
theorem d_X9_takeClause_287 : decode oX9_takeClause.2.1 287 = .ok (.getfield 141, 3) := by decide +kernel
theorem d_X9_takeClause_290 : decode oX9_takeClause.2.1 290 = .ok (.putfield 130, 3) := by decide +kernel
theorem d_X9_takeClause_293 : decode oX9_takeClause.2.1 293 = .ok (.aload_n 0, 1) := by decide +kernel
theorem d_X9_takeClause_294 : decode oX9_takeClause.2.1 294 = .ok (.dup, 1) := by decide +kernel
theorem d_X9_takeClause_295 : decode oX9_takeClause.2.1 295 = .ok (.getfield 206, 3) := by decide +kernel
theorem d_X9_takeClause_298 : decode oX9_takeClause.2.1 298 = .ok (.iload 6, 2) := by decide +kernel
theorem d_X9_takeClause_300 : decode oX9_takeClause.2.1 300 = .ok (.ifCond .ne 7, 3) := by decide +kernel
theorem d_X9_takeClause_303 : decode oX9_takeClause.2.1 303 = .ok (.iconst 0, 1) := by decide +kernel
theorem d_X9_takeClause_304 : decode oX9_takeClause.2.1 304 = .ok (.goto 4, 3) := by decide +kernel
theorem d_X9_takeClause_307 : decode oX9_takeClause.2.1 307 = .ok (.iconst 1, 1) := by decide +kernel
theorem d_X9_takeClause_308 : decode oX9_takeClause.2.1 308 = .ok (.iadd, 1) := by decide +kernel
theorem d_X9_takeClause_309 : decode oX9_takeClause.2.1 309 = .ok (.putfield 206, 3) := by decide +kernel
theorem d_X9_takeClause_312 : decode oX9_takeClause.2.1 312 = .ok (.iconst 0, 1) := by decide +kernel
theorem d_X9_takeClause_313 : decode oX9_takeClause.2.1 313 = .ok (.istore 7, 2) := by decide +kernel
theorem d_X9_takeClause_315 : decode oX9_takeClause.2.1 315 = .ok (.iload 6, 2) := by decide +kernel
theorem d_X9_takeClause_317 : decode oX9_takeClause.2.1 317 = .ok (.ifCond .ne 23, 3) := by decide +kernel
theorem d_X9_takeClause_320 : decode oX9_takeClause.2.1 320 = .ok (.aload_n 0, 1) := by decide +kernel
theorem d_X9_takeClause_321 : decode oX9_takeClause.2.1 321 = .ok (.iconst 2, 1) := by decide +kernel
theorem d_X9_takeClause_322 : decode oX9_takeClause.2.1 322 = .ok (.bipush 60, 2) := by decide +kernel
theorem d_X9_takeClause_324 : decode oX9_takeClause.2.1 324 = .ok (.invokevirtual 170, 3) := by decide +kernel
theorem d_X9_takeClause_327 : decode oX9_takeClause.2.1 327 = .ok (.istore 7, 2) := by decide +kernel
theorem d_X9_takeClause_329 : decode oX9_takeClause.2.1 329 = .ok (.aload_n 0, 1) := by decide +kernel
theorem d_X9_takeClause_330 : decode oX9_takeClause.2.1 330 = .ok (.aload_n 0, 1) := by decide +kernel
theorem d_X9_takeClause_331 : decode oX9_takeClause.2.1 331 = .ok (.getfield 167, 3) := by decide +kernel
theorem d_X9_takeClause_334 : decode oX9_takeClause.2.1 334 = .ok (.putfield 183, 3) := by decide +kernel
theorem d_X9_takeClause_337 : decode oX9_takeClause.2.1 337 = .ok (.goto 35, 3) := by decide +kernel
theorem d_X9_takeClause_340 : decode oX9_takeClause.2.1 340 = .ok (.iload 6, 2) := by decide +kernel
theorem d_X9_takeClause_342 : decode oX9_takeClause.2.1 342 = .ok (.iconst 1, 1) := by decide +kernel
theorem d_X9_takeClause_343 : decode oX9_takeClause.2.1 343 = .ok (.if_icmp .ne 10, 3) := by decide +kernel
theorem d_X9_takeClause_346 : decode oX9_takeClause.2.1 346 = .ok (.aload_n 0, 1) := by decide +kernel
theorem d_X9_takeClause_347 : decode oX9_takeClause.2.1 347 = .ok (.invokevirtual 209, 3) := by decide +kernel
theorem d_X9_takeClause_350 : decode oX9_takeClause.2.1 350 = .ok (.goto 20, 3) := by decide +kernel
theorem d_X9_takeClause_353 : decode oX9_takeClause.2.1 353 = .ok (.iload 6, 2) := by decide +kernel
theorem d_X9_takeClause_355 : decode oX9_takeClause.2.1 355 = .ok (.iconst 2, 1) := by decide +kernel
theorem d_X9_takeClause_356 : decode oX9_takeClause.2.1 356 = .ok (.if_icmp .ne 10, 3) := by decide +kernel
theorem d_X9_takeClause_359 : decode oX9_takeClause.2.1 359 = .ok (.aload_n 0, 1) := by decide +kernel
theorem d_X9_takeClause_360 : decode oX9_takeClause.2.1 360 = .ok (.invokevirtual 212, 3) := by decide +kernel
theorem d_X9_takeClause_363 : decode oX9_takeClause.2.1 363 = .ok (.goto 7, 3) := by decide +kernel
theorem d_X9_takeClause_366 : decode oX9_takeClause.2.1 366 = .ok (.aload_n 0, 1) := by decide +kernel
theorem d_X9_takeClause_367 : decode oX9_takeClause.2.1 367 = .ok (.invokevirtual 215, 3) := by decide +kernel
theorem d_X9_takeClause_370 : decode oX9_takeClause.2.1 370 = .ok (.istore 7, 2) := by decide +kernel
theorem d_X9_takeClause_372 : decode oX9_takeClause.2.1 372 = .ok (.iload 7, 2) := by decide +kernel
theorem d_X9_takeClause_374 : decode oX9_takeClause.2.1 374 = .ok (.ifCond .ne 22, 3) := by decide +kernel
theorem d_X9_takeClause_377 : decode oX9_takeClause.2.1 377 = .ok (.aload_n 0, 1) := by decide +kernel
theorem d_X9_takeClause_378 : decode oX9_takeClause.2.1 378 = .ok (.invokevirtual 133, 3) := by decide +kernel
theorem d_X9_takeClause_381 : decode oX9_takeClause.2.1 381 = .ok (.bipush 59, 2) := by decide +kernel
theorem d_X9_takeClause_383 : decode oX9_takeClause.2.1 383 = .ok (.if_icmp .eq 13, 3) := by decide +kernel
theorem d_X9_takeClause_386 : decode oX9_takeClause.2.1 386 = .ok (.aload_n 0, 1) := by decide +kernel
theorem d_X9_takeClause_387 : decode oX9_takeClause.2.1 387 = .ok (.iconst 1, 1) := by decide +kernel
theorem d_X9_takeClause_388 : decode oX9_takeClause.2.1 388 = .ok (.aload_n 0, 1) := by decide +kernel
theorem d_X9_takeClause_389 : decode oX9_takeClause.2.1 389 = .ok (.getfield 130, 3) := by decide +kernel
theorem d_X9_takeClause_392 : decode oX9_takeClause.2.1 392 = .ok (.invokevirtual 160, 3) := by decide +kernel
theorem d_X9_takeClause_395 : decode oX9_takeClause.2.1 395 = .ok (.ireturn, 1) := by decide +kernel
theorem d_X9_takeClause_396 : decode oX9_takeClause.2.1 396 = .ok (.aload_n 0, 1) := by decide +kernel
theorem d_X9_takeClause_397 : decode oX9_takeClause.2.1 397 = .ok (.dup, 1) := by decide +kernel
theorem d_X9_takeClause_398 : decode oX9_takeClause.2.1 398 = .ok (.getfield 130, 3) := by decide +kernel
theorem d_X9_takeClause_401 : decode oX9_takeClause.2.1 401 = .ok (.iconst 1, 1) := by decide +kernel
theorem d_X9_takeClause_402 : decode oX9_takeClause.2.1 402 = .ok (.iadd, 1) := by decide +kernel
theorem d_X9_takeClause_403 : decode oX9_takeClause.2.1 403 = .ok (.putfield 130, 3) := by decide +kernel
theorem d_X9_takeClause_406 : decode oX9_takeClause.2.1 406 = .ok (.iload 7, 2) := by decide +kernel
theorem d_X9_takeClause_408 : decode oX9_takeClause.2.1 408 = .ok (.ireturn, 1) := by decide +kernel
theorem b_X9_takeClause_0 {E : ob_E} {σ : ob_Mem} {Q : Int32 → ob_Mem → Prop} (k : ob_RM shp E oX9_readWord [.ref 53] σ (ob_qV fun σ1 => ob_RM shp E oX9_code [.int (98 : Int32), .int (105 : Int32), .int (114 : Int32), .int (116 : Int32)] σ1 (ob_qL fun v3 σ2 => (∀ w4 : Int64, w4 = ((((27 : Int64) * ((((27 : Int64) * ((((27 : Int64) * ((((27 : Int64) * v3) + (104 : Int64)) - (96 : Int64))) + (100 : Int64)) - (96 : Int64))) + (97 : Int64)) - (96 : Int64))) + (121 : Int64)) - (96 : Int64)) → ob_RM shp E oX9_code [.int (121 : Int32), .int (101 : Int32), .int (97 : Int32), .int (114 : Int32)] σ2 (ob_qL fun v6 σ5 => ((¬ (σ2.2 53 21) = v6 → ob_RM shp E oX9_code [.int (112 : Int32), .int (101 : Int32), .int (114 : Int32), .int (115 : Int32)] σ5 (ob_qL fun v8 σ7 => ((¬ (σ5.2 53 21) = ((((27 : Int64) * ((((27 : Int64) * v8) + (111 : Int64)) - (96 : Int64))) + (110 : Int64)) - (96 : Int64)) → ob_RT shp E oX9_takeClause 137 [.ref 53, .long v3, .null, .long w4, .null, .null, .null, .null] [.int (-1 : Int32)] σ7 (ob_qI Q)) ∧ ((σ5.2 53 21) = ((((27 : Int64) * ((((27 : Int64) * v8) + (111 : Int64)) - (96 : Int64))) + (110 : Int64)) - (96 : Int64)) → ob_RT shp E oX9_takeClause 137 [.ref 53, .long v3, .null, .long w4, .null, .null, .null, .null] [.int (1 : Int32)] σ7 (ob_qI Q))))) ∧ ((σ2.2 53 21) = v6 → ob_RT shp E oX9_takeClause 137 [.ref 53, .long v3, .null, .long w4, .null, .null, .null, .null] [.int (0 : Int32)] σ5 (ob_qI Q)))))))) : ob_RT shp E oX9_takeClause 0 [.ref 53, .null, .null, .null, .null, .null, .null, .null] [] σ (ob_qI Q) := by
  refine ob_aload_n d_X9_takeClause_0 rfl ?_
  refine ob_callV [] (z := oX9_readWord) (st := []) d_X9_takeClause_1 lk_X9_189 mv_X9_readWord rfl sh_53 cl_9 rfl (Nat.le_of_ble_eq_true rfl) rfl k (ob_kV fun σ1 k => ?_)
  refine ob_bipush (v := 98) d_X9_takeClause_4 cb_98 ?_
  refine ob_bipush (v := 105) d_X9_takeClause_6 cb_105 ?_
  refine ob_bipush (v := 114) d_X9_takeClause_8 cb_114 ?_
  refine ob_bipush (v := 116) d_X9_takeClause_10 cb_116 ?_
  refine ob_callS [.int (98 : Int32), .int (105 : Int32), .int (114 : Int32), .int (116 : Int32)] (z := oX9_code) (st := []) d_X9_takeClause_12 lk_X9_192 ms_X9_code rfl (Nat.le_of_ble_eq_true rfl) rfl k (ob_kL fun v3 σ2 k => ?_)
  refine ob_lstore_n (ls' := [.ref 53, .long v3, .null, .null, .null, .null, .null, .null]) d_X9_takeClause_15 (Nat.le_of_ble_eq_true rfl) rfl ?_
  refine ob_ldc2 (v := 27) d_X9_takeClause_16 k_X9_152 ?_
  refine ob_ldc2 (v := 27) d_X9_takeClause_19 k_X9_152 ?_
  refine ob_ldc2 (v := 27) d_X9_takeClause_22 k_X9_152 ?_
  refine ob_ldc2 (v := 27) d_X9_takeClause_25 k_X9_152 ?_
  refine ob_lload_n d_X9_takeClause_28 rfl ?_
  refine ob_lmul d_X9_takeClause_29 ?_
  refine ob_ldc2 (v := 104) d_X9_takeClause_30 k_X9_196 ?_
  refine ob_ladd d_X9_takeClause_33 ?_
  refine ob_ldc2 (v := 96) d_X9_takeClause_34 k_X9_154 ?_
  refine ob_lsub d_X9_takeClause_37 ?_
  refine ob_lmul d_X9_takeClause_38 ?_
  refine ob_ldc2 (v := 100) d_X9_takeClause_39 k_X9_198 ?_
  refine ob_ladd d_X9_takeClause_42 ?_
  refine ob_ldc2 (v := 96) d_X9_takeClause_43 k_X9_154 ?_
  refine ob_lsub d_X9_takeClause_46 ?_
  refine ob_lmul d_X9_takeClause_47 ?_
  refine ob_ldc2 (v := 97) d_X9_takeClause_48 k_X9_144 ?_
  refine ob_ladd d_X9_takeClause_51 ?_
  refine ob_ldc2 (v := 96) d_X9_takeClause_52 k_X9_154 ?_
  refine ob_lsub d_X9_takeClause_55 ?_
  refine ob_lmul d_X9_takeClause_56 ?_
  refine ob_ldc2 (v := 121) d_X9_takeClause_57 k_X9_200 ?_
  refine ob_ladd d_X9_takeClause_60 ?_
  refine ob_ldc2 (v := 96) d_X9_takeClause_61 k_X9_154 ?_
  refine ob_lsub d_X9_takeClause_64 ?_
  refine ob_nmL (fun w4 hw4 => ?_)
  have k := k w4 hw4
  refine ob_lstore_n (ls' := [.ref 53, .long v3, .null, .long w4, .null, .null, .null, .null]) d_X9_takeClause_65 (Nat.le_of_ble_eq_true rfl) rfl ?_
  refine ob_aload_n d_X9_takeClause_66 rfl ?_
  refine ob_getL d_X9_takeClause_67 fl_X9_137 sh_53 rfl rfl ?_
  refine ob_bipush (v := 121) d_X9_takeClause_70 cb_121 ?_
  refine ob_bipush (v := 101) d_X9_takeClause_72 cb_101 ?_
  refine ob_bipush (v := 97) d_X9_takeClause_74 cb_97 ?_
  refine ob_bipush (v := 114) d_X9_takeClause_76 cb_114 ?_
  refine ob_callS [.int (121 : Int32), .int (101 : Int32), .int (97 : Int32), .int (114 : Int32)] (z := oX9_code) (st := [.long (σ2.2 53 21)]) d_X9_takeClause_78 lk_X9_192 ms_X9_code rfl (Nat.le_of_ble_eq_true rfl) rfl k (ob_kL fun v6 σ5 k => ?_)
  refine ob_lcmp d_X9_takeClause_81 ?_
  refine ob_if_ne (tgt := 89) d_X9_takeClause_82 rfl (fun cc => ?_) (fun cc => ?_)
  · have k := k.1 (mt ob_c_eq.mpr cc)
    refine ob_aload_n d_X9_takeClause_89 rfl ?_
    refine ob_getL d_X9_takeClause_90 fl_X9_137 sh_53 rfl rfl ?_
    refine ob_ldc2 (v := 27) d_X9_takeClause_93 k_X9_152 ?_
    refine ob_ldc2 (v := 27) d_X9_takeClause_96 k_X9_152 ?_
    refine ob_bipush (v := 112) d_X9_takeClause_99 cb_112 ?_
    refine ob_bipush (v := 101) d_X9_takeClause_101 cb_101 ?_
    refine ob_bipush (v := 114) d_X9_takeClause_103 cb_114 ?_
    refine ob_bipush (v := 115) d_X9_takeClause_105 cb_115 ?_
    refine ob_callS [.int (112 : Int32), .int (101 : Int32), .int (114 : Int32), .int (115 : Int32)] (z := oX9_code) (st := [.long (27 : Int64), .long (27 : Int64), .long (σ5.2 53 21)]) d_X9_takeClause_107 lk_X9_192 ms_X9_code rfl (Nat.le_of_ble_eq_true rfl) rfl k (ob_kL fun v8 σ7 k => ?_)
    refine ob_lmul d_X9_takeClause_110 ?_
    refine ob_ldc2 (v := 111) d_X9_takeClause_111 k_X9_202 ?_
    refine ob_ladd d_X9_takeClause_114 ?_
    refine ob_ldc2 (v := 96) d_X9_takeClause_115 k_X9_154 ?_
    refine ob_lsub d_X9_takeClause_118 ?_
    refine ob_lmul d_X9_takeClause_119 ?_
    refine ob_ldc2 (v := 110) d_X9_takeClause_120 k_X9_204 ?_
    refine ob_ladd d_X9_takeClause_123 ?_
    refine ob_ldc2 (v := 96) d_X9_takeClause_124 k_X9_154 ?_
    refine ob_lsub d_X9_takeClause_127 ?_
    refine ob_lcmp d_X9_takeClause_128 ?_
    refine ob_if_ne (tgt := 136) d_X9_takeClause_129 rfl (fun cc => ?_) (fun cc => ?_)
    · have k := k.1 (mt ob_c_eq.mpr cc)
      refine ob_iconst (v := -1) d_X9_takeClause_136 ci_m1 ?_
      exact k
    · have k := k.2 (ob_c_eq.mp cc)
      refine ob_iconst (v := 1) d_X9_takeClause_132 ci_1 ?_
      refine ob_goto (tgt := 137) d_X9_takeClause_133 rfl ?_
      exact k
  · have k := k.2 (ob_c_eq.mp cc)
    refine ob_iconst (v := 0) d_X9_takeClause_85 ci_0 ?_
    refine ob_goto (tgt := 137) d_X9_takeClause_86 rfl ?_
    exact k
theorem b_X9_takeClause_137 {E : ob_E} {σ : ob_Mem} {Q : Int32 → ob_Mem → Prop} {s0 : Int32} {x1 x3 : Int64} (k : ((s0 < 0 → ((¬ (σ.2 53 21) = x3 → ob_RM shp E oX9_code [.int (103 : Int32), .int (111 : Int32), .int (111 : Int32), .int (100 : Int32)] σ (ob_qL fun v2 σ1 => ((¬ (σ.2 53 21) = v2 → ob_RT shp E oX9_takeClause 186 [.ref 53, .long x1, .null, .long x3, .null, .int s0, .null, .null] [.int (-1 : Int32)] σ1 (ob_qI Q)) ∧ ((σ.2 53 21) = v2 → ob_RT shp E oX9_takeClause 186 [.ref 53, .long x1, .null, .long x3, .null, .int s0, .null, .null] [.int (3 : Int32)] σ1 (ob_qI Q))))) ∧ ((σ.2 53 21) = x3 → ob_RT shp E oX9_takeClause 186 [.ref 53, .long x1, .null, .long x3, .null, .int s0, .null, .null] [.int (2 : Int32)] σ (ob_qI Q)))) ∧ (¬ s0 < 0 → ob_RT shp E oX9_takeClause 186 [.ref 53, .long x1, .null, .long x3, .null, .int s0, .null, .null] [.int s0] σ (ob_qI Q)))) : ob_RT shp E oX9_takeClause 137 [.ref 53, .long x1, .null, .long x3, .null, .null, .null, .null] [.int s0] σ (ob_qI Q) := by
  refine ob_istore (ls' := [.ref 53, .long x1, .null, .long x3, .null, .int s0, .null, .null]) d_X9_takeClause_137 (Nat.le_of_ble_eq_true rfl) rfl ?_
  refine ob_iload d_X9_takeClause_139 rfl ?_
  refine ob_if_lt (tgt := 149) d_X9_takeClause_141 rfl (fun cc => ?_) (fun cc => ?_)
  · have k := k.1 cc
    refine ob_aload_n d_X9_takeClause_149 rfl ?_
    refine ob_getL d_X9_takeClause_150 fl_X9_137 sh_53 rfl rfl ?_
    refine ob_lload_n d_X9_takeClause_153 rfl ?_
    refine ob_lcmp d_X9_takeClause_154 ?_
    refine ob_if_ne (tgt := 162) d_X9_takeClause_155 rfl (fun cc => ?_) (fun cc => ?_)
    · have k := k.1 (mt ob_c_eq.mpr cc)
      refine ob_aload_n d_X9_takeClause_162 rfl ?_
      refine ob_getL d_X9_takeClause_163 fl_X9_137 sh_53 rfl rfl ?_
      refine ob_bipush (v := 103) d_X9_takeClause_166 cb_103 ?_
      refine ob_bipush (v := 111) d_X9_takeClause_168 cb_111 ?_
      refine ob_bipush (v := 111) d_X9_takeClause_170 cb_111 ?_
      refine ob_bipush (v := 100) d_X9_takeClause_172 cb_100 ?_
      refine ob_callS [.int (103 : Int32), .int (111 : Int32), .int (111 : Int32), .int (100 : Int32)] (z := oX9_code) (st := [.long (σ.2 53 21)]) d_X9_takeClause_174 lk_X9_192 ms_X9_code rfl (Nat.le_of_ble_eq_true rfl) rfl k (ob_kL fun v2 σ1 k => ?_)
      refine ob_lcmp d_X9_takeClause_177 ?_
      refine ob_if_ne (tgt := 185) d_X9_takeClause_178 rfl (fun cc => ?_) (fun cc => ?_)
      · have k := k.1 (mt ob_c_eq.mpr cc)
        refine ob_iconst (v := -1) d_X9_takeClause_185 ci_m1 ?_
        exact k
      · have k := k.2 (ob_c_eq.mp cc)
        refine ob_iconst (v := 3) d_X9_takeClause_181 ci_3 ?_
        refine ob_goto (tgt := 186) d_X9_takeClause_182 rfl ?_
        exact k
    · have k := k.2 (ob_c_eq.mp cc)
      refine ob_iconst (v := 2) d_X9_takeClause_158 ci_2 ?_
      refine ob_goto (tgt := 186) d_X9_takeClause_159 rfl ?_
      exact k
  · have k := k.2 cc
    refine ob_iload d_X9_takeClause_144 rfl ?_
    refine ob_goto (tgt := 186) d_X9_takeClause_146 rfl ?_
    exact k
theorem b_X9_takeClause_186 {E : ob_E} {σ : ob_Mem} {Q : Int32 → ob_Mem → Prop} {x5 s0 : Int32} {x1 x3 : Int64} (k : ((s0 < 0 → ob_RM shp E oX9_fails [.ref 53, .int (1 : Int32), .int (σ.1 53 20)] σ (ob_qI fun v2 σ1 => Q v2 σ1)) ∧ (¬ s0 < 0 → ((¬ s0 = 0 → ob_RT shp E oX9_takeClause 215 [.ref 53, .long x1, .null, .long x3, .null, .int x5, .int s0, .null] [] σ (ob_qI Q)) ∧ (s0 = 0 → (((σ.1 53 26) ≤ 0 → ob_RT shp E oX9_takeClause 215 [.ref 53, .long x1, .null, .long x3, .null, .int x5, .int s0, .null] [] σ (ob_qI Q)) ∧ (¬ (σ.1 53 26) ≤ 0 → ob_RM shp E oX9_fails [.ref 53, .int (1 : Int32), .int (σ.1 53 20)] σ (ob_qI fun v4 σ3 => Q v4 σ3)))))))) : ob_RT shp E oX9_takeClause 186 [.ref 53, .long x1, .null, .long x3, .null, .int x5, .null, .null] [.int s0] σ (ob_qI Q) := by
  refine ob_istore (ls' := [.ref 53, .long x1, .null, .long x3, .null, .int x5, .int s0, .null]) d_X9_takeClause_186 (Nat.le_of_ble_eq_true rfl) rfl ?_
  refine ob_iload d_X9_takeClause_188 rfl ?_
  refine ob_if_lt (tgt := 205) d_X9_takeClause_190 rfl (fun cc => ?_) (fun cc => ?_)
  · have k := k.1 cc
    refine ob_aload_n d_X9_takeClause_205 rfl ?_
    refine ob_iconst (v := 1) d_X9_takeClause_206 ci_1 ?_
    refine ob_aload_n d_X9_takeClause_207 rfl ?_
    refine ob_getI d_X9_takeClause_208 fl_X9_130 sh_53 rfl (by decide) ?_
    refine ob_callV [.int (1 : Int32), .int (σ.1 53 20)] (z := oX9_fails) (st := []) d_X9_takeClause_211 lk_X9_160 mv_X9_fails rfl sh_53 cl_9 rfl (Nat.le_of_ble_eq_true rfl) rfl k (ob_kI fun v2 σ1 k => ?_)
    exact ob_iret d_X9_takeClause_214 rfl ⟨_, rfl, k⟩
  · have k := k.2 cc
    refine ob_iload d_X9_takeClause_193 rfl ?_
    refine ob_if_ne (tgt := 215) d_X9_takeClause_195 rfl (fun cc => ?_) (fun cc => ?_)
    · have k := k.1 cc
      exact k
    · have k := k.2 cc
      refine ob_aload_n d_X9_takeClause_198 rfl ?_
      refine ob_getI d_X9_takeClause_199 fl_X9_206 sh_53 rfl (by decide) ?_
      refine ob_if_le (tgt := 215) d_X9_takeClause_202 rfl (fun cc => ?_) (fun cc => ?_)
      · have k := k.1 cc
        exact k
      · have k := k.2 cc
        refine ob_aload_n d_X9_takeClause_205 rfl ?_
        refine ob_iconst (v := 1) d_X9_takeClause_206 ci_1 ?_
        refine ob_aload_n d_X9_takeClause_207 rfl ?_
        refine ob_getI d_X9_takeClause_208 fl_X9_130 sh_53 rfl (by decide) ?_
        refine ob_callV [.int (1 : Int32), .int (σ.1 53 20)] (z := oX9_fails) (st := []) d_X9_takeClause_211 lk_X9_160 mv_X9_fails rfl sh_53 cl_9 rfl (Nat.le_of_ble_eq_true rfl) rfl k (ob_kI fun v4 σ3 k => ?_)
        exact ob_iret d_X9_takeClause_214 rfl ⟨_, rfl, k⟩
theorem b_X9_takeClause_215 {E : ob_E} {σ : ob_Mem} {Q : Int32 → ob_Mem → Prop} {x5 x6 : Int32} {x1 x3 : Int64} (k : ((¬ x6 = 0 → ((¬ x6 = (1 : Int32) → ((¬ x6 = (2 : Int32) → ((¬ (σ.1 53 34) = (10 : Int32) → ob_RT shp E oX9_takeClause 285 [.ref 53, .long x1, .null, .long x3, .null, .int x5, .int x6, .null] [] σ (ob_qI Q)) ∧ ((σ.1 53 34) = (10 : Int32) → ob_RM shp E oX9_fails [.ref 53, .int (3 : Int32), .int (σ.1 53 20)] σ (ob_qI fun v2 σ1 => Q v2 σ1)))) ∧ (x6 = (2 : Int32) → ((¬ (σ.1 53 30) = (8 : Int32) → ob_RT shp E oX9_takeClause 285 [.ref 53, .long x1, .null, .long x3, .null, .int x5, .int x6, .null] [] σ (ob_qI Q)) ∧ ((σ.1 53 30) = (8 : Int32) → ob_RM shp E oX9_fails [.ref 53, .int (3 : Int32), .int (σ.1 53 20)] σ (ob_qI fun v4 σ3 => Q v4 σ3)))))) ∧ (x6 = (1 : Int32) → ((¬ (σ.1 53 27) = (6 : Int32) → ob_RT shp E oX9_takeClause 285 [.ref 53, .long x1, .null, .long x3, .null, .int x5, .int x6, .null] [] σ (ob_qI Q)) ∧ ((σ.1 53 27) = (6 : Int32) → ob_RM shp E oX9_fails [.ref 53, .int (3 : Int32), .int (σ.1 53 20)] σ (ob_qI fun v6 σ5 => Q v6 σ5)))))) ∧ (x6 = 0 → (((σ.1 53 25) ≤ 0 → ob_RT shp E oX9_takeClause 285 [.ref 53, .long x1, .null, .long x3, .null, .int x5, .int x6, .null] [] σ (ob_qI Q)) ∧ (¬ (σ.1 53 25) ≤ 0 → ob_RM shp E oX9_fails [.ref 53, .int (3 : Int32), .int (σ.1 53 20)] σ (ob_qI fun v8 σ7 => Q v8 σ7)))))) : ob_RT shp E oX9_takeClause 215 [.ref 53, .long x1, .null, .long x3, .null, .int x5, .int x6, .null] [] σ (ob_qI Q) := by
  refine ob_iload d_X9_takeClause_215 rfl ?_
  refine ob_if_ne (tgt := 230) d_X9_takeClause_217 rfl (fun cc => ?_) (fun cc => ?_)
  · have k := k.1 cc
    refine ob_iload d_X9_takeClause_230 rfl ?_
    refine ob_iconst (v := 1) d_X9_takeClause_232 ci_1 ?_
    refine ob_icmp_ne (tgt := 248) d_X9_takeClause_233 rfl (fun cc => ?_) (fun cc => ?_)
    · have k := k.1 cc
      refine ob_iload d_X9_takeClause_248 rfl ?_
      refine ob_iconst (v := 2) d_X9_takeClause_250 ci_2 ?_
      refine ob_icmp_ne (tgt := 266) d_X9_takeClause_251 rfl (fun cc => ?_) (fun cc => ?_)
      · have k := k.1 cc
        refine ob_aload_n d_X9_takeClause_266 rfl ?_
        refine ob_getI d_X9_takeClause_267 fl_X9_186 sh_53 rfl (by decide) ?_
        refine ob_bipush (v := 10) d_X9_takeClause_270 cb_10 ?_
        refine ob_icmp_ne (tgt := 285) d_X9_takeClause_272 rfl (fun cc => ?_) (fun cc => ?_)
        · have k := k.1 cc
          exact k
        · have k := k.2 cc
          refine ob_aload_n d_X9_takeClause_275 rfl ?_
          refine ob_iconst (v := 3) d_X9_takeClause_276 ci_3 ?_
          refine ob_aload_n d_X9_takeClause_277 rfl ?_
          refine ob_getI d_X9_takeClause_278 fl_X9_130 sh_53 rfl (by decide) ?_
          refine ob_callV [.int (3 : Int32), .int (σ.1 53 20)] (z := oX9_fails) (st := []) d_X9_takeClause_281 lk_X9_160 mv_X9_fails rfl sh_53 cl_9 rfl (Nat.le_of_ble_eq_true rfl) rfl k (ob_kI fun v2 σ1 k => ?_)
          exact ob_iret d_X9_takeClause_284 rfl ⟨_, rfl, k⟩
      · have k := k.2 cc
        refine ob_aload_n d_X9_takeClause_254 rfl ?_
        refine ob_getI d_X9_takeClause_255 fl_X9_180 sh_53 rfl (by decide) ?_
        refine ob_bipush (v := 8) d_X9_takeClause_258 cb_8 ?_
        refine ob_icmp_ne (tgt := 285) d_X9_takeClause_260 rfl (fun cc => ?_) (fun cc => ?_)
        · have k := k.1 cc
          exact k
        · have k := k.2 cc
          refine ob_goto (tgt := 275) d_X9_takeClause_263 rfl ?_
          refine ob_aload_n d_X9_takeClause_275 rfl ?_
          refine ob_iconst (v := 3) d_X9_takeClause_276 ci_3 ?_
          refine ob_aload_n d_X9_takeClause_277 rfl ?_
          refine ob_getI d_X9_takeClause_278 fl_X9_130 sh_53 rfl (by decide) ?_
          refine ob_callV [.int (3 : Int32), .int (σ.1 53 20)] (z := oX9_fails) (st := []) d_X9_takeClause_281 lk_X9_160 mv_X9_fails rfl sh_53 cl_9 rfl (Nat.le_of_ble_eq_true rfl) rfl k (ob_kI fun v4 σ3 k => ?_)
          exact ob_iret d_X9_takeClause_284 rfl ⟨_, rfl, k⟩
    · have k := k.2 cc
      refine ob_aload_n d_X9_takeClause_236 rfl ?_
      refine ob_getI d_X9_takeClause_237 fl_X9_173 sh_53 rfl (by decide) ?_
      refine ob_bipush (v := 6) d_X9_takeClause_240 cb_6 ?_
      refine ob_icmp_ne (tgt := 285) d_X9_takeClause_242 rfl (fun cc => ?_) (fun cc => ?_)
      · have k := k.1 cc
        exact k
      · have k := k.2 cc
        refine ob_goto (tgt := 275) d_X9_takeClause_245 rfl ?_
        refine ob_aload_n d_X9_takeClause_275 rfl ?_
        refine ob_iconst (v := 3) d_X9_takeClause_276 ci_3 ?_
        refine ob_aload_n d_X9_takeClause_277 rfl ?_
        refine ob_getI d_X9_takeClause_278 fl_X9_130 sh_53 rfl (by decide) ?_
        refine ob_callV [.int (3 : Int32), .int (σ.1 53 20)] (z := oX9_fails) (st := []) d_X9_takeClause_281 lk_X9_160 mv_X9_fails rfl sh_53 cl_9 rfl (Nat.le_of_ble_eq_true rfl) rfl k (ob_kI fun v6 σ5 k => ?_)
        exact ob_iret d_X9_takeClause_284 rfl ⟨_, rfl, k⟩
  · have k := k.2 cc
    refine ob_aload_n d_X9_takeClause_220 rfl ?_
    refine ob_getI d_X9_takeClause_221 fl_X9_183 sh_53 rfl (by decide) ?_
    refine ob_if_le (tgt := 285) d_X9_takeClause_224 rfl (fun cc => ?_) (fun cc => ?_)
    · have k := k.1 cc
      exact k
    · have k := k.2 cc
      refine ob_goto (tgt := 275) d_X9_takeClause_227 rfl ?_
      refine ob_aload_n d_X9_takeClause_275 rfl ?_
      refine ob_iconst (v := 3) d_X9_takeClause_276 ci_3 ?_
      refine ob_aload_n d_X9_takeClause_277 rfl ?_
      refine ob_getI d_X9_takeClause_278 fl_X9_130 sh_53 rfl (by decide) ?_
      refine ob_callV [.int (3 : Int32), .int (σ.1 53 20)] (z := oX9_fails) (st := []) d_X9_takeClause_281 lk_X9_160 mv_X9_fails rfl sh_53 cl_9 rfl (Nat.le_of_ble_eq_true rfl) rfl k (ob_kI fun v8 σ7 k => ?_)
      exact ob_iret d_X9_takeClause_284 rfl ⟨_, rfl, k⟩
theorem b_X9_takeClause_285 {E : ob_E} {σ : ob_Mem} {Q : Int32 → ob_Mem → Prop} {x5 x6 : Int32} {x1 x3 : Int64} (k : ((¬ x6 = 0 → ob_RT shp E oX9_takeClause 308 [.ref 53, .long x1, .null, .long x3, .null, .int x5, .int x6, .null] [.int (1 : Int32), .int ((ob_wI σ 53 20 (σ.1 53 22)).1 53 26), .ref 53] (ob_wI σ 53 20 (σ.1 53 22)) (ob_qI Q)) ∧ (x6 = 0 → ob_RT shp E oX9_takeClause 308 [.ref 53, .long x1, .null, .long x3, .null, .int x5, .int x6, .null] [.int (0 : Int32), .int ((ob_wI σ 53 20 (σ.1 53 22)).1 53 26), .ref 53] (ob_wI σ 53 20 (σ.1 53 22)) (ob_qI Q)))) : ob_RT shp E oX9_takeClause 285 [.ref 53, .long x1, .null, .long x3, .null, .int x5, .int x6, .null] [] σ (ob_qI Q) := by
  refine ob_aload_n d_X9_takeClause_285 rfl ?_
  refine ob_aload_n d_X9_takeClause_286 rfl ?_
  refine ob_getI d_X9_takeClause_287 fl_X9_141 sh_53 rfl (by decide) ?_
  refine ob_putI d_X9_takeClause_290 fp_X9_130 sh_53 rfl rfl ?_
  refine ob_aload_n d_X9_takeClause_293 rfl ?_
  refine ob_dup d_X9_takeClause_294 rfl ?_
  refine ob_getI d_X9_takeClause_295 fl_X9_206 sh_53 rfl (by decide) ?_
  refine ob_iload d_X9_takeClause_298 rfl ?_
  refine ob_if_ne (tgt := 307) d_X9_takeClause_300 rfl (fun cc => ?_) (fun cc => ?_)
  · have k := k.1 cc
    refine ob_iconst (v := 1) d_X9_takeClause_307 ci_1 ?_
    exact k
  · have k := k.2 cc
    refine ob_iconst (v := 0) d_X9_takeClause_303 ci_0 ?_
    refine ob_goto (tgt := 308) d_X9_takeClause_304 rfl ?_
    exact k
theorem b_X9_takeClause_308 {E : ob_E} {σ : ob_Mem} {Q : Int32 → ob_Mem → Prop} {x5 x6 s0 s1 : Int32} {x1 x3 : Int64} (k : ((¬ x6 = 0 → ((¬ x6 = (1 : Int32) → ((¬ x6 = (2 : Int32) → ob_RM shp E oX9_takeGood [.ref 53] (ob_wI σ 53 26 (s1 + s0)) (ob_qI fun v2 σ1 => ob_RT shp E oX9_takeClause 370 [.ref 53, .long x1, .null, .long x3, .null, .int x5, .int x6, .int (0 : Int32)] [.int v2] σ1 (ob_qI Q))) ∧ (x6 = (2 : Int32) → ob_RM shp E oX9_takeBirthday [.ref 53] (ob_wI σ 53 26 (s1 + s0)) (ob_qI fun v4 σ3 => ob_RT shp E oX9_takeClause 370 [.ref 53, .long x1, .null, .long x3, .null, .int x5, .int x6, .int (0 : Int32)] [.int v4] σ3 (ob_qI Q))))) ∧ (x6 = (1 : Int32) → ob_RM shp E oX9_takePerson [.ref 53] (ob_wI σ 53 26 (s1 + s0)) (ob_qI fun v6 σ5 => ob_RT shp E oX9_takeClause 370 [.ref 53, .long x1, .null, .long x3, .null, .int x5, .int x6, .int (0 : Int32)] [.int v6] σ5 (ob_qI Q))))) ∧ (x6 = 0 → ob_RM shp E oX9_takeNumber [.ref 53, .int (2 : Int32), .int (60 : Int32)] (ob_wI σ 53 26 (s1 + s0)) (ob_qI fun v8 σ7 => ob_RT shp E oX9_takeClause 372 [.ref 53, .long x1, .null, .long x3, .null, .int x5, .int x6, .int v8] [] (ob_wI σ7 53 25 (σ7.1 53 23)) (ob_qI Q))))) : ob_RT shp E oX9_takeClause 308 [.ref 53, .long x1, .null, .long x3, .null, .int x5, .int x6, .null] [.int s0, .int s1, .ref 53] σ (ob_qI Q) := by
  refine ob_iadd d_X9_takeClause_308 ?_
  refine ob_putI d_X9_takeClause_309 fp_X9_206 sh_53 rfl rfl ?_
  refine ob_iconst (v := 0) d_X9_takeClause_312 ci_0 ?_
  refine ob_istore (ls' := [.ref 53, .long x1, .null, .long x3, .null, .int x5, .int x6, .int (0 : Int32)]) d_X9_takeClause_313 (Nat.le_of_ble_eq_true rfl) rfl ?_
  refine ob_iload d_X9_takeClause_315 rfl ?_
  refine ob_if_ne (tgt := 340) d_X9_takeClause_317 rfl (fun cc => ?_) (fun cc => ?_)
  · have k := k.1 cc
    refine ob_iload d_X9_takeClause_340 rfl ?_
    refine ob_iconst (v := 1) d_X9_takeClause_342 ci_1 ?_
    refine ob_icmp_ne (tgt := 353) d_X9_takeClause_343 rfl (fun cc => ?_) (fun cc => ?_)
    · have k := k.1 cc
      refine ob_iload d_X9_takeClause_353 rfl ?_
      refine ob_iconst (v := 2) d_X9_takeClause_355 ci_2 ?_
      refine ob_icmp_ne (tgt := 366) d_X9_takeClause_356 rfl (fun cc => ?_) (fun cc => ?_)
      · have k := k.1 cc
        refine ob_aload_n d_X9_takeClause_366 rfl ?_
        refine ob_callV [] (z := oX9_takeGood) (st := []) d_X9_takeClause_367 lk_X9_215 mv_X9_takeGood rfl sh_53 cl_9 rfl (Nat.le_of_ble_eq_true rfl) rfl k (ob_kI fun v2 σ1 k => ?_)
        exact k
      · have k := k.2 cc
        refine ob_aload_n d_X9_takeClause_359 rfl ?_
        refine ob_callV [] (z := oX9_takeBirthday) (st := []) d_X9_takeClause_360 lk_X9_212 mv_X9_takeBirthday rfl sh_53 cl_9 rfl (Nat.le_of_ble_eq_true rfl) rfl k (ob_kI fun v4 σ3 k => ?_)
        refine ob_goto (tgt := 370) d_X9_takeClause_363 rfl ?_
        exact k
    · have k := k.2 cc
      refine ob_aload_n d_X9_takeClause_346 rfl ?_
      refine ob_callV [] (z := oX9_takePerson) (st := []) d_X9_takeClause_347 lk_X9_209 mv_X9_takePerson rfl sh_53 cl_9 rfl (Nat.le_of_ble_eq_true rfl) rfl k (ob_kI fun v6 σ5 k => ?_)
      refine ob_goto (tgt := 370) d_X9_takeClause_350 rfl ?_
      exact k
  · have k := k.2 cc
    refine ob_aload_n d_X9_takeClause_320 rfl ?_
    refine ob_iconst (v := 2) d_X9_takeClause_321 ci_2 ?_
    refine ob_bipush (v := 60) d_X9_takeClause_322 cb_60 ?_
    refine ob_callV [.int (2 : Int32), .int (60 : Int32)] (z := oX9_takeNumber) (st := []) d_X9_takeClause_324 lk_X9_170 mv_X9_takeNumber rfl sh_53 cl_9 rfl (Nat.le_of_ble_eq_true rfl) rfl k (ob_kI fun v8 σ7 k => ?_)
    refine ob_istore (ls' := [.ref 53, .long x1, .null, .long x3, .null, .int x5, .int x6, .int v8]) d_X9_takeClause_327 (Nat.le_of_ble_eq_true rfl) rfl ?_
    refine ob_aload_n d_X9_takeClause_329 rfl ?_
    refine ob_aload_n d_X9_takeClause_330 rfl ?_
    refine ob_getI d_X9_takeClause_331 fl_X9_167 sh_53 rfl (by decide) ?_
    refine ob_putI d_X9_takeClause_334 fp_X9_183 sh_53 rfl rfl ?_
    refine ob_goto (tgt := 372) d_X9_takeClause_337 rfl ?_
    exact k
theorem b_X9_takeClause_370 {E : ob_E} {σ : ob_Mem} {Q : Int32 → ob_Mem → Prop} {x5 x6 x7 s0 : Int32} {x1 x3 : Int64} (k : ob_RT shp E oX9_takeClause 372 [.ref 53, .long x1, .null, .long x3, .null, .int x5, .int x6, .int s0] [] σ (ob_qI Q)) : ob_RT shp E oX9_takeClause 370 [.ref 53, .long x1, .null, .long x3, .null, .int x5, .int x6, .int x7] [.int s0] σ (ob_qI Q) := by
  refine ob_istore (ls' := [.ref 53, .long x1, .null, .long x3, .null, .int x5, .int x6, .int s0]) d_X9_takeClause_370 (Nat.le_of_ble_eq_true rfl) rfl ?_
  exact k
theorem b_X9_takeClause_372 {E : ob_E} {σ : ob_Mem} {Q : Int32 → ob_Mem → Prop} {x5 x6 x7 : Int32} {x1 x3 : Int64} (k : ((¬ x7 = 0 → Q x7 (ob_wI σ 53 20 ((σ.1 53 20) + (1 : Int32)))) ∧ (x7 = 0 → ob_RM shp E oX9_here [.ref 53] σ (ob_qI fun v2 σ1 => ((v2 = (59 : Int32) → Q x7 (ob_wI σ1 53 20 ((σ1.1 53 20) + (1 : Int32)))) ∧ (¬ v2 = (59 : Int32) → ob_RM shp E oX9_fails [.ref 53, .int (1 : Int32), .int (σ1.1 53 20)] σ1 (ob_qI fun v4 σ3 => Q v4 σ3))))))) : ob_RT shp E oX9_takeClause 372 [.ref 53, .long x1, .null, .long x3, .null, .int x5, .int x6, .int x7] [] σ (ob_qI Q) := by
  refine ob_iload d_X9_takeClause_372 rfl ?_
  refine ob_if_ne (tgt := 396) d_X9_takeClause_374 rfl (fun cc => ?_) (fun cc => ?_)
  · have k := k.1 cc
    refine ob_aload_n d_X9_takeClause_396 rfl ?_
    refine ob_dup d_X9_takeClause_397 rfl ?_
    refine ob_getI d_X9_takeClause_398 fl_X9_130 sh_53 rfl (by decide) ?_
    refine ob_iconst (v := 1) d_X9_takeClause_401 ci_1 ?_
    refine ob_iadd d_X9_takeClause_402 ?_
    refine ob_putI d_X9_takeClause_403 fp_X9_130 sh_53 rfl rfl ?_
    refine ob_iload d_X9_takeClause_406 rfl ?_
    exact ob_iret d_X9_takeClause_408 rfl ⟨_, rfl, k⟩
  · have k := k.2 cc
    refine ob_aload_n d_X9_takeClause_377 rfl ?_
    refine ob_callV [] (z := oX9_here) (st := []) d_X9_takeClause_378 lk_X9_133 mv_X9_here rfl sh_53 cl_9 rfl (Nat.le_of_ble_eq_true rfl) rfl k (ob_kI fun v2 σ1 k => ?_)
    refine ob_bipush (v := 59) d_X9_takeClause_381 cb_59 ?_
    refine ob_icmp_eq (tgt := 396) d_X9_takeClause_383 rfl (fun cc => ?_) (fun cc => ?_)
    · have k := k.1 cc
      refine ob_aload_n d_X9_takeClause_396 rfl ?_
      refine ob_dup d_X9_takeClause_397 rfl ?_
      refine ob_getI d_X9_takeClause_398 fl_X9_130 sh_53 rfl (by decide) ?_
      refine ob_iconst (v := 1) d_X9_takeClause_401 ci_1 ?_
      refine ob_iadd d_X9_takeClause_402 ?_
      refine ob_putI d_X9_takeClause_403 fp_X9_130 sh_53 rfl rfl ?_
      refine ob_iload d_X9_takeClause_406 rfl ?_
      exact ob_iret d_X9_takeClause_408 rfl ⟨_, rfl, k⟩
    · have k := k.2 cc
      refine ob_aload_n d_X9_takeClause_386 rfl ?_
      refine ob_iconst (v := 1) d_X9_takeClause_387 ci_1 ?_
      refine ob_aload_n d_X9_takeClause_388 rfl ?_
      refine ob_getI d_X9_takeClause_389 fl_X9_130 sh_53 rfl (by decide) ?_
      refine ob_callV [.int (1 : Int32), .int (σ1.1 53 20)] (z := oX9_fails) (st := []) d_X9_takeClause_392 lk_X9_160 mv_X9_fails rfl sh_53 cl_9 rfl (Nat.le_of_ble_eq_true rfl) rfl k (ob_kI fun v4 σ3 k => ?_)
      exact ob_iret d_X9_takeClause_395 rfl ⟨_, rfl, k⟩
theorem d_X9_alive_0 : decode oX9_alive.2.1 0 = .ok (.iconst 0, 1) := by decide +kernel
theorem d_X9_alive_1 : decode oX9_alive.2.1 1 = .ok (.istore_n 1, 1) := by decide +kernel
theorem d_X9_alive_2 : decode oX9_alive.2.1 2 = .ok (.iconst 0, 1) := by decide +kernel
theorem d_X9_alive_3 : decode oX9_alive.2.1 3 = .ok (.istore_n 2, 1) := by decide +kernel
theorem d_X9_alive_4 : decode oX9_alive.2.1 4 = .ok (.iload_n 2, 1) := by decide +kernel
theorem d_X9_alive_5 : decode oX9_alive.2.1 5 = .ok (.aload_n 0, 1) := by decide +kernel
theorem d_X9_alive_6 : decode oX9_alive.2.1 6 = .ok (.getfield 108, 3) := by decide +kernel
theorem d_X9_alive_9 : decode oX9_alive.2.1 9 = .ok (.if_icmp .ge 28, 3) := by decide +kernel
theorem d_X9_alive_12 : decode oX9_alive.2.1 12 = .ok (.iload_n 1, 1) := by decide +kernel
theorem d_X9_alive_13 : decode oX9_alive.2.1 13 = .ok (.aload_n 0, 1) := by decide +kernel
theorem d_X9_alive_14 : decode oX9_alive.2.1 14 = .ok (.getfield 38, 3) := by decide +kernel
theorem d_X9_alive_17 : decode oX9_alive.2.1 17 = .ok (.iload_n 2, 1) := by decide +kernel
theorem d_X9_alive_18 : decode oX9_alive.2.1 18 = .ok (.baload, 1) := by decide +kernel
theorem d_X9_alive_19 : decode oX9_alive.2.1 19 = .ok (.ifCond .eq 9, 3) := by decide +kernel
theorem d_X9_alive_22 : decode oX9_alive.2.1 22 = .ok (.iconst 1, 1) := by decide +kernel
theorem d_X9_alive_23 : decode oX9_alive.2.1 23 = .ok (.iload_n 2, 1) := by decide +kernel
theorem d_X9_alive_24 : decode oX9_alive.2.1 24 = .ok (.ishl, 1) := by decide +kernel
theorem d_X9_alive_25 : decode oX9_alive.2.1 25 = .ok (.goto 4, 3) := by decide +kernel
theorem d_X9_alive_28 : decode oX9_alive.2.1 28 = .ok (.iconst 0, 1) := by decide +kernel
theorem d_X9_alive_29 : decode oX9_alive.2.1 29 = .ok (.ior, 1) := by decide +kernel
theorem d_X9_alive_30 : decode oX9_alive.2.1 30 = .ok (.istore_n 1, 1) := by decide +kernel
theorem d_X9_alive_31 : decode oX9_alive.2.1 31 = .ok (.iinc 2 1, 3) := by decide +kernel
theorem d_X9_alive_34 : decode oX9_alive.2.1 34 = .ok (.goto (-30), 3) := by decide +kernel
theorem d_X9_alive_37 : decode oX9_alive.2.1 37 = .ok (.iload_n 1, 1) := by decide +kernel
theorem d_X9_alive_38 : decode oX9_alive.2.1 38 = .ok (.ireturn, 1) := by decide +kernel
theorem b_X9_alive_0 {E : ob_E} {σ : ob_Mem} {Q : Int32 → ob_Mem → Prop} (k : ob_RT shp E oX9_alive 4 [.ref 53, .int (0 : Int32), .int (0 : Int32)] [] σ (ob_qI Q)) : ob_RT shp E oX9_alive 0 [.ref 53, .null, .null] [] σ (ob_qI Q) := by
  refine ob_iconst (v := 0) d_X9_alive_0 ci_0 ?_
  refine ob_istore_n (ls' := [.ref 53, .int (0 : Int32), .null]) d_X9_alive_1 (Nat.le_of_ble_eq_true rfl) rfl ?_
  refine ob_iconst (v := 0) d_X9_alive_2 ci_0 ?_
  refine ob_istore_n (ls' := [.ref 53, .int (0 : Int32), .int (0 : Int32)]) d_X9_alive_3 (Nat.le_of_ble_eq_true rfl) rfl ?_
  exact k
theorem b_X9_alive_4 {E : ob_E} {σ : ob_Mem} {Q : Int32 → ob_Mem → Prop} {x1 x2 : Int32} (k : (((σ.1 53 1) ≤ x2 → Q x1 σ) ∧ (¬ (σ.1 53 1) ≤ x2 → (vp_in x2 6 ∧ (((σ.1 62 (x2).toNatClampNeg) = 0 → ob_RT shp E oX9_alive 4 [.ref 53, .int (x1 ||| (0 : Int32)), .int (x2 + (1 : Int32))] [] σ (ob_qI Q)) ∧ (¬ (σ.1 62 (x2).toNatClampNeg) = 0 → ob_RT shp E oX9_alive 4 [.ref 53, .int (x1 ||| ((1 : Int32) <<< (x2 &&& 31))), .int (x2 + (1 : Int32))] [] σ (ob_qI Q))))))) : ob_RT shp E oX9_alive 4 [.ref 53, .int x1, .int x2] [] σ (ob_qI Q) := by
  refine ob_iload_n d_X9_alive_4 rfl ?_
  refine ob_aload_n d_X9_alive_5 rfl ?_
  refine ob_getI d_X9_alive_6 fl_X9_108 sh_53 rfl (by decide) ?_
  refine ob_icmp_ge (tgt := 37) d_X9_alive_9 rfl (fun cc => ?_) (fun cc => ?_)
  · have k := k.1 cc
    refine ob_iload_n d_X9_alive_37 rfl ?_
    exact ob_iret d_X9_alive_38 rfl ⟨_, rfl, k⟩
  · have k := k.2 cc
    refine ob_iload_n d_X9_alive_12 rfl ?_
    refine ob_aload_n d_X9_alive_13 rfl ?_
    refine ob_getR d_X9_alive_14 fl_X9_38 sh_53 rfl rfl ?_
    refine ob_iload_n d_X9_alive_17 rfl ?_
    obtain ⟨hin, k⟩ := k
    refine ob_zald d_X9_alive_18 sh_62 hin ?_
    refine ob_if_eq (tgt := 28) d_X9_alive_19 rfl (fun cc => ?_) (fun cc => ?_)
    · have k := k.1 cc
      refine ob_iconst (v := 0) d_X9_alive_28 ci_0 ?_
      refine ob_ior d_X9_alive_29 ?_
      refine ob_istore_n (ls' := [.ref 53, .int (x1 ||| (0 : Int32)), .int x2]) d_X9_alive_30 (Nat.le_of_ble_eq_true rfl) rfl ?_
      refine ob_iinc (ls' := [.ref 53, .int (x1 ||| (0 : Int32)), .int (x2 + (1 : Int32))]) (v := 1) d_X9_alive_31 rfl ci_1 (Nat.le_of_ble_eq_true rfl) rfl ?_
      refine ob_goto (tgt := 4) d_X9_alive_34 rfl ?_
      exact k
    · have k := k.2 cc
      refine ob_iconst (v := 1) d_X9_alive_22 ci_1 ?_
      refine ob_iload_n d_X9_alive_23 rfl ?_
      refine ob_ishl d_X9_alive_24 ?_
      refine ob_goto (tgt := 29) d_X9_alive_25 rfl ?_
      refine ob_ior d_X9_alive_29 ?_
      refine ob_istore_n (ls' := [.ref 53, .int (x1 ||| ((1 : Int32) <<< (x2 &&& 31))), .int x2]) d_X9_alive_30 (Nat.le_of_ble_eq_true rfl) rfl ?_
      refine ob_iinc (ls' := [.ref 53, .int (x1 ||| ((1 : Int32) <<< (x2 &&& 31))), .int (x2 + (1 : Int32))]) (v := 1) d_X9_alive_31 rfl ci_1 (Nat.le_of_ble_eq_true rfl) rfl ?_
      refine ob_goto (tgt := 4) d_X9_alive_34 rfl ?_
      exact k
theorem d_X9_lentSet_0 : decode oX9_lentSet.2.1 0 = .ok (.iconst 0, 1) := by decide +kernel
theorem d_X9_lentSet_1 : decode oX9_lentSet.2.1 1 = .ok (.istore_n 1, 1) := by decide +kernel
theorem d_X9_lentSet_2 : decode oX9_lentSet.2.1 2 = .ok (.iconst 0, 1) := by decide +kernel
theorem d_X9_lentSet_3 : decode oX9_lentSet.2.1 3 = .ok (.istore_n 2, 1) := by decide +kernel
theorem d_X9_lentSet_4 : decode oX9_lentSet.2.1 4 = .ok (.iload_n 2, 1) := by decide +kernel
theorem d_X9_lentSet_5 : decode oX9_lentSet.2.1 5 = .ok (.aload_n 0, 1) := by decide +kernel
theorem d_X9_lentSet_6 : decode oX9_lentSet.2.1 6 = .ok (.getfield 115, 3) := by decide +kernel
theorem d_X9_lentSet_9 : decode oX9_lentSet.2.1 9 = .ok (.if_icmp .ge 28, 3) := by decide +kernel
theorem d_X9_lentSet_12 : decode oX9_lentSet.2.1 12 = .ok (.iload_n 1, 1) := by decide +kernel
theorem d_X9_lentSet_13 : decode oX9_lentSet.2.1 13 = .ok (.aload_n 0, 1) := by decide +kernel
theorem d_X9_lentSet_14 : decode oX9_lentSet.2.1 14 = .ok (.getfield 45, 3) := by decide +kernel
theorem d_X9_lentSet_17 : decode oX9_lentSet.2.1 17 = .ok (.iload_n 2, 1) := by decide +kernel
theorem d_X9_lentSet_18 : decode oX9_lentSet.2.1 18 = .ok (.iaload, 1) := by decide +kernel
theorem d_X9_lentSet_19 : decode oX9_lentSet.2.1 19 = .ok (.ifCond .ge 7, 3) := by decide +kernel
theorem d_X9_lentSet_22 : decode oX9_lentSet.2.1 22 = .ok (.iconst 0, 1) := by decide +kernel
theorem d_X9_lentSet_23 : decode oX9_lentSet.2.1 23 = .ok (.goto 6, 3) := by decide +kernel
theorem d_X9_lentSet_26 : decode oX9_lentSet.2.1 26 = .ok (.iconst 1, 1) := by decide +kernel
theorem d_X9_lentSet_27 : decode oX9_lentSet.2.1 27 = .ok (.iload_n 2, 1) := by decide +kernel
theorem d_X9_lentSet_28 : decode oX9_lentSet.2.1 28 = .ok (.ishl, 1) := by decide +kernel
theorem d_X9_lentSet_29 : decode oX9_lentSet.2.1 29 = .ok (.ior, 1) := by decide +kernel
theorem d_X9_lentSet_30 : decode oX9_lentSet.2.1 30 = .ok (.istore_n 1, 1) := by decide +kernel
theorem d_X9_lentSet_31 : decode oX9_lentSet.2.1 31 = .ok (.iinc 2 1, 3) := by decide +kernel
theorem d_X9_lentSet_34 : decode oX9_lentSet.2.1 34 = .ok (.goto (-30), 3) := by decide +kernel
theorem d_X9_lentSet_37 : decode oX9_lentSet.2.1 37 = .ok (.iload_n 1, 1) := by decide +kernel
theorem d_X9_lentSet_38 : decode oX9_lentSet.2.1 38 = .ok (.ireturn, 1) := by decide +kernel
theorem b_X9_lentSet_0 {E : ob_E} {σ : ob_Mem} {Q : Int32 → ob_Mem → Prop} (k : ob_RT shp E oX9_lentSet 4 [.ref 53, .int (0 : Int32), .int (0 : Int32)] [] σ (ob_qI Q)) : ob_RT shp E oX9_lentSet 0 [.ref 53, .null, .null] [] σ (ob_qI Q) := by
  refine ob_iconst (v := 0) d_X9_lentSet_0 ci_0 ?_
  refine ob_istore_n (ls' := [.ref 53, .int (0 : Int32), .null]) d_X9_lentSet_1 (Nat.le_of_ble_eq_true rfl) rfl ?_
  refine ob_iconst (v := 0) d_X9_lentSet_2 ci_0 ?_
  refine ob_istore_n (ls' := [.ref 53, .int (0 : Int32), .int (0 : Int32)]) d_X9_lentSet_3 (Nat.le_of_ble_eq_true rfl) rfl ?_
  exact k
theorem b_X9_lentSet_4 {E : ob_E} {σ : ob_Mem} {Q : Int32 → ob_Mem → Prop} {x1 x2 : Int32} (k : (((σ.1 53 4) ≤ x2 → Q x1 σ) ∧ (¬ (σ.1 53 4) ≤ x2 → (vp_in x2 8 ∧ ((0 ≤ (σ.1 64 (x2).toNatClampNeg) → ob_RT shp E oX9_lentSet 4 [.ref 53, .int (x1 ||| ((1 : Int32) <<< (x2 &&& 31))), .int (x2 + (1 : Int32))] [] σ (ob_qI Q)) ∧ (¬ 0 ≤ (σ.1 64 (x2).toNatClampNeg) → ob_RT shp E oX9_lentSet 4 [.ref 53, .int (x1 ||| (0 : Int32)), .int (x2 + (1 : Int32))] [] σ (ob_qI Q))))))) : ob_RT shp E oX9_lentSet 4 [.ref 53, .int x1, .int x2] [] σ (ob_qI Q) := by
  refine ob_iload_n d_X9_lentSet_4 rfl ?_
  refine ob_aload_n d_X9_lentSet_5 rfl ?_
  refine ob_getI d_X9_lentSet_6 fl_X9_115 sh_53 rfl (by decide) ?_
  refine ob_icmp_ge (tgt := 37) d_X9_lentSet_9 rfl (fun cc => ?_) (fun cc => ?_)
  · have k := k.1 cc
    refine ob_iload_n d_X9_lentSet_37 rfl ?_
    exact ob_iret d_X9_lentSet_38 rfl ⟨_, rfl, k⟩
  · have k := k.2 cc
    refine ob_iload_n d_X9_lentSet_12 rfl ?_
    refine ob_aload_n d_X9_lentSet_13 rfl ?_
    refine ob_getR d_X9_lentSet_14 fl_X9_45 sh_53 rfl rfl ?_
    refine ob_iload_n d_X9_lentSet_17 rfl ?_
    obtain ⟨hin, k⟩ := k
    refine ob_iald d_X9_lentSet_18 sh_64 hin ?_
    refine ob_if_ge (tgt := 26) d_X9_lentSet_19 rfl (fun cc => ?_) (fun cc => ?_)
    · have k := k.1 cc
      refine ob_iconst (v := 1) d_X9_lentSet_26 ci_1 ?_
      refine ob_iload_n d_X9_lentSet_27 rfl ?_
      refine ob_ishl d_X9_lentSet_28 ?_
      refine ob_ior d_X9_lentSet_29 ?_
      refine ob_istore_n (ls' := [.ref 53, .int (x1 ||| ((1 : Int32) <<< (x2 &&& 31))), .int x2]) d_X9_lentSet_30 (Nat.le_of_ble_eq_true rfl) rfl ?_
      refine ob_iinc (ls' := [.ref 53, .int (x1 ||| ((1 : Int32) <<< (x2 &&& 31))), .int (x2 + (1 : Int32))]) (v := 1) d_X9_lentSet_31 rfl ci_1 (Nat.le_of_ble_eq_true rfl) rfl ?_
      refine ob_goto (tgt := 4) d_X9_lentSet_34 rfl ?_
      exact k
    · have k := k.2 cc
      refine ob_iconst (v := 0) d_X9_lentSet_22 ci_0 ?_
      refine ob_goto (tgt := 29) d_X9_lentSet_23 rfl ?_
      refine ob_ior d_X9_lentSet_29 ?_
      refine ob_istore_n (ls' := [.ref 53, .int (x1 ||| (0 : Int32)), .int x2]) d_X9_lentSet_30 (Nat.le_of_ble_eq_true rfl) rfl ?_
      refine ob_iinc (ls' := [.ref 53, .int (x1 ||| (0 : Int32)), .int (x2 + (1 : Int32))]) (v := 1) d_X9_lentSet_31 rfl ci_1 (Nat.le_of_ble_eq_true rfl) rfl ?_
      refine ob_goto (tgt := 4) d_X9_lentSet_34 rfl ?_
      exact k
theorem d_X9_isPerson_0 : decode oX9_isPerson.2.1 0 = .ok (.iload_n 1, 1) := by decide +kernel
theorem d_X9_isPerson_1 : decode oX9_isPerson.2.1 1 = .ok (.i2l, 1) := by decide +kernel
theorem d_X9_isPerson_2 : decode oX9_isPerson.2.1 2 = .ok (.lconst 0, 1) := by decide +kernel
theorem d_X9_isPerson_3 : decode oX9_isPerson.2.1 3 = .ok (.aload_n 0, 1) := by decide +kernel
theorem d_X9_isPerson_4 : decode oX9_isPerson.2.1 4 = .ok (.getfield 108, 3) := by decide +kernel
theorem d_X9_isPerson_7 : decode oX9_isPerson.2.1 7 = .ok (.iconst 1, 1) := by decide +kernel
theorem d_X9_isPerson_8 : decode oX9_isPerson.2.1 8 = .ok (.isub, 1) := by decide +kernel
theorem d_X9_isPerson_9 : decode oX9_isPerson.2.1 9 = .ok (.i2l, 1) := by decide +kernel
theorem d_X9_isPerson_10 : decode oX9_isPerson.2.1 10 = .ok (.invokestatic 111, 3) := by decide +kernel
theorem d_X9_isPerson_13 : decode oX9_isPerson.2.1 13 = .ok (.ireturn, 1) := by decide +kernel
theorem b_X9_isPerson_0 {E : ob_E} {σ : ob_Mem} {Q : Int32 → ob_Mem → Prop} {x1 : Int32} (k : ob_RM shp E oX9_in [.long (x1).toInt64, .long (0 : Int64), .long (((σ.1 53 1) - (1 : Int32))).toInt64] σ (ob_qI fun v2 σ1 => (narrow .boolean (.int v2) = .int v2 ∧ Q v2 σ1))) : ob_RT shp E oX9_isPerson 0 [.ref 53, .int x1] [] σ (ob_qI Q) := by
  refine ob_iload_n d_X9_isPerson_0 rfl ?_
  refine ob_i2l d_X9_isPerson_1 ?_
  refine ob_lconst (v := 0) d_X9_isPerson_2 rfl ?_
  refine ob_aload_n d_X9_isPerson_3 rfl ?_
  refine ob_getI d_X9_isPerson_4 fl_X9_108 sh_53 rfl (by decide) ?_
  refine ob_iconst (v := 1) d_X9_isPerson_7 ci_1 ?_
  refine ob_isub d_X9_isPerson_8 ?_
  refine ob_i2l d_X9_isPerson_9 ?_
  refine ob_callS [.long (x1).toInt64, .long (0 : Int64), .long (((σ.1 53 1) - (1 : Int32))).toInt64] (z := oX9_in) (st := []) d_X9_isPerson_10 lk_X9_111 ms_X9_in rfl (Nat.le_of_ble_eq_true rfl) rfl k (ob_kI fun v2 σ1 k => ?_)
  exact ob_zret d_X9_isPerson_13 rfl k.1 ⟨_, rfl, k.2⟩
theorem d_X9_ownedBy_0 : decode oX9_ownedBy.2.1 0 = .ok (.iconst 0, 1) := by decide +kernel
theorem d_X9_ownedBy_1 : decode oX9_ownedBy.2.1 1 = .ok (.istore_n 2, 1) := by decide +kernel
theorem d_X9_ownedBy_2 : decode oX9_ownedBy.2.1 2 = .ok (.iconst 0, 1) := by decide +kernel
theorem d_X9_ownedBy_3 : decode oX9_ownedBy.2.1 3 = .ok (.istore_n 3, 1) := by decide +kernel
theorem d_X9_ownedBy_4 : decode oX9_ownedBy.2.1 4 = .ok (.iload_n 3, 1) := by decide +kernel
theorem d_X9_ownedBy_5 : decode oX9_ownedBy.2.1 5 = .ok (.aload_n 0, 1) := by decide +kernel
theorem d_X9_ownedBy_6 : decode oX9_ownedBy.2.1 6 = .ok (.getfield 115, 3) := by decide +kernel
theorem d_X9_ownedBy_9 : decode oX9_ownedBy.2.1 9 = .ok (.if_icmp .ge 29, 3) := by decide +kernel
theorem d_X9_ownedBy_12 : decode oX9_ownedBy.2.1 12 = .ok (.iload_n 2, 1) := by decide +kernel
theorem d_X9_ownedBy_13 : decode oX9_ownedBy.2.1 13 = .ok (.aload_n 0, 1) := by decide +kernel
theorem d_X9_ownedBy_14 : decode oX9_ownedBy.2.1 14 = .ok (.getfield 42, 3) := by decide +kernel
theorem d_X9_ownedBy_17 : decode oX9_ownedBy.2.1 17 = .ok (.iload_n 3, 1) := by decide +kernel
theorem d_X9_ownedBy_18 : decode oX9_ownedBy.2.1 18 = .ok (.iaload, 1) := by decide +kernel
theorem d_X9_ownedBy_19 : decode oX9_ownedBy.2.1 19 = .ok (.iload_n 1, 1) := by decide +kernel
theorem d_X9_ownedBy_20 : decode oX9_ownedBy.2.1 20 = .ok (.if_icmp .ne 9, 3) := by decide +kernel
theorem d_X9_ownedBy_23 : decode oX9_ownedBy.2.1 23 = .ok (.iconst 1, 1) := by decide +kernel
theorem d_X9_ownedBy_24 : decode oX9_ownedBy.2.1 24 = .ok (.iload_n 3, 1) := by decide +kernel
theorem d_X9_ownedBy_25 : decode oX9_ownedBy.2.1 25 = .ok (.ishl, 1) := by decide +kernel
theorem d_X9_ownedBy_26 : decode oX9_ownedBy.2.1 26 = .ok (.goto 4, 3) := by decide +kernel
theorem d_X9_ownedBy_29 : decode oX9_ownedBy.2.1 29 = .ok (.iconst 0, 1) := by decide +kernel
theorem d_X9_ownedBy_30 : decode oX9_ownedBy.2.1 30 = .ok (.ior, 1) := by decide +kernel
theorem d_X9_ownedBy_31 : decode oX9_ownedBy.2.1 31 = .ok (.istore_n 2, 1) := by decide +kernel
theorem d_X9_ownedBy_32 : decode oX9_ownedBy.2.1 32 = .ok (.iinc 3 1, 3) := by decide +kernel
theorem d_X9_ownedBy_35 : decode oX9_ownedBy.2.1 35 = .ok (.goto (-31), 3) := by decide +kernel
theorem d_X9_ownedBy_38 : decode oX9_ownedBy.2.1 38 = .ok (.iload_n 2, 1) := by decide +kernel
theorem d_X9_ownedBy_39 : decode oX9_ownedBy.2.1 39 = .ok (.ireturn, 1) := by decide +kernel
theorem b_X9_ownedBy_0 {E : ob_E} {σ : ob_Mem} {Q : Int32 → ob_Mem → Prop} {x1 : Int32} (k : ob_RT shp E oX9_ownedBy 4 [.ref 53, .int x1, .int (0 : Int32), .int (0 : Int32)] [] σ (ob_qI Q)) : ob_RT shp E oX9_ownedBy 0 [.ref 53, .int x1, .null, .null] [] σ (ob_qI Q) := by
  refine ob_iconst (v := 0) d_X9_ownedBy_0 ci_0 ?_
  refine ob_istore_n (ls' := [.ref 53, .int x1, .int (0 : Int32), .null]) d_X9_ownedBy_1 (Nat.le_of_ble_eq_true rfl) rfl ?_
  refine ob_iconst (v := 0) d_X9_ownedBy_2 ci_0 ?_
  refine ob_istore_n (ls' := [.ref 53, .int x1, .int (0 : Int32), .int (0 : Int32)]) d_X9_ownedBy_3 (Nat.le_of_ble_eq_true rfl) rfl ?_
  exact k
theorem b_X9_ownedBy_4 {E : ob_E} {σ : ob_Mem} {Q : Int32 → ob_Mem → Prop} {x1 x2 x3 : Int32} (k : (((σ.1 53 4) ≤ x3 → Q x2 σ) ∧ (¬ (σ.1 53 4) ≤ x3 → (vp_in x3 8 ∧ ((¬ (σ.1 63 (x3).toNatClampNeg) = x1 → ob_RT shp E oX9_ownedBy 4 [.ref 53, .int x1, .int (x2 ||| (0 : Int32)), .int (x3 + (1 : Int32))] [] σ (ob_qI Q)) ∧ ((σ.1 63 (x3).toNatClampNeg) = x1 → ob_RT shp E oX9_ownedBy 4 [.ref 53, .int x1, .int (x2 ||| ((1 : Int32) <<< (x3 &&& 31))), .int (x3 + (1 : Int32))] [] σ (ob_qI Q))))))) : ob_RT shp E oX9_ownedBy 4 [.ref 53, .int x1, .int x2, .int x3] [] σ (ob_qI Q) := by
  refine ob_iload_n d_X9_ownedBy_4 rfl ?_
  refine ob_aload_n d_X9_ownedBy_5 rfl ?_
  refine ob_getI d_X9_ownedBy_6 fl_X9_115 sh_53 rfl (by decide) ?_
  refine ob_icmp_ge (tgt := 38) d_X9_ownedBy_9 rfl (fun cc => ?_) (fun cc => ?_)
  · have k := k.1 cc
    refine ob_iload_n d_X9_ownedBy_38 rfl ?_
    exact ob_iret d_X9_ownedBy_39 rfl ⟨_, rfl, k⟩
  · have k := k.2 cc
    refine ob_iload_n d_X9_ownedBy_12 rfl ?_
    refine ob_aload_n d_X9_ownedBy_13 rfl ?_
    refine ob_getR d_X9_ownedBy_14 fl_X9_42 sh_53 rfl rfl ?_
    refine ob_iload_n d_X9_ownedBy_17 rfl ?_
    obtain ⟨hin, k⟩ := k
    refine ob_iald d_X9_ownedBy_18 sh_63 hin ?_
    refine ob_iload_n d_X9_ownedBy_19 rfl ?_
    refine ob_icmp_ne (tgt := 29) d_X9_ownedBy_20 rfl (fun cc => ?_) (fun cc => ?_)
    · have k := k.1 cc
      refine ob_iconst (v := 0) d_X9_ownedBy_29 ci_0 ?_
      refine ob_ior d_X9_ownedBy_30 ?_
      refine ob_istore_n (ls' := [.ref 53, .int x1, .int (x2 ||| (0 : Int32)), .int x3]) d_X9_ownedBy_31 (Nat.le_of_ble_eq_true rfl) rfl ?_
      refine ob_iinc (ls' := [.ref 53, .int x1, .int (x2 ||| (0 : Int32)), .int (x3 + (1 : Int32))]) (v := 1) d_X9_ownedBy_32 rfl ci_1 (Nat.le_of_ble_eq_true rfl) rfl ?_
      refine ob_goto (tgt := 4) d_X9_ownedBy_35 rfl ?_
      exact k
    · have k := k.2 cc
      refine ob_iconst (v := 1) d_X9_ownedBy_23 ci_1 ?_
      refine ob_iload_n d_X9_ownedBy_24 rfl ?_
      refine ob_ishl d_X9_ownedBy_25 ?_
      refine ob_goto (tgt := 30) d_X9_ownedBy_26 rfl ?_
      refine ob_ior d_X9_ownedBy_30 ?_
      refine ob_istore_n (ls' := [.ref 53, .int x1, .int (x2 ||| ((1 : Int32) <<< (x3 &&& 31))), .int x3]) d_X9_ownedBy_31 (Nat.le_of_ble_eq_true rfl) rfl ?_
      refine ob_iinc (ls' := [.ref 53, .int x1, .int (x2 ||| ((1 : Int32) <<< (x3 &&& 31))), .int (x3 + (1 : Int32))]) (v := 1) d_X9_ownedBy_32 rfl ci_1 (Nat.le_of_ble_eq_true rfl) rfl ?_
      refine ob_goto (tgt := 4) d_X9_ownedBy_35 rfl ?_
      exact k
theorem d_X9_usedBy_0 : decode oX9_usedBy.2.1 0 = .ok (.iconst 0, 1) := by decide +kernel
theorem d_X9_usedBy_1 : decode oX9_usedBy.2.1 1 = .ok (.istore_n 2, 1) := by decide +kernel
theorem d_X9_usedBy_2 : decode oX9_usedBy.2.1 2 = .ok (.iconst 0, 1) := by decide +kernel
theorem d_X9_usedBy_3 : decode oX9_usedBy.2.1 3 = .ok (.istore_n 3, 1) := by decide +kernel
theorem d_X9_usedBy_4 : decode oX9_usedBy.2.1 4 = .ok (.iload_n 3, 1) := by decide +kernel
theorem d_X9_usedBy_5 : decode oX9_usedBy.2.1 5 = .ok (.aload_n 0, 1) := by decide +kernel
theorem d_X9_usedBy_6 : decode oX9_usedBy.2.1 6 = .ok (.getfield 115, 3) := by decide +kernel
theorem d_X9_usedBy_9 : decode oX9_usedBy.2.1 9 = .ok (.if_icmp .ge 28, 3) := by decide +kernel
theorem d_X9_usedBy_12 : decode oX9_usedBy.2.1 12 = .ok (.iload_n 2, 1) := by decide +kernel
theorem d_X9_usedBy_13 : decode oX9_usedBy.2.1 13 = .ok (.aload_n 0, 1) := by decide +kernel
theorem d_X9_usedBy_14 : decode oX9_usedBy.2.1 14 = .ok (.iload_n 3, 1) := by decide +kernel
theorem d_X9_usedBy_15 : decode oX9_usedBy.2.1 15 = .ok (.invokevirtual 233, 3) := by decide +kernel
theorem d_X9_usedBy_18 : decode oX9_usedBy.2.1 18 = .ok (.iload_n 1, 1) := by decide +kernel
theorem d_X9_usedBy_19 : decode oX9_usedBy.2.1 19 = .ok (.if_icmp .ne 9, 3) := by decide +kernel
theorem d_X9_usedBy_22 : decode oX9_usedBy.2.1 22 = .ok (.iconst 1, 1) := by decide +kernel
theorem d_X9_usedBy_23 : decode oX9_usedBy.2.1 23 = .ok (.iload_n 3, 1) := by decide +kernel
theorem d_X9_usedBy_24 : decode oX9_usedBy.2.1 24 = .ok (.ishl, 1) := by decide +kernel
theorem d_X9_usedBy_25 : decode oX9_usedBy.2.1 25 = .ok (.goto 4, 3) := by decide +kernel
theorem d_X9_usedBy_28 : decode oX9_usedBy.2.1 28 = .ok (.iconst 0, 1) := by decide +kernel
theorem d_X9_usedBy_29 : decode oX9_usedBy.2.1 29 = .ok (.ior, 1) := by decide +kernel
theorem d_X9_usedBy_30 : decode oX9_usedBy.2.1 30 = .ok (.istore_n 2, 1) := by decide +kernel
theorem d_X9_usedBy_31 : decode oX9_usedBy.2.1 31 = .ok (.iinc 3 1, 3) := by decide +kernel
theorem d_X9_usedBy_34 : decode oX9_usedBy.2.1 34 = .ok (.goto (-30), 3) := by decide +kernel
theorem d_X9_usedBy_37 : decode oX9_usedBy.2.1 37 = .ok (.iload_n 2, 1) := by decide +kernel
theorem d_X9_usedBy_38 : decode oX9_usedBy.2.1 38 = .ok (.ireturn, 1) := by decide +kernel
theorem b_X9_usedBy_0 {E : ob_E} {σ : ob_Mem} {Q : Int32 → ob_Mem → Prop} {x1 : Int32} (k : ob_RT shp E oX9_usedBy 4 [.ref 53, .int x1, .int (0 : Int32), .int (0 : Int32)] [] σ (ob_qI Q)) : ob_RT shp E oX9_usedBy 0 [.ref 53, .int x1, .null, .null] [] σ (ob_qI Q) := by
  refine ob_iconst (v := 0) d_X9_usedBy_0 ci_0 ?_
  refine ob_istore_n (ls' := [.ref 53, .int x1, .int (0 : Int32), .null]) d_X9_usedBy_1 (Nat.le_of_ble_eq_true rfl) rfl ?_
  refine ob_iconst (v := 0) d_X9_usedBy_2 ci_0 ?_
  refine ob_istore_n (ls' := [.ref 53, .int x1, .int (0 : Int32), .int (0 : Int32)]) d_X9_usedBy_3 (Nat.le_of_ble_eq_true rfl) rfl ?_
  exact k
theorem b_X9_usedBy_4 {E : ob_E} {σ : ob_Mem} {Q : Int32 → ob_Mem → Prop} {x1 x2 x3 : Int32} (k : (((σ.1 53 4) ≤ x3 → Q x2 σ) ∧ (¬ (σ.1 53 4) ≤ x3 → ob_RM shp E oX9_userOf [.ref 53, .int x3] σ (ob_qI fun v2 σ1 => ((¬ v2 = x1 → ob_RT shp E oX9_usedBy 4 [.ref 53, .int x1, .int (x2 ||| (0 : Int32)), .int (x3 + (1 : Int32))] [] σ1 (ob_qI Q)) ∧ (v2 = x1 → ob_RT shp E oX9_usedBy 4 [.ref 53, .int x1, .int (x2 ||| ((1 : Int32) <<< (x3 &&& 31))), .int (x3 + (1 : Int32))] [] σ1 (ob_qI Q))))))) : ob_RT shp E oX9_usedBy 4 [.ref 53, .int x1, .int x2, .int x3] [] σ (ob_qI Q) := by
  refine ob_iload_n d_X9_usedBy_4 rfl ?_
  refine ob_aload_n d_X9_usedBy_5 rfl ?_
  refine ob_getI d_X9_usedBy_6 fl_X9_115 sh_53 rfl (by decide) ?_
  refine ob_icmp_ge (tgt := 37) d_X9_usedBy_9 rfl (fun cc => ?_) (fun cc => ?_)
  · have k := k.1 cc
    refine ob_iload_n d_X9_usedBy_37 rfl ?_
    exact ob_iret d_X9_usedBy_38 rfl ⟨_, rfl, k⟩
  · have k := k.2 cc
    refine ob_iload_n d_X9_usedBy_12 rfl ?_
    refine ob_aload_n d_X9_usedBy_13 rfl ?_
    refine ob_iload_n d_X9_usedBy_14 rfl ?_
    refine ob_callV [.int x3] (z := oX9_userOf) (st := [.int x2]) d_X9_usedBy_15 lk_X9_233 mv_X9_userOf rfl sh_53 cl_9 rfl (Nat.le_of_ble_eq_true rfl) rfl k (ob_kI fun v2 σ1 k => ?_)
    refine ob_iload_n d_X9_usedBy_18 rfl ?_
    refine ob_icmp_ne (tgt := 28) d_X9_usedBy_19 rfl (fun cc => ?_) (fun cc => ?_)
    · have k := k.1 cc
      refine ob_iconst (v := 0) d_X9_usedBy_28 ci_0 ?_
      refine ob_ior d_X9_usedBy_29 ?_
      refine ob_istore_n (ls' := [.ref 53, .int x1, .int (x2 ||| (0 : Int32)), .int x3]) d_X9_usedBy_30 (Nat.le_of_ble_eq_true rfl) rfl ?_
      refine ob_iinc (ls' := [.ref 53, .int x1, .int (x2 ||| (0 : Int32)), .int (x3 + (1 : Int32))]) (v := 1) d_X9_usedBy_31 rfl ci_1 (Nat.le_of_ble_eq_true rfl) rfl ?_
      refine ob_goto (tgt := 4) d_X9_usedBy_34 rfl ?_
      exact k
    · have k := k.2 cc
      refine ob_iconst (v := 1) d_X9_usedBy_22 ci_1 ?_
      refine ob_iload_n d_X9_usedBy_23 rfl ?_
      refine ob_ishl d_X9_usedBy_24 ?_
      refine ob_goto (tgt := 29) d_X9_usedBy_25 rfl ?_
      refine ob_ior d_X9_usedBy_29 ?_
      refine ob_istore_n (ls' := [.ref 53, .int x1, .int (x2 ||| ((1 : Int32) <<< (x3 &&& 31))), .int x3]) d_X9_usedBy_30 (Nat.le_of_ble_eq_true rfl) rfl ?_
      refine ob_iinc (ls' := [.ref 53, .int x1, .int (x2 ||| ((1 : Int32) <<< (x3 &&& 31))), .int (x3 + (1 : Int32))]) (v := 1) d_X9_usedBy_31 rfl ci_1 (Nat.le_of_ble_eq_true rfl) rfl ?_
      refine ob_goto (tgt := 4) d_X9_usedBy_34 rfl ?_
      exact k
theorem d_X9_isBirthday_0 : decode oX9_isBirthday.2.1 0 = .ok (.iload_n 1, 1) := by decide +kernel
theorem d_X9_isBirthday_1 : decode oX9_isBirthday.2.1 1 = .ok (.i2l, 1) := by decide +kernel
theorem d_X9_isBirthday_2 : decode oX9_isBirthday.2.1 2 = .ok (.lconst 0, 1) := by decide +kernel
theorem d_X9_isBirthday_3 : decode oX9_isBirthday.2.1 3 = .ok (.aload_n 0, 1) := by decide +kernel
theorem d_X9_isBirthday_4 : decode oX9_isBirthday.2.1 4 = .ok (.getfield 115, 3) := by decide +kernel
theorem d_X9_isBirthday_7 : decode oX9_isBirthday.2.1 7 = .ok (.iconst 1, 1) := by decide +kernel
theorem d_X9_isBirthday_8 : decode oX9_isBirthday.2.1 8 = .ok (.isub, 1) := by decide +kernel
theorem d_X9_isBirthday_9 : decode oX9_isBirthday.2.1 9 = .ok (.i2l, 1) := by decide +kernel
theorem d_X9_isBirthday_10 : decode oX9_isBirthday.2.1 10 = .ok (.invokestatic 111, 3) := by decide +kernel
theorem d_X9_isBirthday_13 : decode oX9_isBirthday.2.1 13 = .ok (.ireturn, 1) := by decide +kernel
theorem b_X9_isBirthday_0 {E : ob_E} {σ : ob_Mem} {Q : Int32 → ob_Mem → Prop} {x1 : Int32} (k : ob_RM shp E oX9_in [.long (x1).toInt64, .long (0 : Int64), .long (((σ.1 53 4) - (1 : Int32))).toInt64] σ (ob_qI fun v2 σ1 => (narrow .boolean (.int v2) = .int v2 ∧ Q v2 σ1))) : ob_RT shp E oX9_isBirthday 0 [.ref 53, .int x1] [] σ (ob_qI Q) := by
  refine ob_iload_n d_X9_isBirthday_0 rfl ?_
  refine ob_i2l d_X9_isBirthday_1 ?_
  refine ob_lconst (v := 0) d_X9_isBirthday_2 rfl ?_
  refine ob_aload_n d_X9_isBirthday_3 rfl ?_
  refine ob_getI d_X9_isBirthday_4 fl_X9_115 sh_53 rfl (by decide) ?_
  refine ob_iconst (v := 1) d_X9_isBirthday_7 ci_1 ?_
  refine ob_isub d_X9_isBirthday_8 ?_
  refine ob_i2l d_X9_isBirthday_9 ?_
  refine ob_callS [.long (x1).toInt64, .long (0 : Int64), .long (((σ.1 53 4) - (1 : Int32))).toInt64] (z := oX9_in) (st := []) d_X9_isBirthday_10 lk_X9_111 ms_X9_in rfl (Nat.le_of_ble_eq_true rfl) rfl k (ob_kI fun v2 σ1 k => ?_)
  exact ob_zret d_X9_isBirthday_13 rfl k.1 ⟨_, rfl, k.2⟩
theorem d_X9_userOf_0 : decode oX9_userOf.2.1 0 = .ok (.aload_n 0, 1) := by decide +kernel
theorem d_X9_userOf_1 : decode oX9_userOf.2.1 1 = .ok (.getfield 45, 3) := by decide +kernel
theorem d_X9_userOf_4 : decode oX9_userOf.2.1 4 = .ok (.iload_n 1, 1) := by decide +kernel
theorem d_X9_userOf_5 : decode oX9_userOf.2.1 5 = .ok (.iaload, 1) := by decide +kernel
theorem d_X9_userOf_6 : decode oX9_userOf.2.1 6 = .ok (.ifCond .ge 12, 3) := by decide +kernel
theorem d_X9_userOf_9 : decode oX9_userOf.2.1 9 = .ok (.aload_n 0, 1) := by decide +kernel
theorem d_X9_userOf_10 : decode oX9_userOf.2.1 10 = .ok (.getfield 42, 3) := by decide +kernel
theorem d_X9_userOf_13 : decode oX9_userOf.2.1 13 = .ok (.iload_n 1, 1) := by decide +kernel
theorem d_X9_userOf_14 : decode oX9_userOf.2.1 14 = .ok (.iaload, 1) := by decide +kernel
theorem d_X9_userOf_15 : decode oX9_userOf.2.1 15 = .ok (.goto 9, 3) := by decide +kernel
theorem d_X9_userOf_18 : decode oX9_userOf.2.1 18 = .ok (.aload_n 0, 1) := by decide +kernel
theorem d_X9_userOf_19 : decode oX9_userOf.2.1 19 = .ok (.getfield 45, 3) := by decide +kernel
theorem d_X9_userOf_22 : decode oX9_userOf.2.1 22 = .ok (.iload_n 1, 1) := by decide +kernel
theorem d_X9_userOf_23 : decode oX9_userOf.2.1 23 = .ok (.iaload, 1) := by decide +kernel
theorem d_X9_userOf_24 : decode oX9_userOf.2.1 24 = .ok (.ireturn, 1) := by decide +kernel
theorem b_X9_userOf_0 {E : ob_E} {σ : ob_Mem} {Q : Int32 → ob_Mem → Prop} {x1 : Int32} (k : (vp_in x1 8 ∧ ((0 ≤ (σ.1 64 (x1).toNatClampNeg) → (vp_in x1 8 ∧ Q (σ.1 64 (x1).toNatClampNeg) σ)) ∧ (¬ 0 ≤ (σ.1 64 (x1).toNatClampNeg) → (vp_in x1 8 ∧ Q (σ.1 63 (x1).toNatClampNeg) σ))))) : ob_RT shp E oX9_userOf 0 [.ref 53, .int x1] [] σ (ob_qI Q) := by
  refine ob_aload_n d_X9_userOf_0 rfl ?_
  refine ob_getR d_X9_userOf_1 fl_X9_45 sh_53 rfl rfl ?_
  refine ob_iload_n d_X9_userOf_4 rfl ?_
  obtain ⟨hin, k⟩ := k
  refine ob_iald d_X9_userOf_5 sh_64 hin ?_
  refine ob_if_ge (tgt := 18) d_X9_userOf_6 rfl (fun cc => ?_) (fun cc => ?_)
  · have k := k.1 cc
    refine ob_aload_n d_X9_userOf_18 rfl ?_
    refine ob_getR d_X9_userOf_19 fl_X9_45 sh_53 rfl rfl ?_
    refine ob_iload_n d_X9_userOf_22 rfl ?_
    obtain ⟨hin, k⟩ := k
    refine ob_iald d_X9_userOf_23 sh_64 hin ?_
    exact ob_iret d_X9_userOf_24 rfl ⟨_, rfl, k⟩
  · have k := k.2 cc
    refine ob_aload_n d_X9_userOf_9 rfl ?_
    refine ob_getR d_X9_userOf_10 fl_X9_42 sh_53 rfl rfl ?_
    refine ob_iload_n d_X9_userOf_13 rfl ?_
    obtain ⟨hin, k⟩ := k
    refine ob_iald d_X9_userOf_14 sh_63 hin ?_
    refine ob_goto (tgt := 24) d_X9_userOf_15 rfl ?_
    exact ob_iret d_X9_userOf_24 rfl ⟨_, rfl, k⟩
theorem d_X9_tillOf_0 : decode oX9_tillOf.2.1 0 = .ok (.iconst 1, 1) := by decide +kernel
theorem d_X9_tillOf_1 : decode oX9_tillOf.2.1 1 = .ok (.istore_n 2, 1) := by decide +kernel
theorem d_X9_tillOf_2 : decode oX9_tillOf.2.1 2 = .ok (.aload_n 0, 1) := by decide +kernel
theorem d_X9_tillOf_3 : decode oX9_tillOf.2.1 3 = .ok (.getfield 118, 3) := by decide +kernel
theorem d_X9_tillOf_6 : decode oX9_tillOf.2.1 6 = .ok (.iload_n 2, 1) := by decide +kernel
theorem d_X9_tillOf_7 : decode oX9_tillOf.2.1 7 = .ok (.iadd, 1) := by decide +kernel
theorem d_X9_tillOf_8 : decode oX9_tillOf.2.1 8 = .ok (.aload_n 0, 1) := by decide +kernel
theorem d_X9_tillOf_9 : decode oX9_tillOf.2.1 9 = .ok (.getfield 7, 3) := by decide +kernel
theorem d_X9_tillOf_12 : decode oX9_tillOf.2.1 12 = .ok (.irem, 1) := by decide +kernel
theorem d_X9_tillOf_13 : decode oX9_tillOf.2.1 13 = .ok (.aload_n 0, 1) := by decide +kernel
theorem d_X9_tillOf_14 : decode oX9_tillOf.2.1 14 = .ok (.getfield 20, 3) := by decide +kernel
theorem d_X9_tillOf_17 : decode oX9_tillOf.2.1 17 = .ok (.iload_n 1, 1) := by decide +kernel
theorem d_X9_tillOf_18 : decode oX9_tillOf.2.1 18 = .ok (.iaload, 1) := by decide +kernel
theorem d_X9_tillOf_19 : decode oX9_tillOf.2.1 19 = .ok (.if_icmp .eq 9, 3) := by decide +kernel
theorem d_X9_tillOf_22 : decode oX9_tillOf.2.1 22 = .ok (.iinc 2 1, 3) := by decide +kernel
theorem d_X9_tillOf_25 : decode oX9_tillOf.2.1 25 = .ok (.goto (-23), 3) := by decide +kernel
theorem d_X9_tillOf_28 : decode oX9_tillOf.2.1 28 = .ok (.iload_n 2, 1) := by decide +kernel
theorem d_X9_tillOf_29 : decode oX9_tillOf.2.1 29 = .ok (.ireturn, 1) := by decide +kernel
theorem b_X9_tillOf_0 {E : ob_E} {σ : ob_Mem} {Q : Int32 → ob_Mem → Prop} {x1 : Int32} (k : ob_RT shp E oX9_tillOf 2 [.ref 53, .int x1, .int (1 : Int32)] [] σ (ob_qI Q)) : ob_RT shp E oX9_tillOf 0 [.ref 53, .int x1, .null] [] σ (ob_qI Q) := by
  refine ob_iconst (v := 1) d_X9_tillOf_0 ci_1 ?_
  refine ob_istore_n (ls' := [.ref 53, .int x1, .int (1 : Int32)]) d_X9_tillOf_1 (Nat.le_of_ble_eq_true rfl) rfl ?_
  exact k
theorem b_X9_tillOf_2 {E : ob_E} {σ : ob_Mem} {Q : Int32 → ob_Mem → Prop} {x1 x2 : Int32} (k : (¬ (σ.1 53 0) = 0 ∧ (vp_in x1 8 ∧ (((ob_rem ((σ.1 53 9) + x2) (σ.1 53 0)) = (σ.1 56 (x1).toNatClampNeg) → Q x2 σ) ∧ (¬ (ob_rem ((σ.1 53 9) + x2) (σ.1 53 0)) = (σ.1 56 (x1).toNatClampNeg) → ob_RT shp E oX9_tillOf 2 [.ref 53, .int x1, .int (x2 + (1 : Int32))] [] σ (ob_qI Q)))))) : ob_RT shp E oX9_tillOf 2 [.ref 53, .int x1, .int x2] [] σ (ob_qI Q) := by
  refine ob_aload_n d_X9_tillOf_2 rfl ?_
  refine ob_getI d_X9_tillOf_3 fl_X9_118 sh_53 rfl (by decide) ?_
  refine ob_iload_n d_X9_tillOf_6 rfl ?_
  refine ob_iadd d_X9_tillOf_7 ?_
  refine ob_aload_n d_X9_tillOf_8 rfl ?_
  refine ob_getI d_X9_tillOf_9 fl_X9_7 sh_53 rfl (by decide) ?_
  obtain ⟨hne, k⟩ := k
  refine ob_irem d_X9_tillOf_12 hne ?_
  refine ob_aload_n d_X9_tillOf_13 rfl ?_
  refine ob_getR d_X9_tillOf_14 fl_X9_20 sh_53 rfl rfl ?_
  refine ob_iload_n d_X9_tillOf_17 rfl ?_
  obtain ⟨hin, k⟩ := k
  refine ob_iald d_X9_tillOf_18 sh_56 hin ?_
  refine ob_icmp_eq (tgt := 28) d_X9_tillOf_19 rfl (fun cc => ?_) (fun cc => ?_)
  · have k := k.1 cc
    refine ob_iload_n d_X9_tillOf_28 rfl ?_
    exact ob_iret d_X9_tillOf_29 rfl ⟨_, rfl, k⟩
  · have k := k.2 cc
    refine ob_iinc (ls' := [.ref 53, .int x1, .int (x2 + (1 : Int32))]) (v := 1) d_X9_tillOf_22 rfl ci_1 (Nat.le_of_ble_eq_true rfl) rfl ?_
    refine ob_goto (tgt := 2) d_X9_tillOf_25 rfl ?_
    exact k
theorem d_X9_seasonOf_0 : decode oX9_seasonOf.2.1 0 = .ok (.aload_n 0, 1) := by decide +kernel
theorem d_X9_seasonOf_1 : decode oX9_seasonOf.2.1 1 = .ok (.getfield 26, 3) := by decide +kernel
theorem d_X9_seasonOf_4 : decode oX9_seasonOf.2.1 4 = .ok (.iload_n 1, 1) := by decide +kernel
theorem d_X9_seasonOf_5 : decode oX9_seasonOf.2.1 5 = .ok (.iaload, 1) := by decide +kernel
theorem d_X9_seasonOf_6 : decode oX9_seasonOf.2.1 6 = .ok (.aload_n 0, 1) := by decide +kernel
theorem d_X9_seasonOf_7 : decode oX9_seasonOf.2.1 7 = .ok (.getfield 26, 3) := by decide +kernel
theorem d_X9_seasonOf_10 : decode oX9_seasonOf.2.1 10 = .ok (.iload_n 1, 1) := by decide +kernel
theorem d_X9_seasonOf_11 : decode oX9_seasonOf.2.1 11 = .ok (.iaload, 1) := by decide +kernel
theorem d_X9_seasonOf_12 : decode oX9_seasonOf.2.1 12 = .ok (.aload_n 0, 1) := by decide +kernel
theorem d_X9_seasonOf_13 : decode oX9_seasonOf.2.1 13 = .ok (.getfield 7, 3) := by decide +kernel
theorem d_X9_seasonOf_16 : decode oX9_seasonOf.2.1 16 = .ok (.aload_n 0, 1) := by decide +kernel
theorem d_X9_seasonOf_17 : decode oX9_seasonOf.2.1 17 = .ok (.iload_n 1, 1) := by decide +kernel
theorem d_X9_seasonOf_18 : decode oX9_seasonOf.2.1 18 = .ok (.invokevirtual 248, 3) := by decide +kernel
theorem d_X9_seasonOf_21 : decode oX9_seasonOf.2.1 21 = .ok (.isub, 1) := by decide +kernel
theorem d_X9_seasonOf_22 : decode oX9_seasonOf.2.1 22 = .ok (.imul, 1) := by decide +kernel
theorem d_X9_seasonOf_23 : decode oX9_seasonOf.2.1 23 = .ok (.aload_n 0, 1) := by decide +kernel
theorem d_X9_seasonOf_24 : decode oX9_seasonOf.2.1 24 = .ok (.getfield 7, 3) := by decide +kernel
theorem d_X9_seasonOf_27 : decode oX9_seasonOf.2.1 27 = .ok (.idiv, 1) := by decide +kernel
theorem d_X9_seasonOf_28 : decode oX9_seasonOf.2.1 28 = .ok (.iadd, 1) := by decide +kernel
theorem d_X9_seasonOf_29 : decode oX9_seasonOf.2.1 29 = .ok (.ireturn, 1) := by decide +kernel
theorem b_X9_seasonOf_0 {E : ob_E} {σ : ob_Mem} {Q : Int32 → ob_Mem → Prop} {x1 : Int32} (k : (vp_in x1 8 ∧ (vp_in x1 8 ∧ ob_RM shp E oX9_tillOf [.ref 53, .int x1] σ (ob_qI fun v2 σ1 => (¬ (σ1.1 53 0) = 0 ∧ Q ((σ.1 58 (x1).toNatClampNeg) + (((σ.1 58 (x1).toNatClampNeg) * ((σ.1 53 0) - v2)) / (σ1.1 53 0))) σ1))))) : ob_RT shp E oX9_seasonOf 0 [.ref 53, .int x1] [] σ (ob_qI Q) := by
  refine ob_aload_n d_X9_seasonOf_0 rfl ?_
  refine ob_getR d_X9_seasonOf_1 fl_X9_26 sh_53 rfl rfl ?_
  refine ob_iload_n d_X9_seasonOf_4 rfl ?_
  obtain ⟨hin, k⟩ := k
  refine ob_iald d_X9_seasonOf_5 sh_58 hin ?_
  refine ob_aload_n d_X9_seasonOf_6 rfl ?_
  refine ob_getR d_X9_seasonOf_7 fl_X9_26 sh_53 rfl rfl ?_
  refine ob_iload_n d_X9_seasonOf_10 rfl ?_
  obtain ⟨hin, k⟩ := k
  refine ob_iald d_X9_seasonOf_11 sh_58 hin ?_
  refine ob_aload_n d_X9_seasonOf_12 rfl ?_
  refine ob_getI d_X9_seasonOf_13 fl_X9_7 sh_53 rfl (by decide) ?_
  refine ob_aload_n d_X9_seasonOf_16 rfl ?_
  refine ob_iload_n d_X9_seasonOf_17 rfl ?_
  refine ob_callV [.int x1] (z := oX9_tillOf) (st := [.int (σ.1 53 0), .int (σ.1 58 (x1).toNatClampNeg), .int (σ.1 58 (x1).toNatClampNeg)]) d_X9_seasonOf_18 lk_X9_248 mv_X9_tillOf rfl sh_53 cl_9 rfl (Nat.le_of_ble_eq_true rfl) rfl k (ob_kI fun v2 σ1 k => ?_)
  refine ob_isub d_X9_seasonOf_21 ?_
  refine ob_imul d_X9_seasonOf_22 ?_
  refine ob_aload_n d_X9_seasonOf_23 rfl ?_
  refine ob_getI d_X9_seasonOf_24 fl_X9_7 sh_53 rfl (by decide) ?_
  obtain ⟨hne, k⟩ := k
  refine ob_idiv d_X9_seasonOf_27 hne ?_
  refine ob_iadd d_X9_seasonOf_28 ?_
  exact ob_iret d_X9_seasonOf_29 rfl ⟨_, rfl, k⟩
theorem d_X9_goodOf_0 : decode oX9_goodOf.2.1 0 = .ok (.iload_n 1, 1) := by decide +kernel
theorem d_X9_goodOf_1 : decode oX9_goodOf.2.1 1 = .ok (.bipush 120, 2) := by decide +kernel
theorem d_X9_goodOf_3 : decode oX9_goodOf.2.1 3 = .ok (.if_icmp .le 7, 3) := by decide +kernel
theorem d_X9_goodOf_6 : decode oX9_goodOf.2.1 6 = .ok (.iconst 0, 1) := by decide +kernel
theorem d_X9_goodOf_7 : decode oX9_goodOf.2.1 7 = .ok (.goto 9, 3) := by decide +kernel
theorem d_X9_goodOf_10 : decode oX9_goodOf.2.1 10 = .ok (.aload_n 0, 1) := by decide +kernel
theorem d_X9_goodOf_11 : decode oX9_goodOf.2.1 11 = .ok (.getfield 29, 3) := by decide +kernel
theorem d_X9_goodOf_14 : decode oX9_goodOf.2.1 14 = .ok (.iload_n 1, 1) := by decide +kernel
theorem d_X9_goodOf_15 : decode oX9_goodOf.2.1 15 = .ok (.iaload, 1) := by decide +kernel
theorem d_X9_goodOf_16 : decode oX9_goodOf.2.1 16 = .ok (.ireturn, 1) := by decide +kernel
theorem b_X9_goodOf_0 {E : ob_E} {σ : ob_Mem} {Q : Int32 → ob_Mem → Prop} {x1 : Int32} (k : ((x1 ≤ (120 : Int32) → (vp_in x1 121 ∧ Q (σ.1 59 (x1).toNatClampNeg) σ)) ∧ (¬ x1 ≤ (120 : Int32) → Q (0 : Int32) σ))) : ob_RT shp E oX9_goodOf 0 [.ref 53, .int x1] [] σ (ob_qI Q) := by
  refine ob_iload_n d_X9_goodOf_0 rfl ?_
  refine ob_bipush (v := 120) d_X9_goodOf_1 cb_120 ?_
  refine ob_icmp_le (tgt := 10) d_X9_goodOf_3 rfl (fun cc => ?_) (fun cc => ?_)
  · have k := k.1 cc
    refine ob_aload_n d_X9_goodOf_10 rfl ?_
    refine ob_getR d_X9_goodOf_11 fl_X9_29 sh_53 rfl rfl ?_
    refine ob_iload_n d_X9_goodOf_14 rfl ?_
    obtain ⟨hin, k⟩ := k
    refine ob_iald d_X9_goodOf_15 sh_59 hin ?_
    exact ob_iret d_X9_goodOf_16 rfl ⟨_, rfl, k⟩
  · have k := k.2 cc
    refine ob_iconst (v := 0) d_X9_goodOf_6 ci_0 ?_
    refine ob_goto (tgt := 16) d_X9_goodOf_7 rfl ?_
    exact ob_iret d_X9_goodOf_16 rfl ⟨_, rfl, k⟩
theorem d_X9_dayNow_0 : decode oX9_dayNow.2.1 0 = .ok (.aload_n 0, 1) := by decide +kernel
theorem d_X9_dayNow_1 : decode oX9_dayNow.2.1 1 = .ok (.dup, 1) := by decide +kernel
theorem d_X9_dayNow_2 : decode oX9_dayNow.2.1 2 = .ok (.getfield 118, 3) := by decide +kernel
theorem d_X9_dayNow_5 : decode oX9_dayNow.2.1 5 = .ok (.iconst 1, 1) := by decide +kernel
theorem d_X9_dayNow_6 : decode oX9_dayNow.2.1 6 = .ok (.iadd, 1) := by decide +kernel
theorem d_X9_dayNow_7 : decode oX9_dayNow.2.1 7 = .ok (.putfield 118, 3) := by decide +kernel
theorem d_X9_dayNow_10 : decode oX9_dayNow.2.1 10 = .ok (.iconst 0, 1) := by decide +kernel
theorem d_X9_dayNow_11 : decode oX9_dayNow.2.1 11 = .ok (.istore_n 1, 1) := by decide +kernel
theorem d_X9_dayNow_12 : decode oX9_dayNow.2.1 12 = .ok (.iload_n 1, 1) := by decide +kernel
theorem d_X9_dayNow_13 : decode oX9_dayNow.2.1 13 = .ok (.aload_n 0, 1) := by decide +kernel
theorem d_X9_dayNow_14 : decode oX9_dayNow.2.1 14 = .ok (.getfield 115, 3) := by decide +kernel
theorem d_X9_dayNow_17 : decode oX9_dayNow.2.1 17 = .ok (.if_icmp .ge 68, 3) := by decide +kernel
theorem d_X9_dayNow_20 : decode oX9_dayNow.2.1 20 = .ok (.aload_n 0, 1) := by decide +kernel
theorem d_X9_dayNow_21 : decode oX9_dayNow.2.1 21 = .ok (.iload_n 1, 1) := by decide +kernel
theorem d_X9_dayNow_22 : decode oX9_dayNow.2.1 22 = .ok (.invokevirtual 233, 3) := by decide +kernel
theorem d_X9_dayNow_25 : decode oX9_dayNow.2.1 25 = .ok (.istore_n 2, 1) := by decide +kernel
theorem d_X9_dayNow_26 : decode oX9_dayNow.2.1 26 = .ok (.aload_n 0, 1) := by decide +kernel
theorem d_X9_dayNow_27 : decode oX9_dayNow.2.1 27 = .ok (.getfield 20, 3) := by decide +kernel
theorem d_X9_dayNow_30 : decode oX9_dayNow.2.1 30 = .ok (.iload_n 1, 1) := by decide +kernel
theorem d_X9_dayNow_31 : decode oX9_dayNow.2.1 31 = .ok (.iaload, 1) := by decide +kernel
theorem d_X9_dayNow_32 : decode oX9_dayNow.2.1 32 = .ok (.aload_n 0, 1) := by decide +kernel
theorem d_X9_dayNow_33 : decode oX9_dayNow.2.1 33 = .ok (.getfield 118, 3) := by decide +kernel
theorem d_X9_dayNow_36 : decode oX9_dayNow.2.1 36 = .ok (.aload_n 0, 1) := by decide +kernel
theorem d_X9_dayNow_37 : decode oX9_dayNow.2.1 37 = .ok (.getfield 7, 3) := by decide +kernel
theorem d_X9_dayNow_40 : decode oX9_dayNow.2.1 40 = .ok (.irem, 1) := by decide +kernel
theorem d_X9_dayNow_41 : decode oX9_dayNow.2.1 41 = .ok (.if_icmp .ne 38, 3) := by decide +kernel
theorem d_X9_dayNow_44 : decode oX9_dayNow.2.1 44 = .ok (.iload_n 2, 1) := by decide +kernel
theorem d_X9_dayNow_45 : decode oX9_dayNow.2.1 45 = .ok (.ifCond .lt 34, 3) := by decide +kernel
theorem d_X9_dayNow_48 : decode oX9_dayNow.2.1 48 = .ok (.aload_n 0, 1) := by decide +kernel
theorem d_X9_dayNow_49 : decode oX9_dayNow.2.1 49 = .ok (.getfield 38, 3) := by decide +kernel
theorem d_X9_dayNow_52 : decode oX9_dayNow.2.1 52 = .ok (.iload_n 2, 1) := by decide +kernel
theorem d_X9_dayNow_53 : decode oX9_dayNow.2.1 53 = .ok (.baload, 1) := by decide +kernel
theorem d_X9_dayNow_54 : decode oX9_dayNow.2.1 54 = .ok (.ifCond .eq 25, 3) := by decide +kernel
theorem d_X9_dayNow_57 : decode oX9_dayNow.2.1 57 = .ok (.aload_n 0, 1) := by decide +kernel
theorem d_X9_dayNow_58 : decode oX9_dayNow.2.1 58 = .ok (.getfield 32, 3) := by decide +kernel
theorem d_X9_dayNow_61 : decode oX9_dayNow.2.1 61 = .ok (.iload_n 2, 1) := by decide +kernel
theorem d_X9_dayNow_62 : decode oX9_dayNow.2.1 62 = .ok (.iaload, 1) := by decide +kernel
theorem d_X9_dayNow_63 : decode oX9_dayNow.2.1 63 = .ok (.sipush 999, 3) := by decide +kernel
theorem d_X9_dayNow_66 : decode oX9_dayNow.2.1 66 = .ok (.if_icmp .ge 13, 3) := by decide +kernel
theorem d_X9_dayNow_69 : decode oX9_dayNow.2.1 69 = .ok (.aload_n 0, 1) := by decide +kernel
theorem d_X9_dayNow_70 : decode oX9_dayNow.2.1 70 = .ok (.getfield 32, 3) := by decide +kernel
theorem d_X9_dayNow_73 : decode oX9_dayNow.2.1 73 = .ok (.iload_n 2, 1) := by decide +kernel
theorem d_X9_dayNow_74 : decode oX9_dayNow.2.1 74 = .ok (.dup2, 1) := by decide +kernel
theorem d_X9_dayNow_75 : decode oX9_dayNow.2.1 75 = .ok (.iaload, 1) := by decide +kernel
theorem d_X9_dayNow_76 : decode oX9_dayNow.2.1 76 = .ok (.iconst 1, 1) := by decide +kernel
theorem d_X9_dayNow_77 : decode oX9_dayNow.2.1 77 = .ok (.iadd, 1) := by decide +kernel
theorem d_X9_dayNow_78 : decode oX9_dayNow.2.1 78 = .ok (.iastore, 1) := by decide +kernel
theorem d_X9_dayNow_79 : decode oX9_dayNow.2.1 79 = .ok (.iinc 1 1, 3) := by decide +kernel
theorem d_X9_dayNow_82 : decode oX9_dayNow.2.1 82 = .ok (.goto (-70), 3) := by decide +kernel
theorem d_X9_dayNow_85 : decode oX9_dayNow.2.1 85 = .ok (.iconst 0, 1) := by decide +kernel
theorem d_X9_dayNow_86 : decode oX9_dayNow.2.1 86 = .ok (.istore_n 1, 1) := by decide +kernel
theorem d_X9_dayNow_87 : decode oX9_dayNow.2.1 87 = .ok (.iload_n 1, 1) := by decide +kernel
theorem d_X9_dayNow_88 : decode oX9_dayNow.2.1 88 = .ok (.aload_n 0, 1) := by decide +kernel
theorem d_X9_dayNow_89 : decode oX9_dayNow.2.1 89 = .ok (.getfield 115, 3) := by decide +kernel
theorem d_X9_dayNow_92 : decode oX9_dayNow.2.1 92 = .ok (.if_icmp .ge 36, 3) := by decide +kernel
theorem d_X9_dayNow_95 : decode oX9_dayNow.2.1 95 = .ok (.aload_n 0, 1) := by decide +kernel
theorem d_X9_dayNow_96 : decode oX9_dayNow.2.1 96 = .ok (.getfield 45, 3) := by decide +kernel
theorem d_X9_dayNow_99 : decode oX9_dayNow.2.1 99 = .ok (.iload_n 1, 1) := by decide +kernel
theorem d_X9_dayNow_100 : decode oX9_dayNow.2.1 100 = .ok (.iaload, 1) := by decide +kernel
theorem d_X9_dayNow_101 : decode oX9_dayNow.2.1 101 = .ok (.ifCond .lt 21, 3) := by decide +kernel
theorem d_X9_dayNow_104 : decode oX9_dayNow.2.1 104 = .ok (.aload_n 0, 1) := by decide +kernel
theorem d_X9_dayNow_105 : decode oX9_dayNow.2.1 105 = .ok (.getfield 48, 3) := by decide +kernel
theorem d_X9_dayNow_108 : decode oX9_dayNow.2.1 108 = .ok (.iload_n 1, 1) := by decide +kernel
theorem d_X9_dayNow_109 : decode oX9_dayNow.2.1 109 = .ok (.iaload, 1) := by decide +kernel
theorem d_X9_dayNow_110 : decode oX9_dayNow.2.1 110 = .ok (.aload_n 0, 1) := by decide +kernel
theorem d_X9_dayNow_111 : decode oX9_dayNow.2.1 111 = .ok (.getfield 118, 3) := by decide +kernel
theorem d_X9_dayNow_114 : decode oX9_dayNow.2.1 114 = .ok (.if_icmp .gt 8, 3) := by decide +kernel
theorem d_X9_dayNow_117 : decode oX9_dayNow.2.1 117 = .ok (.aload_n 0, 1) := by decide +kernel
theorem d_X9_dayNow_118 : decode oX9_dayNow.2.1 118 = .ok (.iload_n 1, 1) := by decide +kernel
theorem d_X9_dayNow_119 : decode oX9_dayNow.2.1 119 = .ok (.invokevirtual 262, 3) := by decide +kernel
theorem d_X9_dayNow_122 : decode oX9_dayNow.2.1 122 = .ok (.iinc 1 1, 3) := by decide +kernel
theorem d_X9_dayNow_125 : decode oX9_dayNow.2.1 125 = .ok (.goto (-38), 3) := by decide +kernel
theorem d_X9_dayNow_128 : decode oX9_dayNow.2.1 128 = .ok (.return_, 1) := by decide +kernel
theorem b_X9_dayNow_0 {E : ob_E} {σ : ob_Mem} {Q : ob_Mem → Prop} (k : ob_RT shp E oX9_dayNow 12 [.ref 53, .int (0 : Int32), .null] [] (ob_wI σ 53 9 ((σ.1 53 9) + (1 : Int32))) (ob_qV Q)) : ob_RT shp E oX9_dayNow 0 [.ref 53, .null, .null] [] σ (ob_qV Q) := by
  refine ob_aload_n d_X9_dayNow_0 rfl ?_
  refine ob_dup d_X9_dayNow_1 rfl ?_
  refine ob_getI d_X9_dayNow_2 fl_X9_118 sh_53 rfl (by decide) ?_
  refine ob_iconst (v := 1) d_X9_dayNow_5 ci_1 ?_
  refine ob_iadd d_X9_dayNow_6 ?_
  refine ob_putI d_X9_dayNow_7 fp_X9_118 sh_53 rfl rfl ?_
  refine ob_iconst (v := 0) d_X9_dayNow_10 ci_0 ?_
  refine ob_istore_n (ls' := [.ref 53, .int (0 : Int32), .null]) d_X9_dayNow_11 (Nat.le_of_ble_eq_true rfl) rfl ?_
  exact k
theorem b_X9_dayNow_12 {E : ob_E} {σ : ob_Mem} {Q : ob_Mem → Prop} {x1 : Int32} (k : (((σ.1 53 4) ≤ x1 → ob_RT shp E oX9_dayNow 87 [.ref 53, .int (0 : Int32), .null] [] σ (ob_qV Q)) ∧ (¬ (σ.1 53 4) ≤ x1 → ob_RM shp E oX9_userOf [.ref 53, .int x1] σ (ob_qI fun v2 σ1 => (vp_in x1 8 ∧ (¬ (σ1.1 53 0) = 0 ∧ ((¬ (σ1.1 56 (x1).toNatClampNeg) = (ob_rem (σ1.1 53 9) (σ1.1 53 0)) → ob_RT shp E oX9_dayNow 12 [.ref 53, .int (x1 + (1 : Int32)), .null] [] σ1 (ob_qV Q)) ∧ ((σ1.1 56 (x1).toNatClampNeg) = (ob_rem (σ1.1 53 9) (σ1.1 53 0)) → ((v2 < 0 → ob_RT shp E oX9_dayNow 12 [.ref 53, .int (x1 + (1 : Int32)), .null] [] σ1 (ob_qV Q)) ∧ (¬ v2 < 0 → (vp_in v2 6 ∧ (((σ1.1 62 (v2).toNatClampNeg) = 0 → ob_RT shp E oX9_dayNow 12 [.ref 53, .int (x1 + (1 : Int32)), .null] [] σ1 (ob_qV Q)) ∧ (¬ (σ1.1 62 (v2).toNatClampNeg) = 0 → (vp_in v2 6 ∧ (((999 : Int32) ≤ (σ1.1 60 (v2).toNatClampNeg) → ob_RT shp E oX9_dayNow 12 [.ref 53, .int (x1 + (1 : Int32)), .null] [] σ1 (ob_qV Q)) ∧ (¬ (999 : Int32) ≤ (σ1.1 60 (v2).toNatClampNeg) → (vp_in v2 6 ∧ (vp_in v2 6 ∧ (∀ σ3, σ3 = (ob_wI σ1 60 (v2).toNatClampNeg ((σ1.1 60 (v2).toNatClampNeg) + (1 : Int32))) → ob_RT shp E oX9_dayNow 12 [.ref 53, .int (x1 + (1 : Int32)), .null] [] σ3 (ob_qV Q)))))))))))))))))))) : ob_RT shp E oX9_dayNow 12 [.ref 53, .int x1, .null] [] σ (ob_qV Q) := by
  refine ob_iload_n d_X9_dayNow_12 rfl ?_
  refine ob_aload_n d_X9_dayNow_13 rfl ?_
  refine ob_getI d_X9_dayNow_14 fl_X9_115 sh_53 rfl (by decide) ?_
  refine ob_icmp_ge (tgt := 85) d_X9_dayNow_17 rfl (fun cc => ?_) (fun cc => ?_)
  · have k := k.1 cc
    refine ob_iconst (v := 0) d_X9_dayNow_85 ci_0 ?_
    refine ob_istore_n (ls' := [.ref 53, .int (0 : Int32), .null]) d_X9_dayNow_86 (Nat.le_of_ble_eq_true rfl) rfl ?_
    exact k
  · have k := k.2 cc
    refine ob_aload_n d_X9_dayNow_20 rfl ?_
    refine ob_iload_n d_X9_dayNow_21 rfl ?_
    refine ob_callV [.int x1] (z := oX9_userOf) (st := []) d_X9_dayNow_22 lk_X9_233 mv_X9_userOf rfl sh_53 cl_9 rfl (Nat.le_of_ble_eq_true rfl) rfl k (ob_kI fun v2 σ1 k => ?_)
    refine ob_istore_n (ls' := [.ref 53, .int x1, .int v2]) d_X9_dayNow_25 (Nat.le_of_ble_eq_true rfl) rfl ?_
    refine ob_aload_n d_X9_dayNow_26 rfl ?_
    refine ob_getR d_X9_dayNow_27 fl_X9_20 sh_53 rfl rfl ?_
    refine ob_iload_n d_X9_dayNow_30 rfl ?_
    obtain ⟨hin, k⟩ := k
    refine ob_iald d_X9_dayNow_31 sh_56 hin ?_
    refine ob_aload_n d_X9_dayNow_32 rfl ?_
    refine ob_getI d_X9_dayNow_33 fl_X9_118 sh_53 rfl (by decide) ?_
    refine ob_aload_n d_X9_dayNow_36 rfl ?_
    refine ob_getI d_X9_dayNow_37 fl_X9_7 sh_53 rfl (by decide) ?_
    obtain ⟨hne, k⟩ := k
    refine ob_irem d_X9_dayNow_40 hne ?_
    refine ob_icmp_ne (tgt := 79) d_X9_dayNow_41 rfl (fun cc => ?_) (fun cc => ?_)
    · have k := k.1 cc
      refine ob_iinc (ls' := [.ref 53, .int (x1 + (1 : Int32)), .int v2]) (v := 1) d_X9_dayNow_79 rfl ci_1 (Nat.le_of_ble_eq_true rfl) rfl ?_
      refine ob_goto (tgt := 12) d_X9_dayNow_82 rfl ?_
      refine ob_drop 2 (ls' := [.ref 53, .int (x1 + (1 : Int32)), .null]) rfl ?_
      exact k
    · have k := k.2 cc
      refine ob_iload_n d_X9_dayNow_44 rfl ?_
      refine ob_if_lt (tgt := 79) d_X9_dayNow_45 rfl (fun cc => ?_) (fun cc => ?_)
      · have k := k.1 cc
        refine ob_iinc (ls' := [.ref 53, .int (x1 + (1 : Int32)), .int v2]) (v := 1) d_X9_dayNow_79 rfl ci_1 (Nat.le_of_ble_eq_true rfl) rfl ?_
        refine ob_goto (tgt := 12) d_X9_dayNow_82 rfl ?_
        refine ob_drop 2 (ls' := [.ref 53, .int (x1 + (1 : Int32)), .null]) rfl ?_
        exact k
      · have k := k.2 cc
        refine ob_aload_n d_X9_dayNow_48 rfl ?_
        refine ob_getR d_X9_dayNow_49 fl_X9_38 sh_53 rfl rfl ?_
        refine ob_iload_n d_X9_dayNow_52 rfl ?_
        obtain ⟨hin, k⟩ := k
        refine ob_zald d_X9_dayNow_53 sh_62 hin ?_
        refine ob_if_eq (tgt := 79) d_X9_dayNow_54 rfl (fun cc => ?_) (fun cc => ?_)
        · have k := k.1 cc
          refine ob_iinc (ls' := [.ref 53, .int (x1 + (1 : Int32)), .int v2]) (v := 1) d_X9_dayNow_79 rfl ci_1 (Nat.le_of_ble_eq_true rfl) rfl ?_
          refine ob_goto (tgt := 12) d_X9_dayNow_82 rfl ?_
          refine ob_drop 2 (ls' := [.ref 53, .int (x1 + (1 : Int32)), .null]) rfl ?_
          exact k
        · have k := k.2 cc
          refine ob_aload_n d_X9_dayNow_57 rfl ?_
          refine ob_getR d_X9_dayNow_58 fl_X9_32 sh_53 rfl rfl ?_
          refine ob_iload_n d_X9_dayNow_61 rfl ?_
          obtain ⟨hin, k⟩ := k
          refine ob_iald d_X9_dayNow_62 sh_60 hin ?_
          refine ob_sipush (v := 999) d_X9_dayNow_63 cs_999 ?_
          refine ob_icmp_ge (tgt := 79) d_X9_dayNow_66 rfl (fun cc => ?_) (fun cc => ?_)
          · have k := k.1 cc
            refine ob_iinc (ls' := [.ref 53, .int (x1 + (1 : Int32)), .int v2]) (v := 1) d_X9_dayNow_79 rfl ci_1 (Nat.le_of_ble_eq_true rfl) rfl ?_
            refine ob_goto (tgt := 12) d_X9_dayNow_82 rfl ?_
            refine ob_drop 2 (ls' := [.ref 53, .int (x1 + (1 : Int32)), .null]) rfl ?_
            exact k
          · have k := k.2 cc
            refine ob_aload_n d_X9_dayNow_69 rfl ?_
            refine ob_getR d_X9_dayNow_70 fl_X9_32 sh_53 rfl rfl ?_
            refine ob_iload_n d_X9_dayNow_73 rfl ?_
            refine ob_dup2 d_X9_dayNow_74 rfl rfl ?_
            obtain ⟨hin, k⟩ := k
            refine ob_iald d_X9_dayNow_75 sh_60 hin ?_
            refine ob_iconst (v := 1) d_X9_dayNow_76 ci_1 ?_
            refine ob_iadd d_X9_dayNow_77 ?_
            obtain ⟨hin, k⟩ := k
            refine ob_iast d_X9_dayNow_78 sh_60 hin ?_
            refine ob_nmM (fun σ3 hσ3 => ?_)
            have k := k σ3 hσ3
            refine ob_iinc (ls' := [.ref 53, .int (x1 + (1 : Int32)), .int v2]) (v := 1) d_X9_dayNow_79 rfl ci_1 (Nat.le_of_ble_eq_true rfl) rfl ?_
            refine ob_goto (tgt := 12) d_X9_dayNow_82 rfl ?_
            refine ob_drop 2 (ls' := [.ref 53, .int (x1 + (1 : Int32)), .null]) rfl ?_
            exact k
theorem b_X9_dayNow_87 {E : ob_E} {σ : ob_Mem} {Q : ob_Mem → Prop} {x1 : Int32} (k : (((σ.1 53 4) ≤ x1 → Q σ) ∧ (¬ (σ.1 53 4) ≤ x1 → (vp_in x1 8 ∧ (((σ.1 64 (x1).toNatClampNeg) < 0 → ob_RT shp E oX9_dayNow 87 [.ref 53, .int (x1 + (1 : Int32)), .null] [] σ (ob_qV Q)) ∧ (¬ (σ.1 64 (x1).toNatClampNeg) < 0 → (vp_in x1 8 ∧ (((σ.1 53 9) < (σ.1 65 (x1).toNatClampNeg) → ob_RT shp E oX9_dayNow 87 [.ref 53, .int (x1 + (1 : Int32)), .null] [] σ (ob_qV Q)) ∧ (¬ (σ.1 53 9) < (σ.1 65 (x1).toNatClampNeg) → ob_RM shp E oX9_endLoan [.ref 53, .int x1] σ (ob_qV fun σ1 => ob_RT shp E oX9_dayNow 87 [.ref 53, .int (x1 + (1 : Int32)), .null] [] σ1 (ob_qV Q))))))))))) : ob_RT shp E oX9_dayNow 87 [.ref 53, .int x1, .null] [] σ (ob_qV Q) := by
  refine ob_iload_n d_X9_dayNow_87 rfl ?_
  refine ob_aload_n d_X9_dayNow_88 rfl ?_
  refine ob_getI d_X9_dayNow_89 fl_X9_115 sh_53 rfl (by decide) ?_
  refine ob_icmp_ge (tgt := 128) d_X9_dayNow_92 rfl (fun cc => ?_) (fun cc => ?_)
  · have k := k.1 cc
    exact ob_vret d_X9_dayNow_128 rfl ⟨rfl, k⟩
  · have k := k.2 cc
    refine ob_aload_n d_X9_dayNow_95 rfl ?_
    refine ob_getR d_X9_dayNow_96 fl_X9_45 sh_53 rfl rfl ?_
    refine ob_iload_n d_X9_dayNow_99 rfl ?_
    obtain ⟨hin, k⟩ := k
    refine ob_iald d_X9_dayNow_100 sh_64 hin ?_
    refine ob_if_lt (tgt := 122) d_X9_dayNow_101 rfl (fun cc => ?_) (fun cc => ?_)
    · have k := k.1 cc
      refine ob_iinc (ls' := [.ref 53, .int (x1 + (1 : Int32)), .null]) (v := 1) d_X9_dayNow_122 rfl ci_1 (Nat.le_of_ble_eq_true rfl) rfl ?_
      refine ob_goto (tgt := 87) d_X9_dayNow_125 rfl ?_
      exact k
    · have k := k.2 cc
      refine ob_aload_n d_X9_dayNow_104 rfl ?_
      refine ob_getR d_X9_dayNow_105 fl_X9_48 sh_53 rfl rfl ?_
      refine ob_iload_n d_X9_dayNow_108 rfl ?_
      obtain ⟨hin, k⟩ := k
      refine ob_iald d_X9_dayNow_109 sh_65 hin ?_
      refine ob_aload_n d_X9_dayNow_110 rfl ?_
      refine ob_getI d_X9_dayNow_111 fl_X9_118 sh_53 rfl (by decide) ?_
      refine ob_icmp_gt (tgt := 122) d_X9_dayNow_114 rfl (fun cc => ?_) (fun cc => ?_)
      · have k := k.1 cc
        refine ob_iinc (ls' := [.ref 53, .int (x1 + (1 : Int32)), .null]) (v := 1) d_X9_dayNow_122 rfl ci_1 (Nat.le_of_ble_eq_true rfl) rfl ?_
        refine ob_goto (tgt := 87) d_X9_dayNow_125 rfl ?_
        exact k
      · have k := k.2 cc
        refine ob_aload_n d_X9_dayNow_117 rfl ?_
        refine ob_iload_n d_X9_dayNow_118 rfl ?_
        refine ob_callV [.int x1] (z := oX9_endLoan) (st := []) d_X9_dayNow_119 lk_X9_262 mv_X9_endLoan rfl sh_53 cl_9 rfl (Nat.le_of_ble_eq_true rfl) rfl k (ob_kV fun σ1 k => ?_)
        refine ob_iinc (ls' := [.ref 53, .int (x1 + (1 : Int32)), .null]) (v := 1) d_X9_dayNow_122 rfl ci_1 (Nat.le_of_ble_eq_true rfl) rfl ?_
        refine ob_goto (tgt := 87) d_X9_dayNow_125 rfl ?_
        exact k
theorem d_X9_mayDeal_0 : decode oX9_mayDeal.2.1 0 = .ok (.aload_n 0, 1) := by decide +kernel
theorem d_X9_mayDeal_1 : decode oX9_mayDeal.2.1 1 = .ok (.getfield 42, 3) := by decide +kernel
theorem d_X9_mayDeal_4 : decode oX9_mayDeal.2.1 4 = .ok (.iload_n 1, 1) := by decide +kernel
theorem d_X9_mayDeal_5 : decode oX9_mayDeal.2.1 5 = .ok (.iaload, 1) := by decide +kernel
theorem d_X9_mayDeal_6 : decode oX9_mayDeal.2.1 6 = .ok (.ifCond .lt 45, 3) := by decide +kernel
theorem d_X9_mayDeal_9 : decode oX9_mayDeal.2.1 9 = .ok (.aload_n 0, 1) := by decide +kernel
theorem d_X9_mayDeal_10 : decode oX9_mayDeal.2.1 10 = .ok (.getfield 45, 3) := by decide +kernel
theorem d_X9_mayDeal_13 : decode oX9_mayDeal.2.1 13 = .ok (.iload_n 1, 1) := by decide +kernel
theorem d_X9_mayDeal_14 : decode oX9_mayDeal.2.1 14 = .ok (.iaload, 1) := by decide +kernel
theorem d_X9_mayDeal_15 : decode oX9_mayDeal.2.1 15 = .ok (.ifCond .ge 36, 3) := by decide +kernel
theorem d_X9_mayDeal_18 : decode oX9_mayDeal.2.1 18 = .ok (.aload_n 0, 1) := by decide +kernel
theorem d_X9_mayDeal_19 : decode oX9_mayDeal.2.1 19 = .ok (.getfield 38, 3) := by decide +kernel
theorem d_X9_mayDeal_22 : decode oX9_mayDeal.2.1 22 = .ok (.iload_n 2, 1) := by decide +kernel
theorem d_X9_mayDeal_23 : decode oX9_mayDeal.2.1 23 = .ok (.baload, 1) := by decide +kernel
theorem d_X9_mayDeal_24 : decode oX9_mayDeal.2.1 24 = .ok (.ifCond .eq 27, 3) := by decide +kernel
theorem d_X9_mayDeal_27 : decode oX9_mayDeal.2.1 27 = .ok (.aload_n 0, 1) := by decide +kernel
theorem d_X9_mayDeal_28 : decode oX9_mayDeal.2.1 28 = .ok (.getfield 42, 3) := by decide +kernel
theorem d_X9_mayDeal_31 : decode oX9_mayDeal.2.1 31 = .ok (.iload_n 1, 1) := by decide +kernel
theorem d_X9_mayDeal_32 : decode oX9_mayDeal.2.1 32 = .ok (.iaload, 1) := by decide +kernel
theorem d_X9_mayDeal_33 : decode oX9_mayDeal.2.1 33 = .ok (.iload_n 2, 1) := by decide +kernel
theorem d_X9_mayDeal_34 : decode oX9_mayDeal.2.1 34 = .ok (.if_icmp .eq 17, 3) := by decide +kernel
theorem d_X9_mayDeal_37 : decode oX9_mayDeal.2.1 37 = .ok (.aload_n 0, 1) := by decide +kernel
theorem d_X9_mayDeal_38 : decode oX9_mayDeal.2.1 38 = .ok (.getfield 35, 3) := by decide +kernel
theorem d_X9_mayDeal_41 : decode oX9_mayDeal.2.1 41 = .ok (.iload_n 2, 1) := by decide +kernel
theorem d_X9_mayDeal_42 : decode oX9_mayDeal.2.1 42 = .ok (.iaload, 1) := by decide +kernel
theorem d_X9_mayDeal_43 : decode oX9_mayDeal.2.1 43 = .ok (.iload_n 3, 1) := by decide +kernel
theorem d_X9_mayDeal_44 : decode oX9_mayDeal.2.1 44 = .ok (.if_icmp .lt 7, 3) := by decide +kernel
theorem d_X9_mayDeal_47 : decode oX9_mayDeal.2.1 47 = .ok (.iconst 1, 1) := by decide +kernel
theorem d_X9_mayDeal_48 : decode oX9_mayDeal.2.1 48 = .ok (.goto 4, 3) := by decide +kernel
theorem d_X9_mayDeal_51 : decode oX9_mayDeal.2.1 51 = .ok (.iconst 0, 1) := by decide +kernel
theorem d_X9_mayDeal_52 : decode oX9_mayDeal.2.1 52 = .ok (.ireturn, 1) := by decide +kernel
theorem b_X9_mayDeal_0 {E : ob_E} {σ : ob_Mem} {Q : Int32 → ob_Mem → Prop} {x1 x2 x3 : Int32} (k : (vp_in x1 8 ∧ (((σ.1 63 (x1).toNatClampNeg) < 0 → Q (0 : Int32) σ) ∧ (¬ (σ.1 63 (x1).toNatClampNeg) < 0 → (vp_in x1 8 ∧ ((0 ≤ (σ.1 64 (x1).toNatClampNeg) → Q (0 : Int32) σ) ∧ (¬ 0 ≤ (σ.1 64 (x1).toNatClampNeg) → (vp_in x2 6 ∧ (((σ.1 62 (x2).toNatClampNeg) = 0 → Q (0 : Int32) σ) ∧ (¬ (σ.1 62 (x2).toNatClampNeg) = 0 → (vp_in x1 8 ∧ (((σ.1 63 (x1).toNatClampNeg) = x2 → Q (0 : Int32) σ) ∧ (¬ (σ.1 63 (x1).toNatClampNeg) = x2 → (vp_in x2 6 ∧ (((σ.1 61 (x2).toNatClampNeg) < x3 → Q (0 : Int32) σ) ∧ (¬ (σ.1 61 (x2).toNatClampNeg) < x3 → Q (1 : Int32) σ)))))))))))))))) : ob_RT shp E oX9_mayDeal 0 [.ref 53, .int x1, .int x2, .int x3] [] σ (ob_qI Q) := by
  refine ob_aload_n d_X9_mayDeal_0 rfl ?_
  refine ob_getR d_X9_mayDeal_1 fl_X9_42 sh_53 rfl rfl ?_
  refine ob_iload_n d_X9_mayDeal_4 rfl ?_
  obtain ⟨hin, k⟩ := k
  refine ob_iald d_X9_mayDeal_5 sh_63 hin ?_
  refine ob_if_lt (tgt := 51) d_X9_mayDeal_6 rfl (fun cc => ?_) (fun cc => ?_)
  · have k := k.1 cc
    refine ob_iconst (v := 0) d_X9_mayDeal_51 ci_0 ?_
    exact ob_zret d_X9_mayDeal_52 rfl rfl ⟨_, rfl, k⟩
  · have k := k.2 cc
    refine ob_aload_n d_X9_mayDeal_9 rfl ?_
    refine ob_getR d_X9_mayDeal_10 fl_X9_45 sh_53 rfl rfl ?_
    refine ob_iload_n d_X9_mayDeal_13 rfl ?_
    obtain ⟨hin, k⟩ := k
    refine ob_iald d_X9_mayDeal_14 sh_64 hin ?_
    refine ob_if_ge (tgt := 51) d_X9_mayDeal_15 rfl (fun cc => ?_) (fun cc => ?_)
    · have k := k.1 cc
      refine ob_iconst (v := 0) d_X9_mayDeal_51 ci_0 ?_
      exact ob_zret d_X9_mayDeal_52 rfl rfl ⟨_, rfl, k⟩
    · have k := k.2 cc
      refine ob_aload_n d_X9_mayDeal_18 rfl ?_
      refine ob_getR d_X9_mayDeal_19 fl_X9_38 sh_53 rfl rfl ?_
      refine ob_iload_n d_X9_mayDeal_22 rfl ?_
      obtain ⟨hin, k⟩ := k
      refine ob_zald d_X9_mayDeal_23 sh_62 hin ?_
      refine ob_if_eq (tgt := 51) d_X9_mayDeal_24 rfl (fun cc => ?_) (fun cc => ?_)
      · have k := k.1 cc
        refine ob_iconst (v := 0) d_X9_mayDeal_51 ci_0 ?_
        exact ob_zret d_X9_mayDeal_52 rfl rfl ⟨_, rfl, k⟩
      · have k := k.2 cc
        refine ob_aload_n d_X9_mayDeal_27 rfl ?_
        refine ob_getR d_X9_mayDeal_28 fl_X9_42 sh_53 rfl rfl ?_
        refine ob_iload_n d_X9_mayDeal_31 rfl ?_
        obtain ⟨hin, k⟩ := k
        refine ob_iald d_X9_mayDeal_32 sh_63 hin ?_
        refine ob_iload_n d_X9_mayDeal_33 rfl ?_
        refine ob_icmp_eq (tgt := 51) d_X9_mayDeal_34 rfl (fun cc => ?_) (fun cc => ?_)
        · have k := k.1 cc
          refine ob_iconst (v := 0) d_X9_mayDeal_51 ci_0 ?_
          exact ob_zret d_X9_mayDeal_52 rfl rfl ⟨_, rfl, k⟩
        · have k := k.2 cc
          refine ob_aload_n d_X9_mayDeal_37 rfl ?_
          refine ob_getR d_X9_mayDeal_38 fl_X9_35 sh_53 rfl rfl ?_
          refine ob_iload_n d_X9_mayDeal_41 rfl ?_
          obtain ⟨hin, k⟩ := k
          refine ob_iald d_X9_mayDeal_42 sh_61 hin ?_
          refine ob_iload_n d_X9_mayDeal_43 rfl ?_
          refine ob_icmp_lt (tgt := 51) d_X9_mayDeal_44 rfl (fun cc => ?_) (fun cc => ?_)
          · have k := k.1 cc
            refine ob_iconst (v := 0) d_X9_mayDeal_51 ci_0 ?_
            exact ob_zret d_X9_mayDeal_52 rfl rfl ⟨_, rfl, k⟩
          · have k := k.2 cc
            refine ob_iconst (v := 1) d_X9_mayDeal_47 ci_1 ?_
            refine ob_goto (tgt := 52) d_X9_mayDeal_48 rfl ?_
            exact ob_zret d_X9_mayDeal_52 rfl rfl ⟨_, rfl, k⟩
theorem d_X9_pay_0 : decode oX9_pay.2.1 0 = .ok (.aload_n 0, 1) := by decide +kernel
theorem d_X9_pay_1 : decode oX9_pay.2.1 1 = .ok (.getfield 35, 3) := by decide +kernel
theorem d_X9_pay_4 : decode oX9_pay.2.1 4 = .ok (.iload_n 2, 1) := by decide +kernel
theorem d_X9_pay_5 : decode oX9_pay.2.1 5 = .ok (.dup2, 1) := by decide +kernel
theorem d_X9_pay_6 : decode oX9_pay.2.1 6 = .ok (.iaload, 1) := by decide +kernel
theorem d_X9_pay_7 : decode oX9_pay.2.1 7 = .ok (.iload_n 3, 1) := by decide +kernel
theorem d_X9_pay_8 : decode oX9_pay.2.1 8 = .ok (.isub, 1) := by decide +kernel
theorem d_X9_pay_9 : decode oX9_pay.2.1 9 = .ok (.iastore, 1) := by decide +kernel
theorem d_X9_pay_10 : decode oX9_pay.2.1 10 = .ok (.aload_n 0, 1) := by decide +kernel
theorem d_X9_pay_11 : decode oX9_pay.2.1 11 = .ok (.getfield 35, 3) := by decide +kernel
theorem d_X9_pay_14 : decode oX9_pay.2.1 14 = .ok (.aload_n 0, 1) := by decide +kernel
theorem d_X9_pay_15 : decode oX9_pay.2.1 15 = .ok (.getfield 42, 3) := by decide +kernel
theorem d_X9_pay_18 : decode oX9_pay.2.1 18 = .ok (.iload_n 1, 1) := by decide +kernel
theorem d_X9_pay_19 : decode oX9_pay.2.1 19 = .ok (.iaload, 1) := by decide +kernel
theorem d_X9_pay_20 : decode oX9_pay.2.1 20 = .ok (.dup2, 1) := by decide +kernel
theorem d_X9_pay_21 : decode oX9_pay.2.1 21 = .ok (.iaload, 1) := by decide +kernel
theorem d_X9_pay_22 : decode oX9_pay.2.1 22 = .ok (.iload_n 3, 1) := by decide +kernel
theorem d_X9_pay_23 : decode oX9_pay.2.1 23 = .ok (.iadd, 1) := by decide +kernel
theorem d_X9_pay_24 : decode oX9_pay.2.1 24 = .ok (.iastore, 1) := by decide +kernel
theorem d_X9_pay_25 : decode oX9_pay.2.1 25 = .ok (.return_, 1) := by decide +kernel
theorem b_X9_pay_0 {E : ob_E} {σ : ob_Mem} {Q : ob_Mem → Prop} {x1 x2 x3 : Int32} (k : (vp_in x2 6 ∧ (vp_in x2 6 ∧ (vp_in x1 8 ∧ (vp_in ((ob_wI σ 61 (x2).toNatClampNeg ((σ.1 61 (x2).toNatClampNeg) - x3)).1 63 (x1).toNatClampNeg) 6 ∧ (vp_in ((ob_wI σ 61 (x2).toNatClampNeg ((σ.1 61 (x2).toNatClampNeg) - x3)).1 63 (x1).toNatClampNeg) 6 ∧ Q (ob_wI (ob_wI σ 61 (x2).toNatClampNeg ((σ.1 61 (x2).toNatClampNeg) - x3)) 61 (((ob_wI σ 61 (x2).toNatClampNeg ((σ.1 61 (x2).toNatClampNeg) - x3)).1 63 (x1).toNatClampNeg)).toNatClampNeg (((ob_wI σ 61 (x2).toNatClampNeg ((σ.1 61 (x2).toNatClampNeg) - x3)).1 61 (((ob_wI σ 61 (x2).toNatClampNeg ((σ.1 61 (x2).toNatClampNeg) - x3)).1 63 (x1).toNatClampNeg)).toNatClampNeg) + x3)))))))) : ob_RT shp E oX9_pay 0 [.ref 53, .int x1, .int x2, .int x3] [] σ (ob_qV Q) := by
  refine ob_aload_n d_X9_pay_0 rfl ?_
  refine ob_getR d_X9_pay_1 fl_X9_35 sh_53 rfl rfl ?_
  refine ob_iload_n d_X9_pay_4 rfl ?_
  refine ob_dup2 d_X9_pay_5 rfl rfl ?_
  obtain ⟨hin, k⟩ := k
  refine ob_iald d_X9_pay_6 sh_61 hin ?_
  refine ob_iload_n d_X9_pay_7 rfl ?_
  refine ob_isub d_X9_pay_8 ?_
  obtain ⟨hin, k⟩ := k
  refine ob_iast d_X9_pay_9 sh_61 hin ?_
  refine ob_aload_n d_X9_pay_10 rfl ?_
  refine ob_getR d_X9_pay_11 fl_X9_35 sh_53 rfl rfl ?_
  refine ob_aload_n d_X9_pay_14 rfl ?_
  refine ob_getR d_X9_pay_15 fl_X9_42 sh_53 rfl rfl ?_
  refine ob_iload_n d_X9_pay_18 rfl ?_
  obtain ⟨hin, k⟩ := k
  refine ob_iald d_X9_pay_19 sh_63 hin ?_
  refine ob_dup2 d_X9_pay_20 rfl rfl ?_
  obtain ⟨hin, k⟩ := k
  refine ob_iald d_X9_pay_21 sh_61 hin ?_
  refine ob_iload_n d_X9_pay_22 rfl ?_
  refine ob_iadd d_X9_pay_23 ?_
  obtain ⟨hin, k⟩ := k
  refine ob_iast d_X9_pay_24 sh_61 hin ?_
  exact ob_vret d_X9_pay_25 rfl ⟨rfl, k⟩
