/-! code of X9: the decode rows and a row for each piece between cut points (printed by wip/whole/mk.py) -/
theorem d_X9_youngest_0 : decode oX9_youngest.2.1 0 = .ok (.iconst (-1), 1) := by decide +kernel
theorem d_X9_youngest_1 : decode oX9_youngest.2.1 1 = .ok (.istore_n 1, 1) := by decide +kernel
theorem d_X9_youngest_2 : decode oX9_youngest.2.1 2 = .ok (.iconst 0, 1) := by decide +kernel
theorem d_X9_youngest_3 : decode oX9_youngest.2.1 3 = .ok (.istore_n 2, 1) := by decide +kernel
theorem d_X9_youngest_4 : decode oX9_youngest.2.1 4 = .ok (.iload_n 2, 1) := by decide +kernel
theorem d_X9_youngest_5 : decode oX9_youngest.2.1 5 = .ok (.aload_n 0, 1) := by decide +kernel
theorem d_X9_youngest_6 : decode oX9_youngest.2.1 6 = .ok (.getfield 108, 3) := by decide +kernel
theorem d_X9_youngest_9 : decode oX9_youngest.2.1 9 = .ok (.if_icmp .ge 43, 3) := by decide +kernel
theorem d_X9_youngest_12 : decode oX9_youngest.2.1 12 = .ok (.aload_n 0, 1) := by decide +kernel
theorem d_X9_youngest_13 : decode oX9_youngest.2.1 13 = .ok (.getfield 38, 3) := by decide +kernel
theorem d_X9_youngest_16 : decode oX9_youngest.2.1 16 = .ok (.iload_n 2, 1) := by decide +kernel
theorem d_X9_youngest_17 : decode oX9_youngest.2.1 17 = .ok (.baload, 1) := by decide +kernel
theorem d_X9_youngest_18 : decode oX9_youngest.2.1 18 = .ok (.ifCond .eq 26, 3) := by decide +kernel
theorem d_X9_youngest_21 : decode oX9_youngest.2.1 21 = .ok (.iload_n 1, 1) := by decide +kernel
theorem d_X9_youngest_22 : decode oX9_youngest.2.1 22 = .ok (.ifCond .lt 18, 3) := by decide +kernel
theorem d_X9_youngest_25 : decode oX9_youngest.2.1 25 = .ok (.aload_n 0, 1) := by decide +kernel
theorem d_X9_youngest_26 : decode oX9_youngest.2.1 26 = .ok (.getfield 32, 3) := by decide +kernel
theorem d_X9_youngest_29 : decode oX9_youngest.2.1 29 = .ok (.iload_n 2, 1) := by decide +kernel
theorem d_X9_youngest_30 : decode oX9_youngest.2.1 30 = .ok (.iaload, 1) := by decide +kernel
theorem d_X9_youngest_31 : decode oX9_youngest.2.1 31 = .ok (.aload_n 0, 1) := by decide +kernel
theorem d_X9_youngest_32 : decode oX9_youngest.2.1 32 = .ok (.getfield 32, 3) := by decide +kernel
theorem d_X9_youngest_35 : decode oX9_youngest.2.1 35 = .ok (.iload_n 1, 1) := by decide +kernel
theorem d_X9_youngest_36 : decode oX9_youngest.2.1 36 = .ok (.iaload, 1) := by decide +kernel
theorem d_X9_youngest_37 : decode oX9_youngest.2.1 37 = .ok (.if_icmp .ge 7, 3) := by decide +kernel
theorem d_X9_youngest_40 : decode oX9_youngest.2.1 40 = .ok (.iload_n 2, 1) := by decide +kernel
theorem d_X9_youngest_41 : decode oX9_youngest.2.1 41 = .ok (.goto 4, 3) := by decide +kernel
theorem d_X9_youngest_44 : decode oX9_youngest.2.1 44 = .ok (.iload_n 1, 1) := by decide +kernel
theorem d_X9_youngest_45 : decode oX9_youngest.2.1 45 = .ok (.istore_n 1, 1) := by decide +kernel
theorem d_X9_youngest_46 : decode oX9_youngest.2.1 46 = .ok (.iinc 2 1, 3) := by decide +kernel
theorem d_X9_youngest_49 : decode oX9_youngest.2.1 49 = .ok (.goto (-45), 3) := by decide +kernel
theorem d_X9_youngest_52 : decode oX9_youngest.2.1 52 = .ok (.iload_n 1, 1) := by decide +kernel
theorem d_X9_youngest_53 : decode oX9_youngest.2.1 53 = .ok (.ireturn, 1) := by decide +kernel
theorem b_X9_youngest_0 {E : ob_E} {σ : ob_Mem} {Q : Int32 → ob_Mem → Prop} (k : ob_RT shp E oX9_youngest 4 [.ref 53, .int (-1 : Int32), .int (0 : Int32)] [] σ (ob_qI Q)) : ob_RT shp E oX9_youngest 0 [.ref 53, .null, .null] [] σ (ob_qI Q) := by
  refine ob_iconst (v := -1) d_X9_youngest_0 ci_m1 ?_
  refine ob_istore_n (ls' := [.ref 53, .int (-1 : Int32), .null]) d_X9_youngest_1 (Nat.le_of_ble_eq_true rfl) rfl ?_
  refine ob_iconst (v := 0) d_X9_youngest_2 ci_0 ?_
  refine ob_istore_n (ls' := [.ref 53, .int (-1 : Int32), .int (0 : Int32)]) d_X9_youngest_3 (Nat.le_of_ble_eq_true rfl) rfl ?_
  exact k
theorem b_X9_youngest_4 {E : ob_E} {σ : ob_Mem} {Q : Int32 → ob_Mem → Prop} {x1 x2 : Int32} (k : (((σ.1 53 1) ≤ x2 → Q x1 σ) ∧ (¬ (σ.1 53 1) ≤ x2 → (vp_in x2 6 ∧ (((σ.1 62 (x2).toNatClampNeg) = 0 → ob_RT shp E oX9_youngest 4 [.ref 53, .int x1, .int (x2 + (1 : Int32))] [] σ (ob_qI Q)) ∧ (¬ (σ.1 62 (x2).toNatClampNeg) = 0 → ((x1 < 0 → ob_RT shp E oX9_youngest 4 [.ref 53, .int x2, .int (x2 + (1 : Int32))] [] σ (ob_qI Q)) ∧ (¬ x1 < 0 → (vp_in x2 6 ∧ (vp_in x1 6 ∧ (((σ.1 60 (x1).toNatClampNeg) ≤ (σ.1 60 (x2).toNatClampNeg) → ob_RT shp E oX9_youngest 4 [.ref 53, .int x1, .int (x2 + (1 : Int32))] [] σ (ob_qI Q)) ∧ (¬ (σ.1 60 (x1).toNatClampNeg) ≤ (σ.1 60 (x2).toNatClampNeg) → ob_RT shp E oX9_youngest 4 [.ref 53, .int x2, .int (x2 + (1 : Int32))] [] σ (ob_qI Q))))))))))))) : ob_RT shp E oX9_youngest 4 [.ref 53, .int x1, .int x2] [] σ (ob_qI Q) := by
  refine ob_iload_n d_X9_youngest_4 rfl ?_
  refine ob_aload_n d_X9_youngest_5 rfl ?_
  refine ob_getI d_X9_youngest_6 fl_X9_108 sh_53 rfl (by decide) ?_
  refine ob_icmp_ge (tgt := 52) d_X9_youngest_9 rfl (fun cc => ?_) (fun cc => ?_)
  · have k := k.1 cc
    refine ob_iload_n d_X9_youngest_52 rfl ?_
    exact ob_iret d_X9_youngest_53 rfl ⟨_, rfl, k⟩
  · have k := k.2 cc
    refine ob_aload_n d_X9_youngest_12 rfl ?_
    refine ob_getR d_X9_youngest_13 fl_X9_38 sh_53 rfl rfl ?_
    refine ob_iload_n d_X9_youngest_16 rfl ?_
    obtain ⟨hin, k⟩ := k
    refine ob_zald d_X9_youngest_17 sh_62 hin ?_
    refine ob_if_eq (tgt := 44) d_X9_youngest_18 rfl (fun cc => ?_) (fun cc => ?_)
    · have k := k.1 cc
      refine ob_iload_n d_X9_youngest_44 rfl ?_
      refine ob_istore_n (ls' := [.ref 53, .int x1, .int x2]) d_X9_youngest_45 (Nat.le_of_ble_eq_true rfl) rfl ?_
      refine ob_iinc (ls' := [.ref 53, .int x1, .int (x2 + (1 : Int32))]) (v := 1) d_X9_youngest_46 rfl ci_1 (Nat.le_of_ble_eq_true rfl) rfl ?_
      refine ob_goto (tgt := 4) d_X9_youngest_49 rfl ?_
      exact k
    · have k := k.2 cc
      refine ob_iload_n d_X9_youngest_21 rfl ?_
      refine ob_if_lt (tgt := 40) d_X9_youngest_22 rfl (fun cc => ?_) (fun cc => ?_)
      · have k := k.1 cc
        refine ob_iload_n d_X9_youngest_40 rfl ?_
        refine ob_goto (tgt := 45) d_X9_youngest_41 rfl ?_
        refine ob_istore_n (ls' := [.ref 53, .int x2, .int x2]) d_X9_youngest_45 (Nat.le_of_ble_eq_true rfl) rfl ?_
        refine ob_iinc (ls' := [.ref 53, .int x2, .int (x2 + (1 : Int32))]) (v := 1) d_X9_youngest_46 rfl ci_1 (Nat.le_of_ble_eq_true rfl) rfl ?_
        refine ob_goto (tgt := 4) d_X9_youngest_49 rfl ?_
        exact k
      · have k := k.2 cc
        refine ob_aload_n d_X9_youngest_25 rfl ?_
        refine ob_getR d_X9_youngest_26 fl_X9_32 sh_53 rfl rfl ?_
        refine ob_iload_n d_X9_youngest_29 rfl ?_
        obtain ⟨hin, k⟩ := k
        refine ob_iald d_X9_youngest_30 sh_60 hin ?_
        refine ob_aload_n d_X9_youngest_31 rfl ?_
        refine ob_getR d_X9_youngest_32 fl_X9_32 sh_53 rfl rfl ?_
        refine ob_iload_n d_X9_youngest_35 rfl ?_
        obtain ⟨hin, k⟩ := k
        refine ob_iald d_X9_youngest_36 sh_60 hin ?_
        refine ob_icmp_ge (tgt := 44) d_X9_youngest_37 rfl (fun cc => ?_) (fun cc => ?_)
        · have k := k.1 cc
          refine ob_iload_n d_X9_youngest_44 rfl ?_
          refine ob_istore_n (ls' := [.ref 53, .int x1, .int x2]) d_X9_youngest_45 (Nat.le_of_ble_eq_true rfl) rfl ?_
          refine ob_iinc (ls' := [.ref 53, .int x1, .int (x2 + (1 : Int32))]) (v := 1) d_X9_youngest_46 rfl ci_1 (Nat.le_of_ble_eq_true rfl) rfl ?_
          refine ob_goto (tgt := 4) d_X9_youngest_49 rfl ?_
          exact k
        · have k := k.2 cc
          refine ob_iload_n d_X9_youngest_40 rfl ?_
          refine ob_goto (tgt := 45) d_X9_youngest_41 rfl ?_
          refine ob_istore_n (ls' := [.ref 53, .int x2, .int x2]) d_X9_youngest_45 (Nat.le_of_ble_eq_true rfl) rfl ?_
          refine ob_iinc (ls' := [.ref 53, .int x2, .int (x2 + (1 : Int32))]) (v := 1) d_X9_youngest_46 rfl ci_1 (Nat.le_of_ble_eq_true rfl) rfl ?_
          refine ob_goto (tgt := 4) d_X9_youngest_49 rfl ?_
          exact k
theorem d_X9_endLoan_0 : decode oX9_endLoan.2.1 0 = .ok (.aload_n 0, 1) := by decide +kernel
theorem d_X9_endLoan_1 : decode oX9_endLoan.2.1 1 = .ok (.getfield 45, 3) := by decide +kernel
theorem d_X9_endLoan_4 : decode oX9_endLoan.2.1 4 = .ok (.iload_n 1, 1) := by decide +kernel
theorem d_X9_endLoan_5 : decode oX9_endLoan.2.1 5 = .ok (.iconst (-1), 1) := by decide +kernel
theorem d_X9_endLoan_6 : decode oX9_endLoan.2.1 6 = .ok (.iastore, 1) := by decide +kernel
theorem d_X9_endLoan_7 : decode oX9_endLoan.2.1 7 = .ok (.aload_n 0, 1) := by decide +kernel
theorem d_X9_endLoan_8 : decode oX9_endLoan.2.1 8 = .ok (.getfield 48, 3) := by decide +kernel
theorem d_X9_endLoan_11 : decode oX9_endLoan.2.1 11 = .ok (.iload_n 1, 1) := by decide +kernel
theorem d_X9_endLoan_12 : decode oX9_endLoan.2.1 12 = .ok (.iconst (-1), 1) := by decide +kernel
theorem d_X9_endLoan_13 : decode oX9_endLoan.2.1 13 = .ok (.iastore, 1) := by decide +kernel
theorem d_X9_endLoan_14 : decode oX9_endLoan.2.1 14 = .ok (.return_, 1) := by decide +kernel
theorem b_X9_endLoan_0 {E : ob_E} {σ : ob_Mem} {Q : ob_Mem → Prop} {x1 : Int32} (k : (vp_in x1 8 ∧ (vp_in x1 8 ∧ Q (ob_wI (ob_wI σ 64 (x1).toNatClampNeg (-1 : Int32)) 65 (x1).toNatClampNeg (-1 : Int32))))) : ob_RT shp E oX9_endLoan 0 [.ref 53, .int x1] [] σ (ob_qV Q) := by
  refine ob_aload_n d_X9_endLoan_0 rfl ?_
  refine ob_getR d_X9_endLoan_1 fl_X9_45 sh_53 rfl rfl ?_
  refine ob_iload_n d_X9_endLoan_4 rfl ?_
  refine ob_iconst (v := -1) d_X9_endLoan_5 ci_m1 ?_
  obtain ⟨hin, k⟩ := k
  refine ob_iast d_X9_endLoan_6 sh_64 hin ?_
  refine ob_aload_n d_X9_endLoan_7 rfl ?_
  refine ob_getR d_X9_endLoan_8 fl_X9_48 sh_53 rfl rfl ?_
  refine ob_iload_n d_X9_endLoan_11 rfl ?_
  refine ob_iconst (v := -1) d_X9_endLoan_12 ci_m1 ?_
  obtain ⟨hin, k⟩ := k
  refine ob_iast d_X9_endLoan_13 sh_65 hin ?_
  exact ob_vret d_X9_endLoan_14 rfl ⟨rfl, k⟩
theorem d_X9_ageIn_0 : decode oX9_ageIn.2.1 0 = .ok (.aload_n 0, 1) := by decide +kernel
theorem d_X9_ageIn_1 : decode oX9_ageIn.2.1 1 = .ok (.getfield 32, 3) := by decide +kernel
theorem d_X9_ageIn_4 : decode oX9_ageIn.2.1 4 = .ok (.iload_n 1, 1) := by decide +kernel
theorem d_X9_ageIn_5 : decode oX9_ageIn.2.1 5 = .ok (.iaload, 1) := by decide +kernel
theorem d_X9_ageIn_6 : decode oX9_ageIn.2.1 6 = .ok (.aload_n 0, 1) := by decide +kernel
theorem d_X9_ageIn_7 : decode oX9_ageIn.2.1 7 = .ok (.iload_n 1, 1) := by decide +kernel
theorem d_X9_ageIn_8 : decode oX9_ageIn.2.1 8 = .ok (.iload_n 2, 1) := by decide +kernel
theorem d_X9_ageIn_9 : decode oX9_ageIn.2.1 9 = .ok (.iload_n 3, 1) := by decide +kernel
theorem d_X9_ageIn_10 : decode oX9_ageIn.2.1 10 = .ok (.invokevirtual 290, 3) := by decide +kernel
theorem d_X9_ageIn_13 : decode oX9_ageIn.2.1 13 = .ok (.iadd, 1) := by decide +kernel
theorem d_X9_ageIn_14 : decode oX9_ageIn.2.1 14 = .ok (.istore 4, 2) := by decide +kernel
theorem d_X9_ageIn_16 : decode oX9_ageIn.2.1 16 = .ok (.iload 4, 2) := by decide +kernel
theorem d_X9_ageIn_18 : decode oX9_ageIn.2.1 18 = .ok (.sipush 999, 3) := by decide +kernel
theorem d_X9_ageIn_21 : decode oX9_ageIn.2.1 21 = .ok (.if_icmp .le 9, 3) := by decide +kernel
theorem d_X9_ageIn_24 : decode oX9_ageIn.2.1 24 = .ok (.sipush 999, 3) := by decide +kernel
theorem d_X9_ageIn_27 : decode oX9_ageIn.2.1 27 = .ok (.goto 5, 3) := by decide +kernel
theorem d_X9_ageIn_30 : decode oX9_ageIn.2.1 30 = .ok (.iload 4, 2) := by decide +kernel
theorem d_X9_ageIn_32 : decode oX9_ageIn.2.1 32 = .ok (.ireturn, 1) := by decide +kernel
theorem b_X9_ageIn_0 {E : ob_E} {σ : ob_Mem} {Q : Int32 → ob_Mem → Prop} {x1 x2 x3 : Int32} (k : (vp_in x1 6 ∧ ob_RM shp E oX9_olderBy [.ref 53, .int x1, .int x2, .int x3] σ (ob_qI fun v2 σ1 => ((((σ.1 60 (x1).toNatClampNeg) + v2) ≤ (999 : Int32) → Q ((σ.1 60 (x1).toNatClampNeg) + v2) σ1) ∧ (¬ ((σ.1 60 (x1).toNatClampNeg) + v2) ≤ (999 : Int32) → Q (999 : Int32) σ1))))) : ob_RT shp E oX9_ageIn 0 [.ref 53, .int x1, .int x2, .int x3, .null] [] σ (ob_qI Q) := by
  refine ob_aload_n d_X9_ageIn_0 rfl ?_
  refine ob_getR d_X9_ageIn_1 fl_X9_32 sh_53 rfl rfl ?_
  refine ob_iload_n d_X9_ageIn_4 rfl ?_
  obtain ⟨hin, k⟩ := k
  refine ob_iald d_X9_ageIn_5 sh_60 hin ?_
  refine ob_aload_n d_X9_ageIn_6 rfl ?_
  refine ob_iload_n d_X9_ageIn_7 rfl ?_
  refine ob_iload_n d_X9_ageIn_8 rfl ?_
  refine ob_iload_n d_X9_ageIn_9 rfl ?_
  refine ob_callV [.int x1, .int x2, .int x3] (z := oX9_olderBy) (st := [.int (σ.1 60 (x1).toNatClampNeg)]) d_X9_ageIn_10 lk_X9_290 mv_X9_olderBy rfl sh_53 cl_9 rfl (Nat.le_of_ble_eq_true rfl) rfl k (ob_kI fun v2 σ1 k => ?_)
  refine ob_iadd d_X9_ageIn_13 ?_
  refine ob_istore (ls' := [.ref 53, .int x1, .int x2, .int x3, .int ((σ.1 60 (x1).toNatClampNeg) + v2)]) d_X9_ageIn_14 (Nat.le_of_ble_eq_true rfl) rfl ?_
  refine ob_iload d_X9_ageIn_16 rfl ?_
  refine ob_sipush (v := 999) d_X9_ageIn_18 cs_999 ?_
  refine ob_icmp_le (tgt := 30) d_X9_ageIn_21 rfl (fun cc => ?_) (fun cc => ?_)
  · have k := k.1 cc
    refine ob_iload d_X9_ageIn_30 rfl ?_
    exact ob_iret d_X9_ageIn_32 rfl ⟨_, rfl, k⟩
  · have k := k.2 cc
    refine ob_sipush (v := 999) d_X9_ageIn_24 cs_999 ?_
    refine ob_goto (tgt := 32) d_X9_ageIn_27 rfl ?_
    exact ob_iret d_X9_ageIn_32 rfl ⟨_, rfl, k⟩
theorem d_X9_olderBy_0 : decode oX9_olderBy.2.1 0 = .ok (.iconst 0, 1) := by decide +kernel
theorem d_X9_olderBy_1 : decode oX9_olderBy.2.1 1 = .ok (.istore 4, 2) := by decide +kernel
theorem d_X9_olderBy_3 : decode oX9_olderBy.2.1 3 = .ok (.iconst 0, 1) := by decide +kernel
theorem d_X9_olderBy_4 : decode oX9_olderBy.2.1 4 = .ok (.istore 5, 2) := by decide +kernel
theorem d_X9_olderBy_6 : decode oX9_olderBy.2.1 6 = .ok (.iload 5, 2) := by decide +kernel
theorem d_X9_olderBy_8 : decode oX9_olderBy.2.1 8 = .ok (.aload_n 0, 1) := by decide +kernel
theorem d_X9_olderBy_9 : decode oX9_olderBy.2.1 9 = .ok (.getfield 115, 3) := by decide +kernel
theorem d_X9_olderBy_12 : decode oX9_olderBy.2.1 12 = .ok (.if_icmp .ge 32, 3) := by decide +kernel
theorem d_X9_olderBy_15 : decode oX9_olderBy.2.1 15 = .ok (.iload 4, 2) := by decide +kernel
theorem d_X9_olderBy_17 : decode oX9_olderBy.2.1 17 = .ok (.iload 5, 2) := by decide +kernel
theorem d_X9_olderBy_19 : decode oX9_olderBy.2.1 19 = .ok (.iload_n 3, 1) := by decide +kernel
theorem d_X9_olderBy_20 : decode oX9_olderBy.2.1 20 = .ok (.if_icmp .ne 7, 3) := by decide +kernel
theorem d_X9_olderBy_23 : decode oX9_olderBy.2.1 23 = .ok (.iconst 0, 1) := by decide +kernel
theorem d_X9_olderBy_24 : decode oX9_olderBy.2.1 24 = .ok (.goto 11, 3) := by decide +kernel
theorem d_X9_olderBy_27 : decode oX9_olderBy.2.1 27 = .ok (.aload_n 0, 1) := by decide +kernel
theorem d_X9_olderBy_28 : decode oX9_olderBy.2.1 28 = .ok (.iload 5, 2) := by decide +kernel
theorem d_X9_olderBy_30 : decode oX9_olderBy.2.1 30 = .ok (.iload_n 1, 1) := by decide +kernel
theorem d_X9_olderBy_31 : decode oX9_olderBy.2.1 31 = .ok (.iload_n 2, 1) := by decide +kernel
theorem d_X9_olderBy_32 : decode oX9_olderBy.2.1 32 = .ok (.invokevirtual 286, 3) := by decide +kernel
theorem d_X9_olderBy_35 : decode oX9_olderBy.2.1 35 = .ok (.iadd, 1) := by decide +kernel
theorem d_X9_olderBy_36 : decode oX9_olderBy.2.1 36 = .ok (.istore 4, 2) := by decide +kernel
theorem d_X9_olderBy_38 : decode oX9_olderBy.2.1 38 = .ok (.iinc 5 1, 3) := by decide +kernel
theorem d_X9_olderBy_41 : decode oX9_olderBy.2.1 41 = .ok (.goto (-35), 3) := by decide +kernel
theorem d_X9_olderBy_44 : decode oX9_olderBy.2.1 44 = .ok (.iload 4, 2) := by decide +kernel
theorem d_X9_olderBy_46 : decode oX9_olderBy.2.1 46 = .ok (.ireturn, 1) := by decide +kernel
theorem b_X9_olderBy_0 {E : ob_E} {σ : ob_Mem} {Q : Int32 → ob_Mem → Prop} {x1 x2 x3 : Int32} (k : ob_RT shp E oX9_olderBy 6 [.ref 53, .int x1, .int x2, .int x3, .int (0 : Int32), .int (0 : Int32)] [] σ (ob_qI Q)) : ob_RT shp E oX9_olderBy 0 [.ref 53, .int x1, .int x2, .int x3, .null, .null] [] σ (ob_qI Q) := by
  refine ob_iconst (v := 0) d_X9_olderBy_0 ci_0 ?_
  refine ob_istore (ls' := [.ref 53, .int x1, .int x2, .int x3, .int (0 : Int32), .null]) d_X9_olderBy_1 (Nat.le_of_ble_eq_true rfl) rfl ?_
  refine ob_iconst (v := 0) d_X9_olderBy_3 ci_0 ?_
  refine ob_istore (ls' := [.ref 53, .int x1, .int x2, .int x3, .int (0 : Int32), .int (0 : Int32)]) d_X9_olderBy_4 (Nat.le_of_ble_eq_true rfl) rfl ?_
  exact k
theorem b_X9_olderBy_6 {E : ob_E} {σ : ob_Mem} {Q : Int32 → ob_Mem → Prop} {x1 x2 x3 x4 x5 : Int32} (k : (((σ.1 53 4) ≤ x5 → Q x4 σ) ∧ (¬ (σ.1 53 4) ≤ x5 → ((¬ x5 = x3 → ob_RM shp E oX9_yearsBy [.ref 53, .int x5, .int x1, .int x2] σ (ob_qI fun v2 σ1 => ob_RT shp E oX9_olderBy 6 [.ref 53, .int x1, .int x2, .int x3, .int (x4 + v2), .int (x5 + (1 : Int32))] [] σ1 (ob_qI Q))) ∧ (x5 = x3 → ob_RT shp E oX9_olderBy 6 [.ref 53, .int x1, .int x2, .int x3, .int (x4 + (0 : Int32)), .int (x5 + (1 : Int32))] [] σ (ob_qI Q)))))) : ob_RT shp E oX9_olderBy 6 [.ref 53, .int x1, .int x2, .int x3, .int x4, .int x5] [] σ (ob_qI Q) := by
  refine ob_iload d_X9_olderBy_6 rfl ?_
  refine ob_aload_n d_X9_olderBy_8 rfl ?_
  refine ob_getI d_X9_olderBy_9 fl_X9_115 sh_53 rfl (by decide) ?_
  refine ob_icmp_ge (tgt := 44) d_X9_olderBy_12 rfl (fun cc => ?_) (fun cc => ?_)
  · have k := k.1 cc
    refine ob_iload d_X9_olderBy_44 rfl ?_
    exact ob_iret d_X9_olderBy_46 rfl ⟨_, rfl, k⟩
  · have k := k.2 cc
    refine ob_iload d_X9_olderBy_15 rfl ?_
    refine ob_iload d_X9_olderBy_17 rfl ?_
    refine ob_iload_n d_X9_olderBy_19 rfl ?_
    refine ob_icmp_ne (tgt := 27) d_X9_olderBy_20 rfl (fun cc => ?_) (fun cc => ?_)
    · have k := k.1 cc
      refine ob_aload_n d_X9_olderBy_27 rfl ?_
      refine ob_iload d_X9_olderBy_28 rfl ?_
      refine ob_iload_n d_X9_olderBy_30 rfl ?_
      refine ob_iload_n d_X9_olderBy_31 rfl ?_
      refine ob_callV [.int x5, .int x1, .int x2] (z := oX9_yearsBy) (st := [.int x4]) d_X9_olderBy_32 lk_X9_286 mv_X9_yearsBy rfl sh_53 cl_9 rfl (Nat.le_of_ble_eq_true rfl) rfl k (ob_kI fun v2 σ1 k => ?_)
      refine ob_iadd d_X9_olderBy_35 ?_
      refine ob_istore (ls' := [.ref 53, .int x1, .int x2, .int x3, .int (x4 + v2), .int x5]) d_X9_olderBy_36 (Nat.le_of_ble_eq_true rfl) rfl ?_
      refine ob_iinc (ls' := [.ref 53, .int x1, .int x2, .int x3, .int (x4 + v2), .int (x5 + (1 : Int32))]) (v := 1) d_X9_olderBy_38 rfl ci_1 (Nat.le_of_ble_eq_true rfl) rfl ?_
      refine ob_goto (tgt := 6) d_X9_olderBy_41 rfl ?_
      exact k
    · have k := k.2 cc
      refine ob_iconst (v := 0) d_X9_olderBy_23 ci_0 ?_
      refine ob_goto (tgt := 35) d_X9_olderBy_24 rfl ?_
      refine ob_iadd d_X9_olderBy_35 ?_
      refine ob_istore (ls' := [.ref 53, .int x1, .int x2, .int x3, .int (x4 + (0 : Int32)), .int x5]) d_X9_olderBy_36 (Nat.le_of_ble_eq_true rfl) rfl ?_
      refine ob_iinc (ls' := [.ref 53, .int x1, .int x2, .int x3, .int (x4 + (0 : Int32)), .int (x5 + (1 : Int32))]) (v := 1) d_X9_olderBy_38 rfl ci_1 (Nat.le_of_ble_eq_true rfl) rfl ?_
      refine ob_goto (tgt := 6) d_X9_olderBy_41 rfl ?_
      exact k
theorem d_X9_has_0 : decode oX9_has.2.1 0 = .ok (.iload_n 0, 1) := by decide +kernel
theorem d_X9_has_1 : decode oX9_has.2.1 1 = .ok (.iload_n 1, 1) := by decide +kernel
theorem d_X9_has_2 : decode oX9_has.2.1 2 = .ok (.ishr, 1) := by decide +kernel
theorem d_X9_has_3 : decode oX9_has.2.1 3 = .ok (.iconst 1, 1) := by decide +kernel
theorem d_X9_has_4 : decode oX9_has.2.1 4 = .ok (.iand, 1) := by decide +kernel
theorem d_X9_has_5 : decode oX9_has.2.1 5 = .ok (.iconst 1, 1) := by decide +kernel
theorem d_X9_has_6 : decode oX9_has.2.1 6 = .ok (.if_icmp .ne 7, 3) := by decide +kernel
theorem d_X9_has_9 : decode oX9_has.2.1 9 = .ok (.iconst 1, 1) := by decide +kernel
theorem d_X9_has_10 : decode oX9_has.2.1 10 = .ok (.goto 4, 3) := by decide +kernel
theorem d_X9_has_13 : decode oX9_has.2.1 13 = .ok (.iconst 0, 1) := by decide +kernel
theorem d_X9_has_14 : decode oX9_has.2.1 14 = .ok (.ireturn, 1) := by decide +kernel
theorem b_X9_has_0 {E : ob_E} {σ : ob_Mem} {Q : Int32 → ob_Mem → Prop} {x0 x1 : Int32} (k : ((¬ ((x0 >>> (x1 &&& 31)) &&& (1 : Int32)) = (1 : Int32) → Q (0 : Int32) σ) ∧ (((x0 >>> (x1 &&& 31)) &&& (1 : Int32)) = (1 : Int32) → Q (1 : Int32) σ))) : ob_RT shp E oX9_has 0 [.int x0, .int x1] [] σ (ob_qI Q) := by
  refine ob_iload_n d_X9_has_0 rfl ?_
  refine ob_iload_n d_X9_has_1 rfl ?_
  refine ob_ishr d_X9_has_2 ?_
  refine ob_iconst (v := 1) d_X9_has_3 ci_1 ?_
  refine ob_iand d_X9_has_4 ?_
  refine ob_iconst (v := 1) d_X9_has_5 ci_1 ?_
  refine ob_icmp_ne (tgt := 13) d_X9_has_6 rfl (fun cc => ?_) (fun cc => ?_)
  · have k := k.1 cc
    refine ob_iconst (v := 0) d_X9_has_13 ci_0 ?_
    exact ob_zret d_X9_has_14 rfl rfl ⟨_, rfl, k⟩
  · have k := k.2 cc
    refine ob_iconst (v := 1) d_X9_has_9 ci_1 ?_
    refine ob_goto (tgt := 14) d_X9_has_10 rfl ?_
    exact ob_zret d_X9_has_14 rfl rfl ⟨_, rfl, k⟩
theorem d_X9_timesIn_0 : decode oX9_timesIn.2.1 0 = .ok (.aload_n 0, 1) := by decide +kernel
theorem d_X9_timesIn_1 : decode oX9_timesIn.2.1 1 = .ok (.iload_n 1, 1) := by decide +kernel
theorem d_X9_timesIn_2 : decode oX9_timesIn.2.1 2 = .ok (.invokevirtual 248, 3) := by decide +kernel
theorem d_X9_timesIn_5 : decode oX9_timesIn.2.1 5 = .ok (.istore_n 3, 1) := by decide +kernel
theorem d_X9_timesIn_6 : decode oX9_timesIn.2.1 6 = .ok (.iload_n 2, 1) := by decide +kernel
theorem d_X9_timesIn_7 : decode oX9_timesIn.2.1 7 = .ok (.iload_n 3, 1) := by decide +kernel
theorem d_X9_timesIn_8 : decode oX9_timesIn.2.1 8 = .ok (.if_icmp .ge 7, 3) := by decide +kernel
theorem d_X9_timesIn_11 : decode oX9_timesIn.2.1 11 = .ok (.iconst 0, 1) := by decide +kernel
theorem d_X9_timesIn_12 : decode oX9_timesIn.2.1 12 = .ok (.goto 13, 3) := by decide +kernel
theorem d_X9_timesIn_15 : decode oX9_timesIn.2.1 15 = .ok (.iload_n 2, 1) := by decide +kernel
theorem d_X9_timesIn_16 : decode oX9_timesIn.2.1 16 = .ok (.iload_n 3, 1) := by decide +kernel
theorem d_X9_timesIn_17 : decode oX9_timesIn.2.1 17 = .ok (.isub, 1) := by decide +kernel
theorem d_X9_timesIn_18 : decode oX9_timesIn.2.1 18 = .ok (.aload_n 0, 1) := by decide +kernel
theorem d_X9_timesIn_19 : decode oX9_timesIn.2.1 19 = .ok (.getfield 7, 3) := by decide +kernel
theorem d_X9_timesIn_22 : decode oX9_timesIn.2.1 22 = .ok (.idiv, 1) := by decide +kernel
theorem d_X9_timesIn_23 : decode oX9_timesIn.2.1 23 = .ok (.iconst 1, 1) := by decide +kernel
theorem d_X9_timesIn_24 : decode oX9_timesIn.2.1 24 = .ok (.iadd, 1) := by decide +kernel
theorem d_X9_timesIn_25 : decode oX9_timesIn.2.1 25 = .ok (.ireturn, 1) := by decide +kernel
theorem b_X9_timesIn_0 {E : ob_E} {σ : ob_Mem} {Q : Int32 → ob_Mem → Prop} {x1 x2 : Int32} (k : ob_RM shp E oX9_tillOf [.ref 53, .int x1] σ (ob_qI fun v2 σ1 => ((v2 ≤ x2 → (¬ (σ1.1 53 0) = 0 ∧ Q (((x2 - v2) / (σ1.1 53 0)) + (1 : Int32)) σ1)) ∧ (¬ v2 ≤ x2 → Q (0 : Int32) σ1)))) : ob_RT shp E oX9_timesIn 0 [.ref 53, .int x1, .int x2, .null] [] σ (ob_qI Q) := by
  refine ob_aload_n d_X9_timesIn_0 rfl ?_
  refine ob_iload_n d_X9_timesIn_1 rfl ?_
  refine ob_callV [.int x1] (z := oX9_tillOf) (st := []) d_X9_timesIn_2 lk_X9_248 mv_X9_tillOf rfl sh_53 cl_9 rfl (Nat.le_of_ble_eq_true rfl) rfl k (ob_kI fun v2 σ1 k => ?_)
  refine ob_istore_n (ls' := [.ref 53, .int x1, .int x2, .int v2]) d_X9_timesIn_5 (Nat.le_of_ble_eq_true rfl) rfl ?_
  refine ob_iload_n d_X9_timesIn_6 rfl ?_
  refine ob_iload_n d_X9_timesIn_7 rfl ?_
  refine ob_icmp_ge (tgt := 15) d_X9_timesIn_8 rfl (fun cc => ?_) (fun cc => ?_)
  · have k := k.1 cc
    refine ob_iload_n d_X9_timesIn_15 rfl ?_
    refine ob_iload_n d_X9_timesIn_16 rfl ?_
    refine ob_isub d_X9_timesIn_17 ?_
    refine ob_aload_n d_X9_timesIn_18 rfl ?_
    refine ob_getI d_X9_timesIn_19 fl_X9_7 sh_53 rfl (by decide) ?_
    obtain ⟨hne, k⟩ := k
    refine ob_idiv d_X9_timesIn_22 hne ?_
    refine ob_iconst (v := 1) d_X9_timesIn_23 ci_1 ?_
    refine ob_iadd d_X9_timesIn_24 ?_
    exact ob_iret d_X9_timesIn_25 rfl ⟨_, rfl, k⟩
  · have k := k.2 cc
    refine ob_iconst (v := 0) d_X9_timesIn_11 ci_0 ?_
    refine ob_goto (tgt := 25) d_X9_timesIn_12 rfl ?_
    exact ob_iret d_X9_timesIn_25 rfl ⟨_, rfl, k⟩
theorem d_X9_findGiven_0 : decode oX9_findGiven.2.1 0 = .ok (.ldc_w 304, 3) := by decide +kernel
theorem d_X9_findGiven_3 : decode oX9_findGiven.2.1 3 = .ok (.istore 4, 2) := by decide +kernel
theorem d_X9_findGiven_5 : decode oX9_findGiven.2.1 5 = .ok (.iconst 0, 1) := by decide +kernel
theorem d_X9_findGiven_6 : decode oX9_findGiven.2.1 6 = .ok (.istore 5, 2) := by decide +kernel
theorem d_X9_findGiven_8 : decode oX9_findGiven.2.1 8 = .ok (.iload 5, 2) := by decide +kernel
theorem d_X9_findGiven_10 : decode oX9_findGiven.2.1 10 = .ok (.aload_n 0, 1) := by decide +kernel
theorem d_X9_findGiven_11 : decode oX9_findGiven.2.1 11 = .ok (.getfield 115, 3) := by decide +kernel
theorem d_X9_findGiven_14 : decode oX9_findGiven.2.1 14 = .ok (.if_icmp .ge 23, 3) := by decide +kernel
theorem d_X9_findGiven_17 : decode oX9_findGiven.2.1 17 = .ok (.aload_n 0, 1) := by decide +kernel
theorem d_X9_findGiven_18 : decode oX9_findGiven.2.1 18 = .ok (.getfield 81, 3) := by decide +kernel
theorem d_X9_findGiven_21 : decode oX9_findGiven.2.1 21 = .ok (.iload 5, 2) := by decide +kernel
theorem d_X9_findGiven_23 : decode oX9_findGiven.2.1 23 = .ok (.aload_n 0, 1) := by decide +kernel
theorem d_X9_findGiven_24 : decode oX9_findGiven.2.1 24 = .ok (.iload 5, 2) := by decide +kernel
theorem d_X9_findGiven_26 : decode oX9_findGiven.2.1 26 = .ok (.iload_n 3, 1) := by decide +kernel
theorem d_X9_findGiven_27 : decode oX9_findGiven.2.1 27 = .ok (.invokevirtual 283, 3) := by decide +kernel
theorem d_X9_findGiven_30 : decode oX9_findGiven.2.1 30 = .ok (.iastore, 1) := by decide +kernel
theorem d_X9_findGiven_31 : decode oX9_findGiven.2.1 31 = .ok (.iinc 5 1, 3) := by decide +kernel
theorem d_X9_findGiven_34 : decode oX9_findGiven.2.1 34 = .ok (.goto (-26), 3) := by decide +kernel
theorem d_X9_findGiven_37 : decode oX9_findGiven.2.1 37 = .ok (.aload_n 0, 1) := by decide +kernel
theorem d_X9_findGiven_38 : decode oX9_findGiven.2.1 38 = .ok (.getfield 115, 3) := by decide +kernel
theorem d_X9_findGiven_41 : decode oX9_findGiven.2.1 41 = .ok (.ifCond .ne 18, 3) := by decide +kernel
theorem d_X9_findGiven_44 : decode oX9_findGiven.2.1 44 = .ok (.aload_n 0, 1) := by decide +kernel
theorem d_X9_findGiven_45 : decode oX9_findGiven.2.1 45 = .ok (.iload_n 1, 1) := by decide +kernel
theorem d_X9_findGiven_46 : decode oX9_findGiven.2.1 46 = .ok (.iload_n 2, 1) := by decide +kernel
theorem d_X9_findGiven_47 : decode oX9_findGiven.2.1 47 = .ok (.invokevirtual 305, 3) := by decide +kernel
theorem d_X9_findGiven_50 : decode oX9_findGiven.2.1 50 = .ok (.ifCond .eq 7, 3) := by decide +kernel
theorem d_X9_findGiven_53 : decode oX9_findGiven.2.1 53 = .ok (.iconst 0, 1) := by decide +kernel
theorem d_X9_findGiven_54 : decode oX9_findGiven.2.1 54 = .ok (.goto 4, 3) := by decide +kernel
theorem d_X9_findGiven_57 : decode oX9_findGiven.2.1 57 = .ok (.iconst (-1), 1) := by decide +kernel
theorem d_X9_findGiven_58 : decode oX9_findGiven.2.1 58 = .ok (.ireturn, 1) := by decide +kernel
theorem d_X9_findGiven_59 : decode oX9_findGiven.2.1 59 = .ok (.iconst 0, 1) := by decide +kernel
theorem d_X9_findGiven_60 : decode oX9_findGiven.2.1 60 = .ok (.istore 5, 2) := by decide +kernel
theorem d_X9_findGiven_62 : decode oX9_findGiven.2.1 62 = .ok (.aload_n 0, 1) := by decide +kernel
theorem d_X9_findGiven_63 : decode oX9_findGiven.2.1 63 = .ok (.getfield 78, 3) := by decide +kernel
theorem d_X9_findGiven_66 : decode oX9_findGiven.2.1 66 = .ok (.iconst 0, 1) := by decide +kernel
theorem d_X9_findGiven_67 : decode oX9_findGiven.2.1 67 = .ok (.iconst (-1), 1) := by decide +kernel
theorem d_X9_findGiven_68 : decode oX9_findGiven.2.1 68 = .ok (.iastore, 1) := by decide +kernel
theorem d_X9_findGiven_69 : decode oX9_findGiven.2.1 69 = .ok (.aload_n 0, 1) := by decide +kernel
theorem d_X9_findGiven_70 : decode oX9_findGiven.2.1 70 = .ok (.getfield 84, 3) := by decide +kernel
theorem d_X9_findGiven_73 : decode oX9_findGiven.2.1 73 = .ok (.iconst 0, 1) := by decide +kernel
theorem d_X9_findGiven_74 : decode oX9_findGiven.2.1 74 = .ok (.iconst 0, 1) := by decide +kernel
theorem d_X9_findGiven_75 : decode oX9_findGiven.2.1 75 = .ok (.iastore, 1) := by decide +kernel
theorem d_X9_findGiven_76 : decode oX9_findGiven.2.1 76 = .ok (.iload 5, 2) := by decide +kernel
theorem d_X9_findGiven_78 : decode oX9_findGiven.2.1 78 = .ok (.ifCond .lt 182, 3) := by decide +kernel
theorem d_X9_findGiven_81 : decode oX9_findGiven.2.1 81 = .ok (.aload_n 0, 1) := by decide +kernel
theorem d_X9_findGiven_82 : decode oX9_findGiven.2.1 82 = .ok (.getfield 78, 3) := by decide +kernel
theorem d_X9_findGiven_85 : decode oX9_findGiven.2.1 85 = .ok (.iload 5, 2) := by decide +kernel
theorem d_X9_findGiven_87 : decode oX9_findGiven.2.1 87 = .ok (.dup2, 1) := by decide +kernel
theorem d_X9_findGiven_88 : decode oX9_findGiven.2.1 88 = .ok (.iaload, 1) := by decide +kernel
theorem d_X9_findGiven_89 : decode oX9_findGiven.2.1 89 = .ok (.iconst 1, 1) := by decide +kernel
theorem d_X9_findGiven_90 : decode oX9_findGiven.2.1 90 = .ok (.iadd, 1) := by decide +kernel
theorem d_X9_findGiven_91 : decode oX9_findGiven.2.1 91 = .ok (.iastore, 1) := by decide +kernel
theorem d_X9_findGiven_92 : decode oX9_findGiven.2.1 92 = .ok (.aload_n 0, 1) := by decide +kernel
theorem d_X9_findGiven_93 : decode oX9_findGiven.2.1 93 = .ok (.getfield 78, 3) := by decide +kernel
theorem d_X9_findGiven_96 : decode oX9_findGiven.2.1 96 = .ok (.iload 5, 2) := by decide +kernel
theorem d_X9_findGiven_98 : decode oX9_findGiven.2.1 98 = .ok (.iaload, 1) := by decide +kernel
theorem d_X9_findGiven_99 : decode oX9_findGiven.2.1 99 = .ok (.aload_n 0, 1) := by decide +kernel
theorem d_X9_findGiven_100 : decode oX9_findGiven.2.1 100 = .ok (.getfield 108, 3) := by decide +kernel
theorem d_X9_findGiven_103 : decode oX9_findGiven.2.1 103 = .ok (.if_icmp .lt 9, 3) := by decide +kernel
theorem d_X9_findGiven_106 : decode oX9_findGiven.2.1 106 = .ok (.iinc 5 (-1), 3) := by decide +kernel
theorem d_X9_findGiven_109 : decode oX9_findGiven.2.1 109 = .ok (.goto (-33), 3) := by decide +kernel
theorem d_X9_findGiven_112 : decode oX9_findGiven.2.1 112 = .ok (.aload_n 0, 1) := by decide +kernel
theorem d_X9_findGiven_113 : decode oX9_findGiven.2.1 113 = .ok (.getfield 38, 3) := by decide +kernel
theorem d_X9_findGiven_116 : decode oX9_findGiven.2.1 116 = .ok (.aload_n 0, 1) := by decide +kernel
theorem d_X9_findGiven_117 : decode oX9_findGiven.2.1 117 = .ok (.getfield 78, 3) := by decide +kernel
theorem d_X9_findGiven_120 : decode oX9_findGiven.2.1 120 = .ok (.iload 5, 2) := by decide +kernel
theorem d_X9_findGiven_122 : decode oX9_findGiven.2.1 122 = .ok (.iaload, 1) := by decide +kernel
theorem d_X9_findGiven_123 : decode oX9_findGiven.2.1 123 = .ok (.baload, 1) := by decide +kernel
theorem d_X9_findGiven_124 : decode oX9_findGiven.2.1 124 = .ok (.ifCond .eq (-48), 3) := by decide +kernel
theorem d_X9_findGiven_127 : decode oX9_findGiven.2.1 127 = .ok (.aload_n 0, 1) := by decide +kernel
theorem d_X9_findGiven_128 : decode oX9_findGiven.2.1 128 = .ok (.getfield 84, 3) := by decide +kernel
theorem d_X9_findGiven_131 : decode oX9_findGiven.2.1 131 = .ok (.iload 5, 2) := by decide +kernel
theorem d_X9_findGiven_133 : decode oX9_findGiven.2.1 133 = .ok (.iaload, 1) := by decide +kernel
theorem d_X9_findGiven_134 : decode oX9_findGiven.2.1 134 = .ok (.aload_n 0, 1) := by decide +kernel
theorem d_X9_findGiven_135 : decode oX9_findGiven.2.1 135 = .ok (.getfield 78, 3) := by decide +kernel
theorem d_X9_findGiven_138 : decode oX9_findGiven.2.1 138 = .ok (.iload 5, 2) := by decide +kernel
theorem d_X9_findGiven_140 : decode oX9_findGiven.2.1 140 = .ok (.iaload, 1) := by decide +kernel
theorem d_X9_findGiven_141 : decode oX9_findGiven.2.1 141 = .ok (.aload_n 0, 1) := by decide +kernel
theorem d_X9_findGiven_142 : decode oX9_findGiven.2.1 142 = .ok (.iload 5, 2) := by decide +kernel
theorem d_X9_findGiven_144 : decode oX9_findGiven.2.1 144 = .ok (.invokevirtual 233, 3) := by decide +kernel
theorem d_X9_findGiven_147 : decode oX9_findGiven.2.1 147 = .ok (.if_icmp .ne 7, 3) := by decide +kernel
theorem d_X9_findGiven_150 : decode oX9_findGiven.2.1 150 = .ok (.iconst 0, 1) := by decide +kernel
theorem d_X9_findGiven_151 : decode oX9_findGiven.2.1 151 = .ok (.goto 10, 3) := by decide +kernel
theorem d_X9_findGiven_154 : decode oX9_findGiven.2.1 154 = .ok (.aload_n 0, 1) := by decide +kernel
theorem d_X9_findGiven_155 : decode oX9_findGiven.2.1 155 = .ok (.getfield 26, 3) := by decide +kernel
theorem d_X9_findGiven_158 : decode oX9_findGiven.2.1 158 = .ok (.iload 5, 2) := by decide +kernel
theorem d_X9_findGiven_160 : decode oX9_findGiven.2.1 160 = .ok (.iaload, 1) := by decide +kernel
theorem d_X9_findGiven_161 : decode oX9_findGiven.2.1 161 = .ok (.iadd, 1) := by decide +kernel
theorem d_X9_findGiven_162 : decode oX9_findGiven.2.1 162 = .ok (.istore 6, 2) := by decide +kernel
theorem d_X9_findGiven_164 : decode oX9_findGiven.2.1 164 = .ok (.iload 6, 2) := by decide +kernel
theorem d_X9_findGiven_166 : decode oX9_findGiven.2.1 166 = .ok (.iload 4, 2) := by decide +kernel
theorem d_X9_findGiven_168 : decode oX9_findGiven.2.1 168 = .ok (.if_icmp .ge 62, 3) := by decide +kernel
theorem d_X9_findGiven_171 : decode oX9_findGiven.2.1 171 = .ok (.iload 5, 2) := by decide +kernel
theorem d_X9_findGiven_173 : decode oX9_findGiven.2.1 173 = .ok (.aload_n 0, 1) := by decide +kernel
theorem d_X9_findGiven_174 : decode oX9_findGiven.2.1 174 = .ok (.getfield 115, 3) := by decide +kernel
theorem d_X9_findGiven_177 : decode oX9_findGiven.2.1 177 = .ok (.iconst 1, 1) := by decide +kernel
theorem d_X9_findGiven_178 : decode oX9_findGiven.2.1 178 = .ok (.isub, 1) := by decide +kernel
theorem d_X9_findGiven_179 : decode oX9_findGiven.2.1 179 = .ok (.if_icmp .ne 51, 3) := by decide +kernel
theorem d_X9_findGiven_182 : decode oX9_findGiven.2.1 182 = .ok (.aload_n 0, 1) := by decide +kernel
theorem d_X9_findGiven_183 : decode oX9_findGiven.2.1 183 = .ok (.iload_n 1, 1) := by decide +kernel
theorem d_X9_findGiven_184 : decode oX9_findGiven.2.1 184 = .ok (.iload_n 2, 1) := by decide +kernel
theorem d_X9_findGiven_185 : decode oX9_findGiven.2.1 185 = .ok (.invokevirtual 305, 3) := by decide +kernel
theorem d_X9_findGiven_188 : decode oX9_findGiven.2.1 188 = .ok (.ifCond .eq 69, 3) := by decide +kernel
theorem d_X9_findGiven_191 : decode oX9_findGiven.2.1 191 = .ok (.iload 6, 2) := by decide +kernel
theorem d_X9_findGiven_193 : decode oX9_findGiven.2.1 193 = .ok (.istore 4, 2) := by decide +kernel
theorem d_X9_findGiven_195 : decode oX9_findGiven.2.1 195 = .ok (.iconst 0, 1) := by decide +kernel
theorem d_X9_findGiven_196 : decode oX9_findGiven.2.1 196 = .ok (.istore 7, 2) := by decide +kernel
theorem d_X9_findGiven_198 : decode oX9_findGiven.2.1 198 = .ok (.iload 7, 2) := by decide +kernel
theorem d_X9_findGiven_200 : decode oX9_findGiven.2.1 200 = .ok (.aload_n 0, 1) := by decide +kernel
theorem d_X9_findGiven_201 : decode oX9_findGiven.2.1 201 = .ok (.getfield 115, 3) := by decide +kernel
theorem d_X9_findGiven_204 : decode oX9_findGiven.2.1 204 = .ok (.if_icmp .ge 23, 3) := by decide +kernel
theorem d_X9_findGiven_207 : decode oX9_findGiven.2.1 207 = .ok (.aload_n 0, 1) := by decide +kernel
theorem d_X9_findGiven_208 : decode oX9_findGiven.2.1 208 = .ok (.getfield 87, 3) := by decide +kernel
theorem d_X9_findGiven_211 : decode oX9_findGiven.2.1 211 = .ok (.iload 7, 2) := by decide +kernel
theorem d_X9_findGiven_213 : decode oX9_findGiven.2.1 213 = .ok (.aload_n 0, 1) := by decide +kernel
theorem d_X9_findGiven_214 : decode oX9_findGiven.2.1 214 = .ok (.getfield 78, 3) := by decide +kernel
theorem d_X9_findGiven_217 : decode oX9_findGiven.2.1 217 = .ok (.iload 7, 2) := by decide +kernel
theorem d_X9_findGiven_219 : decode oX9_findGiven.2.1 219 = .ok (.iaload, 1) := by decide +kernel
theorem d_X9_findGiven_220 : decode oX9_findGiven.2.1 220 = .ok (.iastore, 1) := by decide +kernel
theorem d_X9_findGiven_221 : decode oX9_findGiven.2.1 221 = .ok (.iinc 7 1, 3) := by decide +kernel
theorem d_X9_findGiven_224 : decode oX9_findGiven.2.1 224 = .ok (.goto (-26), 3) := by decide +kernel
theorem d_X9_findGiven_227 : decode oX9_findGiven.2.1 227 = .ok (.goto 30, 3) := by decide +kernel
theorem d_X9_findGiven_230 : decode oX9_findGiven.2.1 230 = .ok (.iload 6, 2) := by decide +kernel
theorem d_X9_findGiven_232 : decode oX9_findGiven.2.1 232 = .ok (.iload 4, 2) := by decide +kernel
theorem d_X9_findGiven_234 : decode oX9_findGiven.2.1 234 = .ok (.if_icmp .ge 23, 3) := by decide +kernel
theorem d_X9_findGiven_237 : decode oX9_findGiven.2.1 237 = .ok (.iinc 5 1, 3) := by decide +kernel
theorem d_X9_findGiven_240 : decode oX9_findGiven.2.1 240 = .ok (.aload_n 0, 1) := by decide +kernel
theorem d_X9_findGiven_241 : decode oX9_findGiven.2.1 241 = .ok (.getfield 84, 3) := by decide +kernel
theorem d_X9_findGiven_244 : decode oX9_findGiven.2.1 244 = .ok (.iload 5, 2) := by decide +kernel
theorem d_X9_findGiven_246 : decode oX9_findGiven.2.1 246 = .ok (.iload 6, 2) := by decide +kernel
theorem d_X9_findGiven_248 : decode oX9_findGiven.2.1 248 = .ok (.iastore, 1) := by decide +kernel
theorem d_X9_findGiven_249 : decode oX9_findGiven.2.1 249 = .ok (.aload_n 0, 1) := by decide +kernel
theorem d_X9_findGiven_250 : decode oX9_findGiven.2.1 250 = .ok (.getfield 78, 3) := by decide +kernel
theorem d_X9_findGiven_253 : decode oX9_findGiven.2.1 253 = .ok (.iload 5, 2) := by decide +kernel
theorem d_X9_findGiven_255 : decode oX9_findGiven.2.1 255 = .ok (.iconst (-1), 1) := by decide +kernel
theorem d_X9_findGiven_256 : decode oX9_findGiven.2.1 256 = .ok (.iastore, 1) := by decide +kernel
theorem d_X9_findGiven_257 : decode oX9_findGiven.2.1 257 = .ok (.goto (-181), 3) := by decide +kernel
theorem d_X9_findGiven_260 : decode oX9_findGiven.2.1 260 = .ok (.iload 4, 2) := by decide +kernel
theorem d_X9_findGiven_262 : decode oX9_findGiven.2.1 262 = .ok (.ldc_w 304, 3) := by decide +kernel
theorem d_X9_findGiven_265 : decode oX9_findGiven.2.1 265 = .ok (.if_icmp .ne 7, 3) := by decide +kernel
theorem d_X9_findGiven_268 : decode oX9_findGiven.2.1 268 = .ok (.iconst (-1), 1) := by decide +kernel
theorem d_X9_findGiven_269 : decode oX9_findGiven.2.1 269 = .ok (.goto 5, 3) := by decide +kernel
theorem d_X9_findGiven_272 : decode oX9_findGiven.2.1 272 = .ok (.iload 4, 2) := by decide +kernel
theorem d_X9_findGiven_274 : decode oX9_findGiven.2.1 274 = .ok (.ireturn, 1) := by decide +kernel
theorem b_X9_findGiven_0 {E : ob_E} {σ : ob_Mem} {Q : Int32 → ob_Mem → Prop} {x1 x2 x3 : Int32} (k : ob_RT shp E oX9_findGiven 8 [.ref 53, .int x1, .int x2, .int x3, .int (1000000 : Int32), .int (0 : Int32), .null, .null] [] σ (ob_qI Q)) : ob_RT shp E oX9_findGiven 0 [.ref 53, .int x1, .int x2, .int x3, .null, .null, .null, .null] [] σ (ob_qI Q) := by
  refine ob_ldcw (v := 1000000) d_X9_findGiven_0 k_X9_304 ?_
  refine ob_istore (ls' := [.ref 53, .int x1, .int x2, .int x3, .int (1000000 : Int32), .null, .null, .null]) d_X9_findGiven_3 (Nat.le_of_ble_eq_true rfl) rfl ?_
  refine ob_iconst (v := 0) d_X9_findGiven_5 ci_0 ?_
  refine ob_istore (ls' := [.ref 53, .int x1, .int x2, .int x3, .int (1000000 : Int32), .int (0 : Int32), .null, .null]) d_X9_findGiven_6 (Nat.le_of_ble_eq_true rfl) rfl ?_
  exact k
theorem b_X9_findGiven_8 {E : ob_E} {σ : ob_Mem} {Q : Int32 → ob_Mem → Prop} {x1 x2 x3 x4 x5 : Int32} (k : (((σ.1 53 4) ≤ x5 → ((¬ (σ.1 53 4) = 0 → ob_RT shp E oX9_findGiven 76 [.ref 53, .int x1, .int x2, .int x3, .int x4, .int (0 : Int32), .null, .null] [] (ob_wI (ob_wI σ 74 ((0 : Int32)).toNatClampNeg (-1 : Int32)) 76 ((0 : Int32)).toNatClampNeg (0 : Int32)) (ob_qI Q)) ∧ ((σ.1 53 4) = 0 → ob_RM shp E oX9_areEnough [.ref 53, .int x1, .int x2] σ (ob_qI fun v2 σ1 => ((v2 = 0 → Q (-1 : Int32) σ1) ∧ (¬ v2 = 0 → Q (0 : Int32) σ1)))))) ∧ (¬ (σ.1 53 4) ≤ x5 → ob_RM shp E oX9_timesIn [.ref 53, .int x5, .int x3] σ (ob_qI fun v4 σ3 => (vp_in x5 8 ∧ ob_RT shp E oX9_findGiven 8 [.ref 53, .int x1, .int x2, .int x3, .int x4, .int (x5 + (1 : Int32)), .null, .null] [] (ob_wI σ3 75 (x5).toNatClampNeg v4) (ob_qI Q)))))) : ob_RT shp E oX9_findGiven 8 [.ref 53, .int x1, .int x2, .int x3, .int x4, .int x5, .null, .null] [] σ (ob_qI Q) := by
  refine ob_iload d_X9_findGiven_8 rfl ?_
  refine ob_aload_n d_X9_findGiven_10 rfl ?_
  refine ob_getI d_X9_findGiven_11 fl_X9_115 sh_53 rfl (by decide) ?_
  refine ob_icmp_ge (tgt := 37) d_X9_findGiven_14 rfl (fun cc => ?_) (fun cc => ?_)
  · have k := k.1 cc
    refine ob_aload_n d_X9_findGiven_37 rfl ?_
    refine ob_getI d_X9_findGiven_38 fl_X9_115 sh_53 rfl (by decide) ?_
    refine ob_if_ne (tgt := 59) d_X9_findGiven_41 rfl (fun cc => ?_) (fun cc => ?_)
    · have k := k.1 cc
      refine ob_iconst (v := 0) d_X9_findGiven_59 ci_0 ?_
      refine ob_istore (ls' := [.ref 53, .int x1, .int x2, .int x3, .int x4, .int (0 : Int32), .null, .null]) d_X9_findGiven_60 (Nat.le_of_ble_eq_true rfl) rfl ?_
      refine ob_aload_n d_X9_findGiven_62 rfl ?_
      refine ob_getR d_X9_findGiven_63 fl_X9_78 sh_53 rfl rfl ?_
      refine ob_iconst (v := 0) d_X9_findGiven_66 ci_0 ?_
      refine ob_iconst (v := -1) d_X9_findGiven_67 ci_m1 ?_
      refine ob_iast d_X9_findGiven_68 sh_74 (by unfold vp_in; decide) ?_
      refine ob_aload_n d_X9_findGiven_69 rfl ?_
      refine ob_getR d_X9_findGiven_70 fl_X9_84 sh_53 rfl rfl ?_
      refine ob_iconst (v := 0) d_X9_findGiven_73 ci_0 ?_
      refine ob_iconst (v := 0) d_X9_findGiven_74 ci_0 ?_
      refine ob_iast d_X9_findGiven_75 sh_76 (by unfold vp_in; decide) ?_
      exact k
    · have k := k.2 cc
      refine ob_aload_n d_X9_findGiven_44 rfl ?_
      refine ob_iload_n d_X9_findGiven_45 rfl ?_
      refine ob_iload_n d_X9_findGiven_46 rfl ?_
      refine ob_callV [.int x1, .int x2] (z := oX9_areEnough) (st := []) d_X9_findGiven_47 lk_X9_305 mv_X9_areEnough rfl sh_53 cl_9 rfl (Nat.le_of_ble_eq_true rfl) rfl k (ob_kI fun v2 σ1 k => ?_)
      refine ob_if_eq (tgt := 57) d_X9_findGiven_50 rfl (fun cc => ?_) (fun cc => ?_)
      · have k := k.1 cc
        refine ob_iconst (v := -1) d_X9_findGiven_57 ci_m1 ?_
        exact ob_iret d_X9_findGiven_58 rfl ⟨_, rfl, k⟩
      · have k := k.2 cc
        refine ob_iconst (v := 0) d_X9_findGiven_53 ci_0 ?_
        refine ob_goto (tgt := 58) d_X9_findGiven_54 rfl ?_
        exact ob_iret d_X9_findGiven_58 rfl ⟨_, rfl, k⟩
  · have k := k.2 cc
    refine ob_aload_n d_X9_findGiven_17 rfl ?_
    refine ob_getR d_X9_findGiven_18 fl_X9_81 sh_53 rfl rfl ?_
    refine ob_iload d_X9_findGiven_21 rfl ?_
    refine ob_aload_n d_X9_findGiven_23 rfl ?_
    refine ob_iload d_X9_findGiven_24 rfl ?_
    refine ob_iload_n d_X9_findGiven_26 rfl ?_
    refine ob_callV [.int x5, .int x3] (z := oX9_timesIn) (st := [.int x5, .ref 75]) d_X9_findGiven_27 lk_X9_283 mv_X9_timesIn rfl sh_53 cl_9 rfl (Nat.le_of_ble_eq_true rfl) rfl k (ob_kI fun v4 σ3 k => ?_)
    obtain ⟨hin, k⟩ := k
    refine ob_iast d_X9_findGiven_30 sh_75 hin ?_
    refine ob_iinc (ls' := [.ref 53, .int x1, .int x2, .int x3, .int x4, .int (x5 + (1 : Int32)), .null, .null]) (v := 1) d_X9_findGiven_31 rfl ci_1 (Nat.le_of_ble_eq_true rfl) rfl ?_
    refine ob_goto (tgt := 8) d_X9_findGiven_34 rfl ?_
    exact k
theorem b_X9_findGiven_76 {E : ob_E} {σ : ob_Mem} {Q : Int32 → ob_Mem → Prop} {x1 x2 x3 x4 x5 : Int32} (k : ((x5 < 0 → ((¬ x4 = (1000000 : Int32) → Q x4 σ) ∧ (x4 = (1000000 : Int32) → Q (-1 : Int32) σ))) ∧ (¬ x5 < 0 → (vp_in x5 8 ∧ (vp_in x5 8 ∧ (∀ σ1, σ1 = (ob_wI σ 74 (x5).toNatClampNeg ((σ.1 74 (x5).toNatClampNeg) + (1 : Int32))) → (vp_in x5 8 ∧ (((σ1.1 74 (x5).toNatClampNeg) < (σ1.1 53 1) → (vp_in x5 8 ∧ (vp_in (σ1.1 74 (x5).toNatClampNeg) 6 ∧ (((σ1.1 62 ((σ1.1 74 (x5).toNatClampNeg)).toNatClampNeg) = 0 → ob_RT shp E oX9_findGiven 76 [.ref 53, .int x1, .int x2, .int x3, .int x4, .int x5, .null, .null] [] σ1 (ob_qI Q)) ∧ (¬ (σ1.1 62 ((σ1.1 74 (x5).toNatClampNeg)).toNatClampNeg) = 0 → (vp_in x5 9 ∧ (vp_in x5 8 ∧ ob_RM shp E oX9_userOf [.ref 53, .int x5] σ1 (ob_qI fun v3 σ2 => ((¬ (σ1.1 74 (x5).toNatClampNeg) = v3 → (vp_in x5 8 ∧ ob_RT shp E oX9_findGiven 161 [.ref 53, .int x1, .int x2, .int x3, .int x4, .int x5, .null, .null] [.int (σ2.1 58 (x5).toNatClampNeg), .int (σ1.1 76 (x5).toNatClampNeg)] σ2 (ob_qI Q))) ∧ ((σ1.1 74 (x5).toNatClampNeg) = v3 → ob_RT shp E oX9_findGiven 161 [.ref 53, .int x1, .int x2, .int x3, .int x4, .int x5, .null, .null] [.int (0 : Int32), .int (σ1.1 76 (x5).toNatClampNeg)] σ2 (ob_qI Q))))))))))) ∧ (¬ (σ1.1 74 (x5).toNatClampNeg) < (σ1.1 53 1) → ob_RT shp E oX9_findGiven 76 [.ref 53, .int x1, .int x2, .int x3, .int x4, .int (x5 + (-1 : Int32)), .null, .null] [] σ1 (ob_qI Q)))))))))) : ob_RT shp E oX9_findGiven 76 [.ref 53, .int x1, .int x2, .int x3, .int x4, .int x5, .null, .null] [] σ (ob_qI Q) := by
  refine ob_iload d_X9_findGiven_76 rfl ?_
  refine ob_if_lt (tgt := 260) d_X9_findGiven_78 rfl (fun cc => ?_) (fun cc => ?_)
  · have k := k.1 cc
    refine ob_iload d_X9_findGiven_260 rfl ?_
    refine ob_ldcw (v := 1000000) d_X9_findGiven_262 k_X9_304 ?_
    refine ob_icmp_ne (tgt := 272) d_X9_findGiven_265 rfl (fun cc => ?_) (fun cc => ?_)
    · have k := k.1 cc
      refine ob_iload d_X9_findGiven_272 rfl ?_
      exact ob_iret d_X9_findGiven_274 rfl ⟨_, rfl, k⟩
    · have k := k.2 cc
      refine ob_iconst (v := -1) d_X9_findGiven_268 ci_m1 ?_
      refine ob_goto (tgt := 274) d_X9_findGiven_269 rfl ?_
      exact ob_iret d_X9_findGiven_274 rfl ⟨_, rfl, k⟩
  · have k := k.2 cc
    refine ob_aload_n d_X9_findGiven_81 rfl ?_
    refine ob_getR d_X9_findGiven_82 fl_X9_78 sh_53 rfl rfl ?_
    refine ob_iload d_X9_findGiven_85 rfl ?_
    refine ob_dup2 d_X9_findGiven_87 rfl rfl ?_
    obtain ⟨hin, k⟩ := k
    refine ob_iald d_X9_findGiven_88 sh_74 hin ?_
    refine ob_iconst (v := 1) d_X9_findGiven_89 ci_1 ?_
    refine ob_iadd d_X9_findGiven_90 ?_
    obtain ⟨hin, k⟩ := k
    refine ob_iast d_X9_findGiven_91 sh_74 hin ?_
    refine ob_nmM (fun σ1 hσ1 => ?_)
    have k := k σ1 hσ1
    refine ob_aload_n d_X9_findGiven_92 rfl ?_
    refine ob_getR d_X9_findGiven_93 fl_X9_78 sh_53 rfl rfl ?_
    refine ob_iload d_X9_findGiven_96 rfl ?_
    obtain ⟨hin, k⟩ := k
    refine ob_iald d_X9_findGiven_98 sh_74 hin ?_
    refine ob_aload_n d_X9_findGiven_99 rfl ?_
    refine ob_getI d_X9_findGiven_100 fl_X9_108 sh_53 rfl (by decide) ?_
    refine ob_icmp_lt (tgt := 112) d_X9_findGiven_103 rfl (fun cc => ?_) (fun cc => ?_)
    · have k := k.1 cc
      refine ob_aload_n d_X9_findGiven_112 rfl ?_
      refine ob_getR d_X9_findGiven_113 fl_X9_38 sh_53 rfl rfl ?_
      refine ob_aload_n d_X9_findGiven_116 rfl ?_
      refine ob_getR d_X9_findGiven_117 fl_X9_78 sh_53 rfl rfl ?_
      refine ob_iload d_X9_findGiven_120 rfl ?_
      obtain ⟨hin, k⟩ := k
      refine ob_iald d_X9_findGiven_122 sh_74 hin ?_
      obtain ⟨hin, k⟩ := k
      refine ob_zald d_X9_findGiven_123 sh_62 hin ?_
      refine ob_if_eq (tgt := 76) d_X9_findGiven_124 rfl (fun cc => ?_) (fun cc => ?_)
      · have k := k.1 cc
        exact k
      · have k := k.2 cc
        refine ob_aload_n d_X9_findGiven_127 rfl ?_
        refine ob_getR d_X9_findGiven_128 fl_X9_84 sh_53 rfl rfl ?_
        refine ob_iload d_X9_findGiven_131 rfl ?_
        obtain ⟨hin, k⟩ := k
        refine ob_iald d_X9_findGiven_133 sh_76 hin ?_
        refine ob_aload_n d_X9_findGiven_134 rfl ?_
        refine ob_getR d_X9_findGiven_135 fl_X9_78 sh_53 rfl rfl ?_
        refine ob_iload d_X9_findGiven_138 rfl ?_
        obtain ⟨hin, k⟩ := k
        refine ob_iald d_X9_findGiven_140 sh_74 hin ?_
        refine ob_aload_n d_X9_findGiven_141 rfl ?_
        refine ob_iload d_X9_findGiven_142 rfl ?_
        refine ob_callV [.int x5] (z := oX9_userOf) (st := [.int (σ1.1 74 (x5).toNatClampNeg), .int (σ1.1 76 (x5).toNatClampNeg)]) d_X9_findGiven_144 lk_X9_233 mv_X9_userOf rfl sh_53 cl_9 rfl (Nat.le_of_ble_eq_true rfl) rfl k (ob_kI fun v3 σ2 k => ?_)
        refine ob_icmp_ne (tgt := 154) d_X9_findGiven_147 rfl (fun cc => ?_) (fun cc => ?_)
        · have k := k.1 cc
          refine ob_aload_n d_X9_findGiven_154 rfl ?_
          refine ob_getR d_X9_findGiven_155 fl_X9_26 sh_53 rfl rfl ?_
          refine ob_iload d_X9_findGiven_158 rfl ?_
          obtain ⟨hin, k⟩ := k
          refine ob_iald d_X9_findGiven_160 sh_58 hin ?_
          exact k
        · have k := k.2 cc
          refine ob_iconst (v := 0) d_X9_findGiven_150 ci_0 ?_
          refine ob_goto (tgt := 161) d_X9_findGiven_151 rfl ?_
          exact k
    · have k := k.2 cc
      refine ob_iinc (ls' := [.ref 53, .int x1, .int x2, .int x3, .int x4, .int (x5 + (-1 : Int32)), .null, .null]) (v := -1) d_X9_findGiven_106 rfl ci_m1 (Nat.le_of_ble_eq_true rfl) rfl ?_
      refine ob_goto (tgt := 76) d_X9_findGiven_109 rfl ?_
      exact k
theorem b_X9_findGiven_161 {E : ob_E} {σ : ob_Mem} {Q : Int32 → ob_Mem → Prop} {x1 x2 x3 x4 x5 s0 s1 : Int32} (k : ((x4 ≤ (s1 + s0) → ob_RT shp E oX9_findGiven 230 [.ref 53, .int x1, .int x2, .int x3, .int x4, .int x5, .int (s1 + s0), .null] [] σ (ob_qI Q)) ∧ (¬ x4 ≤ (s1 + s0) → ((¬ x5 = ((σ.1 53 4) - (1 : Int32)) → ob_RT shp E oX9_findGiven 230 [.ref 53, .int x1, .int x2, .int x3, .int x4, .int x5, .int (s1 + s0), .null] [] σ (ob_qI Q)) ∧ (x5 = ((σ.1 53 4) - (1 : Int32)) → ob_RM shp E oX9_areEnough [.ref 53, .int x1, .int x2] σ (ob_qI fun v2 σ1 => ((v2 = 0 → ob_RT shp E oX9_findGiven 76 [.ref 53, .int x1, .int x2, .int x3, .int x4, .int x5, .null, .null] [] σ1 (ob_qI Q)) ∧ (¬ v2 = 0 → ob_RT shp E oX9_findGiven 198 [.ref 53, .int x1, .int x2, .int x3, .int (s1 + s0), .int x5, .int (s1 + s0), .int (0 : Int32)] [] σ1 (ob_qI Q))))))))) : ob_RT shp E oX9_findGiven 161 [.ref 53, .int x1, .int x2, .int x3, .int x4, .int x5, .null, .null] [.int s0, .int s1] σ (ob_qI Q) := by
  refine ob_iadd d_X9_findGiven_161 ?_
  refine ob_istore (ls' := [.ref 53, .int x1, .int x2, .int x3, .int x4, .int x5, .int (s1 + s0), .null]) d_X9_findGiven_162 (Nat.le_of_ble_eq_true rfl) rfl ?_
  refine ob_iload d_X9_findGiven_164 rfl ?_
  refine ob_iload d_X9_findGiven_166 rfl ?_
  refine ob_icmp_ge (tgt := 230) d_X9_findGiven_168 rfl (fun cc => ?_) (fun cc => ?_)
  · have k := k.1 cc
    exact k
  · have k := k.2 cc
    refine ob_iload d_X9_findGiven_171 rfl ?_
    refine ob_aload_n d_X9_findGiven_173 rfl ?_
    refine ob_getI d_X9_findGiven_174 fl_X9_115 sh_53 rfl (by decide) ?_
    refine ob_iconst (v := 1) d_X9_findGiven_177 ci_1 ?_
    refine ob_isub d_X9_findGiven_178 ?_
    refine ob_icmp_ne (tgt := 230) d_X9_findGiven_179 rfl (fun cc => ?_) (fun cc => ?_)
    · have k := k.1 cc
      exact k
    · have k := k.2 cc
      refine ob_aload_n d_X9_findGiven_182 rfl ?_
      refine ob_iload_n d_X9_findGiven_183 rfl ?_
      refine ob_iload_n d_X9_findGiven_184 rfl ?_
      refine ob_callV [.int x1, .int x2] (z := oX9_areEnough) (st := []) d_X9_findGiven_185 lk_X9_305 mv_X9_areEnough rfl sh_53 cl_9 rfl (Nat.le_of_ble_eq_true rfl) rfl k (ob_kI fun v2 σ1 k => ?_)
      refine ob_if_eq (tgt := 257) d_X9_findGiven_188 rfl (fun cc => ?_) (fun cc => ?_)
      · have k := k.1 cc
        refine ob_goto (tgt := 76) d_X9_findGiven_257 rfl ?_
        refine ob_drop 6 (ls' := [.ref 53, .int x1, .int x2, .int x3, .int x4, .int x5, .null, .null]) rfl ?_
        exact k
      · have k := k.2 cc
        refine ob_iload d_X9_findGiven_191 rfl ?_
        refine ob_istore (ls' := [.ref 53, .int x1, .int x2, .int x3, .int (s1 + s0), .int x5, .int (s1 + s0), .null]) d_X9_findGiven_193 (Nat.le_of_ble_eq_true rfl) rfl ?_
        refine ob_iconst (v := 0) d_X9_findGiven_195 ci_0 ?_
        refine ob_istore (ls' := [.ref 53, .int x1, .int x2, .int x3, .int (s1 + s0), .int x5, .int (s1 + s0), .int (0 : Int32)]) d_X9_findGiven_196 (Nat.le_of_ble_eq_true rfl) rfl ?_
        exact k
theorem b_X9_findGiven_198 {E : ob_E} {σ : ob_Mem} {Q : Int32 → ob_Mem → Prop} {x1 x2 x3 x4 x5 x6 x7 : Int32} (k : (((σ.1 53 4) ≤ x7 → ob_RT shp E oX9_findGiven 76 [.ref 53, .int x1, .int x2, .int x3, .int x4, .int x5, .null, .null] [] σ (ob_qI Q)) ∧ (¬ (σ.1 53 4) ≤ x7 → (vp_in x7 8 ∧ (vp_in x7 8 ∧ ob_RT shp E oX9_findGiven 198 [.ref 53, .int x1, .int x2, .int x3, .int x4, .int x5, .int x6, .int (x7 + (1 : Int32))] [] (ob_wI σ 77 (x7).toNatClampNeg (σ.1 74 (x7).toNatClampNeg)) (ob_qI Q)))))) : ob_RT shp E oX9_findGiven 198 [.ref 53, .int x1, .int x2, .int x3, .int x4, .int x5, .int x6, .int x7] [] σ (ob_qI Q) := by
  refine ob_iload d_X9_findGiven_198 rfl ?_
  refine ob_aload_n d_X9_findGiven_200 rfl ?_
  refine ob_getI d_X9_findGiven_201 fl_X9_115 sh_53 rfl (by decide) ?_
  refine ob_icmp_ge (tgt := 227) d_X9_findGiven_204 rfl (fun cc => ?_) (fun cc => ?_)
  · have k := k.1 cc
    refine ob_goto (tgt := 257) d_X9_findGiven_227 rfl ?_
    refine ob_goto (tgt := 76) d_X9_findGiven_257 rfl ?_
    refine ob_drop 6 (ls' := [.ref 53, .int x1, .int x2, .int x3, .int x4, .int x5, .null, .int x7]) rfl ?_
    refine ob_drop 7 (ls' := [.ref 53, .int x1, .int x2, .int x3, .int x4, .int x5, .null, .null]) rfl ?_
    exact k
  · have k := k.2 cc
    refine ob_aload_n d_X9_findGiven_207 rfl ?_
    refine ob_getR d_X9_findGiven_208 fl_X9_87 sh_53 rfl rfl ?_
    refine ob_iload d_X9_findGiven_211 rfl ?_
    refine ob_aload_n d_X9_findGiven_213 rfl ?_
    refine ob_getR d_X9_findGiven_214 fl_X9_78 sh_53 rfl rfl ?_
    refine ob_iload d_X9_findGiven_217 rfl ?_
    obtain ⟨hin, k⟩ := k
    refine ob_iald d_X9_findGiven_219 sh_74 hin ?_
    obtain ⟨hin, k⟩ := k
    refine ob_iast d_X9_findGiven_220 sh_77 hin ?_
    refine ob_iinc (ls' := [.ref 53, .int x1, .int x2, .int x3, .int x4, .int x5, .int x6, .int (x7 + (1 : Int32))]) (v := 1) d_X9_findGiven_221 rfl ci_1 (Nat.le_of_ble_eq_true rfl) rfl ?_
    refine ob_goto (tgt := 198) d_X9_findGiven_224 rfl ?_
    exact k
theorem b_X9_findGiven_230 {E : ob_E} {σ : ob_Mem} {Q : Int32 → ob_Mem → Prop} {x1 x2 x3 x4 x5 x6 : Int32} (k : ((x4 ≤ x6 → ob_RT shp E oX9_findGiven 76 [.ref 53, .int x1, .int x2, .int x3, .int x4, .int x5, .null, .null] [] σ (ob_qI Q)) ∧ (¬ x4 ≤ x6 → (vp_in (x5 + (1 : Int32)) 9 ∧ (vp_in (x5 + (1 : Int32)) 8 ∧ (∀ σ1, σ1 = (ob_wI (ob_wI σ 76 ((x5 + (1 : Int32))).toNatClampNeg x6) 74 ((x5 + (1 : Int32))).toNatClampNeg (-1 : Int32)) → ob_RT shp E oX9_findGiven 76 [.ref 53, .int x1, .int x2, .int x3, .int x4, .int (x5 + (1 : Int32)), .null, .null] [] σ1 (ob_qI Q))))))) : ob_RT shp E oX9_findGiven 230 [.ref 53, .int x1, .int x2, .int x3, .int x4, .int x5, .int x6, .null] [] σ (ob_qI Q) := by
  refine ob_iload d_X9_findGiven_230 rfl ?_
  refine ob_iload d_X9_findGiven_232 rfl ?_
  refine ob_icmp_ge (tgt := 257) d_X9_findGiven_234 rfl (fun cc => ?_) (fun cc => ?_)
  · have k := k.1 cc
    refine ob_goto (tgt := 76) d_X9_findGiven_257 rfl ?_
    refine ob_drop 6 (ls' := [.ref 53, .int x1, .int x2, .int x3, .int x4, .int x5, .null, .null]) rfl ?_
    exact k
  · have k := k.2 cc
    refine ob_iinc (ls' := [.ref 53, .int x1, .int x2, .int x3, .int x4, .int (x5 + (1 : Int32)), .int x6, .null]) (v := 1) d_X9_findGiven_237 rfl ci_1 (Nat.le_of_ble_eq_true rfl) rfl ?_
    refine ob_aload_n d_X9_findGiven_240 rfl ?_
    refine ob_getR d_X9_findGiven_241 fl_X9_84 sh_53 rfl rfl ?_
    refine ob_iload d_X9_findGiven_244 rfl ?_
    refine ob_iload d_X9_findGiven_246 rfl ?_
    obtain ⟨hin, k⟩ := k
    refine ob_iast d_X9_findGiven_248 sh_76 hin ?_
    refine ob_aload_n d_X9_findGiven_249 rfl ?_
    refine ob_getR d_X9_findGiven_250 fl_X9_78 sh_53 rfl rfl ?_
    refine ob_iload d_X9_findGiven_253 rfl ?_
    refine ob_iconst (v := -1) d_X9_findGiven_255 ci_m1 ?_
    obtain ⟨hin, k⟩ := k
    refine ob_iast d_X9_findGiven_256 sh_74 hin ?_
    refine ob_nmM (fun σ1 hσ1 => ?_)
    have k := k σ1 hσ1
    refine ob_goto (tgt := 76) d_X9_findGiven_257 rfl ?_
    refine ob_drop 6 (ls' := [.ref 53, .int x1, .int x2, .int x3, .int x4, .int (x5 + (1 : Int32)), .null, .null]) rfl ?_
    exact k
theorem d_X9_changes_0 : decode oX9_changes.2.1 0 = .ok (.iconst 0, 1) := by decide +kernel
theorem d_X9_changes_1 : decode oX9_changes.2.1 1 = .ok (.istore_n 1, 1) := by decide +kernel
theorem d_X9_changes_2 : decode oX9_changes.2.1 2 = .ok (.iload_n 1, 1) := by decide +kernel
theorem d_X9_changes_3 : decode oX9_changes.2.1 3 = .ok (.aload_n 0, 1) := by decide +kernel
theorem d_X9_changes_4 : decode oX9_changes.2.1 4 = .ok (.getfield 115, 3) := by decide +kernel
theorem d_X9_changes_7 : decode oX9_changes.2.1 7 = .ok (.if_icmp .ge 107, 3) := by decide +kernel
theorem d_X9_changes_10 : decode oX9_changes.2.1 10 = .ok (.aload_n 0, 1) := by decide +kernel
theorem d_X9_changes_11 : decode oX9_changes.2.1 11 = .ok (.getfield 42, 3) := by decide +kernel
theorem d_X9_changes_14 : decode oX9_changes.2.1 14 = .ok (.iload_n 1, 1) := by decide +kernel
theorem d_X9_changes_15 : decode oX9_changes.2.1 15 = .ok (.iaload, 1) := by decide +kernel
theorem d_X9_changes_16 : decode oX9_changes.2.1 16 = .ok (.ifCond .lt 92, 3) := by decide +kernel
theorem d_X9_changes_19 : decode oX9_changes.2.1 19 = .ok (.aload_n 0, 1) := by decide +kernel
theorem d_X9_changes_20 : decode oX9_changes.2.1 20 = .ok (.getfield 42, 3) := by decide +kernel
theorem d_X9_changes_23 : decode oX9_changes.2.1 23 = .ok (.iload_n 1, 1) := by decide +kernel
theorem d_X9_changes_24 : decode oX9_changes.2.1 24 = .ok (.iaload, 1) := by decide +kernel
theorem d_X9_changes_25 : decode oX9_changes.2.1 25 = .ok (.istore_n 2, 1) := by decide +kernel
theorem d_X9_changes_26 : decode oX9_changes.2.1 26 = .ok (.iconst 0, 1) := by decide +kernel
theorem d_X9_changes_27 : decode oX9_changes.2.1 27 = .ok (.istore_n 3, 1) := by decide +kernel
theorem d_X9_changes_28 : decode oX9_changes.2.1 28 = .ok (.iload_n 3, 1) := by decide +kernel
theorem d_X9_changes_29 : decode oX9_changes.2.1 29 = .ok (.aload_n 0, 1) := by decide +kernel
theorem d_X9_changes_30 : decode oX9_changes.2.1 30 = .ok (.getfield 108, 3) := by decide +kernel
theorem d_X9_changes_33 : decode oX9_changes.2.1 33 = .ok (.if_icmp .ge 56, 3) := by decide +kernel
theorem d_X9_changes_36 : decode oX9_changes.2.1 36 = .ok (.aload_n 0, 1) := by decide +kernel
theorem d_X9_changes_37 : decode oX9_changes.2.1 37 = .ok (.getfield 38, 3) := by decide +kernel
theorem d_X9_changes_40 : decode oX9_changes.2.1 40 = .ok (.iload_n 3, 1) := by decide +kernel
theorem d_X9_changes_41 : decode oX9_changes.2.1 41 = .ok (.baload, 1) := by decide +kernel
theorem d_X9_changes_42 : decode oX9_changes.2.1 42 = .ok (.ifCond .eq 27, 3) := by decide +kernel
theorem d_X9_changes_45 : decode oX9_changes.2.1 45 = .ok (.iload_n 3, 1) := by decide +kernel
theorem d_X9_changes_46 : decode oX9_changes.2.1 46 = .ok (.iload_n 2, 1) := by decide +kernel
theorem d_X9_changes_47 : decode oX9_changes.2.1 47 = .ok (.if_icmp .eq 22, 3) := by decide +kernel
theorem d_X9_changes_50 : decode oX9_changes.2.1 50 = .ok (.aload_n 0, 1) := by decide +kernel
theorem d_X9_changes_51 : decode oX9_changes.2.1 51 = .ok (.iload_n 1, 1) := by decide +kernel
theorem d_X9_changes_52 : decode oX9_changes.2.1 52 = .ok (.iload_n 3, 1) := by decide +kernel
theorem d_X9_changes_53 : decode oX9_changes.2.1 53 = .ok (.invokevirtual 316, 3) := by decide +kernel
theorem d_X9_changes_56 : decode oX9_changes.2.1 56 = .ok (.aload_n 0, 1) := by decide +kernel
theorem d_X9_changes_57 : decode oX9_changes.2.1 57 = .ok (.iload_n 1, 1) := by decide +kernel
theorem d_X9_changes_58 : decode oX9_changes.2.1 58 = .ok (.iload_n 2, 1) := by decide +kernel
theorem d_X9_changes_59 : decode oX9_changes.2.1 59 = .ok (.invokevirtual 316, 3) := by decide +kernel
theorem d_X9_changes_62 : decode oX9_changes.2.1 62 = .ok (.if_icmp .le 7, 3) := by decide +kernel
theorem d_X9_changes_65 : decode oX9_changes.2.1 65 = .ok (.iconst 1, 1) := by decide +kernel
theorem d_X9_changes_66 : decode oX9_changes.2.1 66 = .ok (.goto 4, 3) := by decide +kernel
theorem d_X9_changes_69 : decode oX9_changes.2.1 69 = .ok (.iconst 0, 1) := by decide +kernel
theorem d_X9_changes_70 : decode oX9_changes.2.1 70 = .ok (.istore 4, 2) := by decide +kernel
theorem d_X9_changes_72 : decode oX9_changes.2.1 72 = .ok (.iload 4, 2) := by decide +kernel
theorem d_X9_changes_74 : decode oX9_changes.2.1 74 = .ok (.ifCond .eq 7, 3) := by decide +kernel
theorem d_X9_changes_77 : decode oX9_changes.2.1 77 = .ok (.iload_n 3, 1) := by decide +kernel
theorem d_X9_changes_78 : decode oX9_changes.2.1 78 = .ok (.goto 4, 3) := by decide +kernel
theorem d_X9_changes_81 : decode oX9_changes.2.1 81 = .ok (.iload_n 2, 1) := by decide +kernel
theorem d_X9_changes_82 : decode oX9_changes.2.1 82 = .ok (.istore_n 2, 1) := by decide +kernel
theorem d_X9_changes_83 : decode oX9_changes.2.1 83 = .ok (.iinc 3 1, 3) := by decide +kernel
theorem d_X9_changes_86 : decode oX9_changes.2.1 86 = .ok (.goto (-58), 3) := by decide +kernel
theorem d_X9_changes_89 : decode oX9_changes.2.1 89 = .ok (.iload_n 2, 1) := by decide +kernel
theorem d_X9_changes_90 : decode oX9_changes.2.1 90 = .ok (.aload_n 0, 1) := by decide +kernel
theorem d_X9_changes_91 : decode oX9_changes.2.1 91 = .ok (.getfield 42, 3) := by decide +kernel
theorem d_X9_changes_94 : decode oX9_changes.2.1 94 = .ok (.iload_n 1, 1) := by decide +kernel
theorem d_X9_changes_95 : decode oX9_changes.2.1 95 = .ok (.iaload, 1) := by decide +kernel
theorem d_X9_changes_96 : decode oX9_changes.2.1 96 = .ok (.if_icmp .eq 12, 3) := by decide +kernel
theorem d_X9_changes_99 : decode oX9_changes.2.1 99 = .ok (.aload_n 0, 1) := by decide +kernel
theorem d_X9_changes_100 : decode oX9_changes.2.1 100 = .ok (.getfield 42, 3) := by decide +kernel
theorem d_X9_changes_103 : decode oX9_changes.2.1 103 = .ok (.iload_n 1, 1) := by decide +kernel
theorem d_X9_changes_104 : decode oX9_changes.2.1 104 = .ok (.iload_n 2, 1) := by decide +kernel
theorem d_X9_changes_105 : decode oX9_changes.2.1 105 = .ok (.iastore, 1) := by decide +kernel
theorem d_X9_changes_106 : decode oX9_changes.2.1 106 = .ok (.iconst 1, 1) := by decide +kernel
theorem d_X9_changes_107 : decode oX9_changes.2.1 107 = .ok (.ireturn, 1) := by decide +kernel
theorem d_X9_changes_108 : decode oX9_changes.2.1 108 = .ok (.iinc 1 1, 3) := by decide +kernel
theorem d_X9_changes_111 : decode oX9_changes.2.1 111 = .ok (.goto (-109), 3) := by decide +kernel
theorem d_X9_changes_114 : decode oX9_changes.2.1 114 = .ok (.iconst 0, 1) := by decide +kernel
theorem d_X9_changes_115 : decode oX9_changes.2.1 115 = .ok (.ireturn, 1) := by decide +kernel
theorem b_X9_changes_0 {E : ob_E} {σ : ob_Mem} {Q : Int32 → ob_Mem → Prop} (k : ob_RT shp E oX9_changes 2 [.ref 53, .int (0 : Int32), .null, .null, .null] [] σ (ob_qI Q)) : ob_RT shp E oX9_changes 0 [.ref 53, .null, .null, .null, .null] [] σ (ob_qI Q) := by
  refine ob_iconst (v := 0) d_X9_changes_0 ci_0 ?_
  refine ob_istore_n (ls' := [.ref 53, .int (0 : Int32), .null, .null, .null]) d_X9_changes_1 (Nat.le_of_ble_eq_true rfl) rfl ?_
  exact k
theorem b_X9_changes_2 {E : ob_E} {σ : ob_Mem} {Q : Int32 → ob_Mem → Prop} {x1 : Int32} (k : (((σ.1 53 4) ≤ x1 → Q (0 : Int32) σ) ∧ (¬ (σ.1 53 4) ≤ x1 → (vp_in x1 8 ∧ (((σ.1 63 (x1).toNatClampNeg) < 0 → ob_RT shp E oX9_changes 2 [.ref 53, .int (x1 + (1 : Int32)), .null, .null, .null] [] σ (ob_qI Q)) ∧ (¬ (σ.1 63 (x1).toNatClampNeg) < 0 → (vp_in x1 8 ∧ ob_RT shp E oX9_changes 28 [.ref 53, .int x1, .int (σ.1 63 (x1).toNatClampNeg), .int (0 : Int32), .null] [] σ (ob_qI Q)))))))) : ob_RT shp E oX9_changes 2 [.ref 53, .int x1, .null, .null, .null] [] σ (ob_qI Q) := by
  refine ob_iload_n d_X9_changes_2 rfl ?_
  refine ob_aload_n d_X9_changes_3 rfl ?_
  refine ob_getI d_X9_changes_4 fl_X9_115 sh_53 rfl (by decide) ?_
  refine ob_icmp_ge (tgt := 114) d_X9_changes_7 rfl (fun cc => ?_) (fun cc => ?_)
  · have k := k.1 cc
    refine ob_iconst (v := 0) d_X9_changes_114 ci_0 ?_
    exact ob_zret d_X9_changes_115 rfl rfl ⟨_, rfl, k⟩
  · have k := k.2 cc
    refine ob_aload_n d_X9_changes_10 rfl ?_
    refine ob_getR d_X9_changes_11 fl_X9_42 sh_53 rfl rfl ?_
    refine ob_iload_n d_X9_changes_14 rfl ?_
    obtain ⟨hin, k⟩ := k
    refine ob_iald d_X9_changes_15 sh_63 hin ?_
    refine ob_if_lt (tgt := 108) d_X9_changes_16 rfl (fun cc => ?_) (fun cc => ?_)
    · have k := k.1 cc
      refine ob_iinc (ls' := [.ref 53, .int (x1 + (1 : Int32)), .null, .null, .null]) (v := 1) d_X9_changes_108 rfl ci_1 (Nat.le_of_ble_eq_true rfl) rfl ?_
      refine ob_goto (tgt := 2) d_X9_changes_111 rfl ?_
      exact k
    · have k := k.2 cc
      refine ob_aload_n d_X9_changes_19 rfl ?_
      refine ob_getR d_X9_changes_20 fl_X9_42 sh_53 rfl rfl ?_
      refine ob_iload_n d_X9_changes_23 rfl ?_
      obtain ⟨hin, k⟩ := k
      refine ob_iald d_X9_changes_24 sh_63 hin ?_
      refine ob_istore_n (ls' := [.ref 53, .int x1, .int (σ.1 63 (x1).toNatClampNeg), .null, .null]) d_X9_changes_25 (Nat.le_of_ble_eq_true rfl) rfl ?_
      refine ob_iconst (v := 0) d_X9_changes_26 ci_0 ?_
      refine ob_istore_n (ls' := [.ref 53, .int x1, .int (σ.1 63 (x1).toNatClampNeg), .int (0 : Int32), .null]) d_X9_changes_27 (Nat.le_of_ble_eq_true rfl) rfl ?_
      exact k
theorem b_X9_changes_28 {E : ob_E} {σ : ob_Mem} {Q : Int32 → ob_Mem → Prop} {x1 x2 x3 : Int32} (k : (((σ.1 53 1) ≤ x3 → (vp_in x1 8 ∧ ((x2 = (σ.1 63 (x1).toNatClampNeg) → ob_RT shp E oX9_changes 2 [.ref 53, .int (x1 + (1 : Int32)), .null, .null, .null] [] σ (ob_qI Q)) ∧ (¬ x2 = (σ.1 63 (x1).toNatClampNeg) → (vp_in x1 8 ∧ Q (1 : Int32) (ob_wI σ 63 (x1).toNatClampNeg x2)))))) ∧ (¬ (σ.1 53 1) ≤ x3 → (vp_in x3 6 ∧ (((σ.1 62 (x3).toNatClampNeg) = 0 → ob_RT shp E oX9_changes 69 [.ref 53, .int x1, .int x2, .int x3, .null] [] σ (ob_qI Q)) ∧ (¬ (σ.1 62 (x3).toNatClampNeg) = 0 → ((x3 = x2 → ob_RT shp E oX9_changes 69 [.ref 53, .int x1, .int x2, .int x3, .null] [] σ (ob_qI Q)) ∧ (¬ x3 = x2 → ob_RM shp E oX9_worthTo [.ref 53, .int x1, .int x3] σ (ob_qI fun v2 σ1 => ob_RM shp E oX9_worthTo [.ref 53, .int x1, .int x2] σ1 (ob_qI fun v4 σ3 => ((v2 ≤ v4 → ob_RT shp E oX9_changes 69 [.ref 53, .int x1, .int x2, .int x3, .null] [] σ3 (ob_qI Q)) ∧ (¬ v2 ≤ v4 → ob_RT shp E oX9_changes 70 [.ref 53, .int x1, .int x2, .int x3, .null] [.int (1 : Int32)] σ3 (ob_qI Q))))))))))))) : ob_RT shp E oX9_changes 28 [.ref 53, .int x1, .int x2, .int x3, .null] [] σ (ob_qI Q) := by
  refine ob_iload_n d_X9_changes_28 rfl ?_
  refine ob_aload_n d_X9_changes_29 rfl ?_
  refine ob_getI d_X9_changes_30 fl_X9_108 sh_53 rfl (by decide) ?_
  refine ob_icmp_ge (tgt := 89) d_X9_changes_33 rfl (fun cc => ?_) (fun cc => ?_)
  · have k := k.1 cc
    refine ob_iload_n d_X9_changes_89 rfl ?_
    refine ob_aload_n d_X9_changes_90 rfl ?_
    refine ob_getR d_X9_changes_91 fl_X9_42 sh_53 rfl rfl ?_
    refine ob_iload_n d_X9_changes_94 rfl ?_
    obtain ⟨hin, k⟩ := k
    refine ob_iald d_X9_changes_95 sh_63 hin ?_
    refine ob_icmp_eq (tgt := 108) d_X9_changes_96 rfl (fun cc => ?_) (fun cc => ?_)
    · have k := k.1 cc
      refine ob_iinc (ls' := [.ref 53, .int (x1 + (1 : Int32)), .int x2, .int x3, .null]) (v := 1) d_X9_changes_108 rfl ci_1 (Nat.le_of_ble_eq_true rfl) rfl ?_
      refine ob_goto (tgt := 2) d_X9_changes_111 rfl ?_
      refine ob_drop 2 (ls' := [.ref 53, .int (x1 + (1 : Int32)), .null, .int x3, .null]) rfl ?_
      refine ob_drop 3 (ls' := [.ref 53, .int (x1 + (1 : Int32)), .null, .null, .null]) rfl ?_
      exact k
    · have k := k.2 cc
      refine ob_aload_n d_X9_changes_99 rfl ?_
      refine ob_getR d_X9_changes_100 fl_X9_42 sh_53 rfl rfl ?_
      refine ob_iload_n d_X9_changes_103 rfl ?_
      refine ob_iload_n d_X9_changes_104 rfl ?_
      obtain ⟨hin, k⟩ := k
      refine ob_iast d_X9_changes_105 sh_63 hin ?_
      refine ob_iconst (v := 1) d_X9_changes_106 ci_1 ?_
      exact ob_zret d_X9_changes_107 rfl rfl ⟨_, rfl, k⟩
  · have k := k.2 cc
    refine ob_aload_n d_X9_changes_36 rfl ?_
    refine ob_getR d_X9_changes_37 fl_X9_38 sh_53 rfl rfl ?_
    refine ob_iload_n d_X9_changes_40 rfl ?_
    obtain ⟨hin, k⟩ := k
    refine ob_zald d_X9_changes_41 sh_62 hin ?_
    refine ob_if_eq (tgt := 69) d_X9_changes_42 rfl (fun cc => ?_) (fun cc => ?_)
    · have k := k.1 cc
      exact k
    · have k := k.2 cc
      refine ob_iload_n d_X9_changes_45 rfl ?_
      refine ob_iload_n d_X9_changes_46 rfl ?_
      refine ob_icmp_eq (tgt := 69) d_X9_changes_47 rfl (fun cc => ?_) (fun cc => ?_)
      · have k := k.1 cc
        exact k
      · have k := k.2 cc
        refine ob_aload_n d_X9_changes_50 rfl ?_
        refine ob_iload_n d_X9_changes_51 rfl ?_
        refine ob_iload_n d_X9_changes_52 rfl ?_
        refine ob_callV [.int x1, .int x3] (z := oX9_worthTo) (st := []) d_X9_changes_53 lk_X9_316 mv_X9_worthTo rfl sh_53 cl_9 rfl (Nat.le_of_ble_eq_true rfl) rfl k (ob_kI fun v2 σ1 k => ?_)
        refine ob_aload_n d_X9_changes_56 rfl ?_
        refine ob_iload_n d_X9_changes_57 rfl ?_
        refine ob_iload_n d_X9_changes_58 rfl ?_
        refine ob_callV [.int x1, .int x2] (z := oX9_worthTo) (st := [.int v2]) d_X9_changes_59 lk_X9_316 mv_X9_worthTo rfl sh_53 cl_9 rfl (Nat.le_of_ble_eq_true rfl) rfl k (ob_kI fun v4 σ3 k => ?_)
        refine ob_icmp_le (tgt := 69) d_X9_changes_62 rfl (fun cc => ?_) (fun cc => ?_)
        · have k := k.1 cc
          exact k
        · have k := k.2 cc
          refine ob_iconst (v := 1) d_X9_changes_65 ci_1 ?_
          refine ob_goto (tgt := 70) d_X9_changes_66 rfl ?_
          exact k
theorem b_X9_changes_69 {E : ob_E} {σ : ob_Mem} {Q : Int32 → ob_Mem → Prop} {x1 x2 x3 : Int32} (k : ob_RT shp E oX9_changes 70 [.ref 53, .int x1, .int x2, .int x3, .null] [.int (0 : Int32)] σ (ob_qI Q)) : ob_RT shp E oX9_changes 69 [.ref 53, .int x1, .int x2, .int x3, .null] [] σ (ob_qI Q) := by
  refine ob_iconst (v := 0) d_X9_changes_69 ci_0 ?_
  exact k
theorem b_X9_changes_70 {E : ob_E} {σ : ob_Mem} {Q : Int32 → ob_Mem → Prop} {x1 x2 x3 s0 : Int32} (k : ((s0 = 0 → ob_RT shp E oX9_changes 28 [.ref 53, .int x1, .int x2, .int (x3 + (1 : Int32)), .null] [] σ (ob_qI Q)) ∧ (¬ s0 = 0 → ob_RT shp E oX9_changes 28 [.ref 53, .int x1, .int x3, .int (x3 + (1 : Int32)), .null] [] σ (ob_qI Q)))) : ob_RT shp E oX9_changes 70 [.ref 53, .int x1, .int x2, .int x3, .null] [.int s0] σ (ob_qI Q) := by
  refine ob_istore (ls' := [.ref 53, .int x1, .int x2, .int x3, .int s0]) d_X9_changes_70 (Nat.le_of_ble_eq_true rfl) rfl ?_
  refine ob_iload d_X9_changes_72 rfl ?_
  refine ob_if_eq (tgt := 81) d_X9_changes_74 rfl (fun cc => ?_) (fun cc => ?_)
  · have k := k.1 cc
    refine ob_iload_n d_X9_changes_81 rfl ?_
    refine ob_istore_n (ls' := [.ref 53, .int x1, .int x2, .int x3, .int s0]) d_X9_changes_82 (Nat.le_of_ble_eq_true rfl) rfl ?_
    refine ob_iinc (ls' := [.ref 53, .int x1, .int x2, .int (x3 + (1 : Int32)), .int s0]) (v := 1) d_X9_changes_83 rfl ci_1 (Nat.le_of_ble_eq_true rfl) rfl ?_
    refine ob_goto (tgt := 28) d_X9_changes_86 rfl ?_
    refine ob_drop 4 (ls' := [.ref 53, .int x1, .int x2, .int (x3 + (1 : Int32)), .null]) rfl ?_
    exact k
  · have k := k.2 cc
    refine ob_iload_n d_X9_changes_77 rfl ?_
    refine ob_goto (tgt := 82) d_X9_changes_78 rfl ?_
    refine ob_istore_n (ls' := [.ref 53, .int x1, .int x3, .int x3, .int s0]) d_X9_changes_82 (Nat.le_of_ble_eq_true rfl) rfl ?_
    refine ob_iinc (ls' := [.ref 53, .int x1, .int x3, .int (x3 + (1 : Int32)), .int s0]) (v := 1) d_X9_changes_83 rfl ci_1 (Nat.le_of_ble_eq_true rfl) rfl ?_
    refine ob_goto (tgt := 28) d_X9_changes_86 rfl ?_
    refine ob_drop 4 (ls' := [.ref 53, .int x1, .int x3, .int (x3 + (1 : Int32)), .null]) rfl ?_
    exact k
theorem d_X9_wrongWithout_0 : decode oX9_wrongWithout.2.1 0 = .ok (.iconst 0, 1) := by decide +kernel
theorem d_X9_wrongWithout_1 : decode oX9_wrongWithout.2.1 1 = .ok (.istore_n 2, 1) := by decide +kernel
theorem d_X9_wrongWithout_2 : decode oX9_wrongWithout.2.1 2 = .ok (.iload_n 2, 1) := by decide +kernel
theorem d_X9_wrongWithout_3 : decode oX9_wrongWithout.2.1 3 = .ok (.aload_n 0, 1) := by decide +kernel
theorem d_X9_wrongWithout_4 : decode oX9_wrongWithout.2.1 4 = .ok (.getfield 221, 3) := by decide +kernel
theorem d_X9_wrongWithout_7 : decode oX9_wrongWithout.2.1 7 = .ok (.if_icmp .ge 37, 3) := by decide +kernel
theorem d_X9_wrongWithout_10 : decode oX9_wrongWithout.2.1 10 = .ok (.aload_n 0, 1) := by decide +kernel
theorem d_X9_wrongWithout_11 : decode oX9_wrongWithout.2.1 11 = .ok (.aload_n 0, 1) := by decide +kernel
theorem d_X9_wrongWithout_12 : decode oX9_wrongWithout.2.1 12 = .ok (.getfield 93, 3) := by decide +kernel
theorem d_X9_wrongWithout_15 : decode oX9_wrongWithout.2.1 15 = .ok (.iload_n 2, 1) := by decide +kernel
theorem d_X9_wrongWithout_16 : decode oX9_wrongWithout.2.1 16 = .ok (.iaload, 1) := by decide +kernel
theorem d_X9_wrongWithout_17 : decode oX9_wrongWithout.2.1 17 = .ok (.aload_n 0, 1) := by decide +kernel
theorem d_X9_wrongWithout_18 : decode oX9_wrongWithout.2.1 18 = .ok (.getfield 96, 3) := by decide +kernel
theorem d_X9_wrongWithout_21 : decode oX9_wrongWithout.2.1 21 = .ok (.iload_n 2, 1) := by decide +kernel
theorem d_X9_wrongWithout_22 : decode oX9_wrongWithout.2.1 22 = .ok (.iaload, 1) := by decide +kernel
theorem d_X9_wrongWithout_23 : decode oX9_wrongWithout.2.1 23 = .ok (.iload_n 1, 1) := by decide +kernel
theorem d_X9_wrongWithout_24 : decode oX9_wrongWithout.2.1 24 = .ok (.invokevirtual 295, 3) := by decide +kernel
theorem d_X9_wrongWithout_27 : decode oX9_wrongWithout.2.1 27 = .ok (.aload_n 0, 1) := by decide +kernel
theorem d_X9_wrongWithout_28 : decode oX9_wrongWithout.2.1 28 = .ok (.getfield 99, 3) := by decide +kernel
theorem d_X9_wrongWithout_31 : decode oX9_wrongWithout.2.1 31 = .ok (.iload_n 2, 1) := by decide +kernel
theorem d_X9_wrongWithout_32 : decode oX9_wrongWithout.2.1 32 = .ok (.iaload, 1) := by decide +kernel
theorem d_X9_wrongWithout_33 : decode oX9_wrongWithout.2.1 33 = .ok (.if_icmp .eq 5, 3) := by decide +kernel
theorem d_X9_wrongWithout_36 : decode oX9_wrongWithout.2.1 36 = .ok (.iload_n 2, 1) := by decide +kernel
theorem d_X9_wrongWithout_37 : decode oX9_wrongWithout.2.1 37 = .ok (.ireturn, 1) := by decide +kernel
theorem d_X9_wrongWithout_38 : decode oX9_wrongWithout.2.1 38 = .ok (.iinc 2 1, 3) := by decide +kernel
theorem d_X9_wrongWithout_41 : decode oX9_wrongWithout.2.1 41 = .ok (.goto (-39), 3) := by decide +kernel
theorem d_X9_wrongWithout_44 : decode oX9_wrongWithout.2.1 44 = .ok (.iconst (-1), 1) := by decide +kernel
theorem d_X9_wrongWithout_45 : decode oX9_wrongWithout.2.1 45 = .ok (.ireturn, 1) := by decide +kernel
theorem b_X9_wrongWithout_0 {E : ob_E} {σ : ob_Mem} {Q : Int32 → ob_Mem → Prop} {x1 : Int32} (k : ob_RT shp E oX9_wrongWithout 2 [.ref 53, .int x1, .int (0 : Int32)] [] σ (ob_qI Q)) : ob_RT shp E oX9_wrongWithout 0 [.ref 53, .int x1, .null] [] σ (ob_qI Q) := by
  refine ob_iconst (v := 0) d_X9_wrongWithout_0 ci_0 ?_
  refine ob_istore_n (ls' := [.ref 53, .int x1, .int (0 : Int32)]) d_X9_wrongWithout_1 (Nat.le_of_ble_eq_true rfl) rfl ?_
  exact k
theorem b_X9_wrongWithout_2 {E : ob_E} {σ : ob_Mem} {Q : Int32 → ob_Mem → Prop} {x1 x2 : Int32} (k : (((σ.1 53 42) ≤ x2 → Q (-1 : Int32) σ) ∧ (¬ (σ.1 53 42) ≤ x2 → (vp_in x2 20 ∧ (vp_in x2 20 ∧ ob_RM shp E oX9_ageIn [.ref 53, .int (σ.1 79 (x2).toNatClampNeg), .int (σ.1 80 (x2).toNatClampNeg), .int x1] σ (ob_qI fun v2 σ1 => (vp_in x2 20 ∧ ((v2 = (σ1.1 81 (x2).toNatClampNeg) → ob_RT shp E oX9_wrongWithout 2 [.ref 53, .int x1, .int (x2 + (1 : Int32))] [] σ1 (ob_qI Q)) ∧ (¬ v2 = (σ1.1 81 (x2).toNatClampNeg) → Q x2 σ1))))))))) : ob_RT shp E oX9_wrongWithout 2 [.ref 53, .int x1, .int x2] [] σ (ob_qI Q) := by
  refine ob_iload_n d_X9_wrongWithout_2 rfl ?_
  refine ob_aload_n d_X9_wrongWithout_3 rfl ?_
  refine ob_getI d_X9_wrongWithout_4 fl_X9_221 sh_53 rfl (by decide) ?_
  refine ob_icmp_ge (tgt := 44) d_X9_wrongWithout_7 rfl (fun cc => ?_) (fun cc => ?_)
  · have k := k.1 cc
    refine ob_iconst (v := -1) d_X9_wrongWithout_44 ci_m1 ?_
    exact ob_iret d_X9_wrongWithout_45 rfl ⟨_, rfl, k⟩
  · have k := k.2 cc
    refine ob_aload_n d_X9_wrongWithout_10 rfl ?_
    refine ob_aload_n d_X9_wrongWithout_11 rfl ?_
    refine ob_getR d_X9_wrongWithout_12 fl_X9_93 sh_53 rfl rfl ?_
    refine ob_iload_n d_X9_wrongWithout_15 rfl ?_
    obtain ⟨hin, k⟩ := k
    refine ob_iald d_X9_wrongWithout_16 sh_79 hin ?_
    refine ob_aload_n d_X9_wrongWithout_17 rfl ?_
    refine ob_getR d_X9_wrongWithout_18 fl_X9_96 sh_53 rfl rfl ?_
    refine ob_iload_n d_X9_wrongWithout_21 rfl ?_
    obtain ⟨hin, k⟩ := k
    refine ob_iald d_X9_wrongWithout_22 sh_80 hin ?_
    refine ob_iload_n d_X9_wrongWithout_23 rfl ?_
    refine ob_callV [.int (σ.1 79 (x2).toNatClampNeg), .int (σ.1 80 (x2).toNatClampNeg), .int x1] (z := oX9_ageIn) (st := []) d_X9_wrongWithout_24 lk_X9_295 mv_X9_ageIn rfl sh_53 cl_9 rfl (Nat.le_of_ble_eq_true rfl) rfl k (ob_kI fun v2 σ1 k => ?_)
    refine ob_aload_n d_X9_wrongWithout_27 rfl ?_
    refine ob_getR d_X9_wrongWithout_28 fl_X9_99 sh_53 rfl rfl ?_
    refine ob_iload_n d_X9_wrongWithout_31 rfl ?_
    obtain ⟨hin, k⟩ := k
    refine ob_iald d_X9_wrongWithout_32 sh_81 hin ?_
    refine ob_icmp_eq (tgt := 38) d_X9_wrongWithout_33 rfl (fun cc => ?_) (fun cc => ?_)
    · have k := k.1 cc
      refine ob_iinc (ls' := [.ref 53, .int x1, .int (x2 + (1 : Int32))]) (v := 1) d_X9_wrongWithout_38 rfl ci_1 (Nat.le_of_ble_eq_true rfl) rfl ?_
      refine ob_goto (tgt := 2) d_X9_wrongWithout_41 rfl ?_
      exact k
    · have k := k.2 cc
      refine ob_iload_n d_X9_wrongWithout_36 rfl ?_
      exact ob_iret d_X9_wrongWithout_37 rfl ⟨_, rfl, k⟩
theorem d_X9_draw_0 : decode oX9_draw.2.1 0 = .ok (.aload_n 0, 1) := by decide +kernel
theorem d_X9_draw_1 : decode oX9_draw.2.1 1 = .ok (.aload_n 0, 1) := by decide +kernel
theorem d_X9_draw_2 : decode oX9_draw.2.1 2 = .ok (.getfield 326, 3) := by decide +kernel
theorem d_X9_draw_5 : decode oX9_draw.2.1 5 = .ok (.i2l, 1) := by decide +kernel
theorem d_X9_draw_6 : decode oX9_draw.2.1 6 = .ok (.ldc2_w 329, 3) := by decide +kernel
theorem d_X9_draw_9 : decode oX9_draw.2.1 9 = .ok (.lmul, 1) := by decide +kernel
theorem d_X9_draw_10 : decode oX9_draw.2.1 10 = .ok (.ldc2_w 331, 3) := by decide +kernel
theorem d_X9_draw_13 : decode oX9_draw.2.1 13 = .ok (.ladd, 1) := by decide +kernel
theorem d_X9_draw_14 : decode oX9_draw.2.1 14 = .ok (.ldc2_w 333, 3) := by decide +kernel
theorem d_X9_draw_17 : decode oX9_draw.2.1 17 = .ok (.lrem, 1) := by decide +kernel
theorem d_X9_draw_18 : decode oX9_draw.2.1 18 = .ok (.l2i, 1) := by decide +kernel
theorem d_X9_draw_19 : decode oX9_draw.2.1 19 = .ok (.putfield 326, 3) := by decide +kernel
theorem d_X9_draw_22 : decode oX9_draw.2.1 22 = .ok (.aload_n 0, 1) := by decide +kernel
theorem d_X9_draw_23 : decode oX9_draw.2.1 23 = .ok (.getfield 326, 3) := by decide +kernel
theorem d_X9_draw_26 : decode oX9_draw.2.1 26 = .ok (.ldc_w 335, 3) := by decide +kernel
theorem d_X9_draw_29 : decode oX9_draw.2.1 29 = .ok (.idiv, 1) := by decide +kernel
theorem d_X9_draw_30 : decode oX9_draw.2.1 30 = .ok (.iload_n 1, 1) := by decide +kernel
theorem d_X9_draw_31 : decode oX9_draw.2.1 31 = .ok (.irem, 1) := by decide +kernel
theorem d_X9_draw_32 : decode oX9_draw.2.1 32 = .ok (.ireturn, 1) := by decide +kernel
theorem b_X9_draw_0 {E : ob_E} {σ : ob_Mem} {Q : Int32 → ob_Mem → Prop} {x1 : Int32} (k : (∀ σ1, σ1 = (ob_wI σ 53 16 ((ob_remL ((((σ.1 53 16)).toInt64 * (1103515245 : Int64)) + (12345 : Int64)) (2147483648 : Int64))).toInt32) → (¬ x1 = 0 ∧ Q (ob_rem ((σ1.1 53 16) / (65536 : Int32)) x1) σ1))) : ob_RT shp E oX9_draw 0 [.ref 53, .int x1] [] σ (ob_qI Q) := by
  refine ob_aload_n d_X9_draw_0 rfl ?_
  refine ob_aload_n d_X9_draw_1 rfl ?_
  refine ob_getI d_X9_draw_2 fl_X9_326 sh_53 rfl (by decide) ?_
  refine ob_i2l d_X9_draw_5 ?_
  refine ob_ldc2 (v := 1103515245) d_X9_draw_6 k_X9_329 ?_
  refine ob_lmul d_X9_draw_9 ?_
  refine ob_ldc2 (v := 12345) d_X9_draw_10 k_X9_331 ?_
  refine ob_ladd d_X9_draw_13 ?_
  refine ob_ldc2 (v := 2147483648) d_X9_draw_14 k_X9_333 ?_
  refine ob_lrem d_X9_draw_17 (by decide) ?_
  refine ob_l2i d_X9_draw_18 ?_
  refine ob_putI d_X9_draw_19 fp_X9_326 sh_53 rfl rfl ?_
  refine ob_nmM (fun σ1 hσ1 => ?_)
  have k := k σ1 hσ1
  refine ob_aload_n d_X9_draw_22 rfl ?_
  refine ob_getI d_X9_draw_23 fl_X9_326 sh_53 rfl (by decide) ?_
  refine ob_ldcw (v := 65536) d_X9_draw_26 k_X9_335 ?_
  refine ob_idiv d_X9_draw_29 (by decide) ?_
  refine ob_iload_n d_X9_draw_30 rfl ?_
  obtain ⟨hne, k⟩ := k
  refine ob_irem d_X9_draw_31 hne ?_
  exact ob_iret d_X9_draw_32 rfl ⟨_, rfl, k⟩
theorem d_X9_readWord_0 : decode oX9_readWord.2.1 0 = .ok (.aload_n 0, 1) := by decide +kernel
theorem d_X9_readWord_1 : decode oX9_readWord.2.1 1 = .ok (.invokevirtual 133, 3) := by decide +kernel
theorem d_X9_readWord_4 : decode oX9_readWord.2.1 4 = .ok (.istore_n 1, 1) := by decide +kernel
theorem d_X9_readWord_5 : decode oX9_readWord.2.1 5 = .ok (.aload_n 0, 1) := by decide +kernel
theorem d_X9_readWord_6 : decode oX9_readWord.2.1 6 = .ok (.lconst 0, 1) := by decide +kernel
theorem d_X9_readWord_7 : decode oX9_readWord.2.1 7 = .ok (.putfield 137, 3) := by decide +kernel
theorem d_X9_readWord_10 : decode oX9_readWord.2.1 10 = .ok (.aload_n 0, 1) := by decide +kernel
theorem d_X9_readWord_11 : decode oX9_readWord.2.1 11 = .ok (.aload_n 0, 1) := by decide +kernel
theorem d_X9_readWord_12 : decode oX9_readWord.2.1 12 = .ok (.getfield 130, 3) := by decide +kernel
theorem d_X9_readWord_15 : decode oX9_readWord.2.1 15 = .ok (.putfield 141, 3) := by decide +kernel
theorem d_X9_readWord_18 : decode oX9_readWord.2.1 18 = .ok (.aload_n 0, 1) := by decide +kernel
theorem d_X9_readWord_19 : decode oX9_readWord.2.1 19 = .ok (.getfield 141, 3) := by decide +kernel
theorem d_X9_readWord_22 : decode oX9_readWord.2.1 22 = .ok (.aload_n 0, 1) := by decide +kernel
theorem d_X9_readWord_23 : decode oX9_readWord.2.1 23 = .ok (.getfield 124, 3) := by decide +kernel
theorem d_X9_readWord_26 : decode oX9_readWord.2.1 26 = .ok (.if_icmp .ge 82, 3) := by decide +kernel
theorem d_X9_readWord_29 : decode oX9_readWord.2.1 29 = .ok (.aload_n 0, 1) := by decide +kernel
theorem d_X9_readWord_30 : decode oX9_readWord.2.1 30 = .ok (.getfield 51, 3) := by decide +kernel
theorem d_X9_readWord_33 : decode oX9_readWord.2.1 33 = .ok (.aload_n 0, 1) := by decide +kernel
theorem d_X9_readWord_34 : decode oX9_readWord.2.1 34 = .ok (.getfield 141, 3) := by decide +kernel
theorem d_X9_readWord_37 : decode oX9_readWord.2.1 37 = .ok (.iaload, 1) := by decide +kernel
theorem d_X9_readWord_38 : decode oX9_readWord.2.1 38 = .ok (.i2l, 1) := by decide +kernel
theorem d_X9_readWord_39 : decode oX9_readWord.2.1 39 = .ok (.ldc2_w 144, 3) := by decide +kernel
theorem d_X9_readWord_42 : decode oX9_readWord.2.1 42 = .ok (.ldc2_w 146, 3) := by decide +kernel
theorem d_X9_readWord_45 : decode oX9_readWord.2.1 45 = .ok (.invokestatic 111, 3) := by decide +kernel
theorem d_X9_readWord_48 : decode oX9_readWord.2.1 48 = .ok (.ifCond .eq 60, 3) := by decide +kernel
theorem d_X9_readWord_51 : decode oX9_readWord.2.1 51 = .ok (.aload_n 0, 1) := by decide +kernel
theorem d_X9_readWord_52 : decode oX9_readWord.2.1 52 = .ok (.aload_n 0, 1) := by decide +kernel
theorem d_X9_readWord_53 : decode oX9_readWord.2.1 53 = .ok (.getfield 137, 3) := by decide +kernel
theorem d_X9_readWord_56 : decode oX9_readWord.2.1 56 = .ok (.ldc2_w 148, 3) := by decide +kernel
theorem d_X9_readWord_59 : decode oX9_readWord.2.1 59 = .ok (.lcmp, 1) := by decide +kernel
theorem d_X9_readWord_60 : decode oX9_readWord.2.1 60 = .ok (.ifCond .le 9, 3) := by decide +kernel
theorem d_X9_readWord_63 : decode oX9_readWord.2.1 63 = .ok (.ldc2_w 150, 3) := by decide +kernel
theorem d_X9_readWord_66 : decode oX9_readWord.2.1 66 = .ok (.goto 26, 3) := by decide +kernel
theorem d_X9_readWord_69 : decode oX9_readWord.2.1 69 = .ok (.ldc2_w 152, 3) := by decide +kernel
theorem d_X9_readWord_72 : decode oX9_readWord.2.1 72 = .ok (.aload_n 0, 1) := by decide +kernel
theorem d_X9_readWord_73 : decode oX9_readWord.2.1 73 = .ok (.getfield 137, 3) := by decide +kernel
theorem d_X9_readWord_76 : decode oX9_readWord.2.1 76 = .ok (.lmul, 1) := by decide +kernel
theorem d_X9_readWord_77 : decode oX9_readWord.2.1 77 = .ok (.aload_n 0, 1) := by decide +kernel
theorem d_X9_readWord_78 : decode oX9_readWord.2.1 78 = .ok (.getfield 51, 3) := by decide +kernel
theorem d_X9_readWord_81 : decode oX9_readWord.2.1 81 = .ok (.aload_n 0, 1) := by decide +kernel
theorem d_X9_readWord_82 : decode oX9_readWord.2.1 82 = .ok (.getfield 141, 3) := by decide +kernel
theorem d_X9_readWord_85 : decode oX9_readWord.2.1 85 = .ok (.iaload, 1) := by decide +kernel
theorem d_X9_readWord_86 : decode oX9_readWord.2.1 86 = .ok (.i2l, 1) := by decide +kernel
theorem d_X9_readWord_87 : decode oX9_readWord.2.1 87 = .ok (.ladd, 1) := by decide +kernel
theorem d_X9_readWord_88 : decode oX9_readWord.2.1 88 = .ok (.ldc2_w 154, 3) := by decide +kernel
theorem d_X9_readWord_91 : decode oX9_readWord.2.1 91 = .ok (.lsub, 1) := by decide +kernel
theorem d_X9_readWord_92 : decode oX9_readWord.2.1 92 = .ok (.putfield 137, 3) := by decide +kernel
theorem d_X9_readWord_95 : decode oX9_readWord.2.1 95 = .ok (.aload_n 0, 1) := by decide +kernel
theorem d_X9_readWord_96 : decode oX9_readWord.2.1 96 = .ok (.dup, 1) := by decide +kernel
theorem d_X9_readWord_97 : decode oX9_readWord.2.1 97 = .ok (.getfield 141, 3) := by decide +kernel
theorem d_X9_readWord_100 : decode oX9_readWord.2.1 100 = .ok (.iconst 1, 1) := by decide +kernel
theorem d_X9_readWord_101 : decode oX9_readWord.2.1 101 = .ok (.iadd, 1) := by decide +kernel
theorem d_X9_readWord_102 : decode oX9_readWord.2.1 102 = .ok (.putfield 141, 3) := by decide +kernel
theorem d_X9_readWord_105 : decode oX9_readWord.2.1 105 = .ok (.goto (-87), 3) := by decide +kernel
theorem d_X9_readWord_108 : decode oX9_readWord.2.1 108 = .ok (.return_, 1) := by decide +kernel
theorem b_X9_readWord_0 {E : ob_E} {σ : ob_Mem} {Q : ob_Mem → Prop} (k : ob_RM shp E oX9_here [.ref 53] σ (ob_qI fun v2 σ1 => ob_RT shp E oX9_readWord 18 [.ref 53, .int v2] [] (ob_wI (ob_wL σ1 53 21 (0 : Int64)) 53 22 ((ob_wL σ1 53 21 (0 : Int64)).1 53 20)) (ob_qV Q))) : ob_RT shp E oX9_readWord 0 [.ref 53, .null] [] σ (ob_qV Q) := by
  refine ob_aload_n d_X9_readWord_0 rfl ?_
  refine ob_callV [] (z := oX9_here) (st := []) d_X9_readWord_1 lk_X9_133 mv_X9_here rfl sh_53 cl_9 rfl (Nat.le_of_ble_eq_true rfl) rfl k (ob_kI fun v2 σ1 k => ?_)
  refine ob_istore_n (ls' := [.ref 53, .int v2]) d_X9_readWord_4 (Nat.le_of_ble_eq_true rfl) rfl ?_
  refine ob_aload_n d_X9_readWord_5 rfl ?_
  refine ob_lconst (v := 0) d_X9_readWord_6 rfl ?_
  refine ob_putL d_X9_readWord_7 fp_X9_137 sh_53 rfl rfl ?_
  refine ob_aload_n d_X9_readWord_10 rfl ?_
  refine ob_aload_n d_X9_readWord_11 rfl ?_
  refine ob_getI d_X9_readWord_12 fl_X9_130 sh_53 rfl (by decide) ?_
  refine ob_putI d_X9_readWord_15 fp_X9_141 sh_53 rfl rfl ?_
  exact k
theorem b_X9_readWord_18 {E : ob_E} {σ : ob_Mem} {Q : ob_Mem → Prop} {x1 : Int32} (k : (((σ.1 53 18) ≤ (σ.1 53 22) → Q σ) ∧ (¬ (σ.1 53 18) ≤ (σ.1 53 22) → (vp_in (σ.1 53 22) 500 ∧ ob_RM shp E oX9_in [.long ((σ.1 66 ((σ.1 53 22)).toNatClampNeg)).toInt64, .long (97 : Int64), .long (122 : Int64)] σ (ob_qI fun v2 σ1 => ((v2 = 0 → Q σ1) ∧ (¬ v2 = 0 → (((σ1.2 53 21) ≤ (100000000000000 : Int64) → (vp_in (σ1.1 53 22) 500 ∧ (∀ σ3, σ3 = (ob_wL σ1 53 21 ((((27 : Int64) * (σ1.2 53 21)) + ((σ1.1 66 ((σ1.1 53 22)).toNatClampNeg)).toInt64) - (96 : Int64))) → ob_RT shp E oX9_readWord 18 [.ref 53, .int x1] [] (ob_wI σ3 53 22 ((σ3.1 53 22) + (1 : Int32))) (ob_qV Q)))) ∧ (¬ (σ1.2 53 21) ≤ (100000000000000 : Int64) → (∀ σ4, σ4 = (ob_wI (ob_wL σ1 53 21 (200000000000000 : Int64)) 53 22 (((ob_wL σ1 53 21 (200000000000000 : Int64)).1 53 22) + (1 : Int32))) → ob_RT shp E oX9_readWord 18 [.ref 53, .int x1] [] σ4 (ob_qV Q))))))))))) : ob_RT shp E oX9_readWord 18 [.ref 53, .int x1] [] σ (ob_qV Q) := by
  refine ob_aload_n d_X9_readWord_18 rfl ?_
  refine ob_getI d_X9_readWord_19 fl_X9_141 sh_53 rfl (by decide) ?_
  refine ob_aload_n d_X9_readWord_22 rfl ?_
  refine ob_getI d_X9_readWord_23 fl_X9_124 sh_53 rfl (by decide) ?_
  refine ob_icmp_ge (tgt := 108) d_X9_readWord_26 rfl (fun cc => ?_) (fun cc => ?_)
  · have k := k.1 cc
    exact ob_vret d_X9_readWord_108 rfl ⟨rfl, k⟩
  · have k := k.2 cc
    refine ob_aload_n d_X9_readWord_29 rfl ?_
    refine ob_getR d_X9_readWord_30 fl_X9_51 sh_53 rfl rfl ?_
    refine ob_aload_n d_X9_readWord_33 rfl ?_
    refine ob_getI d_X9_readWord_34 fl_X9_141 sh_53 rfl (by decide) ?_
    obtain ⟨hin, k⟩ := k
    refine ob_iald d_X9_readWord_37 sh_66 hin ?_
    refine ob_i2l d_X9_readWord_38 ?_
    refine ob_ldc2 (v := 97) d_X9_readWord_39 k_X9_144 ?_
    refine ob_ldc2 (v := 122) d_X9_readWord_42 k_X9_146 ?_
    refine ob_callS [.long ((σ.1 66 ((σ.1 53 22)).toNatClampNeg)).toInt64, .long (97 : Int64), .long (122 : Int64)] (z := oX9_in) (st := []) d_X9_readWord_45 lk_X9_111 ms_X9_in rfl (Nat.le_of_ble_eq_true rfl) rfl k (ob_kI fun v2 σ1 k => ?_)
    refine ob_if_eq (tgt := 108) d_X9_readWord_48 rfl (fun cc => ?_) (fun cc => ?_)
    · have k := k.1 cc
      exact ob_vret d_X9_readWord_108 rfl ⟨rfl, k⟩
    · have k := k.2 cc
      refine ob_aload_n d_X9_readWord_51 rfl ?_
      refine ob_aload_n d_X9_readWord_52 rfl ?_
      refine ob_getL d_X9_readWord_53 fl_X9_137 sh_53 rfl rfl ?_
      refine ob_ldc2 (v := 100000000000000) d_X9_readWord_56 k_X9_148 ?_
      refine ob_lcmp d_X9_readWord_59 ?_
      refine ob_if_le (tgt := 69) d_X9_readWord_60 rfl (fun cc => ?_) (fun cc => ?_)
      · have k := k.1 (ob_c_le.mp cc)
        refine ob_ldc2 (v := 27) d_X9_readWord_69 k_X9_152 ?_
        refine ob_aload_n d_X9_readWord_72 rfl ?_
        refine ob_getL d_X9_readWord_73 fl_X9_137 sh_53 rfl rfl ?_
        refine ob_lmul d_X9_readWord_76 ?_
        refine ob_aload_n d_X9_readWord_77 rfl ?_
        refine ob_getR d_X9_readWord_78 fl_X9_51 sh_53 rfl rfl ?_
        refine ob_aload_n d_X9_readWord_81 rfl ?_
        refine ob_getI d_X9_readWord_82 fl_X9_141 sh_53 rfl (by decide) ?_
        obtain ⟨hin, k⟩ := k
        refine ob_iald d_X9_readWord_85 sh_66 hin ?_
        refine ob_i2l d_X9_readWord_86 ?_
        refine ob_ladd d_X9_readWord_87 ?_
        refine ob_ldc2 (v := 96) d_X9_readWord_88 k_X9_154 ?_
        refine ob_lsub d_X9_readWord_91 ?_
        refine ob_putL d_X9_readWord_92 fp_X9_137 sh_53 rfl rfl ?_
        refine ob_nmM (fun σ3 hσ3 => ?_)
        have k := k σ3 hσ3
        refine ob_aload_n d_X9_readWord_95 rfl ?_
        refine ob_dup d_X9_readWord_96 rfl ?_
        refine ob_getI d_X9_readWord_97 fl_X9_141 sh_53 rfl (by decide) ?_
        refine ob_iconst (v := 1) d_X9_readWord_100 ci_1 ?_
        refine ob_iadd d_X9_readWord_101 ?_
        refine ob_putI d_X9_readWord_102 fp_X9_141 sh_53 rfl rfl ?_
        refine ob_goto (tgt := 18) d_X9_readWord_105 rfl ?_
        exact k
      · have k := k.2 (mt ob_c_le.mpr cc)
        refine ob_ldc2 (v := 200000000000000) d_X9_readWord_63 k_X9_150 ?_
        refine ob_goto (tgt := 92) d_X9_readWord_66 rfl ?_
        refine ob_putL d_X9_readWord_92 fp_X9_137 sh_53 rfl rfl ?_
        refine ob_aload_n d_X9_readWord_95 rfl ?_
        refine ob_dup d_X9_readWord_96 rfl ?_
        refine ob_getI d_X9_readWord_97 fl_X9_141 sh_53 rfl (by decide) ?_
        refine ob_iconst (v := 1) d_X9_readWord_100 ci_1 ?_
        refine ob_iadd d_X9_readWord_101 ?_
        refine ob_putI d_X9_readWord_102 fp_X9_141 sh_53 rfl rfl ?_
        refine ob_nmM (fun σ4 hσ4 => ?_)
        have k := k σ4 hσ4
        refine ob_goto (tgt := 18) d_X9_readWord_105 rfl ?_
        exact k
theorem d_X9_code_0 : decode oX9_code.2.1 0 = .ok (.ldc2_w 152, 3) := by decide +kernel
theorem d_X9_code_3 : decode oX9_code.2.1 3 = .ok (.ldc2_w 152, 3) := by decide +kernel
theorem d_X9_code_6 : decode oX9_code.2.1 6 = .ok (.ldc2_w 152, 3) := by decide +kernel
theorem d_X9_code_9 : decode oX9_code.2.1 9 = .ok (.iload_n 0, 1) := by decide +kernel
theorem d_X9_code_10 : decode oX9_code.2.1 10 = .ok (.i2l, 1) := by decide +kernel
theorem d_X9_code_11 : decode oX9_code.2.1 11 = .ok (.ldc2_w 154, 3) := by decide +kernel
theorem d_X9_code_14 : decode oX9_code.2.1 14 = .ok (.lsub, 1) := by decide +kernel
theorem d_X9_code_15 : decode oX9_code.2.1 15 = .ok (.lmul, 1) := by decide +kernel
theorem d_X9_code_16 : decode oX9_code.2.1 16 = .ok (.iload_n 1, 1) := by decide +kernel
theorem d_X9_code_17 : decode oX9_code.2.1 17 = .ok (.i2l, 1) := by decide +kernel
theorem d_X9_code_18 : decode oX9_code.2.1 18 = .ok (.ladd, 1) := by decide +kernel
theorem d_X9_code_19 : decode oX9_code.2.1 19 = .ok (.ldc2_w 154, 3) := by decide +kernel
theorem d_X9_code_22 : decode oX9_code.2.1 22 = .ok (.lsub, 1) := by decide +kernel
theorem d_X9_code_23 : decode oX9_code.2.1 23 = .ok (.lmul, 1) := by decide +kernel
theorem d_X9_code_24 : decode oX9_code.2.1 24 = .ok (.iload_n 2, 1) := by decide +kernel
theorem d_X9_code_25 : decode oX9_code.2.1 25 = .ok (.i2l, 1) := by decide +kernel
theorem d_X9_code_26 : decode oX9_code.2.1 26 = .ok (.ladd, 1) := by decide +kernel
theorem d_X9_code_27 : decode oX9_code.2.1 27 = .ok (.ldc2_w 154, 3) := by decide +kernel
theorem d_X9_code_30 : decode oX9_code.2.1 30 = .ok (.lsub, 1) := by decide +kernel
theorem d_X9_code_31 : decode oX9_code.2.1 31 = .ok (.lmul, 1) := by decide +kernel
theorem d_X9_code_32 : decode oX9_code.2.1 32 = .ok (.iload_n 3, 1) := by decide +kernel
theorem d_X9_code_33 : decode oX9_code.2.1 33 = .ok (.i2l, 1) := by decide +kernel
theorem d_X9_code_34 : decode oX9_code.2.1 34 = .ok (.ladd, 1) := by decide +kernel
theorem d_X9_code_35 : decode oX9_code.2.1 35 = .ok (.ldc2_w 154, 3) := by decide +kernel
theorem d_X9_code_38 : decode oX9_code.2.1 38 = .ok (.lsub, 1) := by decide +kernel
theorem d_X9_code_39 : decode oX9_code.2.1 39 = .ok (.lreturn, 1) := by decide +kernel
theorem b_X9_code_0 {E : ob_E} {σ : ob_Mem} {Q : Int64 → ob_Mem → Prop} {x0 x1 x2 x3 : Int32} (k : Q ((((27 : Int64) * ((((27 : Int64) * ((((27 : Int64) * ((x0).toInt64 - (96 : Int64))) + (x1).toInt64) - (96 : Int64))) + (x2).toInt64) - (96 : Int64))) + (x3).toInt64) - (96 : Int64)) σ) : ob_RT shp E oX9_code 0 [.int x0, .int x1, .int x2, .int x3] [] σ (ob_qL Q) := by
  refine ob_ldc2 (v := 27) d_X9_code_0 k_X9_152 ?_
  refine ob_ldc2 (v := 27) d_X9_code_3 k_X9_152 ?_
  refine ob_ldc2 (v := 27) d_X9_code_6 k_X9_152 ?_
  refine ob_iload_n d_X9_code_9 rfl ?_
  refine ob_i2l d_X9_code_10 ?_
  refine ob_ldc2 (v := 96) d_X9_code_11 k_X9_154 ?_
  refine ob_lsub d_X9_code_14 ?_
  refine ob_lmul d_X9_code_15 ?_
  refine ob_iload_n d_X9_code_16 rfl ?_
  refine ob_i2l d_X9_code_17 ?_
  refine ob_ladd d_X9_code_18 ?_
  refine ob_ldc2 (v := 96) d_X9_code_19 k_X9_154 ?_
  refine ob_lsub d_X9_code_22 ?_
  refine ob_lmul d_X9_code_23 ?_
  refine ob_iload_n d_X9_code_24 rfl ?_
  refine ob_i2l d_X9_code_25 ?_
  refine ob_ladd d_X9_code_26 ?_
  refine ob_ldc2 (v := 96) d_X9_code_27 k_X9_154 ?_
  refine ob_lsub d_X9_code_30 ?_
  refine ob_lmul d_X9_code_31 ?_
  refine ob_iload_n d_X9_code_32 rfl ?_
  refine ob_i2l d_X9_code_33 ?_
  refine ob_ladd d_X9_code_34 ?_
  refine ob_ldc2 (v := 96) d_X9_code_35 k_X9_154 ?_
  refine ob_lsub d_X9_code_38 ?_
  exact ob_lret d_X9_code_39 rfl ⟨_, rfl, k⟩
theorem d_X9_fails_0 : decode oX9_fails.2.1 0 = .ok (.aload_n 0, 1) := by decide +kernel
theorem d_X9_fails_1 : decode oX9_fails.2.1 1 = .ok (.iload_n 2, 1) := by decide +kernel
theorem d_X9_fails_2 : decode oX9_fails.2.1 2 = .ok (.putfield 54, 3) := by decide +kernel
theorem d_X9_fails_5 : decode oX9_fails.2.1 5 = .ok (.iload_n 1, 1) := by decide +kernel
theorem d_X9_fails_6 : decode oX9_fails.2.1 6 = .ok (.ireturn, 1) := by decide +kernel
theorem b_X9_fails_0 {E : ob_E} {σ : ob_Mem} {Q : Int32 → ob_Mem → Prop} {x1 x2 : Int32} (k : Q x1 (ob_wI σ 53 19 x2)) : ob_RT shp E oX9_fails 0 [.ref 53, .int x1, .int x2] [] σ (ob_qI Q) := by
  refine ob_aload_n d_X9_fails_0 rfl ?_
  refine ob_iload_n d_X9_fails_1 rfl ?_
  refine ob_putI d_X9_fails_2 fp_X9_54 sh_53 rfl rfl ?_
  refine ob_iload_n d_X9_fails_5 rfl ?_
  exact ob_iret d_X9_fails_6 rfl ⟨_, rfl, k⟩
theorem d_X9_takeGood_0 : decode oX9_takeGood.2.1 0 = .ok (.aload_n 0, 1) := by decide +kernel
theorem d_X9_takeGood_1 : decode oX9_takeGood.2.1 1 = .ok (.dup, 1) := by decide +kernel
theorem d_X9_takeGood_2 : decode oX9_takeGood.2.1 2 = .ok (.getfield 186, 3) := by decide +kernel
theorem d_X9_takeGood_5 : decode oX9_takeGood.2.1 5 = .ok (.iconst 1, 1) := by decide +kernel
theorem d_X9_takeGood_6 : decode oX9_takeGood.2.1 6 = .ok (.iadd, 1) := by decide +kernel
theorem d_X9_takeGood_7 : decode oX9_takeGood.2.1 7 = .ok (.putfield 186, 3) := by decide +kernel
theorem d_X9_takeGood_10 : decode oX9_takeGood.2.1 10 = .ok (.aload_n 0, 1) := by decide +kernel
theorem d_X9_takeGood_11 : decode oX9_takeGood.2.1 11 = .ok (.iconst 0, 1) := by decide +kernel
theorem d_X9_takeGood_12 : decode oX9_takeGood.2.1 12 = .ok (.bipush 120, 2) := by decide +kernel
theorem d_X9_takeGood_14 : decode oX9_takeGood.2.1 14 = .ok (.invokevirtual 170, 3) := by decide +kernel
theorem d_X9_takeGood_17 : decode oX9_takeGood.2.1 17 = .ok (.istore_n 1, 1) := by decide +kernel
theorem d_X9_takeGood_18 : decode oX9_takeGood.2.1 18 = .ok (.iload_n 1, 1) := by decide +kernel
theorem d_X9_takeGood_19 : decode oX9_takeGood.2.1 19 = .ok (.ifCond .le 5, 3) := by decide +kernel
theorem d_X9_takeGood_22 : decode oX9_takeGood.2.1 22 = .ok (.iload_n 1, 1) := by decide +kernel
theorem d_X9_takeGood_23 : decode oX9_takeGood.2.1 23 = .ok (.ireturn, 1) := by decide +kernel
theorem d_X9_takeGood_24 : decode oX9_takeGood.2.1 24 = .ok (.aload_n 0, 1) := by decide +kernel
theorem d_X9_takeGood_25 : decode oX9_takeGood.2.1 25 = .ok (.getfield 167, 3) := by decide +kernel
theorem d_X9_takeGood_28 : decode oX9_takeGood.2.1 28 = .ok (.istore_n 2, 1) := by decide +kernel
theorem d_X9_takeGood_29 : decode oX9_takeGood.2.1 29 = .ok (.aload_n 0, 1) := by decide +kernel
theorem d_X9_takeGood_30 : decode oX9_takeGood.2.1 30 = .ok (.getfield 72, 3) := by decide +kernel
theorem d_X9_takeGood_33 : decode oX9_takeGood.2.1 33 = .ok (.iload_n 2, 1) := by decide +kernel
theorem d_X9_takeGood_34 : decode oX9_takeGood.2.1 34 = .ok (.iaload, 1) := by decide +kernel
theorem d_X9_takeGood_35 : decode oX9_takeGood.2.1 35 = .ok (.ifCond .lt 15, 3) := by decide +kernel
theorem d_X9_takeGood_38 : decode oX9_takeGood.2.1 38 = .ok (.aload_n 0, 1) := by decide +kernel
theorem d_X9_takeGood_39 : decode oX9_takeGood.2.1 39 = .ok (.iconst 4, 1) := by decide +kernel
theorem d_X9_takeGood_40 : decode oX9_takeGood.2.1 40 = .ok (.aload_n 0, 1) := by decide +kernel
theorem d_X9_takeGood_41 : decode oX9_takeGood.2.1 41 = .ok (.getfield 164, 3) := by decide +kernel
theorem d_X9_takeGood_44 : decode oX9_takeGood.2.1 44 = .ok (.invokevirtual 160, 3) := by decide +kernel
theorem d_X9_takeGood_47 : decode oX9_takeGood.2.1 47 = .ok (.goto 15, 3) := by decide +kernel
theorem d_X9_takeGood_50 : decode oX9_takeGood.2.1 50 = .ok (.aload_n 0, 1) := by decide +kernel
theorem d_X9_takeGood_51 : decode oX9_takeGood.2.1 51 = .ok (.aload_n 0, 1) := by decide +kernel
theorem d_X9_takeGood_52 : decode oX9_takeGood.2.1 52 = .ok (.getfield 72, 3) := by decide +kernel
theorem d_X9_takeGood_55 : decode oX9_takeGood.2.1 55 = .ok (.iload_n 2, 1) := by decide +kernel
theorem d_X9_takeGood_56 : decode oX9_takeGood.2.1 56 = .ok (.iconst 0, 1) := by decide +kernel
theorem d_X9_takeGood_57 : decode oX9_takeGood.2.1 57 = .ok (.bipush 99, 2) := by decide +kernel
theorem d_X9_takeGood_59 : decode oX9_takeGood.2.1 59 = .ok (.invokevirtual 176, 3) := by decide +kernel
theorem d_X9_takeGood_62 : decode oX9_takeGood.2.1 62 = .ok (.ireturn, 1) := by decide +kernel
theorem b_X9_takeGood_0 {E : ob_E} {σ : ob_Mem} {Q : Int32 → ob_Mem → Prop} (k : ob_RM shp E oX9_takeNumber [.ref 53, .int (0 : Int32), .int (120 : Int32)] (ob_wI σ 53 34 ((σ.1 53 34) + (1 : Int32))) (ob_qI fun v2 σ1 => ((v2 ≤ 0 → (vp_in (σ1.1 53 23) 121 ∧ (((σ1.1 72 ((σ1.1 53 23)).toNatClampNeg) < 0 → ob_RM shp E oX9_into [.ref 53, .ref 72, .int (σ1.1 53 23), .int (0 : Int32), .int (99 : Int32)] σ1 (ob_qI fun v4 σ3 => Q v4 σ3)) ∧ (¬ (σ1.1 72 ((σ1.1 53 23)).toNatClampNeg) < 0 → ob_RM shp E oX9_fails [.ref 53, .int (4 : Int32), .int (σ1.1 53 24)] σ1 (ob_qI fun v6 σ5 => Q v6 σ5))))) ∧ (¬ v2 ≤ 0 → Q v2 σ1)))) : ob_RT shp E oX9_takeGood 0 [.ref 53, .null, .null] [] σ (ob_qI Q) := by
  refine ob_aload_n d_X9_takeGood_0 rfl ?_
  refine ob_dup d_X9_takeGood_1 rfl ?_
  refine ob_getI d_X9_takeGood_2 fl_X9_186 sh_53 rfl (by decide) ?_
  refine ob_iconst (v := 1) d_X9_takeGood_5 ci_1 ?_
  refine ob_iadd d_X9_takeGood_6 ?_
  refine ob_putI d_X9_takeGood_7 fp_X9_186 sh_53 rfl rfl ?_
  refine ob_aload_n d_X9_takeGood_10 rfl ?_
  refine ob_iconst (v := 0) d_X9_takeGood_11 ci_0 ?_
  refine ob_bipush (v := 120) d_X9_takeGood_12 cb_120 ?_
  refine ob_callV [.int (0 : Int32), .int (120 : Int32)] (z := oX9_takeNumber) (st := []) d_X9_takeGood_14 lk_X9_170 mv_X9_takeNumber rfl sh_53 cl_9 rfl (Nat.le_of_ble_eq_true rfl) rfl k (ob_kI fun v2 σ1 k => ?_)
  refine ob_istore_n (ls' := [.ref 53, .int v2, .null]) d_X9_takeGood_17 (Nat.le_of_ble_eq_true rfl) rfl ?_
  refine ob_iload_n d_X9_takeGood_18 rfl ?_
  refine ob_if_le (tgt := 24) d_X9_takeGood_19 rfl (fun cc => ?_) (fun cc => ?_)
  · have k := k.1 cc
    refine ob_aload_n d_X9_takeGood_24 rfl ?_
    refine ob_getI d_X9_takeGood_25 fl_X9_167 sh_53 rfl (by decide) ?_
    refine ob_istore_n (ls' := [.ref 53, .int v2, .int (σ1.1 53 23)]) d_X9_takeGood_28 (Nat.le_of_ble_eq_true rfl) rfl ?_
    refine ob_aload_n d_X9_takeGood_29 rfl ?_
    refine ob_getR d_X9_takeGood_30 fl_X9_72 sh_53 rfl rfl ?_
    refine ob_iload_n d_X9_takeGood_33 rfl ?_
    obtain ⟨hin, k⟩ := k
    refine ob_iald d_X9_takeGood_34 sh_72 hin ?_
    refine ob_if_lt (tgt := 50) d_X9_takeGood_35 rfl (fun cc => ?_) (fun cc => ?_)
    · have k := k.1 cc
      refine ob_aload_n d_X9_takeGood_50 rfl ?_
      refine ob_aload_n d_X9_takeGood_51 rfl ?_
      refine ob_getR d_X9_takeGood_52 fl_X9_72 sh_53 rfl rfl ?_
      refine ob_iload_n d_X9_takeGood_55 rfl ?_
      refine ob_iconst (v := 0) d_X9_takeGood_56 ci_0 ?_
      refine ob_bipush (v := 99) d_X9_takeGood_57 cb_99 ?_
      refine ob_callV [.ref 72, .int (σ1.1 53 23), .int (0 : Int32), .int (99 : Int32)] (z := oX9_into) (st := []) d_X9_takeGood_59 lk_X9_176 mv_X9_into rfl sh_53 cl_9 rfl (Nat.le_of_ble_eq_true rfl) rfl k (ob_kI fun v4 σ3 k => ?_)
      exact ob_iret d_X9_takeGood_62 rfl ⟨_, rfl, k⟩
    · have k := k.2 cc
      refine ob_aload_n d_X9_takeGood_38 rfl ?_
      refine ob_iconst (v := 4) d_X9_takeGood_39 ci_4 ?_
      refine ob_aload_n d_X9_takeGood_40 rfl ?_
      refine ob_getI d_X9_takeGood_41 fl_X9_164 sh_53 rfl (by decide) ?_
      refine ob_callV [.int (4 : Int32), .int (σ1.1 53 24)] (z := oX9_fails) (st := []) d_X9_takeGood_44 lk_X9_160 mv_X9_fails rfl sh_53 cl_9 rfl (Nat.le_of_ble_eq_true rfl) rfl k (ob_kI fun v6 σ5 k => ?_)
      refine ob_goto (tgt := 62) d_X9_takeGood_47 rfl ?_
      exact ob_iret d_X9_takeGood_62 rfl ⟨_, rfl, k⟩
  · have k := k.2 cc
    refine ob_iload_n d_X9_takeGood_22 rfl ?_
    exact ob_iret d_X9_takeGood_23 rfl ⟨_, rfl, k⟩
theorem d_X9_takeBirthday_0 : decode oX9_takeBirthday.2.1 0 = .ok (.aload_n 0, 1) := by decide +kernel
theorem d_X9_takeBirthday_1 : decode oX9_takeBirthday.2.1 1 = .ok (.getfield 180, 3) := by decide +kernel
theorem d_X9_takeBirthday_4 : decode oX9_takeBirthday.2.1 4 = .ok (.istore_n 1, 1) := by decide +kernel
theorem d_X9_takeBirthday_5 : decode oX9_takeBirthday.2.1 5 = .ok (.aload_n 0, 1) := by decide +kernel
theorem d_X9_takeBirthday_6 : decode oX9_takeBirthday.2.1 6 = .ok (.dup, 1) := by decide +kernel
theorem d_X9_takeBirthday_7 : decode oX9_takeBirthday.2.1 7 = .ok (.getfield 180, 3) := by decide +kernel
theorem d_X9_takeBirthday_10 : decode oX9_takeBirthday.2.1 10 = .ok (.iconst 1, 1) := by decide +kernel
theorem d_X9_takeBirthday_11 : decode oX9_takeBirthday.2.1 11 = .ok (.iadd, 1) := by decide +kernel
theorem d_X9_takeBirthday_12 : decode oX9_takeBirthday.2.1 12 = .ok (.putfield 180, 3) := by decide +kernel
theorem d_X9_takeBirthday_15 : decode oX9_takeBirthday.2.1 15 = .ok (.aload_n 0, 1) := by decide +kernel
theorem d_X9_takeBirthday_16 : decode oX9_takeBirthday.2.1 16 = .ok (.aload_n 0, 1) := by decide +kernel
theorem d_X9_takeBirthday_17 : decode oX9_takeBirthday.2.1 17 = .ok (.getfield 63, 3) := by decide +kernel
theorem d_X9_takeBirthday_20 : decode oX9_takeBirthday.2.1 20 = .ok (.iload_n 1, 1) := by decide +kernel
theorem d_X9_takeBirthday_21 : decode oX9_takeBirthday.2.1 21 = .ok (.iconst 0, 1) := by decide +kernel
theorem d_X9_takeBirthday_22 : decode oX9_takeBirthday.2.1 22 = .ok (.aload_n 0, 1) := by decide +kernel
theorem d_X9_takeBirthday_23 : decode oX9_takeBirthday.2.1 23 = .ok (.getfield 183, 3) := by decide +kernel
theorem d_X9_takeBirthday_26 : decode oX9_takeBirthday.2.1 26 = .ok (.ifCond .le 10, 3) := by decide +kernel
theorem d_X9_takeBirthday_29 : decode oX9_takeBirthday.2.1 29 = .ok (.aload_n 0, 1) := by decide +kernel
theorem d_X9_takeBirthday_30 : decode oX9_takeBirthday.2.1 30 = .ok (.getfield 183, 3) := by decide +kernel
theorem d_X9_takeBirthday_33 : decode oX9_takeBirthday.2.1 33 = .ok (.goto 5, 3) := by decide +kernel
theorem d_X9_takeBirthday_36 : decode oX9_takeBirthday.2.1 36 = .ok (.bipush 12, 2) := by decide +kernel
theorem d_X9_takeBirthday_38 : decode oX9_takeBirthday.2.1 38 = .ok (.iconst 1, 1) := by decide +kernel
theorem d_X9_takeBirthday_39 : decode oX9_takeBirthday.2.1 39 = .ok (.isub, 1) := by decide +kernel
theorem d_X9_takeBirthday_40 : decode oX9_takeBirthday.2.1 40 = .ok (.invokevirtual 176, 3) := by decide +kernel
theorem d_X9_takeBirthday_43 : decode oX9_takeBirthday.2.1 43 = .ok (.istore_n 2, 1) := by decide +kernel
theorem d_X9_takeBirthday_44 : decode oX9_takeBirthday.2.1 44 = .ok (.iload_n 2, 1) := by decide +kernel
theorem d_X9_takeBirthday_45 : decode oX9_takeBirthday.2.1 45 = .ok (.ifCond .le 7, 3) := by decide +kernel
theorem d_X9_takeBirthday_48 : decode oX9_takeBirthday.2.1 48 = .ok (.iload_n 2, 1) := by decide +kernel
theorem d_X9_takeBirthday_49 : decode oX9_takeBirthday.2.1 49 = .ok (.goto 19, 3) := by decide +kernel
theorem d_X9_takeBirthday_52 : decode oX9_takeBirthday.2.1 52 = .ok (.aload_n 0, 1) := by decide +kernel
theorem d_X9_takeBirthday_53 : decode oX9_takeBirthday.2.1 53 = .ok (.aload_n 0, 1) := by decide +kernel
theorem d_X9_takeBirthday_54 : decode oX9_takeBirthday.2.1 54 = .ok (.getfield 66, 3) := by decide +kernel
theorem d_X9_takeBirthday_57 : decode oX9_takeBirthday.2.1 57 = .ok (.iload_n 1, 1) := by decide +kernel
theorem d_X9_takeBirthday_58 : decode oX9_takeBirthday.2.1 58 = .ok (.iconst 0, 1) := by decide +kernel
theorem d_X9_takeBirthday_59 : decode oX9_takeBirthday.2.1 59 = .ok (.aload_n 0, 1) := by decide +kernel
theorem d_X9_takeBirthday_60 : decode oX9_takeBirthday.2.1 60 = .ok (.getfield 173, 3) := by decide +kernel
theorem d_X9_takeBirthday_63 : decode oX9_takeBirthday.2.1 63 = .ok (.iconst 1, 1) := by decide +kernel
theorem d_X9_takeBirthday_64 : decode oX9_takeBirthday.2.1 64 = .ok (.isub, 1) := by decide +kernel
theorem d_X9_takeBirthday_65 : decode oX9_takeBirthday.2.1 65 = .ok (.invokevirtual 176, 3) := by decide +kernel
theorem d_X9_takeBirthday_68 : decode oX9_takeBirthday.2.1 68 = .ok (.istore_n 2, 1) := by decide +kernel
theorem d_X9_takeBirthday_69 : decode oX9_takeBirthday.2.1 69 = .ok (.iload_n 2, 1) := by decide +kernel
theorem d_X9_takeBirthday_70 : decode oX9_takeBirthday.2.1 70 = .ok (.ifCond .le 7, 3) := by decide +kernel
theorem d_X9_takeBirthday_73 : decode oX9_takeBirthday.2.1 73 = .ok (.iload_n 2, 1) := by decide +kernel
theorem d_X9_takeBirthday_74 : decode oX9_takeBirthday.2.1 74 = .ok (.goto 15, 3) := by decide +kernel
theorem d_X9_takeBirthday_77 : decode oX9_takeBirthday.2.1 77 = .ok (.aload_n 0, 1) := by decide +kernel
theorem d_X9_takeBirthday_78 : decode oX9_takeBirthday.2.1 78 = .ok (.aload_n 0, 1) := by decide +kernel
theorem d_X9_takeBirthday_79 : decode oX9_takeBirthday.2.1 79 = .ok (.getfield 69, 3) := by decide +kernel
theorem d_X9_takeBirthday_82 : decode oX9_takeBirthday.2.1 82 = .ok (.iload_n 1, 1) := by decide +kernel
theorem d_X9_takeBirthday_83 : decode oX9_takeBirthday.2.1 83 = .ok (.iconst 1, 1) := by decide +kernel
theorem d_X9_takeBirthday_84 : decode oX9_takeBirthday.2.1 84 = .ok (.bipush 99, 2) := by decide +kernel
theorem d_X9_takeBirthday_86 : decode oX9_takeBirthday.2.1 86 = .ok (.invokevirtual 176, 3) := by decide +kernel
theorem d_X9_takeBirthday_89 : decode oX9_takeBirthday.2.1 89 = .ok (.ireturn, 1) := by decide +kernel
theorem b_X9_takeBirthday_0 {E : ob_E} {σ : ob_Mem} {Q : Int32 → ob_Mem → Prop} (k : ((((ob_wI σ 53 30 ((σ.1 53 30) + (1 : Int32))).1 53 25) ≤ 0 → ob_RT shp E oX9_takeBirthday 38 [.ref 53, .int (σ.1 53 30), .null] [.int (12 : Int32), .int (0 : Int32), .int (σ.1 53 30), .ref 69, .ref 53] (ob_wI σ 53 30 ((σ.1 53 30) + (1 : Int32))) (ob_qI Q)) ∧ (¬ ((ob_wI σ 53 30 ((σ.1 53 30) + (1 : Int32))).1 53 25) ≤ 0 → ob_RT shp E oX9_takeBirthday 38 [.ref 53, .int (σ.1 53 30), .null] [.int ((ob_wI σ 53 30 ((σ.1 53 30) + (1 : Int32))).1 53 25), .int (0 : Int32), .int (σ.1 53 30), .ref 69, .ref 53] (ob_wI σ 53 30 ((σ.1 53 30) + (1 : Int32))) (ob_qI Q)))) : ob_RT shp E oX9_takeBirthday 0 [.ref 53, .null, .null] [] σ (ob_qI Q) := by
  refine ob_aload_n d_X9_takeBirthday_0 rfl ?_
  refine ob_getI d_X9_takeBirthday_1 fl_X9_180 sh_53 rfl (by decide) ?_
  refine ob_istore_n (ls' := [.ref 53, .int (σ.1 53 30), .null]) d_X9_takeBirthday_4 (Nat.le_of_ble_eq_true rfl) rfl ?_
  refine ob_aload_n d_X9_takeBirthday_5 rfl ?_
  refine ob_dup d_X9_takeBirthday_6 rfl ?_
  refine ob_getI d_X9_takeBirthday_7 fl_X9_180 sh_53 rfl (by decide) ?_
  refine ob_iconst (v := 1) d_X9_takeBirthday_10 ci_1 ?_
  refine ob_iadd d_X9_takeBirthday_11 ?_
  refine ob_putI d_X9_takeBirthday_12 fp_X9_180 sh_53 rfl rfl ?_
  refine ob_aload_n d_X9_takeBirthday_15 rfl ?_
  refine ob_aload_n d_X9_takeBirthday_16 rfl ?_
  refine ob_getR d_X9_takeBirthday_17 fl_X9_63 sh_53 rfl rfl ?_
  refine ob_iload_n d_X9_takeBirthday_20 rfl ?_
  refine ob_iconst (v := 0) d_X9_takeBirthday_21 ci_0 ?_
  refine ob_aload_n d_X9_takeBirthday_22 rfl ?_
  refine ob_getI d_X9_takeBirthday_23 fl_X9_183 sh_53 rfl (by decide) ?_
  refine ob_if_le (tgt := 36) d_X9_takeBirthday_26 rfl (fun cc => ?_) (fun cc => ?_)
  · have k := k.1 cc
    refine ob_bipush (v := 12) d_X9_takeBirthday_36 cb_12 ?_
    exact k
  · have k := k.2 cc
    refine ob_aload_n d_X9_takeBirthday_29 rfl ?_
    refine ob_getI d_X9_takeBirthday_30 fl_X9_183 sh_53 rfl (by decide) ?_
    refine ob_goto (tgt := 38) d_X9_takeBirthday_33 rfl ?_
    exact k
theorem b_X9_takeBirthday_38 {E : ob_E} {σ : ob_Mem} {Q : Int32 → ob_Mem → Prop} {x1 s0 s1 s2 : Int32} (k : ob_RM shp E oX9_into [.ref 53, .ref 69, .int s2, .int s1, .int (s0 - (1 : Int32))] σ (ob_qI fun v2 σ1 => ((v2 ≤ 0 → ob_RM shp E oX9_into [.ref 53, .ref 70, .int x1, .int (0 : Int32), .int ((σ1.1 53 27) - (1 : Int32))] σ1 (ob_qI fun v4 σ3 => ob_RT shp E oX9_takeBirthday 68 [.ref 53, .int x1, .int v2] [.int v4] σ3 (ob_qI Q))) ∧ (¬ v2 ≤ 0 → ob_RT shp E oX9_takeBirthday 68 [.ref 53, .int x1, .int v2] [.int v2] σ1 (ob_qI Q))))) : ob_RT shp E oX9_takeBirthday 38 [.ref 53, .int x1, .null] [.int s0, .int s1, .int s2, .ref 69, .ref 53] σ (ob_qI Q) := by
  refine ob_iconst (v := 1) d_X9_takeBirthday_38 ci_1 ?_
  refine ob_isub d_X9_takeBirthday_39 ?_
  refine ob_callV [.ref 69, .int s2, .int s1, .int (s0 - (1 : Int32))] (z := oX9_into) (st := []) d_X9_takeBirthday_40 lk_X9_176 mv_X9_into rfl sh_53 cl_9 rfl (Nat.le_of_ble_eq_true rfl) rfl k (ob_kI fun v2 σ1 k => ?_)
  refine ob_istore_n (ls' := [.ref 53, .int x1, .int v2]) d_X9_takeBirthday_43 (Nat.le_of_ble_eq_true rfl) rfl ?_
  refine ob_iload_n d_X9_takeBirthday_44 rfl ?_
  refine ob_if_le (tgt := 52) d_X9_takeBirthday_45 rfl (fun cc => ?_) (fun cc => ?_)
  · have k := k.1 cc
    refine ob_aload_n d_X9_takeBirthday_52 rfl ?_
    refine ob_aload_n d_X9_takeBirthday_53 rfl ?_
    refine ob_getR d_X9_takeBirthday_54 fl_X9_66 sh_53 rfl rfl ?_
    refine ob_iload_n d_X9_takeBirthday_57 rfl ?_
    refine ob_iconst (v := 0) d_X9_takeBirthday_58 ci_0 ?_
    refine ob_aload_n d_X9_takeBirthday_59 rfl ?_
    refine ob_getI d_X9_takeBirthday_60 fl_X9_173 sh_53 rfl (by decide) ?_
    refine ob_iconst (v := 1) d_X9_takeBirthday_63 ci_1 ?_
    refine ob_isub d_X9_takeBirthday_64 ?_
    refine ob_callV [.ref 70, .int x1, .int (0 : Int32), .int ((σ1.1 53 27) - (1 : Int32))] (z := oX9_into) (st := []) d_X9_takeBirthday_65 lk_X9_176 mv_X9_into rfl sh_53 cl_9 rfl (Nat.le_of_ble_eq_true rfl) rfl k (ob_kI fun v4 σ3 k => ?_)
    exact k
  · have k := k.2 cc
    refine ob_iload_n d_X9_takeBirthday_48 rfl ?_
    refine ob_goto (tgt := 68) d_X9_takeBirthday_49 rfl ?_
    exact k
theorem b_X9_takeBirthday_68 {E : ob_E} {σ : ob_Mem} {Q : Int32 → ob_Mem → Prop} {x1 x2 s0 : Int32} (k : ((s0 ≤ 0 → ob_RM shp E oX9_into [.ref 53, .ref 71, .int x1, .int (1 : Int32), .int (99 : Int32)] σ (ob_qI fun v2 σ1 => Q v2 σ1)) ∧ (¬ s0 ≤ 0 → Q s0 σ))) : ob_RT shp E oX9_takeBirthday 68 [.ref 53, .int x1, .int x2] [.int s0] σ (ob_qI Q) := by
  refine ob_istore_n (ls' := [.ref 53, .int x1, .int s0]) d_X9_takeBirthday_68 (Nat.le_of_ble_eq_true rfl) rfl ?_
  refine ob_iload_n d_X9_takeBirthday_69 rfl ?_
  refine ob_if_le (tgt := 77) d_X9_takeBirthday_70 rfl (fun cc => ?_) (fun cc => ?_)
  · have k := k.1 cc
    refine ob_aload_n d_X9_takeBirthday_77 rfl ?_
    refine ob_aload_n d_X9_takeBirthday_78 rfl ?_
    refine ob_getR d_X9_takeBirthday_79 fl_X9_69 sh_53 rfl rfl ?_
    refine ob_iload_n d_X9_takeBirthday_82 rfl ?_
    refine ob_iconst (v := 1) d_X9_takeBirthday_83 ci_1 ?_
    refine ob_bipush (v := 99) d_X9_takeBirthday_84 cb_99 ?_
    refine ob_callV [.ref 71, .int x1, .int (1 : Int32), .int (99 : Int32)] (z := oX9_into) (st := []) d_X9_takeBirthday_86 lk_X9_176 mv_X9_into rfl sh_53 cl_9 rfl (Nat.le_of_ble_eq_true rfl) rfl k (ob_kI fun v2 σ1 k => ?_)
    exact ob_iret d_X9_takeBirthday_89 rfl ⟨_, rfl, k⟩
  · have k := k.2 cc
    refine ob_iload_n d_X9_takeBirthday_73 rfl ?_
    refine ob_goto (tgt := 89) d_X9_takeBirthday_74 rfl ?_
    exact ob_iret d_X9_takeBirthday_89 rfl ⟨_, rfl, k⟩
theorem d_X9_takePerson_0 : decode oX9_takePerson.2.1 0 = .ok (.aload_n 0, 1) := by decide +kernel
theorem d_X9_takePerson_1 : decode oX9_takePerson.2.1 1 = .ok (.getfield 173, 3) := by decide +kernel
theorem d_X9_takePerson_4 : decode oX9_takePerson.2.1 4 = .ok (.istore_n 1, 1) := by decide +kernel
theorem d_X9_takePerson_5 : decode oX9_takePerson.2.1 5 = .ok (.aload_n 0, 1) := by decide +kernel
theorem d_X9_takePerson_6 : decode oX9_takePerson.2.1 6 = .ok (.dup, 1) := by decide +kernel
theorem d_X9_takePerson_7 : decode oX9_takePerson.2.1 7 = .ok (.getfield 173, 3) := by decide +kernel
theorem d_X9_takePerson_10 : decode oX9_takePerson.2.1 10 = .ok (.iconst 1, 1) := by decide +kernel
theorem d_X9_takePerson_11 : decode oX9_takePerson.2.1 11 = .ok (.iadd, 1) := by decide +kernel
theorem d_X9_takePerson_12 : decode oX9_takePerson.2.1 12 = .ok (.putfield 173, 3) := by decide +kernel
theorem d_X9_takePerson_15 : decode oX9_takePerson.2.1 15 = .ok (.aload_n 0, 1) := by decide +kernel
theorem d_X9_takePerson_16 : decode oX9_takePerson.2.1 16 = .ok (.aload_n 0, 1) := by decide +kernel
theorem d_X9_takePerson_17 : decode oX9_takePerson.2.1 17 = .ok (.getfield 57, 3) := by decide +kernel
theorem d_X9_takePerson_20 : decode oX9_takePerson.2.1 20 = .ok (.iload_n 1, 1) := by decide +kernel
theorem d_X9_takePerson_21 : decode oX9_takePerson.2.1 21 = .ok (.iconst 0, 1) := by decide +kernel
theorem d_X9_takePerson_22 : decode oX9_takePerson.2.1 22 = .ok (.bipush 120, 2) := by decide +kernel
theorem d_X9_takePerson_24 : decode oX9_takePerson.2.1 24 = .ok (.invokevirtual 176, 3) := by decide +kernel
theorem d_X9_takePerson_27 : decode oX9_takePerson.2.1 27 = .ok (.istore_n 2, 1) := by decide +kernel
theorem d_X9_takePerson_28 : decode oX9_takePerson.2.1 28 = .ok (.iload_n 2, 1) := by decide +kernel
theorem d_X9_takePerson_29 : decode oX9_takePerson.2.1 29 = .ok (.ifCond .le 7, 3) := by decide +kernel
theorem d_X9_takePerson_32 : decode oX9_takePerson.2.1 32 = .ok (.iload_n 2, 1) := by decide +kernel
theorem d_X9_takePerson_33 : decode oX9_takePerson.2.1 33 = .ok (.goto 16, 3) := by decide +kernel
theorem d_X9_takePerson_36 : decode oX9_takePerson.2.1 36 = .ok (.aload_n 0, 1) := by decide +kernel
theorem d_X9_takePerson_37 : decode oX9_takePerson.2.1 37 = .ok (.aload_n 0, 1) := by decide +kernel
theorem d_X9_takePerson_38 : decode oX9_takePerson.2.1 38 = .ok (.getfield 60, 3) := by decide +kernel
theorem d_X9_takePerson_41 : decode oX9_takePerson.2.1 41 = .ok (.iload_n 1, 1) := by decide +kernel
theorem d_X9_takePerson_42 : decode oX9_takePerson.2.1 42 = .ok (.iconst 0, 1) := by decide +kernel
theorem d_X9_takePerson_43 : decode oX9_takePerson.2.1 43 = .ok (.sipush 999, 3) := by decide +kernel
theorem d_X9_takePerson_46 : decode oX9_takePerson.2.1 46 = .ok (.invokevirtual 176, 3) := by decide +kernel
theorem d_X9_takePerson_49 : decode oX9_takePerson.2.1 49 = .ok (.ireturn, 1) := by decide +kernel
theorem b_X9_takePerson_0 {E : ob_E} {σ : ob_Mem} {Q : Int32 → ob_Mem → Prop} (k : ob_RM shp E oX9_into [.ref 53, .ref 67, .int (σ.1 53 27), .int (0 : Int32), .int (120 : Int32)] (ob_wI σ 53 27 ((σ.1 53 27) + (1 : Int32))) (ob_qI fun v2 σ1 => ((v2 ≤ 0 → ob_RM shp E oX9_into [.ref 53, .ref 68, .int (σ.1 53 27), .int (0 : Int32), .int (999 : Int32)] σ1 (ob_qI fun v4 σ3 => Q v4 σ3)) ∧ (¬ v2 ≤ 0 → Q v2 σ1)))) : ob_RT shp E oX9_takePerson 0 [.ref 53, .null, .null] [] σ (ob_qI Q) := by
  refine ob_aload_n d_X9_takePerson_0 rfl ?_
  refine ob_getI d_X9_takePerson_1 fl_X9_173 sh_53 rfl (by decide) ?_
  refine ob_istore_n (ls' := [.ref 53, .int (σ.1 53 27), .null]) d_X9_takePerson_4 (Nat.le_of_ble_eq_true rfl) rfl ?_
  refine ob_aload_n d_X9_takePerson_5 rfl ?_
  refine ob_dup d_X9_takePerson_6 rfl ?_
  refine ob_getI d_X9_takePerson_7 fl_X9_173 sh_53 rfl (by decide) ?_
  refine ob_iconst (v := 1) d_X9_takePerson_10 ci_1 ?_
  refine ob_iadd d_X9_takePerson_11 ?_
  refine ob_putI d_X9_takePerson_12 fp_X9_173 sh_53 rfl rfl ?_
  refine ob_aload_n d_X9_takePerson_15 rfl ?_
  refine ob_aload_n d_X9_takePerson_16 rfl ?_
  refine ob_getR d_X9_takePerson_17 fl_X9_57 sh_53 rfl rfl ?_
  refine ob_iload_n d_X9_takePerson_20 rfl ?_
  refine ob_iconst (v := 0) d_X9_takePerson_21 ci_0 ?_
  refine ob_bipush (v := 120) d_X9_takePerson_22 cb_120 ?_
  refine ob_callV [.ref 67, .int (σ.1 53 27), .int (0 : Int32), .int (120 : Int32)] (z := oX9_into) (st := []) d_X9_takePerson_24 lk_X9_176 mv_X9_into rfl sh_53 cl_9 rfl (Nat.le_of_ble_eq_true rfl) rfl k (ob_kI fun v2 σ1 k => ?_)
  refine ob_istore_n (ls' := [.ref 53, .int (σ.1 53 27), .int v2]) d_X9_takePerson_27 (Nat.le_of_ble_eq_true rfl) rfl ?_
  refine ob_iload_n d_X9_takePerson_28 rfl ?_
  refine ob_if_le (tgt := 36) d_X9_takePerson_29 rfl (fun cc => ?_) (fun cc => ?_)
  · have k := k.1 cc
    refine ob_aload_n d_X9_takePerson_36 rfl ?_
    refine ob_aload_n d_X9_takePerson_37 rfl ?_
    refine ob_getR d_X9_takePerson_38 fl_X9_60 sh_53 rfl rfl ?_
    refine ob_iload_n d_X9_takePerson_41 rfl ?_
    refine ob_iconst (v := 0) d_X9_takePerson_42 ci_0 ?_
    refine ob_sipush (v := 999) d_X9_takePerson_43 cs_999 ?_
    refine ob_callV [.ref 68, .int (σ.1 53 27), .int (0 : Int32), .int (999 : Int32)] (z := oX9_into) (st := []) d_X9_takePerson_46 lk_X9_176 mv_X9_into rfl sh_53 cl_9 rfl (Nat.le_of_ble_eq_true rfl) rfl k (ob_kI fun v4 σ3 k => ?_)
    exact ob_iret d_X9_takePerson_49 rfl ⟨_, rfl, k⟩
  · have k := k.2 cc
    refine ob_iload_n d_X9_takePerson_32 rfl ?_
    refine ob_goto (tgt := 49) d_X9_takePerson_33 rfl ?_
    exact ob_iret d_X9_takePerson_49 rfl ⟨_, rfl, k⟩
theorem d_X9_takeNumber_0 : decode oX9_takeNumber.2.1 0 = .ok (.aload_n 0, 1) := by decide +kernel
theorem d_X9_takeNumber_1 : decode oX9_takeNumber.2.1 1 = .ok (.invokevirtual 133, 3) := by decide +kernel
theorem d_X9_takeNumber_4 : decode oX9_takeNumber.2.1 4 = .ok (.istore_n 3, 1) := by decide +kernel
theorem d_X9_takeNumber_5 : decode oX9_takeNumber.2.1 5 = .ok (.iload_n 3, 1) := by decide +kernel
theorem d_X9_takeNumber_6 : decode oX9_takeNumber.2.1 6 = .ok (.i2l, 1) := by decide +kernel
theorem d_X9_takeNumber_7 : decode oX9_takeNumber.2.1 7 = .ok (.ldc2_w 156, 3) := by decide +kernel
theorem d_X9_takeNumber_10 : decode oX9_takeNumber.2.1 10 = .ok (.ldc2_w 158, 3) := by decide +kernel
theorem d_X9_takeNumber_13 : decode oX9_takeNumber.2.1 13 = .ok (.invokestatic 111, 3) := by decide +kernel
theorem d_X9_takeNumber_16 : decode oX9_takeNumber.2.1 16 = .ok (.ifCond .ne 13, 3) := by decide +kernel
theorem d_X9_takeNumber_19 : decode oX9_takeNumber.2.1 19 = .ok (.aload_n 0, 1) := by decide +kernel
theorem d_X9_takeNumber_20 : decode oX9_takeNumber.2.1 20 = .ok (.iconst 1, 1) := by decide +kernel
theorem d_X9_takeNumber_21 : decode oX9_takeNumber.2.1 21 = .ok (.aload_n 0, 1) := by decide +kernel
theorem d_X9_takeNumber_22 : decode oX9_takeNumber.2.1 22 = .ok (.getfield 130, 3) := by decide +kernel
theorem d_X9_takeNumber_25 : decode oX9_takeNumber.2.1 25 = .ok (.invokevirtual 160, 3) := by decide +kernel
theorem d_X9_takeNumber_28 : decode oX9_takeNumber.2.1 28 = .ok (.ireturn, 1) := by decide +kernel
theorem d_X9_takeNumber_29 : decode oX9_takeNumber.2.1 29 = .ok (.aload_n 0, 1) := by decide +kernel
theorem d_X9_takeNumber_30 : decode oX9_takeNumber.2.1 30 = .ok (.aload_n 0, 1) := by decide +kernel
theorem d_X9_takeNumber_31 : decode oX9_takeNumber.2.1 31 = .ok (.getfield 130, 3) := by decide +kernel
theorem d_X9_takeNumber_34 : decode oX9_takeNumber.2.1 34 = .ok (.putfield 164, 3) := by decide +kernel
theorem d_X9_takeNumber_37 : decode oX9_takeNumber.2.1 37 = .ok (.aload_n 0, 1) := by decide +kernel
theorem d_X9_takeNumber_38 : decode oX9_takeNumber.2.1 38 = .ok (.iconst 0, 1) := by decide +kernel
theorem d_X9_takeNumber_39 : decode oX9_takeNumber.2.1 39 = .ok (.putfield 167, 3) := by decide +kernel
theorem d_X9_takeNumber_42 : decode oX9_takeNumber.2.1 42 = .ok (.aload_n 0, 1) := by decide +kernel
theorem d_X9_takeNumber_43 : decode oX9_takeNumber.2.1 43 = .ok (.getfield 130, 3) := by decide +kernel
theorem d_X9_takeNumber_46 : decode oX9_takeNumber.2.1 46 = .ok (.aload_n 0, 1) := by decide +kernel
theorem d_X9_takeNumber_47 : decode oX9_takeNumber.2.1 47 = .ok (.getfield 124, 3) := by decide +kernel
theorem d_X9_takeNumber_50 : decode oX9_takeNumber.2.1 50 = .ok (.if_icmp .ge 79, 3) := by decide +kernel
theorem d_X9_takeNumber_53 : decode oX9_takeNumber.2.1 53 = .ok (.aload_n 0, 1) := by decide +kernel
theorem d_X9_takeNumber_54 : decode oX9_takeNumber.2.1 54 = .ok (.getfield 51, 3) := by decide +kernel
theorem d_X9_takeNumber_57 : decode oX9_takeNumber.2.1 57 = .ok (.aload_n 0, 1) := by decide +kernel
theorem d_X9_takeNumber_58 : decode oX9_takeNumber.2.1 58 = .ok (.getfield 130, 3) := by decide +kernel
theorem d_X9_takeNumber_61 : decode oX9_takeNumber.2.1 61 = .ok (.iaload, 1) := by decide +kernel
theorem d_X9_takeNumber_62 : decode oX9_takeNumber.2.1 62 = .ok (.i2l, 1) := by decide +kernel
theorem d_X9_takeNumber_63 : decode oX9_takeNumber.2.1 63 = .ok (.ldc2_w 156, 3) := by decide +kernel
theorem d_X9_takeNumber_66 : decode oX9_takeNumber.2.1 66 = .ok (.ldc2_w 158, 3) := by decide +kernel
theorem d_X9_takeNumber_69 : decode oX9_takeNumber.2.1 69 = .ok (.invokestatic 111, 3) := by decide +kernel
theorem d_X9_takeNumber_72 : decode oX9_takeNumber.2.1 72 = .ok (.ifCond .eq 57, 3) := by decide +kernel
theorem d_X9_takeNumber_75 : decode oX9_takeNumber.2.1 75 = .ok (.aload_n 0, 1) := by decide +kernel
theorem d_X9_takeNumber_76 : decode oX9_takeNumber.2.1 76 = .ok (.aload_n 0, 1) := by decide +kernel
theorem d_X9_takeNumber_77 : decode oX9_takeNumber.2.1 77 = .ok (.getfield 167, 3) := by decide +kernel
theorem d_X9_takeNumber_80 : decode oX9_takeNumber.2.1 80 = .ok (.sipush 10000, 3) := by decide +kernel
theorem d_X9_takeNumber_83 : decode oX9_takeNumber.2.1 83 = .ok (.if_icmp .le 10, 3) := by decide +kernel
theorem d_X9_takeNumber_86 : decode oX9_takeNumber.2.1 86 = .ok (.aload_n 0, 1) := by decide +kernel
theorem d_X9_takeNumber_87 : decode oX9_takeNumber.2.1 87 = .ok (.getfield 167, 3) := by decide +kernel
theorem d_X9_takeNumber_90 : decode oX9_takeNumber.2.1 90 = .ok (.goto 23, 3) := by decide +kernel
theorem d_X9_takeNumber_93 : decode oX9_takeNumber.2.1 93 = .ok (.bipush 10, 2) := by decide +kernel
theorem d_X9_takeNumber_95 : decode oX9_takeNumber.2.1 95 = .ok (.aload_n 0, 1) := by decide +kernel
theorem d_X9_takeNumber_96 : decode oX9_takeNumber.2.1 96 = .ok (.getfield 167, 3) := by decide +kernel
theorem d_X9_takeNumber_99 : decode oX9_takeNumber.2.1 99 = .ok (.imul, 1) := by decide +kernel
theorem d_X9_takeNumber_100 : decode oX9_takeNumber.2.1 100 = .ok (.aload_n 0, 1) := by decide +kernel
theorem d_X9_takeNumber_101 : decode oX9_takeNumber.2.1 101 = .ok (.getfield 51, 3) := by decide +kernel
theorem d_X9_takeNumber_104 : decode oX9_takeNumber.2.1 104 = .ok (.aload_n 0, 1) := by decide +kernel
theorem d_X9_takeNumber_105 : decode oX9_takeNumber.2.1 105 = .ok (.getfield 130, 3) := by decide +kernel
theorem d_X9_takeNumber_108 : decode oX9_takeNumber.2.1 108 = .ok (.iaload, 1) := by decide +kernel
theorem d_X9_takeNumber_109 : decode oX9_takeNumber.2.1 109 = .ok (.iadd, 1) := by decide +kernel
theorem d_X9_takeNumber_110 : decode oX9_takeNumber.2.1 110 = .ok (.bipush 48, 2) := by decide +kernel
theorem d_X9_takeNumber_112 : decode oX9_takeNumber.2.1 112 = .ok (.isub, 1) := by decide +kernel
theorem d_X9_takeNumber_113 : decode oX9_takeNumber.2.1 113 = .ok (.putfield 167, 3) := by decide +kernel
theorem d_X9_takeNumber_116 : decode oX9_takeNumber.2.1 116 = .ok (.aload_n 0, 1) := by decide +kernel
theorem d_X9_takeNumber_117 : decode oX9_takeNumber.2.1 117 = .ok (.dup, 1) := by decide +kernel
theorem d_X9_takeNumber_118 : decode oX9_takeNumber.2.1 118 = .ok (.getfield 130, 3) := by decide +kernel
theorem d_X9_takeNumber_121 : decode oX9_takeNumber.2.1 121 = .ok (.iconst 1, 1) := by decide +kernel
theorem d_X9_takeNumber_122 : decode oX9_takeNumber.2.1 122 = .ok (.iadd, 1) := by decide +kernel
theorem d_X9_takeNumber_123 : decode oX9_takeNumber.2.1 123 = .ok (.putfield 130, 3) := by decide +kernel
theorem d_X9_takeNumber_126 : decode oX9_takeNumber.2.1 126 = .ok (.goto (-84), 3) := by decide +kernel
theorem d_X9_takeNumber_129 : decode oX9_takeNumber.2.1 129 = .ok (.aload_n 0, 1) := by decide +kernel
theorem d_X9_takeNumber_130 : decode oX9_takeNumber.2.1 130 = .ok (.getfield 130, 3) := by decide +kernel
theorem d_X9_takeNumber_133 : decode oX9_takeNumber.2.1 133 = .ok (.aload_n 0, 1) := by decide +kernel
theorem d_X9_takeNumber_134 : decode oX9_takeNumber.2.1 134 = .ok (.getfield 164, 3) := by decide +kernel
theorem d_X9_takeNumber_137 : decode oX9_takeNumber.2.1 137 = .ok (.isub, 1) := by decide +kernel
theorem d_X9_takeNumber_138 : decode oX9_takeNumber.2.1 138 = .ok (.iconst 3, 1) := by decide +kernel
theorem d_X9_takeNumber_139 : decode oX9_takeNumber.2.1 139 = .ok (.if_icmp .gt 18, 3) := by decide +kernel
theorem d_X9_takeNumber_142 : decode oX9_takeNumber.2.1 142 = .ok (.aload_n 0, 1) := by decide +kernel
theorem d_X9_takeNumber_143 : decode oX9_takeNumber.2.1 143 = .ok (.getfield 167, 3) := by decide +kernel
theorem d_X9_takeNumber_146 : decode oX9_takeNumber.2.1 146 = .ok (.i2l, 1) := by decide +kernel
theorem d_X9_takeNumber_147 : decode oX9_takeNumber.2.1 147 = .ok (.iload_n 1, 1) := by decide +kernel
theorem d_X9_takeNumber_148 : decode oX9_takeNumber.2.1 148 = .ok (.i2l, 1) := by decide +kernel
theorem d_X9_takeNumber_149 : decode oX9_takeNumber.2.1 149 = .ok (.iload_n 2, 1) := by decide +kernel
theorem d_X9_takeNumber_150 : decode oX9_takeNumber.2.1 150 = .ok (.i2l, 1) := by decide +kernel
theorem d_X9_takeNumber_151 : decode oX9_takeNumber.2.1 151 = .ok (.invokestatic 111, 3) := by decide +kernel
theorem d_X9_takeNumber_154 : decode oX9_takeNumber.2.1 154 = .ok (.ifCond .ne 15, 3) := by decide +kernel
theorem d_X9_takeNumber_157 : decode oX9_takeNumber.2.1 157 = .ok (.aload_n 0, 1) := by decide +kernel
theorem d_X9_takeNumber_158 : decode oX9_takeNumber.2.1 158 = .ok (.iconst 2, 1) := by decide +kernel
theorem d_X9_takeNumber_159 : decode oX9_takeNumber.2.1 159 = .ok (.aload_n 0, 1) := by decide +kernel
theorem d_X9_takeNumber_160 : decode oX9_takeNumber.2.1 160 = .ok (.getfield 164, 3) := by decide +kernel
theorem d_X9_takeNumber_163 : decode oX9_takeNumber.2.1 163 = .ok (.invokevirtual 160, 3) := by decide +kernel
theorem d_X9_takeNumber_166 : decode oX9_takeNumber.2.1 166 = .ok (.goto 4, 3) := by decide +kernel
theorem d_X9_takeNumber_169 : decode oX9_takeNumber.2.1 169 = .ok (.iconst 0, 1) := by decide +kernel
theorem d_X9_takeNumber_170 : decode oX9_takeNumber.2.1 170 = .ok (.ireturn, 1) := by decide +kernel
theorem b_X9_takeNumber_0 {E : ob_E} {σ : ob_Mem} {Q : Int32 → ob_Mem → Prop} {x1 x2 : Int32} (k : ob_RM shp E oX9_here [.ref 53] σ (ob_qI fun v2 σ1 => ob_RM shp E oX9_in [.long (v2).toInt64, .long (48 : Int64), .long (57 : Int64)] σ1 (ob_qI fun v4 σ3 => ((¬ v4 = 0 → ob_RT shp E oX9_takeNumber 42 [.ref 53, .int x1, .int x2, .int v2] [] (ob_wI (ob_wI σ3 53 24 (σ3.1 53 20)) 53 23 (0 : Int32)) (ob_qI Q)) ∧ (v4 = 0 → ob_RM shp E oX9_fails [.ref 53, .int (1 : Int32), .int (σ3.1 53 20)] σ3 (ob_qI fun v6 σ5 => Q v6 σ5)))))) : ob_RT shp E oX9_takeNumber 0 [.ref 53, .int x1, .int x2, .null] [] σ (ob_qI Q) := by
  refine ob_aload_n d_X9_takeNumber_0 rfl ?_
  refine ob_callV [] (z := oX9_here) (st := []) d_X9_takeNumber_1 lk_X9_133 mv_X9_here rfl sh_53 cl_9 rfl (Nat.le_of_ble_eq_true rfl) rfl k (ob_kI fun v2 σ1 k => ?_)
  refine ob_istore_n (ls' := [.ref 53, .int x1, .int x2, .int v2]) d_X9_takeNumber_4 (Nat.le_of_ble_eq_true rfl) rfl ?_
  refine ob_iload_n d_X9_takeNumber_5 rfl ?_
  refine ob_i2l d_X9_takeNumber_6 ?_
  refine ob_ldc2 (v := 48) d_X9_takeNumber_7 k_X9_156 ?_
  refine ob_ldc2 (v := 57) d_X9_takeNumber_10 k_X9_158 ?_
  refine ob_callS [.long (v2).toInt64, .long (48 : Int64), .long (57 : Int64)] (z := oX9_in) (st := []) d_X9_takeNumber_13 lk_X9_111 ms_X9_in rfl (Nat.le_of_ble_eq_true rfl) rfl k (ob_kI fun v4 σ3 k => ?_)
  refine ob_if_ne (tgt := 29) d_X9_takeNumber_16 rfl (fun cc => ?_) (fun cc => ?_)
  · have k := k.1 cc
    refine ob_aload_n d_X9_takeNumber_29 rfl ?_
    refine ob_aload_n d_X9_takeNumber_30 rfl ?_
    refine ob_getI d_X9_takeNumber_31 fl_X9_130 sh_53 rfl (by decide) ?_
    refine ob_putI d_X9_takeNumber_34 fp_X9_164 sh_53 rfl rfl ?_
    refine ob_aload_n d_X9_takeNumber_37 rfl ?_
    refine ob_iconst (v := 0) d_X9_takeNumber_38 ci_0 ?_
    refine ob_putI d_X9_takeNumber_39 fp_X9_167 sh_53 rfl rfl ?_
    exact k
  · have k := k.2 cc
    refine ob_aload_n d_X9_takeNumber_19 rfl ?_
    refine ob_iconst (v := 1) d_X9_takeNumber_20 ci_1 ?_
    refine ob_aload_n d_X9_takeNumber_21 rfl ?_
    refine ob_getI d_X9_takeNumber_22 fl_X9_130 sh_53 rfl (by decide) ?_
    refine ob_callV [.int (1 : Int32), .int (σ3.1 53 20)] (z := oX9_fails) (st := []) d_X9_takeNumber_25 lk_X9_160 mv_X9_fails rfl sh_53 cl_9 rfl (Nat.le_of_ble_eq_true rfl) rfl k (ob_kI fun v6 σ5 k => ?_)
    exact ob_iret d_X9_takeNumber_28 rfl ⟨_, rfl, k⟩
theorem b_X9_takeNumber_42 {E : ob_E} {σ : ob_Mem} {Q : Int32 → ob_Mem → Prop} {x1 x2 x3 : Int32} (k : (((σ.1 53 18) ≤ (σ.1 53 20) → ob_RT shp E oX9_takeNumber 129 [.ref 53, .int x1, .int x2, .int x3] [] σ (ob_qI Q)) ∧ (¬ (σ.1 53 18) ≤ (σ.1 53 20) → (vp_in (σ.1 53 20) 500 ∧ ob_RM shp E oX9_in [.long ((σ.1 66 ((σ.1 53 20)).toNatClampNeg)).toInt64, .long (48 : Int64), .long (57 : Int64)] σ (ob_qI fun v2 σ1 => ((v2 = 0 → ob_RT shp E oX9_takeNumber 129 [.ref 53, .int x1, .int x2, .int x3] [] σ1 (ob_qI Q)) ∧ (¬ v2 = 0 → (((σ1.1 53 23) ≤ (10000 : Int32) → (vp_in (σ1.1 53 20) 500 ∧ (∀ σ3, σ3 = (ob_wI σ1 53 23 ((((10 : Int32) * (σ1.1 53 23)) + (σ1.1 66 ((σ1.1 53 20)).toNatClampNeg)) - (48 : Int32))) → ob_RT shp E oX9_takeNumber 42 [.ref 53, .int x1, .int x2, .int x3] [] (ob_wI σ3 53 20 ((σ3.1 53 20) + (1 : Int32))) (ob_qI Q)))) ∧ (¬ (σ1.1 53 23) ≤ (10000 : Int32) → (∀ σ4, σ4 = (ob_wI (ob_wI σ1 53 23 (σ1.1 53 23)) 53 20 (((ob_wI σ1 53 23 (σ1.1 53 23)).1 53 20) + (1 : Int32))) → ob_RT shp E oX9_takeNumber 42 [.ref 53, .int x1, .int x2, .int x3] [] σ4 (ob_qI Q))))))))))) : ob_RT shp E oX9_takeNumber 42 [.ref 53, .int x1, .int x2, .int x3] [] σ (ob_qI Q) := by
  refine ob_aload_n d_X9_takeNumber_42 rfl ?_
  refine ob_getI d_X9_takeNumber_43 fl_X9_130 sh_53 rfl (by decide) ?_
  refine ob_aload_n d_X9_takeNumber_46 rfl ?_
  refine ob_getI d_X9_takeNumber_47 fl_X9_124 sh_53 rfl (by decide) ?_
  refine ob_icmp_ge (tgt := 129) d_X9_takeNumber_50 rfl (fun cc => ?_) (fun cc => ?_)
  · have k := k.1 cc
    exact k
  · have k := k.2 cc
    refine ob_aload_n d_X9_takeNumber_53 rfl ?_
    refine ob_getR d_X9_takeNumber_54 fl_X9_51 sh_53 rfl rfl ?_
    refine ob_aload_n d_X9_takeNumber_57 rfl ?_
    refine ob_getI d_X9_takeNumber_58 fl_X9_130 sh_53 rfl (by decide) ?_
    obtain ⟨hin, k⟩ := k
    refine ob_iald d_X9_takeNumber_61 sh_66 hin ?_
    refine ob_i2l d_X9_takeNumber_62 ?_
    refine ob_ldc2 (v := 48) d_X9_takeNumber_63 k_X9_156 ?_
    refine ob_ldc2 (v := 57) d_X9_takeNumber_66 k_X9_158 ?_
    refine ob_callS [.long ((σ.1 66 ((σ.1 53 20)).toNatClampNeg)).toInt64, .long (48 : Int64), .long (57 : Int64)] (z := oX9_in) (st := []) d_X9_takeNumber_69 lk_X9_111 ms_X9_in rfl (Nat.le_of_ble_eq_true rfl) rfl k (ob_kI fun v2 σ1 k => ?_)
    refine ob_if_eq (tgt := 129) d_X9_takeNumber_72 rfl (fun cc => ?_) (fun cc => ?_)
    · have k := k.1 cc
      exact k
    · have k := k.2 cc
      refine ob_aload_n d_X9_takeNumber_75 rfl ?_
      refine ob_aload_n d_X9_takeNumber_76 rfl ?_
      refine ob_getI d_X9_takeNumber_77 fl_X9_167 sh_53 rfl (by decide) ?_
      refine ob_sipush (v := 10000) d_X9_takeNumber_80 cs_10000 ?_
      refine ob_icmp_le (tgt := 93) d_X9_takeNumber_83 rfl (fun cc => ?_) (fun cc => ?_)
      · have k := k.1 cc
        refine ob_bipush (v := 10) d_X9_takeNumber_93 cb_10 ?_
        refine ob_aload_n d_X9_takeNumber_95 rfl ?_
        refine ob_getI d_X9_takeNumber_96 fl_X9_167 sh_53 rfl (by decide) ?_
        refine ob_imul d_X9_takeNumber_99 ?_
        refine ob_aload_n d_X9_takeNumber_100 rfl ?_
        refine ob_getR d_X9_takeNumber_101 fl_X9_51 sh_53 rfl rfl ?_
        refine ob_aload_n d_X9_takeNumber_104 rfl ?_
        refine ob_getI d_X9_takeNumber_105 fl_X9_130 sh_53 rfl (by decide) ?_
        obtain ⟨hin, k⟩ := k
        refine ob_iald d_X9_takeNumber_108 sh_66 hin ?_
        refine ob_iadd d_X9_takeNumber_109 ?_
        refine ob_bipush (v := 48) d_X9_takeNumber_110 cb_48 ?_
        refine ob_isub d_X9_takeNumber_112 ?_
        refine ob_putI d_X9_takeNumber_113 fp_X9_167 sh_53 rfl rfl ?_
        refine ob_nmM (fun σ3 hσ3 => ?_)
        have k := k σ3 hσ3
        refine ob_aload_n d_X9_takeNumber_116 rfl ?_
        refine ob_dup d_X9_takeNumber_117 rfl ?_
        refine ob_getI d_X9_takeNumber_118 fl_X9_130 sh_53 rfl (by decide) ?_
        refine ob_iconst (v := 1) d_X9_takeNumber_121 ci_1 ?_
        refine ob_iadd d_X9_takeNumber_122 ?_
        refine ob_putI d_X9_takeNumber_123 fp_X9_130 sh_53 rfl rfl ?_
        refine ob_goto (tgt := 42) d_X9_takeNumber_126 rfl ?_
        exact k
      · have k := k.2 cc
        refine ob_aload_n d_X9_takeNumber_86 rfl ?_
        refine ob_getI d_X9_takeNumber_87 fl_X9_167 sh_53 rfl (by decide) ?_
        refine ob_goto (tgt := 113) d_X9_takeNumber_90 rfl ?_
        refine ob_putI d_X9_takeNumber_113 fp_X9_167 sh_53 rfl rfl ?_
        refine ob_aload_n d_X9_takeNumber_116 rfl ?_
        refine ob_dup d_X9_takeNumber_117 rfl ?_
        refine ob_getI d_X9_takeNumber_118 fl_X9_130 sh_53 rfl (by decide) ?_
        refine ob_iconst (v := 1) d_X9_takeNumber_121 ci_1 ?_
        refine ob_iadd d_X9_takeNumber_122 ?_
        refine ob_putI d_X9_takeNumber_123 fp_X9_130 sh_53 rfl rfl ?_
        refine ob_nmM (fun σ4 hσ4 => ?_)
        have k := k σ4 hσ4
        refine ob_goto (tgt := 42) d_X9_takeNumber_126 rfl ?_
        exact k
theorem b_X9_takeNumber_129 {E : ob_E} {σ : ob_Mem} {Q : Int32 → ob_Mem → Prop} {x1 x2 x3 : Int32} (k : (((3 : Int32) < ((σ.1 53 20) - (σ.1 53 24)) → ob_RM shp E oX9_fails [.ref 53, .int (2 : Int32), .int (σ.1 53 24)] σ (ob_qI fun v2 σ1 => Q v2 σ1)) ∧ (¬ (3 : Int32) < ((σ.1 53 20) - (σ.1 53 24)) → ob_RM shp E oX9_in [.long ((σ.1 53 23)).toInt64, .long (x1).toInt64, .long (x2).toInt64] σ (ob_qI fun v4 σ3 => ((¬ v4 = 0 → Q (0 : Int32) σ3) ∧ (v4 = 0 → ob_RM shp E oX9_fails [.ref 53, .int (2 : Int32), .int (σ3.1 53 24)] σ3 (ob_qI fun v6 σ5 => Q v6 σ5))))))) : ob_RT shp E oX9_takeNumber 129 [.ref 53, .int x1, .int x2, .int x3] [] σ (ob_qI Q) := by
  refine ob_aload_n d_X9_takeNumber_129 rfl ?_
  refine ob_getI d_X9_takeNumber_130 fl_X9_130 sh_53 rfl (by decide) ?_
  refine ob_aload_n d_X9_takeNumber_133 rfl ?_
  refine ob_getI d_X9_takeNumber_134 fl_X9_164 sh_53 rfl (by decide) ?_
  refine ob_isub d_X9_takeNumber_137 ?_
  refine ob_iconst (v := 3) d_X9_takeNumber_138 ci_3 ?_
  refine ob_icmp_gt (tgt := 157) d_X9_takeNumber_139 rfl (fun cc => ?_) (fun cc => ?_)
  · have k := k.1 cc
    refine ob_aload_n d_X9_takeNumber_157 rfl ?_
    refine ob_iconst (v := 2) d_X9_takeNumber_158 ci_2 ?_
    refine ob_aload_n d_X9_takeNumber_159 rfl ?_
    refine ob_getI d_X9_takeNumber_160 fl_X9_164 sh_53 rfl (by decide) ?_
    refine ob_callV [.int (2 : Int32), .int (σ.1 53 24)] (z := oX9_fails) (st := []) d_X9_takeNumber_163 lk_X9_160 mv_X9_fails rfl sh_53 cl_9 rfl (Nat.le_of_ble_eq_true rfl) rfl k (ob_kI fun v2 σ1 k => ?_)
    refine ob_goto (tgt := 170) d_X9_takeNumber_166 rfl ?_
    exact ob_iret d_X9_takeNumber_170 rfl ⟨_, rfl, k⟩
  · have k := k.2 cc
    refine ob_aload_n d_X9_takeNumber_142 rfl ?_
    refine ob_getI d_X9_takeNumber_143 fl_X9_167 sh_53 rfl (by decide) ?_
    refine ob_i2l d_X9_takeNumber_146 ?_
    refine ob_iload_n d_X9_takeNumber_147 rfl ?_
    refine ob_i2l d_X9_takeNumber_148 ?_
    refine ob_iload_n d_X9_takeNumber_149 rfl ?_
    refine ob_i2l d_X9_takeNumber_150 ?_
    refine ob_callS [.long ((σ.1 53 23)).toInt64, .long (x1).toInt64, .long (x2).toInt64] (z := oX9_in) (st := []) d_X9_takeNumber_151 lk_X9_111 ms_X9_in rfl (Nat.le_of_ble_eq_true rfl) rfl k (ob_kI fun v4 σ3 k => ?_)
    refine ob_if_ne (tgt := 169) d_X9_takeNumber_154 rfl (fun cc => ?_) (fun cc => ?_)
    · have k := k.1 cc
      refine ob_iconst (v := 0) d_X9_takeNumber_169 ci_0 ?_
      exact ob_iret d_X9_takeNumber_170 rfl ⟨_, rfl, k⟩
    · have k := k.2 cc
      refine ob_aload_n d_X9_takeNumber_157 rfl ?_
      refine ob_iconst (v := 2) d_X9_takeNumber_158 ci_2 ?_
      refine ob_aload_n d_X9_takeNumber_159 rfl ?_
      refine ob_getI d_X9_takeNumber_160 fl_X9_164 sh_53 rfl (by decide) ?_
      refine ob_callV [.int (2 : Int32), .int (σ3.1 53 24)] (z := oX9_fails) (st := []) d_X9_takeNumber_163 lk_X9_160 mv_X9_fails rfl sh_53 cl_9 rfl (Nat.le_of_ble_eq_true rfl) rfl k (ob_kI fun v6 σ5 k => ?_)
      refine ob_goto (tgt := 170) d_X9_takeNumber_166 rfl ?_
      exact ob_iret d_X9_takeNumber_170 rfl ⟨_, rfl, k⟩
theorem d_X9_yearsBy_0 : decode oX9_yearsBy.2.1 0 = .ok (.aload_n 0, 1) := by decide +kernel
theorem d_X9_yearsBy_1 : decode oX9_yearsBy.2.1 1 = .ok (.getfield 38, 3) := by decide +kernel
theorem d_X9_yearsBy_4 : decode oX9_yearsBy.2.1 4 = .ok (.iload_n 2, 1) := by decide +kernel
theorem d_X9_yearsBy_5 : decode oX9_yearsBy.2.1 5 = .ok (.baload, 1) := by decide +kernel
theorem d_X9_yearsBy_6 : decode oX9_yearsBy.2.1 6 = .ok (.ifCond .ne 5, 3) := by decide +kernel
theorem d_X9_yearsBy_9 : decode oX9_yearsBy.2.1 9 = .ok (.iconst 0, 1) := by decide +kernel
theorem d_X9_yearsBy_10 : decode oX9_yearsBy.2.1 10 = .ok (.ireturn, 1) := by decide +kernel
theorem d_X9_yearsBy_11 : decode oX9_yearsBy.2.1 11 = .ok (.aload_n 0, 1) := by decide +kernel
theorem d_X9_yearsBy_12 : decode oX9_yearsBy.2.1 12 = .ok (.getfield 45, 3) := by decide +kernel
theorem d_X9_yearsBy_15 : decode oX9_yearsBy.2.1 15 = .ok (.iload_n 1, 1) := by decide +kernel
theorem d_X9_yearsBy_16 : decode oX9_yearsBy.2.1 16 = .ok (.iaload, 1) := by decide +kernel
theorem d_X9_yearsBy_17 : decode oX9_yearsBy.2.1 17 = .ok (.ifCond .ge 7, 3) := by decide +kernel
theorem d_X9_yearsBy_20 : decode oX9_yearsBy.2.1 20 = .ok (.iconst 0, 1) := by decide +kernel
theorem d_X9_yearsBy_21 : decode oX9_yearsBy.2.1 21 = .ok (.goto 14, 3) := by decide +kernel
theorem d_X9_yearsBy_24 : decode oX9_yearsBy.2.1 24 = .ok (.aload_n 0, 1) := by decide +kernel
theorem d_X9_yearsBy_25 : decode oX9_yearsBy.2.1 25 = .ok (.getfield 48, 3) := by decide +kernel
theorem d_X9_yearsBy_28 : decode oX9_yearsBy.2.1 28 = .ok (.iload_n 1, 1) := by decide +kernel
theorem d_X9_yearsBy_29 : decode oX9_yearsBy.2.1 29 = .ok (.iaload, 1) := by decide +kernel
theorem d_X9_yearsBy_30 : decode oX9_yearsBy.2.1 30 = .ok (.aload_n 0, 1) := by decide +kernel
theorem d_X9_yearsBy_31 : decode oX9_yearsBy.2.1 31 = .ok (.getfield 118, 3) := by decide +kernel
theorem d_X9_yearsBy_34 : decode oX9_yearsBy.2.1 34 = .ok (.isub, 1) := by decide +kernel
theorem d_X9_yearsBy_35 : decode oX9_yearsBy.2.1 35 = .ok (.istore 4, 2) := by decide +kernel
theorem d_X9_yearsBy_37 : decode oX9_yearsBy.2.1 37 = .ok (.iload 4, 2) := by decide +kernel
theorem d_X9_yearsBy_39 : decode oX9_yearsBy.2.1 39 = .ok (.iload_n 3, 1) := by decide +kernel
theorem d_X9_yearsBy_40 : decode oX9_yearsBy.2.1 40 = .ok (.if_icmp .ge 8, 3) := by decide +kernel
theorem d_X9_yearsBy_43 : decode oX9_yearsBy.2.1 43 = .ok (.iload 4, 2) := by decide +kernel
theorem d_X9_yearsBy_45 : decode oX9_yearsBy.2.1 45 = .ok (.goto 4, 3) := by decide +kernel
theorem d_X9_yearsBy_48 : decode oX9_yearsBy.2.1 48 = .ok (.iload_n 3, 1) := by decide +kernel
theorem d_X9_yearsBy_49 : decode oX9_yearsBy.2.1 49 = .ok (.istore 5, 2) := by decide +kernel
theorem d_X9_yearsBy_51 : decode oX9_yearsBy.2.1 51 = .ok (.aload_n 0, 1) := by decide +kernel
theorem d_X9_yearsBy_52 : decode oX9_yearsBy.2.1 52 = .ok (.getfield 45, 3) := by decide +kernel
theorem d_X9_yearsBy_55 : decode oX9_yearsBy.2.1 55 = .ok (.iload_n 1, 1) := by decide +kernel
theorem d_X9_yearsBy_56 : decode oX9_yearsBy.2.1 56 = .ok (.iaload, 1) := by decide +kernel
theorem d_X9_yearsBy_57 : decode oX9_yearsBy.2.1 57 = .ok (.iload_n 2, 1) := by decide +kernel
theorem d_X9_yearsBy_58 : decode oX9_yearsBy.2.1 58 = .ok (.if_icmp .ne 13, 3) := by decide +kernel
theorem d_X9_yearsBy_61 : decode oX9_yearsBy.2.1 61 = .ok (.aload_n 0, 1) := by decide +kernel
theorem d_X9_yearsBy_62 : decode oX9_yearsBy.2.1 62 = .ok (.iload_n 1, 1) := by decide +kernel
theorem d_X9_yearsBy_63 : decode oX9_yearsBy.2.1 63 = .ok (.iload 5, 2) := by decide +kernel
theorem d_X9_yearsBy_65 : decode oX9_yearsBy.2.1 65 = .ok (.invokevirtual 283, 3) := by decide +kernel
theorem d_X9_yearsBy_68 : decode oX9_yearsBy.2.1 68 = .ok (.goto 4, 3) := by decide +kernel
theorem d_X9_yearsBy_71 : decode oX9_yearsBy.2.1 71 = .ok (.iconst 0, 1) := by decide +kernel
theorem d_X9_yearsBy_72 : decode oX9_yearsBy.2.1 72 = .ok (.istore 6, 2) := by decide +kernel
theorem d_X9_yearsBy_74 : decode oX9_yearsBy.2.1 74 = .ok (.iload 6, 2) := by decide +kernel
theorem d_X9_yearsBy_76 : decode oX9_yearsBy.2.1 76 = .ok (.aload_n 0, 1) := by decide +kernel
theorem d_X9_yearsBy_77 : decode oX9_yearsBy.2.1 77 = .ok (.getfield 42, 3) := by decide +kernel
theorem d_X9_yearsBy_80 : decode oX9_yearsBy.2.1 80 = .ok (.iload_n 1, 1) := by decide +kernel
theorem d_X9_yearsBy_81 : decode oX9_yearsBy.2.1 81 = .ok (.iaload, 1) := by decide +kernel
theorem d_X9_yearsBy_82 : decode oX9_yearsBy.2.1 82 = .ok (.iload_n 2, 1) := by decide +kernel
theorem d_X9_yearsBy_83 : decode oX9_yearsBy.2.1 83 = .ok (.if_icmp .ne 20, 3) := by decide +kernel
theorem d_X9_yearsBy_86 : decode oX9_yearsBy.2.1 86 = .ok (.aload_n 0, 1) := by decide +kernel
theorem d_X9_yearsBy_87 : decode oX9_yearsBy.2.1 87 = .ok (.iload_n 1, 1) := by decide +kernel
theorem d_X9_yearsBy_88 : decode oX9_yearsBy.2.1 88 = .ok (.iload_n 3, 1) := by decide +kernel
theorem d_X9_yearsBy_89 : decode oX9_yearsBy.2.1 89 = .ok (.invokevirtual 283, 3) := by decide +kernel
theorem d_X9_yearsBy_92 : decode oX9_yearsBy.2.1 92 = .ok (.aload_n 0, 1) := by decide +kernel
theorem d_X9_yearsBy_93 : decode oX9_yearsBy.2.1 93 = .ok (.iload_n 1, 1) := by decide +kernel
theorem d_X9_yearsBy_94 : decode oX9_yearsBy.2.1 94 = .ok (.iload 5, 2) := by decide +kernel
theorem d_X9_yearsBy_96 : decode oX9_yearsBy.2.1 96 = .ok (.invokevirtual 283, 3) := by decide +kernel
theorem d_X9_yearsBy_99 : decode oX9_yearsBy.2.1 99 = .ok (.isub, 1) := by decide +kernel
theorem d_X9_yearsBy_100 : decode oX9_yearsBy.2.1 100 = .ok (.goto 4, 3) := by decide +kernel
theorem d_X9_yearsBy_103 : decode oX9_yearsBy.2.1 103 = .ok (.iconst 0, 1) := by decide +kernel
theorem d_X9_yearsBy_104 : decode oX9_yearsBy.2.1 104 = .ok (.iadd, 1) := by decide +kernel
theorem d_X9_yearsBy_105 : decode oX9_yearsBy.2.1 105 = .ok (.ireturn, 1) := by decide +kernel
theorem b_X9_yearsBy_0 {E : ob_E} {σ : ob_Mem} {Q : Int32 → ob_Mem → Prop} {x1 x2 x3 : Int32} (k : (vp_in x2 6 ∧ ((¬ (σ.1 62 (x2).toNatClampNeg) = 0 → (vp_in x1 8 ∧ ((0 ≤ (σ.1 64 (x1).toNatClampNeg) → (vp_in x1 8 ∧ ob_RT shp E oX9_yearsBy 35 [.ref 53, .int x1, .int x2, .int x3, .null, .null, .null] [.int ((σ.1 65 (x1).toNatClampNeg) - (σ.1 53 9))] σ (ob_qI Q))) ∧ (¬ 0 ≤ (σ.1 64 (x1).toNatClampNeg) → ob_RT shp E oX9_yearsBy 35 [.ref 53, .int x1, .int x2, .int x3, .null, .null, .null] [.int (0 : Int32)] σ (ob_qI Q))))) ∧ ((σ.1 62 (x2).toNatClampNeg) = 0 → Q (0 : Int32) σ)))) : ob_RT shp E oX9_yearsBy 0 [.ref 53, .int x1, .int x2, .int x3, .null, .null, .null] [] σ (ob_qI Q) := by
  refine ob_aload_n d_X9_yearsBy_0 rfl ?_
  refine ob_getR d_X9_yearsBy_1 fl_X9_38 sh_53 rfl rfl ?_
  refine ob_iload_n d_X9_yearsBy_4 rfl ?_
  obtain ⟨hin, k⟩ := k
  refine ob_zald d_X9_yearsBy_5 sh_62 hin ?_
  refine ob_if_ne (tgt := 11) d_X9_yearsBy_6 rfl (fun cc => ?_) (fun cc => ?_)
  · have k := k.1 cc
    refine ob_aload_n d_X9_yearsBy_11 rfl ?_
    refine ob_getR d_X9_yearsBy_12 fl_X9_45 sh_53 rfl rfl ?_
    refine ob_iload_n d_X9_yearsBy_15 rfl ?_
    obtain ⟨hin, k⟩ := k
    refine ob_iald d_X9_yearsBy_16 sh_64 hin ?_
    refine ob_if_ge (tgt := 24) d_X9_yearsBy_17 rfl (fun cc => ?_) (fun cc => ?_)
    · have k := k.1 cc
      refine ob_aload_n d_X9_yearsBy_24 rfl ?_
      refine ob_getR d_X9_yearsBy_25 fl_X9_48 sh_53 rfl rfl ?_
      refine ob_iload_n d_X9_yearsBy_28 rfl ?_
      obtain ⟨hin, k⟩ := k
      refine ob_iald d_X9_yearsBy_29 sh_65 hin ?_
      refine ob_aload_n d_X9_yearsBy_30 rfl ?_
      refine ob_getI d_X9_yearsBy_31 fl_X9_118 sh_53 rfl (by decide) ?_
      refine ob_isub d_X9_yearsBy_34 ?_
      exact k
    · have k := k.2 cc
      refine ob_iconst (v := 0) d_X9_yearsBy_20 ci_0 ?_
      refine ob_goto (tgt := 35) d_X9_yearsBy_21 rfl ?_
      exact k
  · have k := k.2 cc
    refine ob_iconst (v := 0) d_X9_yearsBy_9 ci_0 ?_
    exact ob_iret d_X9_yearsBy_10 rfl ⟨_, rfl, k⟩
theorem b_X9_yearsBy_35 {E : ob_E} {σ : ob_Mem} {Q : Int32 → ob_Mem → Prop} {x1 x2 x3 s0 : Int32} (k : ((x3 ≤ s0 → ob_RT shp E oX9_yearsBy 49 [.ref 53, .int x1, .int x2, .int x3, .int s0, .null, .null] [.int x3] σ (ob_qI Q)) ∧ (¬ x3 ≤ s0 → ob_RT shp E oX9_yearsBy 49 [.ref 53, .int x1, .int x2, .int x3, .int s0, .null, .null] [.int s0] σ (ob_qI Q)))) : ob_RT shp E oX9_yearsBy 35 [.ref 53, .int x1, .int x2, .int x3, .null, .null, .null] [.int s0] σ (ob_qI Q) := by
  refine ob_istore (ls' := [.ref 53, .int x1, .int x2, .int x3, .int s0, .null, .null]) d_X9_yearsBy_35 (Nat.le_of_ble_eq_true rfl) rfl ?_
  refine ob_iload d_X9_yearsBy_37 rfl ?_
  refine ob_iload_n d_X9_yearsBy_39 rfl ?_
  refine ob_icmp_ge (tgt := 48) d_X9_yearsBy_40 rfl (fun cc => ?_) (fun cc => ?_)
  · have k := k.1 cc
    refine ob_iload_n d_X9_yearsBy_48 rfl ?_
    exact k
  · have k := k.2 cc
    refine ob_iload d_X9_yearsBy_43 rfl ?_
    refine ob_goto (tgt := 49) d_X9_yearsBy_45 rfl ?_
    exact k
theorem b_X9_yearsBy_49 {E : ob_E} {σ : ob_Mem} {Q : Int32 → ob_Mem → Prop} {x1 x2 x3 x4 s0 : Int32} (k : (vp_in x1 8 ∧ ((¬ (σ.1 64 (x1).toNatClampNeg) = x2 → ob_RT shp E oX9_yearsBy 72 [.ref 53, .int x1, .int x2, .int x3, .int x4, .int s0, .null] [.int (0 : Int32)] σ (ob_qI Q)) ∧ ((σ.1 64 (x1).toNatClampNeg) = x2 → ob_RM shp E oX9_timesIn [.ref 53, .int x1, .int s0] σ (ob_qI fun v2 σ1 => ob_RT shp E oX9_yearsBy 72 [.ref 53, .int x1, .int x2, .int x3, .int x4, .int s0, .null] [.int v2] σ1 (ob_qI Q)))))) : ob_RT shp E oX9_yearsBy 49 [.ref 53, .int x1, .int x2, .int x3, .int x4, .null, .null] [.int s0] σ (ob_qI Q) := by
  refine ob_istore (ls' := [.ref 53, .int x1, .int x2, .int x3, .int x4, .int s0, .null]) d_X9_yearsBy_49 (Nat.le_of_ble_eq_true rfl) rfl ?_
  refine ob_aload_n d_X9_yearsBy_51 rfl ?_
  refine ob_getR d_X9_yearsBy_52 fl_X9_45 sh_53 rfl rfl ?_
  refine ob_iload_n d_X9_yearsBy_55 rfl ?_
  obtain ⟨hin, k⟩ := k
  refine ob_iald d_X9_yearsBy_56 sh_64 hin ?_
  refine ob_iload_n d_X9_yearsBy_57 rfl ?_
  refine ob_icmp_ne (tgt := 71) d_X9_yearsBy_58 rfl (fun cc => ?_) (fun cc => ?_)
  · have k := k.1 cc
    refine ob_iconst (v := 0) d_X9_yearsBy_71 ci_0 ?_
    exact k
  · have k := k.2 cc
    refine ob_aload_n d_X9_yearsBy_61 rfl ?_
    refine ob_iload_n d_X9_yearsBy_62 rfl ?_
    refine ob_iload d_X9_yearsBy_63 rfl ?_
    refine ob_callV [.int x1, .int s0] (z := oX9_timesIn) (st := []) d_X9_yearsBy_65 lk_X9_283 mv_X9_timesIn rfl sh_53 cl_9 rfl (Nat.le_of_ble_eq_true rfl) rfl k (ob_kI fun v2 σ1 k => ?_)
    refine ob_goto (tgt := 72) d_X9_yearsBy_68 rfl ?_
    exact k
theorem b_X9_yearsBy_72 {E : ob_E} {σ : ob_Mem} {Q : Int32 → ob_Mem → Prop} {x1 x2 x3 x4 x5 s0 : Int32} (k : (vp_in x1 8 ∧ ((¬ (σ.1 63 (x1).toNatClampNeg) = x2 → Q (s0 + (0 : Int32)) σ) ∧ ((σ.1 63 (x1).toNatClampNeg) = x2 → ob_RM shp E oX9_timesIn [.ref 53, .int x1, .int x3] σ (ob_qI fun v2 σ1 => ob_RM shp E oX9_timesIn [.ref 53, .int x1, .int x5] σ1 (ob_qI fun v4 σ3 => Q (s0 + (v2 - v4)) σ3)))))) : ob_RT shp E oX9_yearsBy 72 [.ref 53, .int x1, .int x2, .int x3, .int x4, .int x5, .null] [.int s0] σ (ob_qI Q) := by
  refine ob_istore (ls' := [.ref 53, .int x1, .int x2, .int x3, .int x4, .int x5, .int s0]) d_X9_yearsBy_72 (Nat.le_of_ble_eq_true rfl) rfl ?_
  refine ob_iload d_X9_yearsBy_74 rfl ?_
  refine ob_aload_n d_X9_yearsBy_76 rfl ?_
  refine ob_getR d_X9_yearsBy_77 fl_X9_42 sh_53 rfl rfl ?_
  refine ob_iload_n d_X9_yearsBy_80 rfl ?_
  obtain ⟨hin, k⟩ := k
  refine ob_iald d_X9_yearsBy_81 sh_63 hin ?_
  refine ob_iload_n d_X9_yearsBy_82 rfl ?_
  refine ob_icmp_ne (tgt := 103) d_X9_yearsBy_83 rfl (fun cc => ?_) (fun cc => ?_)
  · have k := k.1 cc
    refine ob_iconst (v := 0) d_X9_yearsBy_103 ci_0 ?_
    refine ob_iadd d_X9_yearsBy_104 ?_
    exact ob_iret d_X9_yearsBy_105 rfl ⟨_, rfl, k⟩
  · have k := k.2 cc
    refine ob_aload_n d_X9_yearsBy_86 rfl ?_
    refine ob_iload_n d_X9_yearsBy_87 rfl ?_
    refine ob_iload_n d_X9_yearsBy_88 rfl ?_
    refine ob_callV [.int x1, .int x3] (z := oX9_timesIn) (st := [.int s0]) d_X9_yearsBy_89 lk_X9_283 mv_X9_timesIn rfl sh_53 cl_9 rfl (Nat.le_of_ble_eq_true rfl) rfl k (ob_kI fun v2 σ1 k => ?_)
    refine ob_aload_n d_X9_yearsBy_92 rfl ?_
    refine ob_iload_n d_X9_yearsBy_93 rfl ?_
    refine ob_iload d_X9_yearsBy_94 rfl ?_
    refine ob_callV [.int x1, .int x5] (z := oX9_timesIn) (st := [.int v2, .int s0]) d_X9_yearsBy_96 lk_X9_283 mv_X9_timesIn rfl sh_53 cl_9 rfl (Nat.le_of_ble_eq_true rfl) rfl k (ob_kI fun v4 σ3 k => ?_)
    refine ob_isub d_X9_yearsBy_99 ?_
    refine ob_goto (tgt := 104) d_X9_yearsBy_100 rfl ?_
    refine ob_iadd d_X9_yearsBy_104 ?_
    exact ob_iret d_X9_yearsBy_105 rfl ⟨_, rfl, k⟩
theorem d_X9_areEnough_0 : decode oX9_areEnough.2.1 0 = .ok (.iconst 0, 1) := by decide +kernel
theorem d_X9_areEnough_1 : decode oX9_areEnough.2.1 1 = .ok (.istore_n 3, 1) := by decide +kernel
theorem d_X9_areEnough_2 : decode oX9_areEnough.2.1 2 = .ok (.iconst 0, 1) := by decide +kernel
theorem d_X9_areEnough_3 : decode oX9_areEnough.2.1 3 = .ok (.istore 4, 2) := by decide +kernel
theorem d_X9_areEnough_5 : decode oX9_areEnough.2.1 5 = .ok (.iload 4, 2) := by decide +kernel
theorem d_X9_areEnough_7 : decode oX9_areEnough.2.1 7 = .ok (.aload_n 0, 1) := by decide +kernel
theorem d_X9_areEnough_8 : decode oX9_areEnough.2.1 8 = .ok (.getfield 108, 3) := by decide +kernel
theorem d_X9_areEnough_11 : decode oX9_areEnough.2.1 11 = .ok (.if_icmp .ge 88, 3) := by decide +kernel
theorem d_X9_areEnough_14 : decode oX9_areEnough.2.1 14 = .ok (.aload_n 0, 1) := by decide +kernel
theorem d_X9_areEnough_15 : decode oX9_areEnough.2.1 15 = .ok (.getfield 32, 3) := by decide +kernel
theorem d_X9_areEnough_18 : decode oX9_areEnough.2.1 18 = .ok (.iload 4, 2) := by decide +kernel
theorem d_X9_areEnough_20 : decode oX9_areEnough.2.1 20 = .ok (.iaload, 1) := by decide +kernel
theorem d_X9_areEnough_21 : decode oX9_areEnough.2.1 21 = .ok (.istore 5, 2) := by decide +kernel
theorem d_X9_areEnough_23 : decode oX9_areEnough.2.1 23 = .ok (.iconst 0, 1) := by decide +kernel
theorem d_X9_areEnough_24 : decode oX9_areEnough.2.1 24 = .ok (.istore 6, 2) := by decide +kernel
theorem d_X9_areEnough_26 : decode oX9_areEnough.2.1 26 = .ok (.iload 6, 2) := by decide +kernel
theorem d_X9_areEnough_28 : decode oX9_areEnough.2.1 28 = .ok (.aload_n 0, 1) := by decide +kernel
theorem d_X9_areEnough_29 : decode oX9_areEnough.2.1 29 = .ok (.getfield 115, 3) := by decide +kernel
theorem d_X9_areEnough_32 : decode oX9_areEnough.2.1 32 = .ok (.if_icmp .ge 37, 3) := by decide +kernel
theorem d_X9_areEnough_35 : decode oX9_areEnough.2.1 35 = .ok (.iload 5, 2) := by decide +kernel
theorem d_X9_areEnough_37 : decode oX9_areEnough.2.1 37 = .ok (.aload_n 0, 1) := by decide +kernel
theorem d_X9_areEnough_38 : decode oX9_areEnough.2.1 38 = .ok (.getfield 78, 3) := by decide +kernel
theorem d_X9_areEnough_41 : decode oX9_areEnough.2.1 41 = .ok (.iload 6, 2) := by decide +kernel
theorem d_X9_areEnough_43 : decode oX9_areEnough.2.1 43 = .ok (.iaload, 1) := by decide +kernel
theorem d_X9_areEnough_44 : decode oX9_areEnough.2.1 44 = .ok (.iload 4, 2) := by decide +kernel
theorem d_X9_areEnough_46 : decode oX9_areEnough.2.1 46 = .ok (.if_icmp .ne 13, 3) := by decide +kernel
theorem d_X9_areEnough_49 : decode oX9_areEnough.2.1 49 = .ok (.aload_n 0, 1) := by decide +kernel
theorem d_X9_areEnough_50 : decode oX9_areEnough.2.1 50 = .ok (.getfield 81, 3) := by decide +kernel
theorem d_X9_areEnough_53 : decode oX9_areEnough.2.1 53 = .ok (.iload 6, 2) := by decide +kernel
theorem d_X9_areEnough_55 : decode oX9_areEnough.2.1 55 = .ok (.iaload, 1) := by decide +kernel
theorem d_X9_areEnough_56 : decode oX9_areEnough.2.1 56 = .ok (.goto 4, 3) := by decide +kernel
theorem d_X9_areEnough_59 : decode oX9_areEnough.2.1 59 = .ok (.iconst 0, 1) := by decide +kernel
theorem d_X9_areEnough_60 : decode oX9_areEnough.2.1 60 = .ok (.iadd, 1) := by decide +kernel
theorem d_X9_areEnough_61 : decode oX9_areEnough.2.1 61 = .ok (.istore 5, 2) := by decide +kernel
theorem d_X9_areEnough_63 : decode oX9_areEnough.2.1 63 = .ok (.iinc 6 1, 3) := by decide +kernel
theorem d_X9_areEnough_66 : decode oX9_areEnough.2.1 66 = .ok (.goto (-40), 3) := by decide +kernel
theorem d_X9_areEnough_69 : decode oX9_areEnough.2.1 69 = .ok (.iload_n 3, 1) := by decide +kernel
theorem d_X9_areEnough_70 : decode oX9_areEnough.2.1 70 = .ok (.aload_n 0, 1) := by decide +kernel
theorem d_X9_areEnough_71 : decode oX9_areEnough.2.1 71 = .ok (.getfield 38, 3) := by decide +kernel
theorem d_X9_areEnough_74 : decode oX9_areEnough.2.1 74 = .ok (.iload 4, 2) := by decide +kernel
theorem d_X9_areEnough_76 : decode oX9_areEnough.2.1 76 = .ok (.baload, 1) := by decide +kernel
theorem d_X9_areEnough_77 : decode oX9_areEnough.2.1 77 = .ok (.ifCond .eq 13, 3) := by decide +kernel
theorem d_X9_areEnough_80 : decode oX9_areEnough.2.1 80 = .ok (.iload 5, 2) := by decide +kernel
theorem d_X9_areEnough_82 : decode oX9_areEnough.2.1 82 = .ok (.iload_n 2, 1) := by decide +kernel
theorem d_X9_areEnough_83 : decode oX9_areEnough.2.1 83 = .ok (.if_icmp .lt 7, 3) := by decide +kernel
theorem d_X9_areEnough_86 : decode oX9_areEnough.2.1 86 = .ok (.iconst 1, 1) := by decide +kernel
theorem d_X9_areEnough_87 : decode oX9_areEnough.2.1 87 = .ok (.goto 4, 3) := by decide +kernel
theorem d_X9_areEnough_90 : decode oX9_areEnough.2.1 90 = .ok (.iconst 0, 1) := by decide +kernel
theorem d_X9_areEnough_91 : decode oX9_areEnough.2.1 91 = .ok (.iadd, 1) := by decide +kernel
theorem d_X9_areEnough_92 : decode oX9_areEnough.2.1 92 = .ok (.istore_n 3, 1) := by decide +kernel
theorem d_X9_areEnough_93 : decode oX9_areEnough.2.1 93 = .ok (.iinc 4 1, 3) := by decide +kernel
theorem d_X9_areEnough_96 : decode oX9_areEnough.2.1 96 = .ok (.goto (-91), 3) := by decide +kernel
theorem d_X9_areEnough_99 : decode oX9_areEnough.2.1 99 = .ok (.iload_n 3, 1) := by decide +kernel
theorem d_X9_areEnough_100 : decode oX9_areEnough.2.1 100 = .ok (.iload_n 1, 1) := by decide +kernel
theorem d_X9_areEnough_101 : decode oX9_areEnough.2.1 101 = .ok (.if_icmp .lt 7, 3) := by decide +kernel
theorem d_X9_areEnough_104 : decode oX9_areEnough.2.1 104 = .ok (.iconst 1, 1) := by decide +kernel
theorem d_X9_areEnough_105 : decode oX9_areEnough.2.1 105 = .ok (.goto 4, 3) := by decide +kernel
theorem d_X9_areEnough_108 : decode oX9_areEnough.2.1 108 = .ok (.iconst 0, 1) := by decide +kernel
theorem d_X9_areEnough_109 : decode oX9_areEnough.2.1 109 = .ok (.ireturn, 1) := by decide +kernel
theorem b_X9_areEnough_0 {E : ob_E} {σ : ob_Mem} {Q : Int32 → ob_Mem → Prop} {x1 x2 : Int32} (k : ob_RT shp E oX9_areEnough 5 [.ref 53, .int x1, .int x2, .int (0 : Int32), .int (0 : Int32), .null, .null] [] σ (ob_qI Q)) : ob_RT shp E oX9_areEnough 0 [.ref 53, .int x1, .int x2, .null, .null, .null, .null] [] σ (ob_qI Q) := by
  refine ob_iconst (v := 0) d_X9_areEnough_0 ci_0 ?_
  refine ob_istore_n (ls' := [.ref 53, .int x1, .int x2, .int (0 : Int32), .null, .null, .null]) d_X9_areEnough_1 (Nat.le_of_ble_eq_true rfl) rfl ?_
  refine ob_iconst (v := 0) d_X9_areEnough_2 ci_0 ?_
  refine ob_istore (ls' := [.ref 53, .int x1, .int x2, .int (0 : Int32), .int (0 : Int32), .null, .null]) d_X9_areEnough_3 (Nat.le_of_ble_eq_true rfl) rfl ?_
  exact k
theorem b_X9_areEnough_5 {E : ob_E} {σ : ob_Mem} {Q : Int32 → ob_Mem → Prop} {x1 x2 x3 x4 : Int32} (k : (((σ.1 53 1) ≤ x4 → ((x3 < x1 → Q (0 : Int32) σ) ∧ (¬ x3 < x1 → Q (1 : Int32) σ))) ∧ (¬ (σ.1 53 1) ≤ x4 → (vp_in x4 6 ∧ ob_RT shp E oX9_areEnough 26 [.ref 53, .int x1, .int x2, .int x3, .int x4, .int (σ.1 60 (x4).toNatClampNeg), .int (0 : Int32)] [] σ (ob_qI Q))))) : ob_RT shp E oX9_areEnough 5 [.ref 53, .int x1, .int x2, .int x3, .int x4, .null, .null] [] σ (ob_qI Q) := by
  refine ob_iload d_X9_areEnough_5 rfl ?_
  refine ob_aload_n d_X9_areEnough_7 rfl ?_
  refine ob_getI d_X9_areEnough_8 fl_X9_108 sh_53 rfl (by decide) ?_
  refine ob_icmp_ge (tgt := 99) d_X9_areEnough_11 rfl (fun cc => ?_) (fun cc => ?_)
  · have k := k.1 cc
    refine ob_iload_n d_X9_areEnough_99 rfl ?_
    refine ob_iload_n d_X9_areEnough_100 rfl ?_
    refine ob_icmp_lt (tgt := 108) d_X9_areEnough_101 rfl (fun cc => ?_) (fun cc => ?_)
    · have k := k.1 cc
      refine ob_iconst (v := 0) d_X9_areEnough_108 ci_0 ?_
      exact ob_zret d_X9_areEnough_109 rfl rfl ⟨_, rfl, k⟩
    · have k := k.2 cc
      refine ob_iconst (v := 1) d_X9_areEnough_104 ci_1 ?_
      refine ob_goto (tgt := 109) d_X9_areEnough_105 rfl ?_
      exact ob_zret d_X9_areEnough_109 rfl rfl ⟨_, rfl, k⟩
  · have k := k.2 cc
    refine ob_aload_n d_X9_areEnough_14 rfl ?_
    refine ob_getR d_X9_areEnough_15 fl_X9_32 sh_53 rfl rfl ?_
    refine ob_iload d_X9_areEnough_18 rfl ?_
    obtain ⟨hin, k⟩ := k
    refine ob_iald d_X9_areEnough_20 sh_60 hin ?_
    refine ob_istore (ls' := [.ref 53, .int x1, .int x2, .int x3, .int x4, .int (σ.1 60 (x4).toNatClampNeg), .null]) d_X9_areEnough_21 (Nat.le_of_ble_eq_true rfl) rfl ?_
    refine ob_iconst (v := 0) d_X9_areEnough_23 ci_0 ?_
    refine ob_istore (ls' := [.ref 53, .int x1, .int x2, .int x3, .int x4, .int (σ.1 60 (x4).toNatClampNeg), .int (0 : Int32)]) d_X9_areEnough_24 (Nat.le_of_ble_eq_true rfl) rfl ?_
    exact k
theorem b_X9_areEnough_26 {E : ob_E} {σ : ob_Mem} {Q : Int32 → ob_Mem → Prop} {x1 x2 x3 x4 x5 x6 : Int32} (k : (((σ.1 53 4) ≤ x6 → (vp_in x4 6 ∧ (((σ.1 62 (x4).toNatClampNeg) = 0 → ob_RT shp E oX9_areEnough 5 [.ref 53, .int x1, .int x2, .int (x3 + (0 : Int32)), .int (x4 + (1 : Int32)), .null, .null] [] σ (ob_qI Q)) ∧ (¬ (σ.1 62 (x4).toNatClampNeg) = 0 → ((x5 < x2 → ob_RT shp E oX9_areEnough 5 [.ref 53, .int x1, .int x2, .int (x3 + (0 : Int32)), .int (x4 + (1 : Int32)), .null, .null] [] σ (ob_qI Q)) ∧ (¬ x5 < x2 → ob_RT shp E oX9_areEnough 5 [.ref 53, .int x1, .int x2, .int (x3 + (1 : Int32)), .int (x4 + (1 : Int32)), .null, .null] [] σ (ob_qI Q))))))) ∧ (¬ (σ.1 53 4) ≤ x6 → (vp_in x6 8 ∧ ((¬ (σ.1 74 (x6).toNatClampNeg) = x4 → ob_RT shp E oX9_areEnough 26 [.ref 53, .int x1, .int x2, .int x3, .int x4, .int (x5 + (0 : Int32)), .int (x6 + (1 : Int32))] [] σ (ob_qI Q)) ∧ ((σ.1 74 (x6).toNatClampNeg) = x4 → (vp_in x6 8 ∧ ob_RT shp E oX9_areEnough 26 [.ref 53, .int x1, .int x2, .int x3, .int x4, .int (x5 + (σ.1 75 (x6).toNatClampNeg)), .int (x6 + (1 : Int32))] [] σ (ob_qI Q)))))))) : ob_RT shp E oX9_areEnough 26 [.ref 53, .int x1, .int x2, .int x3, .int x4, .int x5, .int x6] [] σ (ob_qI Q) := by
  refine ob_iload d_X9_areEnough_26 rfl ?_
  refine ob_aload_n d_X9_areEnough_28 rfl ?_
  refine ob_getI d_X9_areEnough_29 fl_X9_115 sh_53 rfl (by decide) ?_
  refine ob_icmp_ge (tgt := 69) d_X9_areEnough_32 rfl (fun cc => ?_) (fun cc => ?_)
  · have k := k.1 cc
    refine ob_iload_n d_X9_areEnough_69 rfl ?_
    refine ob_aload_n d_X9_areEnough_70 rfl ?_
    refine ob_getR d_X9_areEnough_71 fl_X9_38 sh_53 rfl rfl ?_
    refine ob_iload d_X9_areEnough_74 rfl ?_
    obtain ⟨hin, k⟩ := k
    refine ob_zald d_X9_areEnough_76 sh_62 hin ?_
    refine ob_if_eq (tgt := 90) d_X9_areEnough_77 rfl (fun cc => ?_) (fun cc => ?_)
    · have k := k.1 cc
      refine ob_iconst (v := 0) d_X9_areEnough_90 ci_0 ?_
      refine ob_iadd d_X9_areEnough_91 ?_
      refine ob_istore_n (ls' := [.ref 53, .int x1, .int x2, .int (x3 + (0 : Int32)), .int x4, .int x5, .int x6]) d_X9_areEnough_92 (Nat.le_of_ble_eq_true rfl) rfl ?_
      refine ob_iinc (ls' := [.ref 53, .int x1, .int x2, .int (x3 + (0 : Int32)), .int (x4 + (1 : Int32)), .int x5, .int x6]) (v := 1) d_X9_areEnough_93 rfl ci_1 (Nat.le_of_ble_eq_true rfl) rfl ?_
      refine ob_goto (tgt := 5) d_X9_areEnough_96 rfl ?_
      refine ob_drop 5 (ls' := [.ref 53, .int x1, .int x2, .int (x3 + (0 : Int32)), .int (x4 + (1 : Int32)), .null, .int x6]) rfl ?_
      refine ob_drop 6 (ls' := [.ref 53, .int x1, .int x2, .int (x3 + (0 : Int32)), .int (x4 + (1 : Int32)), .null, .null]) rfl ?_
      exact k
    · have k := k.2 cc
      refine ob_iload d_X9_areEnough_80 rfl ?_
      refine ob_iload_n d_X9_areEnough_82 rfl ?_
      refine ob_icmp_lt (tgt := 90) d_X9_areEnough_83 rfl (fun cc => ?_) (fun cc => ?_)
      · have k := k.1 cc
        refine ob_iconst (v := 0) d_X9_areEnough_90 ci_0 ?_
        refine ob_iadd d_X9_areEnough_91 ?_
        refine ob_istore_n (ls' := [.ref 53, .int x1, .int x2, .int (x3 + (0 : Int32)), .int x4, .int x5, .int x6]) d_X9_areEnough_92 (Nat.le_of_ble_eq_true rfl) rfl ?_
        refine ob_iinc (ls' := [.ref 53, .int x1, .int x2, .int (x3 + (0 : Int32)), .int (x4 + (1 : Int32)), .int x5, .int x6]) (v := 1) d_X9_areEnough_93 rfl ci_1 (Nat.le_of_ble_eq_true rfl) rfl ?_
        refine ob_goto (tgt := 5) d_X9_areEnough_96 rfl ?_
        refine ob_drop 5 (ls' := [.ref 53, .int x1, .int x2, .int (x3 + (0 : Int32)), .int (x4 + (1 : Int32)), .null, .int x6]) rfl ?_
        refine ob_drop 6 (ls' := [.ref 53, .int x1, .int x2, .int (x3 + (0 : Int32)), .int (x4 + (1 : Int32)), .null, .null]) rfl ?_
        exact k
      · have k := k.2 cc
        refine ob_iconst (v := 1) d_X9_areEnough_86 ci_1 ?_
        refine ob_goto (tgt := 91) d_X9_areEnough_87 rfl ?_
        refine ob_iadd d_X9_areEnough_91 ?_
        refine ob_istore_n (ls' := [.ref 53, .int x1, .int x2, .int (x3 + (1 : Int32)), .int x4, .int x5, .int x6]) d_X9_areEnough_92 (Nat.le_of_ble_eq_true rfl) rfl ?_
        refine ob_iinc (ls' := [.ref 53, .int x1, .int x2, .int (x3 + (1 : Int32)), .int (x4 + (1 : Int32)), .int x5, .int x6]) (v := 1) d_X9_areEnough_93 rfl ci_1 (Nat.le_of_ble_eq_true rfl) rfl ?_
        refine ob_goto (tgt := 5) d_X9_areEnough_96 rfl ?_
        refine ob_drop 5 (ls' := [.ref 53, .int x1, .int x2, .int (x3 + (1 : Int32)), .int (x4 + (1 : Int32)), .null, .int x6]) rfl ?_
        refine ob_drop 6 (ls' := [.ref 53, .int x1, .int x2, .int (x3 + (1 : Int32)), .int (x4 + (1 : Int32)), .null, .null]) rfl ?_
        exact k
  · have k := k.2 cc
    refine ob_iload d_X9_areEnough_35 rfl ?_
    refine ob_aload_n d_X9_areEnough_37 rfl ?_
    refine ob_getR d_X9_areEnough_38 fl_X9_78 sh_53 rfl rfl ?_
    refine ob_iload d_X9_areEnough_41 rfl ?_
    obtain ⟨hin, k⟩ := k
    refine ob_iald d_X9_areEnough_43 sh_74 hin ?_
    refine ob_iload d_X9_areEnough_44 rfl ?_
    refine ob_icmp_ne (tgt := 59) d_X9_areEnough_46 rfl (fun cc => ?_) (fun cc => ?_)
    · have k := k.1 cc
      refine ob_iconst (v := 0) d_X9_areEnough_59 ci_0 ?_
      refine ob_iadd d_X9_areEnough_60 ?_
      refine ob_istore (ls' := [.ref 53, .int x1, .int x2, .int x3, .int x4, .int (x5 + (0 : Int32)), .int x6]) d_X9_areEnough_61 (Nat.le_of_ble_eq_true rfl) rfl ?_
      refine ob_iinc (ls' := [.ref 53, .int x1, .int x2, .int x3, .int x4, .int (x5 + (0 : Int32)), .int (x6 + (1 : Int32))]) (v := 1) d_X9_areEnough_63 rfl ci_1 (Nat.le_of_ble_eq_true rfl) rfl ?_
      refine ob_goto (tgt := 26) d_X9_areEnough_66 rfl ?_
      exact k
    · have k := k.2 cc
      refine ob_aload_n d_X9_areEnough_49 rfl ?_
      refine ob_getR d_X9_areEnough_50 fl_X9_81 sh_53 rfl rfl ?_
      refine ob_iload d_X9_areEnough_53 rfl ?_
      obtain ⟨hin, k⟩ := k
      refine ob_iald d_X9_areEnough_55 sh_75 hin ?_
      refine ob_goto (tgt := 60) d_X9_areEnough_56 rfl ?_
      refine ob_iadd d_X9_areEnough_60 ?_
      refine ob_istore (ls' := [.ref 53, .int x1, .int x2, .int x3, .int x4, .int (x5 + (σ.1 75 (x6).toNatClampNeg)), .int x6]) d_X9_areEnough_61 (Nat.le_of_ble_eq_true rfl) rfl ?_
      refine ob_iinc (ls' := [.ref 53, .int x1, .int x2, .int x3, .int x4, .int (x5 + (σ.1 75 (x6).toNatClampNeg)), .int (x6 + (1 : Int32))]) (v := 1) d_X9_areEnough_63 rfl ci_1 (Nat.le_of_ble_eq_true rfl) rfl ?_
      refine ob_goto (tgt := 26) d_X9_areEnough_66 rfl ?_
      exact k
theorem d_X9_worthTo_0 : decode oX9_worthTo.2.1 0 = .ok (.aload_n 0, 1) := by decide +kernel
theorem d_X9_worthTo_1 : decode oX9_worthTo.2.1 1 = .ok (.iload_n 2, 1) := by decide +kernel
theorem d_X9_worthTo_2 : decode oX9_worthTo.2.1 2 = .ok (.invokevirtual 242, 3) := by decide +kernel
theorem d_X9_worthTo_5 : decode oX9_worthTo.2.1 5 = .ok (.iconst 1, 1) := by decide +kernel
theorem d_X9_worthTo_6 : decode oX9_worthTo.2.1 6 = .ok (.iload_n 1, 1) := by decide +kernel
theorem d_X9_worthTo_7 : decode oX9_worthTo.2.1 7 = .ok (.ishl, 1) := by decide +kernel
theorem d_X9_worthTo_8 : decode oX9_worthTo.2.1 8 = .ok (.ior, 1) := by decide +kernel
theorem d_X9_worthTo_9 : decode oX9_worthTo.2.1 9 = .ok (.invokestatic 313, 3) := by decide +kernel
theorem d_X9_worthTo_12 : decode oX9_worthTo.2.1 12 = .ok (.istore_n 3, 1) := by decide +kernel
theorem d_X9_worthTo_13 : decode oX9_worthTo.2.1 13 = .ok (.aload_n 0, 1) := by decide +kernel
theorem d_X9_worthTo_14 : decode oX9_worthTo.2.1 14 = .ok (.aload_n 0, 1) := by decide +kernel
theorem d_X9_worthTo_15 : decode oX9_worthTo.2.1 15 = .ok (.getfield 32, 3) := by decide +kernel
theorem d_X9_worthTo_18 : decode oX9_worthTo.2.1 18 = .ok (.iload_n 2, 1) := by decide +kernel
theorem d_X9_worthTo_19 : decode oX9_worthTo.2.1 19 = .ok (.iaload, 1) := by decide +kernel
theorem d_X9_worthTo_20 : decode oX9_worthTo.2.1 20 = .ok (.iload_n 3, 1) := by decide +kernel
theorem d_X9_worthTo_21 : decode oX9_worthTo.2.1 21 = .ok (.iadd, 1) := by decide +kernel
theorem d_X9_worthTo_22 : decode oX9_worthTo.2.1 22 = .ok (.invokevirtual 259, 3) := by decide +kernel
theorem d_X9_worthTo_25 : decode oX9_worthTo.2.1 25 = .ok (.aload_n 0, 1) := by decide +kernel
theorem d_X9_worthTo_26 : decode oX9_worthTo.2.1 26 = .ok (.aload_n 0, 1) := by decide +kernel
theorem d_X9_worthTo_27 : decode oX9_worthTo.2.1 27 = .ok (.getfield 32, 3) := by decide +kernel
theorem d_X9_worthTo_30 : decode oX9_worthTo.2.1 30 = .ok (.iload_n 2, 1) := by decide +kernel
theorem d_X9_worthTo_31 : decode oX9_worthTo.2.1 31 = .ok (.iaload, 1) := by decide +kernel
theorem d_X9_worthTo_32 : decode oX9_worthTo.2.1 32 = .ok (.iload_n 3, 1) := by decide +kernel
theorem d_X9_worthTo_33 : decode oX9_worthTo.2.1 33 = .ok (.iadd, 1) := by decide +kernel
theorem d_X9_worthTo_34 : decode oX9_worthTo.2.1 34 = .ok (.iconst 1, 1) := by decide +kernel
theorem d_X9_worthTo_35 : decode oX9_worthTo.2.1 35 = .ok (.isub, 1) := by decide +kernel
theorem d_X9_worthTo_36 : decode oX9_worthTo.2.1 36 = .ok (.invokevirtual 259, 3) := by decide +kernel
theorem d_X9_worthTo_39 : decode oX9_worthTo.2.1 39 = .ok (.isub, 1) := by decide +kernel
theorem d_X9_worthTo_40 : decode oX9_worthTo.2.1 40 = .ok (.ireturn, 1) := by decide +kernel
theorem b_X9_worthTo_0 {E : ob_E} {σ : ob_Mem} {Q : Int32 → ob_Mem → Prop} {x1 x2 : Int32} (k : ob_RM shp E oX9_ownedBy [.ref 53, .int x2] σ (ob_qI fun v2 σ1 => ob_RM shp E oX9_bits [.int (v2 ||| ((1 : Int32) <<< (x1 &&& 31)))] σ1 (ob_qI fun v4 σ3 => (vp_in x2 6 ∧ ob_RM shp E oX9_goodOf [.ref 53, .int ((σ3.1 60 (x2).toNatClampNeg) + v4)] σ3 (ob_qI fun v6 σ5 => (vp_in x2 6 ∧ ob_RM shp E oX9_goodOf [.ref 53, .int (((σ5.1 60 (x2).toNatClampNeg) + v4) - (1 : Int32))] σ5 (ob_qI fun v8 σ7 => Q (v6 - v8) σ7))))))) : ob_RT shp E oX9_worthTo 0 [.ref 53, .int x1, .int x2, .null] [] σ (ob_qI Q) := by
  refine ob_aload_n d_X9_worthTo_0 rfl ?_
  refine ob_iload_n d_X9_worthTo_1 rfl ?_
  refine ob_callV [.int x2] (z := oX9_ownedBy) (st := []) d_X9_worthTo_2 lk_X9_242 mv_X9_ownedBy rfl sh_53 cl_9 rfl (Nat.le_of_ble_eq_true rfl) rfl k (ob_kI fun v2 σ1 k => ?_)
  refine ob_iconst (v := 1) d_X9_worthTo_5 ci_1 ?_
  refine ob_iload_n d_X9_worthTo_6 rfl ?_
  refine ob_ishl d_X9_worthTo_7 ?_
  refine ob_ior d_X9_worthTo_8 ?_
  refine ob_callS [.int (v2 ||| ((1 : Int32) <<< (x1 &&& 31)))] (z := oX9_bits) (st := []) d_X9_worthTo_9 lk_X9_313 ms_X9_bits rfl (Nat.le_of_ble_eq_true rfl) rfl k (ob_kI fun v4 σ3 k => ?_)
  refine ob_istore_n (ls' := [.ref 53, .int x1, .int x2, .int v4]) d_X9_worthTo_12 (Nat.le_of_ble_eq_true rfl) rfl ?_
  refine ob_aload_n d_X9_worthTo_13 rfl ?_
  refine ob_aload_n d_X9_worthTo_14 rfl ?_
  refine ob_getR d_X9_worthTo_15 fl_X9_32 sh_53 rfl rfl ?_
  refine ob_iload_n d_X9_worthTo_18 rfl ?_
  obtain ⟨hin, k⟩ := k
  refine ob_iald d_X9_worthTo_19 sh_60 hin ?_
  refine ob_iload_n d_X9_worthTo_20 rfl ?_
  refine ob_iadd d_X9_worthTo_21 ?_
  refine ob_callV [.int ((σ3.1 60 (x2).toNatClampNeg) + v4)] (z := oX9_goodOf) (st := []) d_X9_worthTo_22 lk_X9_259 mv_X9_goodOf rfl sh_53 cl_9 rfl (Nat.le_of_ble_eq_true rfl) rfl k (ob_kI fun v6 σ5 k => ?_)
  refine ob_aload_n d_X9_worthTo_25 rfl ?_
  refine ob_aload_n d_X9_worthTo_26 rfl ?_
  refine ob_getR d_X9_worthTo_27 fl_X9_32 sh_53 rfl rfl ?_
  refine ob_iload_n d_X9_worthTo_30 rfl ?_
  obtain ⟨hin, k⟩ := k
  refine ob_iald d_X9_worthTo_31 sh_60 hin ?_
  refine ob_iload_n d_X9_worthTo_32 rfl ?_
  refine ob_iadd d_X9_worthTo_33 ?_
  refine ob_iconst (v := 1) d_X9_worthTo_34 ci_1 ?_
  refine ob_isub d_X9_worthTo_35 ?_
  refine ob_callV [.int (((σ5.1 60 (x2).toNatClampNeg) + v4) - (1 : Int32))] (z := oX9_goodOf) (st := [.int v6]) d_X9_worthTo_36 lk_X9_259 mv_X9_goodOf rfl sh_53 cl_9 rfl (Nat.le_of_ble_eq_true rfl) rfl k (ob_kI fun v8 σ7 k => ?_)
  refine ob_isub d_X9_worthTo_39 ?_
  exact ob_iret d_X9_worthTo_40 rfl ⟨_, rfl, k⟩
theorem d_X9_into_0 : decode oX9_into.2.1 0 = .ok (.aload_n 0, 1) := by decide +kernel
theorem d_X9_into_1 : decode oX9_into.2.1 1 = .ok (.iload_n 3, 1) := by decide +kernel
theorem d_X9_into_2 : decode oX9_into.2.1 2 = .ok (.iload 4, 2) := by decide +kernel
theorem d_X9_into_4 : decode oX9_into.2.1 4 = .ok (.invokevirtual 170, 3) := by decide +kernel
theorem d_X9_into_7 : decode oX9_into.2.1 7 = .ok (.istore 5, 2) := by decide +kernel
theorem d_X9_into_9 : decode oX9_into.2.1 9 = .ok (.aload_n 1, 1) := by decide +kernel
theorem d_X9_into_10 : decode oX9_into.2.1 10 = .ok (.iload_n 2, 1) := by decide +kernel
theorem d_X9_into_11 : decode oX9_into.2.1 11 = .ok (.aload_n 0, 1) := by decide +kernel
theorem d_X9_into_12 : decode oX9_into.2.1 12 = .ok (.getfield 167, 3) := by decide +kernel
theorem d_X9_into_15 : decode oX9_into.2.1 15 = .ok (.iastore, 1) := by decide +kernel
theorem d_X9_into_16 : decode oX9_into.2.1 16 = .ok (.iload 5, 2) := by decide +kernel
theorem d_X9_into_18 : decode oX9_into.2.1 18 = .ok (.ireturn, 1) := by decide +kernel
theorem b_X9_into_53_72_0 {E : ob_E} {σ : ob_Mem} {Q : Int32 → ob_Mem → Prop} {x2 x3 x4 : Int32} (k : ob_RM shp E oX9_takeNumber [.ref 53, .int x3, .int x4] σ (ob_qI fun v2 σ1 => (vp_in x2 121 ∧ Q v2 (ob_wI σ1 72 (x2).toNatClampNeg (σ1.1 53 23))))) : ob_RT shp E oX9_into 0 [.ref 53, .ref 72, .int x2, .int x3, .int x4, .null] [] σ (ob_qI Q) := by
  refine ob_aload_n d_X9_into_0 rfl ?_
  refine ob_iload_n d_X9_into_1 rfl ?_
  refine ob_iload d_X9_into_2 rfl ?_
  refine ob_callV [.int x3, .int x4] (z := oX9_takeNumber) (st := []) d_X9_into_4 lk_X9_170 mv_X9_takeNumber rfl sh_53 cl_9 rfl (Nat.le_of_ble_eq_true rfl) rfl k (ob_kI fun v2 σ1 k => ?_)
  refine ob_istore (ls' := [.ref 53, .ref 72, .int x2, .int x3, .int x4, .int v2]) d_X9_into_7 (Nat.le_of_ble_eq_true rfl) rfl ?_
  refine ob_aload_n d_X9_into_9 rfl ?_
  refine ob_iload_n d_X9_into_10 rfl ?_
  refine ob_aload_n d_X9_into_11 rfl ?_
  refine ob_getI d_X9_into_12 fl_X9_167 sh_53 rfl (by decide) ?_
  obtain ⟨hin, k⟩ := k
  refine ob_iast d_X9_into_15 sh_72 hin ?_
  refine ob_iload d_X9_into_16 rfl ?_
  exact ob_iret d_X9_into_18 rfl ⟨_, rfl, k⟩
theorem b_X9_into_53_69_0 {E : ob_E} {σ : ob_Mem} {Q : Int32 → ob_Mem → Prop} {x2 x3 x4 : Int32} (k : ob_RM shp E oX9_takeNumber [.ref 53, .int x3, .int x4] σ (ob_qI fun v2 σ1 => (vp_in x2 8 ∧ Q v2 (ob_wI σ1 69 (x2).toNatClampNeg (σ1.1 53 23))))) : ob_RT shp E oX9_into 0 [.ref 53, .ref 69, .int x2, .int x3, .int x4, .null] [] σ (ob_qI Q) := by
  refine ob_aload_n d_X9_into_0 rfl ?_
  refine ob_iload_n d_X9_into_1 rfl ?_
  refine ob_iload d_X9_into_2 rfl ?_
  refine ob_callV [.int x3, .int x4] (z := oX9_takeNumber) (st := []) d_X9_into_4 lk_X9_170 mv_X9_takeNumber rfl sh_53 cl_9 rfl (Nat.le_of_ble_eq_true rfl) rfl k (ob_kI fun v2 σ1 k => ?_)
  refine ob_istore (ls' := [.ref 53, .ref 69, .int x2, .int x3, .int x4, .int v2]) d_X9_into_7 (Nat.le_of_ble_eq_true rfl) rfl ?_
  refine ob_aload_n d_X9_into_9 rfl ?_
  refine ob_iload_n d_X9_into_10 rfl ?_
  refine ob_aload_n d_X9_into_11 rfl ?_
  refine ob_getI d_X9_into_12 fl_X9_167 sh_53 rfl (by decide) ?_
  obtain ⟨hin, k⟩ := k
  refine ob_iast d_X9_into_15 sh_69 hin ?_
  refine ob_iload d_X9_into_16 rfl ?_
  exact ob_iret d_X9_into_18 rfl ⟨_, rfl, k⟩
theorem b_X9_into_53_70_0 {E : ob_E} {σ : ob_Mem} {Q : Int32 → ob_Mem → Prop} {x2 x3 x4 : Int32} (k : ob_RM shp E oX9_takeNumber [.ref 53, .int x3, .int x4] σ (ob_qI fun v2 σ1 => (vp_in x2 8 ∧ Q v2 (ob_wI σ1 70 (x2).toNatClampNeg (σ1.1 53 23))))) : ob_RT shp E oX9_into 0 [.ref 53, .ref 70, .int x2, .int x3, .int x4, .null] [] σ (ob_qI Q) := by
  refine ob_aload_n d_X9_into_0 rfl ?_
  refine ob_iload_n d_X9_into_1 rfl ?_
  refine ob_iload d_X9_into_2 rfl ?_
  refine ob_callV [.int x3, .int x4] (z := oX9_takeNumber) (st := []) d_X9_into_4 lk_X9_170 mv_X9_takeNumber rfl sh_53 cl_9 rfl (Nat.le_of_ble_eq_true rfl) rfl k (ob_kI fun v2 σ1 k => ?_)
  refine ob_istore (ls' := [.ref 53, .ref 70, .int x2, .int x3, .int x4, .int v2]) d_X9_into_7 (Nat.le_of_ble_eq_true rfl) rfl ?_
  refine ob_aload_n d_X9_into_9 rfl ?_
  refine ob_iload_n d_X9_into_10 rfl ?_
  refine ob_aload_n d_X9_into_11 rfl ?_
  refine ob_getI d_X9_into_12 fl_X9_167 sh_53 rfl (by decide) ?_
  obtain ⟨hin, k⟩ := k
  refine ob_iast d_X9_into_15 sh_70 hin ?_
  refine ob_iload d_X9_into_16 rfl ?_
  exact ob_iret d_X9_into_18 rfl ⟨_, rfl, k⟩
theorem b_X9_into_53_71_0 {E : ob_E} {σ : ob_Mem} {Q : Int32 → ob_Mem → Prop} {x2 x3 x4 : Int32} (k : ob_RM shp E oX9_takeNumber [.ref 53, .int x3, .int x4] σ (ob_qI fun v2 σ1 => (vp_in x2 8 ∧ Q v2 (ob_wI σ1 71 (x2).toNatClampNeg (σ1.1 53 23))))) : ob_RT shp E oX9_into 0 [.ref 53, .ref 71, .int x2, .int x3, .int x4, .null] [] σ (ob_qI Q) := by
  refine ob_aload_n d_X9_into_0 rfl ?_
  refine ob_iload_n d_X9_into_1 rfl ?_
  refine ob_iload d_X9_into_2 rfl ?_
  refine ob_callV [.int x3, .int x4] (z := oX9_takeNumber) (st := []) d_X9_into_4 lk_X9_170 mv_X9_takeNumber rfl sh_53 cl_9 rfl (Nat.le_of_ble_eq_true rfl) rfl k (ob_kI fun v2 σ1 k => ?_)
  refine ob_istore (ls' := [.ref 53, .ref 71, .int x2, .int x3, .int x4, .int v2]) d_X9_into_7 (Nat.le_of_ble_eq_true rfl) rfl ?_
  refine ob_aload_n d_X9_into_9 rfl ?_
  refine ob_iload_n d_X9_into_10 rfl ?_
  refine ob_aload_n d_X9_into_11 rfl ?_
  refine ob_getI d_X9_into_12 fl_X9_167 sh_53 rfl (by decide) ?_
  obtain ⟨hin, k⟩ := k
  refine ob_iast d_X9_into_15 sh_71 hin ?_
  refine ob_iload d_X9_into_16 rfl ?_
  exact ob_iret d_X9_into_18 rfl ⟨_, rfl, k⟩
theorem b_X9_into_53_67_0 {E : ob_E} {σ : ob_Mem} {Q : Int32 → ob_Mem → Prop} {x2 x3 x4 : Int32} (k : ob_RM shp E oX9_takeNumber [.ref 53, .int x3, .int x4] σ (ob_qI fun v2 σ1 => (vp_in x2 6 ∧ Q v2 (ob_wI σ1 67 (x2).toNatClampNeg (σ1.1 53 23))))) : ob_RT shp E oX9_into 0 [.ref 53, .ref 67, .int x2, .int x3, .int x4, .null] [] σ (ob_qI Q) := by
  refine ob_aload_n d_X9_into_0 rfl ?_
  refine ob_iload_n d_X9_into_1 rfl ?_
  refine ob_iload d_X9_into_2 rfl ?_
  refine ob_callV [.int x3, .int x4] (z := oX9_takeNumber) (st := []) d_X9_into_4 lk_X9_170 mv_X9_takeNumber rfl sh_53 cl_9 rfl (Nat.le_of_ble_eq_true rfl) rfl k (ob_kI fun v2 σ1 k => ?_)
  refine ob_istore (ls' := [.ref 53, .ref 67, .int x2, .int x3, .int x4, .int v2]) d_X9_into_7 (Nat.le_of_ble_eq_true rfl) rfl ?_
  refine ob_aload_n d_X9_into_9 rfl ?_
  refine ob_iload_n d_X9_into_10 rfl ?_
  refine ob_aload_n d_X9_into_11 rfl ?_
  refine ob_getI d_X9_into_12 fl_X9_167 sh_53 rfl (by decide) ?_
  obtain ⟨hin, k⟩ := k
  refine ob_iast d_X9_into_15 sh_67 hin ?_
  refine ob_iload d_X9_into_16 rfl ?_
  exact ob_iret d_X9_into_18 rfl ⟨_, rfl, k⟩
theorem b_X9_into_53_68_0 {E : ob_E} {σ : ob_Mem} {Q : Int32 → ob_Mem → Prop} {x2 x3 x4 : Int32} (k : ob_RM shp E oX9_takeNumber [.ref 53, .int x3, .int x4] σ (ob_qI fun v2 σ1 => (vp_in x2 6 ∧ Q v2 (ob_wI σ1 68 (x2).toNatClampNeg (σ1.1 53 23))))) : ob_RT shp E oX9_into 0 [.ref 53, .ref 68, .int x2, .int x3, .int x4, .null] [] σ (ob_qI Q) := by
  refine ob_aload_n d_X9_into_0 rfl ?_
  refine ob_iload_n d_X9_into_1 rfl ?_
  refine ob_iload d_X9_into_2 rfl ?_
  refine ob_callV [.int x3, .int x4] (z := oX9_takeNumber) (st := []) d_X9_into_4 lk_X9_170 mv_X9_takeNumber rfl sh_53 cl_9 rfl (Nat.le_of_ble_eq_true rfl) rfl k (ob_kI fun v2 σ1 k => ?_)
  refine ob_istore (ls' := [.ref 53, .ref 68, .int x2, .int x3, .int x4, .int v2]) d_X9_into_7 (Nat.le_of_ble_eq_true rfl) rfl ?_
  refine ob_aload_n d_X9_into_9 rfl ?_
  refine ob_iload_n d_X9_into_10 rfl ?_
  refine ob_aload_n d_X9_into_11 rfl ?_
  refine ob_getI d_X9_into_12 fl_X9_167 sh_53 rfl (by decide) ?_
  obtain ⟨hin, k⟩ := k
  refine ob_iast d_X9_into_15 sh_68 hin ?_
  refine ob_iload d_X9_into_16 rfl ?_
  exact ob_iret d_X9_into_18 rfl ⟨_, rfl, k⟩
theorem d_X9_bits_0 : decode oX9_bits.2.1 0 = .ok (.iconst 0, 1) := by decide +kernel
theorem d_X9_bits_1 : decode oX9_bits.2.1 1 = .ok (.istore_n 1, 1) := by decide +kernel
theorem d_X9_bits_2 : decode oX9_bits.2.1 2 = .ok (.iconst 0, 1) := by decide +kernel
theorem d_X9_bits_3 : decode oX9_bits.2.1 3 = .ok (.istore_n 2, 1) := by decide +kernel
theorem d_X9_bits_4 : decode oX9_bits.2.1 4 = .ok (.iload_n 2, 1) := by decide +kernel
theorem d_X9_bits_5 : decode oX9_bits.2.1 5 = .ok (.bipush 8, 2) := by decide +kernel
theorem d_X9_bits_7 : decode oX9_bits.2.1 7 = .ok (.if_icmp .ge 17, 3) := by decide +kernel
theorem d_X9_bits_10 : decode oX9_bits.2.1 10 = .ok (.iload_n 1, 1) := by decide +kernel
theorem d_X9_bits_11 : decode oX9_bits.2.1 11 = .ok (.iload_n 0, 1) := by decide +kernel
theorem d_X9_bits_12 : decode oX9_bits.2.1 12 = .ok (.iload_n 2, 1) := by decide +kernel
theorem d_X9_bits_13 : decode oX9_bits.2.1 13 = .ok (.ishr, 1) := by decide +kernel
theorem d_X9_bits_14 : decode oX9_bits.2.1 14 = .ok (.iconst 1, 1) := by decide +kernel
theorem d_X9_bits_15 : decode oX9_bits.2.1 15 = .ok (.iand, 1) := by decide +kernel
theorem d_X9_bits_16 : decode oX9_bits.2.1 16 = .ok (.iadd, 1) := by decide +kernel
theorem d_X9_bits_17 : decode oX9_bits.2.1 17 = .ok (.istore_n 1, 1) := by decide +kernel
theorem d_X9_bits_18 : decode oX9_bits.2.1 18 = .ok (.iinc 2 1, 3) := by decide +kernel
theorem d_X9_bits_21 : decode oX9_bits.2.1 21 = .ok (.goto (-17), 3) := by decide +kernel
theorem d_X9_bits_24 : decode oX9_bits.2.1 24 = .ok (.iload_n 1, 1) := by decide +kernel
theorem d_X9_bits_25 : decode oX9_bits.2.1 25 = .ok (.ireturn, 1) := by decide +kernel
theorem b_X9_bits_0 {E : ob_E} {σ : ob_Mem} {Q : Int32 → ob_Mem → Prop} {x0 : Int32} (k : ob_RT shp E oX9_bits 4 [.int x0, .int (0 : Int32), .int (0 : Int32)] [] σ (ob_qI Q)) : ob_RT shp E oX9_bits 0 [.int x0, .null, .null] [] σ (ob_qI Q) := by
  refine ob_iconst (v := 0) d_X9_bits_0 ci_0 ?_
  refine ob_istore_n (ls' := [.int x0, .int (0 : Int32), .null]) d_X9_bits_1 (Nat.le_of_ble_eq_true rfl) rfl ?_
  refine ob_iconst (v := 0) d_X9_bits_2 ci_0 ?_
  refine ob_istore_n (ls' := [.int x0, .int (0 : Int32), .int (0 : Int32)]) d_X9_bits_3 (Nat.le_of_ble_eq_true rfl) rfl ?_
  exact k
theorem b_X9_bits_4 {E : ob_E} {σ : ob_Mem} {Q : Int32 → ob_Mem → Prop} {x0 x1 x2 : Int32} (k : (((8 : Int32) ≤ x2 → Q x1 σ) ∧ (¬ (8 : Int32) ≤ x2 → ob_RT shp E oX9_bits 4 [.int x0, .int (x1 + ((x0 >>> (x2 &&& 31)) &&& (1 : Int32))), .int (x2 + (1 : Int32))] [] σ (ob_qI Q)))) : ob_RT shp E oX9_bits 4 [.int x0, .int x1, .int x2] [] σ (ob_qI Q) := by
  refine ob_iload_n d_X9_bits_4 rfl ?_
  refine ob_bipush (v := 8) d_X9_bits_5 cb_8 ?_
  refine ob_icmp_ge (tgt := 24) d_X9_bits_7 rfl (fun cc => ?_) (fun cc => ?_)
  · have k := k.1 cc
    refine ob_iload_n d_X9_bits_24 rfl ?_
    exact ob_iret d_X9_bits_25 rfl ⟨_, rfl, k⟩
  · have k := k.2 cc
    refine ob_iload_n d_X9_bits_10 rfl ?_
    refine ob_iload_n d_X9_bits_11 rfl ?_
    refine ob_iload_n d_X9_bits_12 rfl ?_
    refine ob_ishr d_X9_bits_13 ?_
    refine ob_iconst (v := 1) d_X9_bits_14 ci_1 ?_
    refine ob_iand d_X9_bits_15 ?_
    refine ob_iadd d_X9_bits_16 ?_
    refine ob_istore_n (ls' := [.int x0, .int (x1 + ((x0 >>> (x2 &&& 31)) &&& (1 : Int32))), .int x2]) d_X9_bits_17 (Nat.le_of_ble_eq_true rfl) rfl ?_
    refine ob_iinc (ls' := [.int x0, .int (x1 + ((x0 >>> (x2 &&& 31)) &&& (1 : Int32))), .int (x2 + (1 : Int32))]) (v := 1) d_X9_bits_18 rfl ci_1 (Nat.le_of_ble_eq_true rfl) rfl ?_
    refine ob_goto (tgt := 4) d_X9_bits_21 rfl ?_
    exact k
