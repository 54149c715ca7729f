/-! code of J7: the decode rows and a row for each piece between cut points (printed by wip/whole/mk.py) -/
theorem d_J7_fill_53178_0 : decode oJ7_fill_53178.2.1 0 = .ok (.iconst 0, 1) := by decide +kernel
theorem d_J7_fill_53178_1 : decode oJ7_fill_53178.2.1 1 = .ok (.istore_n 2, 1) := by decide +kernel
theorem d_J7_fill_53178_2 : decode oJ7_fill_53178.2.1 2 = .ok (.aload_n 0, 1) := by decide +kernel
theorem d_J7_fill_53178_3 : decode oJ7_fill_53178.2.1 3 = .ok (.arraylength, 1) := by decide +kernel
theorem d_J7_fill_53178_4 : decode oJ7_fill_53178.2.1 4 = .ok (.istore_n 3, 1) := by decide +kernel
theorem d_J7_fill_53178_5 : decode oJ7_fill_53178.2.1 5 = .ok (.iload_n 2, 1) := by decide +kernel
theorem d_J7_fill_53178_6 : decode oJ7_fill_53178.2.1 6 = .ok (.iload_n 3, 1) := by decide +kernel
theorem d_J7_fill_53178_7 : decode oJ7_fill_53178.2.1 7 = .ok (.if_icmp .ge 13, 3) := by decide +kernel
theorem d_J7_fill_53178_10 : decode oJ7_fill_53178.2.1 10 = .ok (.aload_n 0, 1) := by decide +kernel
theorem d_J7_fill_53178_11 : decode oJ7_fill_53178.2.1 11 = .ok (.iload_n 2, 1) := by decide +kernel
theorem d_J7_fill_53178_12 : decode oJ7_fill_53178.2.1 12 = .ok (.iload_n 1, 1) := by decide +kernel
theorem d_J7_fill_53178_13 : decode oJ7_fill_53178.2.1 13 = .ok (.iastore, 1) := by decide +kernel
theorem d_J7_fill_53178_14 : decode oJ7_fill_53178.2.1 14 = .ok (.iinc 2 1, 3) := by decide +kernel
theorem d_J7_fill_53178_17 : decode oJ7_fill_53178.2.1 17 = .ok (.goto (-12), 3) := by decide +kernel
theorem d_J7_fill_53178_20 : decode oJ7_fill_53178.2.1 20 = .ok (.return_, 1) := by decide +kernel
theorem b_J7_fill_53178_21_0 {E : ob_E} {σ : ob_Mem} {Q : ob_Mem → Prop} {x1 : Int32} (k : ob_RT shp E oJ7_fill_53178 5 [.ref 21, .int x1, .int (0 : Int32), .int (8 : Int32)] [] σ (ob_qV Q)) : ob_RT shp E oJ7_fill_53178 0 [.ref 21, .int x1, .null, .null] [] σ (ob_qV Q) := by
  refine ob_iconst (v := 0) d_J7_fill_53178_0 ci_0 ?_
  refine ob_istore_n (ls' := [.ref 21, .int x1, .int (0 : Int32), .null]) d_J7_fill_53178_1 (Nat.le_of_ble_eq_true rfl) rfl ?_
  refine ob_aload_n d_J7_fill_53178_2 rfl ?_
  refine ob_alen (v := 8) d_J7_fill_53178_3 sh_21 (by decide) (by decide) ?_
  refine ob_istore_n (ls' := [.ref 21, .int x1, .int (0 : Int32), .int (8 : Int32)]) d_J7_fill_53178_4 (Nat.le_of_ble_eq_true rfl) rfl ?_
  exact k
theorem b_J7_fill_53178_21_5 {E : ob_E} {σ : ob_Mem} {Q : ob_Mem → Prop} {x1 x2 x3 : Int32} (k : ((x3 ≤ x2 → Q σ) ∧ (¬ x3 ≤ x2 → (vp_in x2 8 ∧ ob_RT shp E oJ7_fill_53178 5 [.ref 21, .int x1, .int (x2 + (1 : Int32)), .int x3] [] (ob_wI σ 21 (x2).toNatClampNeg x1) (ob_qV Q))))) : ob_RT shp E oJ7_fill_53178 5 [.ref 21, .int x1, .int x2, .int x3] [] σ (ob_qV Q) := by
  refine ob_iload_n d_J7_fill_53178_5 rfl ?_
  refine ob_iload_n d_J7_fill_53178_6 rfl ?_
  refine ob_icmp_ge (tgt := 20) d_J7_fill_53178_7 rfl (fun cc => ?_) (fun cc => ?_)
  · have k := k.1 cc
    exact ob_vret d_J7_fill_53178_20 rfl ⟨rfl, k⟩
  · have k := k.2 cc
    refine ob_aload_n d_J7_fill_53178_10 rfl ?_
    refine ob_iload_n d_J7_fill_53178_11 rfl ?_
    refine ob_iload_n d_J7_fill_53178_12 rfl ?_
    obtain ⟨hin, k⟩ := k
    refine ob_iast d_J7_fill_53178_13 sh_21 hin ?_
    refine ob_iinc (ls' := [.ref 21, .int x1, .int (x2 + (1 : Int32)), .int x3]) (v := 1) d_J7_fill_53178_14 rfl ci_1 (Nat.le_of_ble_eq_true rfl) rfl ?_
    refine ob_goto (tgt := 5) d_J7_fill_53178_17 rfl ?_
    exact k
theorem b_J7_fill_53178_22_0 {E : ob_E} {σ : ob_Mem} {Q : ob_Mem → Prop} {x1 : Int32} (k : ob_RT shp E oJ7_fill_53178 5 [.ref 22, .int x1, .int (0 : Int32), .int (8 : Int32)] [] σ (ob_qV Q)) : ob_RT shp E oJ7_fill_53178 0 [.ref 22, .int x1, .null, .null] [] σ (ob_qV Q) := by
  refine ob_iconst (v := 0) d_J7_fill_53178_0 ci_0 ?_
  refine ob_istore_n (ls' := [.ref 22, .int x1, .int (0 : Int32), .null]) d_J7_fill_53178_1 (Nat.le_of_ble_eq_true rfl) rfl ?_
  refine ob_aload_n d_J7_fill_53178_2 rfl ?_
  refine ob_alen (v := 8) d_J7_fill_53178_3 sh_22 (by decide) (by decide) ?_
  refine ob_istore_n (ls' := [.ref 22, .int x1, .int (0 : Int32), .int (8 : Int32)]) d_J7_fill_53178_4 (Nat.le_of_ble_eq_true rfl) rfl ?_
  exact k
theorem b_J7_fill_53178_22_5 {E : ob_E} {σ : ob_Mem} {Q : ob_Mem → Prop} {x1 x2 x3 : Int32} (k : ((x3 ≤ x2 → Q σ) ∧ (¬ x3 ≤ x2 → (vp_in x2 8 ∧ ob_RT shp E oJ7_fill_53178 5 [.ref 22, .int x1, .int (x2 + (1 : Int32)), .int x3] [] (ob_wI σ 22 (x2).toNatClampNeg x1) (ob_qV Q))))) : ob_RT shp E oJ7_fill_53178 5 [.ref 22, .int x1, .int x2, .int x3] [] σ (ob_qV Q) := by
  refine ob_iload_n d_J7_fill_53178_5 rfl ?_
  refine ob_iload_n d_J7_fill_53178_6 rfl ?_
  refine ob_icmp_ge (tgt := 20) d_J7_fill_53178_7 rfl (fun cc => ?_) (fun cc => ?_)
  · have k := k.1 cc
    exact ob_vret d_J7_fill_53178_20 rfl ⟨rfl, k⟩
  · have k := k.2 cc
    refine ob_aload_n d_J7_fill_53178_10 rfl ?_
    refine ob_iload_n d_J7_fill_53178_11 rfl ?_
    refine ob_iload_n d_J7_fill_53178_12 rfl ?_
    obtain ⟨hin, k⟩ := k
    refine ob_iast d_J7_fill_53178_13 sh_22 hin ?_
    refine ob_iinc (ls' := [.ref 22, .int x1, .int (x2 + (1 : Int32)), .int x3]) (v := 1) d_J7_fill_53178_14 rfl ci_1 (Nat.le_of_ble_eq_true rfl) rfl ?_
    refine ob_goto (tgt := 5) d_J7_fill_53178_17 rfl ?_
    exact k
theorem b_J7_fill_53178_43_0 {E : ob_E} {σ : ob_Mem} {Q : ob_Mem → Prop} {x1 : Int32} (k : ob_RT shp E oJ7_fill_53178 5 [.ref 43, .int x1, .int (0 : Int32), .int (61 : Int32)] [] σ (ob_qV Q)) : ob_RT shp E oJ7_fill_53178 0 [.ref 43, .int x1, .null, .null] [] σ (ob_qV Q) := by
  refine ob_iconst (v := 0) d_J7_fill_53178_0 ci_0 ?_
  refine ob_istore_n (ls' := [.ref 43, .int x1, .int (0 : Int32), .null]) d_J7_fill_53178_1 (Nat.le_of_ble_eq_true rfl) rfl ?_
  refine ob_aload_n d_J7_fill_53178_2 rfl ?_
  refine ob_alen (v := 61) d_J7_fill_53178_3 sh_43 (by decide) (by decide) ?_
  refine ob_istore_n (ls' := [.ref 43, .int x1, .int (0 : Int32), .int (61 : Int32)]) d_J7_fill_53178_4 (Nat.le_of_ble_eq_true rfl) rfl ?_
  exact k
theorem b_J7_fill_53178_43_5 {E : ob_E} {σ : ob_Mem} {Q : ob_Mem → Prop} {x1 x2 x3 : Int32} (k : ((x3 ≤ x2 → Q σ) ∧ (¬ x3 ≤ x2 → (vp_in x2 61 ∧ ob_RT shp E oJ7_fill_53178 5 [.ref 43, .int x1, .int (x2 + (1 : Int32)), .int x3] [] (ob_wI σ 43 (x2).toNatClampNeg x1) (ob_qV Q))))) : ob_RT shp E oJ7_fill_53178 5 [.ref 43, .int x1, .int x2, .int x3] [] σ (ob_qV Q) := by
  refine ob_iload_n d_J7_fill_53178_5 rfl ?_
  refine ob_iload_n d_J7_fill_53178_6 rfl ?_
  refine ob_icmp_ge (tgt := 20) d_J7_fill_53178_7 rfl (fun cc => ?_) (fun cc => ?_)
  · have k := k.1 cc
    exact ob_vret d_J7_fill_53178_20 rfl ⟨rfl, k⟩
  · have k := k.2 cc
    refine ob_aload_n d_J7_fill_53178_10 rfl ?_
    refine ob_iload_n d_J7_fill_53178_11 rfl ?_
    refine ob_iload_n d_J7_fill_53178_12 rfl ?_
    obtain ⟨hin, k⟩ := k
    refine ob_iast d_J7_fill_53178_13 sh_43 hin ?_
    refine ob_iinc (ls' := [.ref 43, .int x1, .int (x2 + (1 : Int32)), .int x3]) (v := 1) d_J7_fill_53178_14 rfl ci_1 (Nat.le_of_ble_eq_true rfl) rfl ?_
    refine ob_goto (tgt := 5) d_J7_fill_53178_17 rfl ?_
    exact k
theorem d_J7_fill_d0a16_0 : decode oJ7_fill_d0a16.2.1 0 = .ok (.iconst 0, 1) := by decide +kernel
theorem d_J7_fill_d0a16_1 : decode oJ7_fill_d0a16.2.1 1 = .ok (.istore_n 3, 1) := by decide +kernel
theorem d_J7_fill_d0a16_2 : decode oJ7_fill_d0a16.2.1 2 = .ok (.aload_n 0, 1) := by decide +kernel
theorem d_J7_fill_d0a16_3 : decode oJ7_fill_d0a16.2.1 3 = .ok (.arraylength, 1) := by decide +kernel
theorem d_J7_fill_d0a16_4 : decode oJ7_fill_d0a16.2.1 4 = .ok (.istore 4, 2) := by decide +kernel
theorem d_J7_fill_d0a16_6 : decode oJ7_fill_d0a16.2.1 6 = .ok (.iload_n 3, 1) := by decide +kernel
theorem d_J7_fill_d0a16_7 : decode oJ7_fill_d0a16.2.1 7 = .ok (.iload 4, 2) := by decide +kernel
theorem d_J7_fill_d0a16_9 : decode oJ7_fill_d0a16.2.1 9 = .ok (.if_icmp .ge 13, 3) := by decide +kernel
theorem d_J7_fill_d0a16_12 : decode oJ7_fill_d0a16.2.1 12 = .ok (.aload_n 0, 1) := by decide +kernel
theorem d_J7_fill_d0a16_13 : decode oJ7_fill_d0a16.2.1 13 = .ok (.iload_n 3, 1) := by decide +kernel
theorem d_J7_fill_d0a16_14 : decode oJ7_fill_d0a16.2.1 14 = .ok (.lload_n 1, 1) := by decide +kernel
theorem d_J7_fill_d0a16_15 : decode oJ7_fill_d0a16.2.1 15 = .ok (.lastore, 1) := by decide +kernel
theorem d_J7_fill_d0a16_16 : decode oJ7_fill_d0a16.2.1 16 = .ok (.iinc 3 1, 3) := by decide +kernel
theorem d_J7_fill_d0a16_19 : decode oJ7_fill_d0a16.2.1 19 = .ok (.goto (-13), 3) := by decide +kernel
theorem d_J7_fill_d0a16_22 : decode oJ7_fill_d0a16.2.1 22 = .ok (.return_, 1) := by decide +kernel
theorem b_J7_fill_d0a16_0 {E : ob_E} {σ : ob_Mem} {Q : ob_Mem → Prop} {x1 : Int64} (k : ob_RT shp E oJ7_fill_d0a16 6 [.ref 49, .long x1, .null, .int (0 : Int32), .int (1792 : Int32)] [] σ (ob_qV Q)) : ob_RT shp E oJ7_fill_d0a16 0 [.ref 49, .long x1, .null, .null, .null] [] σ (ob_qV Q) := by
  refine ob_iconst (v := 0) d_J7_fill_d0a16_0 ci_0 ?_
  refine ob_istore_n (ls' := [.ref 49, .long x1, .null, .int (0 : Int32), .null]) d_J7_fill_d0a16_1 (Nat.le_of_ble_eq_true rfl) rfl ?_
  refine ob_aload_n d_J7_fill_d0a16_2 rfl ?_
  refine ob_alen (v := 1792) d_J7_fill_d0a16_3 sh_49 (by decide) (by decide) ?_
  refine ob_istore (ls' := [.ref 49, .long x1, .null, .int (0 : Int32), .int (1792 : Int32)]) d_J7_fill_d0a16_4 (Nat.le_of_ble_eq_true rfl) rfl ?_
  exact k
theorem b_J7_fill_d0a16_6 {E : ob_E} {σ : ob_Mem} {Q : ob_Mem → Prop} {x3 x4 : Int32} {x1 : Int64} (k : ((x4 ≤ x3 → Q σ) ∧ (¬ x4 ≤ x3 → (vp_in x3 1792 ∧ ob_RT shp E oJ7_fill_d0a16 6 [.ref 49, .long x1, .null, .int (x3 + (1 : Int32)), .int x4] [] (ob_wL σ 49 (x3).toNatClampNeg x1) (ob_qV Q))))) : ob_RT shp E oJ7_fill_d0a16 6 [.ref 49, .long x1, .null, .int x3, .int x4] [] σ (ob_qV Q) := by
  refine ob_iload_n d_J7_fill_d0a16_6 rfl ?_
  refine ob_iload d_J7_fill_d0a16_7 rfl ?_
  refine ob_icmp_ge (tgt := 22) d_J7_fill_d0a16_9 rfl (fun cc => ?_) (fun cc => ?_)
  · have k := k.1 cc
    exact ob_vret d_J7_fill_d0a16_22 rfl ⟨rfl, k⟩
  · have k := k.2 cc
    refine ob_aload_n d_J7_fill_d0a16_12 rfl ?_
    refine ob_iload_n d_J7_fill_d0a16_13 rfl ?_
    refine ob_lload_n d_J7_fill_d0a16_14 rfl ?_
    obtain ⟨hin, k⟩ := k
    refine ob_last d_J7_fill_d0a16_15 sh_49 hin ?_
    refine ob_iinc (ls' := [.ref 49, .long x1, .null, .int (x3 + (1 : Int32)), .int x4]) (v := 1) d_J7_fill_d0a16_16 rfl ci_1 (Nat.le_of_ble_eq_true rfl) rfl ?_
    refine ob_goto (tgt := 6) d_J7_fill_d0a16_19 rfl ?_
    exact k
theorem b_J7_fill_53178_9_0 {E : ob_E} {σ : ob_Mem} {Q : ob_Mem → Prop} {x1 : Int32} (k : ob_RT shp E oJ7_fill_53178 5 [.ref 9, .int x1, .int (0 : Int32), .int (121 : Int32)] [] σ (ob_qV Q)) : ob_RT shp E oJ7_fill_53178 0 [.ref 9, .int x1, .null, .null] [] σ (ob_qV Q) := by
  refine ob_iconst (v := 0) d_J7_fill_53178_0 ci_0 ?_
  refine ob_istore_n (ls' := [.ref 9, .int x1, .int (0 : Int32), .null]) d_J7_fill_53178_1 (Nat.le_of_ble_eq_true rfl) rfl ?_
  refine ob_aload_n d_J7_fill_53178_2 rfl ?_
  refine ob_alen (v := 121) d_J7_fill_53178_3 sh_9 (by decide) (by decide) ?_
  refine ob_istore_n (ls' := [.ref 9, .int x1, .int (0 : Int32), .int (121 : Int32)]) d_J7_fill_53178_4 (Nat.le_of_ble_eq_true rfl) rfl ?_
  exact k
theorem b_J7_fill_53178_9_5 {E : ob_E} {σ : ob_Mem} {Q : ob_Mem → Prop} {x1 x2 x3 : Int32} (k : ((x3 ≤ x2 → Q σ) ∧ (¬ x3 ≤ x2 → (vp_in x2 121 ∧ ob_RT shp E oJ7_fill_53178 5 [.ref 9, .int x1, .int (x2 + (1 : Int32)), .int x3] [] (ob_wI σ 9 (x2).toNatClampNeg x1) (ob_qV Q))))) : ob_RT shp E oJ7_fill_53178 5 [.ref 9, .int x1, .int x2, .int x3] [] σ (ob_qV Q) := by
  refine ob_iload_n d_J7_fill_53178_5 rfl ?_
  refine ob_iload_n d_J7_fill_53178_6 rfl ?_
  refine ob_icmp_ge (tgt := 20) d_J7_fill_53178_7 rfl (fun cc => ?_) (fun cc => ?_)
  · have k := k.1 cc
    exact ob_vret d_J7_fill_53178_20 rfl ⟨rfl, k⟩
  · have k := k.2 cc
    refine ob_aload_n d_J7_fill_53178_10 rfl ?_
    refine ob_iload_n d_J7_fill_53178_11 rfl ?_
    refine ob_iload_n d_J7_fill_53178_12 rfl ?_
    obtain ⟨hin, k⟩ := k
    refine ob_iast d_J7_fill_53178_13 sh_9 hin ?_
    refine ob_iinc (ls' := [.ref 9, .int x1, .int (x2 + (1 : Int32)), .int x3]) (v := 1) d_J7_fill_53178_14 rfl ci_1 (Nat.le_of_ble_eq_true rfl) rfl ?_
    refine ob_goto (tgt := 5) d_J7_fill_53178_17 rfl ?_
    exact k
