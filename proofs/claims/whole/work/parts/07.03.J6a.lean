/-! code of J6: the decode rows and a row for each piece between cut points (printed by wip/whole/mk.py) -/
theorem d_J6_bitCount_0f7a4_0 : decode oJ6_bitCount_0f7a4.2.1 0 = .ok (.iload_n 0, 1) := by decide +kernel
theorem d_J6_bitCount_0f7a4_1 : decode oJ6_bitCount_0f7a4.2.1 1 = .ok (.iload_n 0, 1) := by decide +kernel
theorem d_J6_bitCount_0f7a4_2 : decode oJ6_bitCount_0f7a4.2.1 2 = .ok (.iconst 1, 1) := by decide +kernel
theorem d_J6_bitCount_0f7a4_3 : decode oJ6_bitCount_0f7a4.2.1 3 = .ok (.iushr, 1) := by decide +kernel
theorem d_J6_bitCount_0f7a4_4 : decode oJ6_bitCount_0f7a4.2.1 4 = .ok (.ldc_w 265, 3) := by decide +kernel
theorem d_J6_bitCount_0f7a4_7 : decode oJ6_bitCount_0f7a4.2.1 7 = .ok (.iand, 1) := by decide +kernel
theorem d_J6_bitCount_0f7a4_8 : decode oJ6_bitCount_0f7a4.2.1 8 = .ok (.isub, 1) := by decide +kernel
theorem d_J6_bitCount_0f7a4_9 : decode oJ6_bitCount_0f7a4.2.1 9 = .ok (.istore_n 0, 1) := by decide +kernel
theorem d_J6_bitCount_0f7a4_10 : decode oJ6_bitCount_0f7a4.2.1 10 = .ok (.iload_n 0, 1) := by decide +kernel
theorem d_J6_bitCount_0f7a4_11 : decode oJ6_bitCount_0f7a4.2.1 11 = .ok (.ldc_w 266, 3) := by decide +kernel
theorem d_J6_bitCount_0f7a4_14 : decode oJ6_bitCount_0f7a4.2.1 14 = .ok (.iand, 1) := by decide +kernel
theorem d_J6_bitCount_0f7a4_15 : decode oJ6_bitCount_0f7a4.2.1 15 = .ok (.iload_n 0, 1) := by decide +kernel
theorem d_J6_bitCount_0f7a4_16 : decode oJ6_bitCount_0f7a4.2.1 16 = .ok (.iconst 2, 1) := by decide +kernel
theorem d_J6_bitCount_0f7a4_17 : decode oJ6_bitCount_0f7a4.2.1 17 = .ok (.iushr, 1) := by decide +kernel
theorem d_J6_bitCount_0f7a4_18 : decode oJ6_bitCount_0f7a4.2.1 18 = .ok (.ldc_w 266, 3) := by decide +kernel
theorem d_J6_bitCount_0f7a4_21 : decode oJ6_bitCount_0f7a4.2.1 21 = .ok (.iand, 1) := by decide +kernel
theorem d_J6_bitCount_0f7a4_22 : decode oJ6_bitCount_0f7a4.2.1 22 = .ok (.iadd, 1) := by decide +kernel
theorem d_J6_bitCount_0f7a4_23 : decode oJ6_bitCount_0f7a4.2.1 23 = .ok (.istore_n 0, 1) := by decide +kernel
theorem d_J6_bitCount_0f7a4_24 : decode oJ6_bitCount_0f7a4.2.1 24 = .ok (.iload_n 0, 1) := by decide +kernel
theorem d_J6_bitCount_0f7a4_25 : decode oJ6_bitCount_0f7a4.2.1 25 = .ok (.iload_n 0, 1) := by decide +kernel
theorem d_J6_bitCount_0f7a4_26 : decode oJ6_bitCount_0f7a4.2.1 26 = .ok (.iconst 4, 1) := by decide +kernel
theorem d_J6_bitCount_0f7a4_27 : decode oJ6_bitCount_0f7a4.2.1 27 = .ok (.iushr, 1) := by decide +kernel
theorem d_J6_bitCount_0f7a4_28 : decode oJ6_bitCount_0f7a4.2.1 28 = .ok (.iadd, 1) := by decide +kernel
theorem d_J6_bitCount_0f7a4_29 : decode oJ6_bitCount_0f7a4.2.1 29 = .ok (.ldc_w 267, 3) := by decide +kernel
theorem d_J6_bitCount_0f7a4_32 : decode oJ6_bitCount_0f7a4.2.1 32 = .ok (.iand, 1) := by decide +kernel
theorem d_J6_bitCount_0f7a4_33 : decode oJ6_bitCount_0f7a4.2.1 33 = .ok (.istore_n 0, 1) := by decide +kernel
theorem d_J6_bitCount_0f7a4_34 : decode oJ6_bitCount_0f7a4.2.1 34 = .ok (.iload_n 0, 1) := by decide +kernel
theorem d_J6_bitCount_0f7a4_35 : decode oJ6_bitCount_0f7a4.2.1 35 = .ok (.iload_n 0, 1) := by decide +kernel
theorem d_J6_bitCount_0f7a4_36 : decode oJ6_bitCount_0f7a4.2.1 36 = .ok (.bipush 8, 2) := by decide +kernel
theorem d_J6_bitCount_0f7a4_38 : decode oJ6_bitCount_0f7a4.2.1 38 = .ok (.iushr, 1) := by decide +kernel
theorem d_J6_bitCount_0f7a4_39 : decode oJ6_bitCount_0f7a4.2.1 39 = .ok (.iadd, 1) := by decide +kernel
theorem d_J6_bitCount_0f7a4_40 : decode oJ6_bitCount_0f7a4.2.1 40 = .ok (.istore_n 0, 1) := by decide +kernel
theorem d_J6_bitCount_0f7a4_41 : decode oJ6_bitCount_0f7a4.2.1 41 = .ok (.iload_n 0, 1) := by decide +kernel
theorem d_J6_bitCount_0f7a4_42 : decode oJ6_bitCount_0f7a4.2.1 42 = .ok (.iload_n 0, 1) := by decide +kernel
theorem d_J6_bitCount_0f7a4_43 : decode oJ6_bitCount_0f7a4.2.1 43 = .ok (.bipush 16, 2) := by decide +kernel
theorem d_J6_bitCount_0f7a4_45 : decode oJ6_bitCount_0f7a4.2.1 45 = .ok (.iushr, 1) := by decide +kernel
theorem d_J6_bitCount_0f7a4_46 : decode oJ6_bitCount_0f7a4.2.1 46 = .ok (.iadd, 1) := by decide +kernel
theorem d_J6_bitCount_0f7a4_47 : decode oJ6_bitCount_0f7a4.2.1 47 = .ok (.istore_n 0, 1) := by decide +kernel
theorem d_J6_bitCount_0f7a4_48 : decode oJ6_bitCount_0f7a4.2.1 48 = .ok (.iload_n 0, 1) := by decide +kernel
theorem d_J6_bitCount_0f7a4_49 : decode oJ6_bitCount_0f7a4.2.1 49 = .ok (.bipush 63, 2) := by decide +kernel
theorem d_J6_bitCount_0f7a4_51 : decode oJ6_bitCount_0f7a4.2.1 51 = .ok (.iand, 1) := by decide +kernel
theorem d_J6_bitCount_0f7a4_52 : decode oJ6_bitCount_0f7a4.2.1 52 = .ok (.ireturn, 1) := by decide +kernel
theorem b_J6_bitCount_0f7a4_0 {E : ob_E} {σ : ob_Mem} {Q : Int32 → ob_Mem → Prop} {x0 : Int32} (k : (∀ w1 : Int32, w1 = (x0 - (((x0).toUInt32 >>> (((1 : Int32)).toUInt32 &&& Int32.toUInt32 31)).toInt32 &&& (1431655765 : Int32))) → (∀ w2 : Int32, w2 = ((w1 &&& (858993459 : Int32)) + (((w1).toUInt32 >>> (((2 : Int32)).toUInt32 &&& Int32.toUInt32 31)).toInt32 &&& (858993459 : Int32))) → (∀ w3 : Int32, w3 = ((w2 + ((w2).toUInt32 >>> (((4 : Int32)).toUInt32 &&& Int32.toUInt32 31)).toInt32) &&& (252645135 : Int32)) → (∀ w4 : Int32, w4 = (w3 + ((w3).toUInt32 >>> (((8 : Int32)).toUInt32 &&& Int32.toUInt32 31)).toInt32) → (∀ w5 : Int32, w5 = (w4 + ((w4).toUInt32 >>> (((16 : Int32)).toUInt32 &&& Int32.toUInt32 31)).toInt32) → Q (w5 &&& (63 : Int32)) σ)))))) : ob_RT shp E oJ6_bitCount_0f7a4 0 [.int x0] [] σ (ob_qI Q) := by
  refine ob_iload_n d_J6_bitCount_0f7a4_0 rfl ?_
  refine ob_iload_n d_J6_bitCount_0f7a4_1 rfl ?_
  refine ob_iconst (v := 1) d_J6_bitCount_0f7a4_2 ci_1 ?_
  refine ob_iushr d_J6_bitCount_0f7a4_3 ?_
  refine ob_ldcw (v := 1431655765) d_J6_bitCount_0f7a4_4 k_J6_265 ?_
  refine ob_iand d_J6_bitCount_0f7a4_7 ?_
  refine ob_isub d_J6_bitCount_0f7a4_8 ?_
  refine ob_nmI (fun w1 hw1 => ?_)
  have k := k w1 hw1
  refine ob_istore_n (ls' := [.int w1]) d_J6_bitCount_0f7a4_9 (Nat.le_of_ble_eq_true rfl) rfl ?_
  refine ob_iload_n d_J6_bitCount_0f7a4_10 rfl ?_
  refine ob_ldcw (v := 858993459) d_J6_bitCount_0f7a4_11 k_J6_266 ?_
  refine ob_iand d_J6_bitCount_0f7a4_14 ?_
  refine ob_iload_n d_J6_bitCount_0f7a4_15 rfl ?_
  refine ob_iconst (v := 2) d_J6_bitCount_0f7a4_16 ci_2 ?_
  refine ob_iushr d_J6_bitCount_0f7a4_17 ?_
  refine ob_ldcw (v := 858993459) d_J6_bitCount_0f7a4_18 k_J6_266 ?_
  refine ob_iand d_J6_bitCount_0f7a4_21 ?_
  refine ob_iadd d_J6_bitCount_0f7a4_22 ?_
  refine ob_nmI (fun w2 hw2 => ?_)
  have k := k w2 hw2
  refine ob_istore_n (ls' := [.int w2]) d_J6_bitCount_0f7a4_23 (Nat.le_of_ble_eq_true rfl) rfl ?_
  refine ob_iload_n d_J6_bitCount_0f7a4_24 rfl ?_
  refine ob_iload_n d_J6_bitCount_0f7a4_25 rfl ?_
  refine ob_iconst (v := 4) d_J6_bitCount_0f7a4_26 ci_4 ?_
  refine ob_iushr d_J6_bitCount_0f7a4_27 ?_
  refine ob_iadd d_J6_bitCount_0f7a4_28 ?_
  refine ob_ldcw (v := 252645135) d_J6_bitCount_0f7a4_29 k_J6_267 ?_
  refine ob_iand d_J6_bitCount_0f7a4_32 ?_
  refine ob_nmI (fun w3 hw3 => ?_)
  have k := k w3 hw3
  refine ob_istore_n (ls' := [.int w3]) d_J6_bitCount_0f7a4_33 (Nat.le_of_ble_eq_true rfl) rfl ?_
  refine ob_iload_n d_J6_bitCount_0f7a4_34 rfl ?_
  refine ob_iload_n d_J6_bitCount_0f7a4_35 rfl ?_
  refine ob_bipush (v := 8) d_J6_bitCount_0f7a4_36 cb_8 ?_
  refine ob_iushr d_J6_bitCount_0f7a4_38 ?_
  refine ob_iadd d_J6_bitCount_0f7a4_39 ?_
  refine ob_nmI (fun w4 hw4 => ?_)
  have k := k w4 hw4
  refine ob_istore_n (ls' := [.int w4]) d_J6_bitCount_0f7a4_40 (Nat.le_of_ble_eq_true rfl) rfl ?_
  refine ob_iload_n d_J6_bitCount_0f7a4_41 rfl ?_
  refine ob_iload_n d_J6_bitCount_0f7a4_42 rfl ?_
  refine ob_bipush (v := 16) d_J6_bitCount_0f7a4_43 cb_16 ?_
  refine ob_iushr d_J6_bitCount_0f7a4_45 ?_
  refine ob_iadd d_J6_bitCount_0f7a4_46 ?_
  refine ob_nmI (fun w5 hw5 => ?_)
  have k := k w5 hw5
  refine ob_istore_n (ls' := [.int w5]) d_J6_bitCount_0f7a4_47 (Nat.le_of_ble_eq_true rfl) rfl ?_
  refine ob_iload_n d_J6_bitCount_0f7a4_48 rfl ?_
  refine ob_bipush (v := 63) d_J6_bitCount_0f7a4_49 cb_63 ?_
  refine ob_iand d_J6_bitCount_0f7a4_51 ?_
  exact ob_iret d_J6_bitCount_0f7a4_52 rfl ⟨_, rfl, k⟩
theorem d_J6_numberOfTrailingZeros_0f7a4_0 : decode oJ6_numberOfTrailingZeros_0f7a4.2.1 0 = .ok (.iload_n 0, 1) := by decide +kernel
theorem d_J6_numberOfTrailingZeros_0f7a4_1 : decode oJ6_numberOfTrailingZeros_0f7a4.2.1 1 = .ok (.iconst (-1), 1) := by decide +kernel
theorem d_J6_numberOfTrailingZeros_0f7a4_2 : decode oJ6_numberOfTrailingZeros_0f7a4.2.1 2 = .ok (.ixor, 1) := by decide +kernel
theorem d_J6_numberOfTrailingZeros_0f7a4_3 : decode oJ6_numberOfTrailingZeros_0f7a4.2.1 3 = .ok (.iload_n 0, 1) := by decide +kernel
theorem d_J6_numberOfTrailingZeros_0f7a4_4 : decode oJ6_numberOfTrailingZeros_0f7a4.2.1 4 = .ok (.iconst 1, 1) := by decide +kernel
theorem d_J6_numberOfTrailingZeros_0f7a4_5 : decode oJ6_numberOfTrailingZeros_0f7a4.2.1 5 = .ok (.isub, 1) := by decide +kernel
theorem d_J6_numberOfTrailingZeros_0f7a4_6 : decode oJ6_numberOfTrailingZeros_0f7a4.2.1 6 = .ok (.iand, 1) := by decide +kernel
theorem d_J6_numberOfTrailingZeros_0f7a4_7 : decode oJ6_numberOfTrailingZeros_0f7a4.2.1 7 = .ok (.istore_n 0, 1) := by decide +kernel
theorem d_J6_numberOfTrailingZeros_0f7a4_8 : decode oJ6_numberOfTrailingZeros_0f7a4.2.1 8 = .ok (.iload_n 0, 1) := by decide +kernel
theorem d_J6_numberOfTrailingZeros_0f7a4_9 : decode oJ6_numberOfTrailingZeros_0f7a4.2.1 9 = .ok (.ifCond .gt 8, 3) := by decide +kernel
theorem d_J6_numberOfTrailingZeros_0f7a4_12 : decode oJ6_numberOfTrailingZeros_0f7a4.2.1 12 = .ok (.iload_n 0, 1) := by decide +kernel
theorem d_J6_numberOfTrailingZeros_0f7a4_13 : decode oJ6_numberOfTrailingZeros_0f7a4.2.1 13 = .ok (.bipush 32, 2) := by decide +kernel
theorem d_J6_numberOfTrailingZeros_0f7a4_15 : decode oJ6_numberOfTrailingZeros_0f7a4.2.1 15 = .ok (.iand, 1) := by decide +kernel
theorem d_J6_numberOfTrailingZeros_0f7a4_16 : decode oJ6_numberOfTrailingZeros_0f7a4.2.1 16 = .ok (.ireturn, 1) := by decide +kernel
theorem d_J6_numberOfTrailingZeros_0f7a4_17 : decode oJ6_numberOfTrailingZeros_0f7a4.2.1 17 = .ok (.iconst 1, 1) := by decide +kernel
theorem d_J6_numberOfTrailingZeros_0f7a4_18 : decode oJ6_numberOfTrailingZeros_0f7a4.2.1 18 = .ok (.istore_n 1, 1) := by decide +kernel
theorem d_J6_numberOfTrailingZeros_0f7a4_19 : decode oJ6_numberOfTrailingZeros_0f7a4.2.1 19 = .ok (.iload_n 0, 1) := by decide +kernel
theorem d_J6_numberOfTrailingZeros_0f7a4_20 : decode oJ6_numberOfTrailingZeros_0f7a4.2.1 20 = .ok (.ldc_w 264, 3) := by decide +kernel
theorem d_J6_numberOfTrailingZeros_0f7a4_23 : decode oJ6_numberOfTrailingZeros_0f7a4.2.1 23 = .ok (.if_icmp .le 11, 3) := by decide +kernel
theorem d_J6_numberOfTrailingZeros_0f7a4_26 : decode oJ6_numberOfTrailingZeros_0f7a4.2.1 26 = .ok (.iinc 1 16, 3) := by decide +kernel
theorem d_J6_numberOfTrailingZeros_0f7a4_29 : decode oJ6_numberOfTrailingZeros_0f7a4.2.1 29 = .ok (.iload_n 0, 1) := by decide +kernel
theorem d_J6_numberOfTrailingZeros_0f7a4_30 : decode oJ6_numberOfTrailingZeros_0f7a4.2.1 30 = .ok (.bipush 16, 2) := by decide +kernel
theorem d_J6_numberOfTrailingZeros_0f7a4_32 : decode oJ6_numberOfTrailingZeros_0f7a4.2.1 32 = .ok (.iushr, 1) := by decide +kernel
theorem d_J6_numberOfTrailingZeros_0f7a4_33 : decode oJ6_numberOfTrailingZeros_0f7a4.2.1 33 = .ok (.istore_n 0, 1) := by decide +kernel
theorem d_J6_numberOfTrailingZeros_0f7a4_34 : decode oJ6_numberOfTrailingZeros_0f7a4.2.1 34 = .ok (.iload_n 0, 1) := by decide +kernel
theorem d_J6_numberOfTrailingZeros_0f7a4_35 : decode oJ6_numberOfTrailingZeros_0f7a4.2.1 35 = .ok (.sipush 256, 3) := by decide +kernel
theorem d_J6_numberOfTrailingZeros_0f7a4_38 : decode oJ6_numberOfTrailingZeros_0f7a4.2.1 38 = .ok (.if_icmp .le 11, 3) := by decide +kernel
theorem d_J6_numberOfTrailingZeros_0f7a4_41 : decode oJ6_numberOfTrailingZeros_0f7a4.2.1 41 = .ok (.iinc 1 8, 3) := by decide +kernel
theorem d_J6_numberOfTrailingZeros_0f7a4_44 : decode oJ6_numberOfTrailingZeros_0f7a4.2.1 44 = .ok (.iload_n 0, 1) := by decide +kernel
theorem d_J6_numberOfTrailingZeros_0f7a4_45 : decode oJ6_numberOfTrailingZeros_0f7a4.2.1 45 = .ok (.bipush 8, 2) := by decide +kernel
theorem d_J6_numberOfTrailingZeros_0f7a4_47 : decode oJ6_numberOfTrailingZeros_0f7a4.2.1 47 = .ok (.iushr, 1) := by decide +kernel
theorem d_J6_numberOfTrailingZeros_0f7a4_48 : decode oJ6_numberOfTrailingZeros_0f7a4.2.1 48 = .ok (.istore_n 0, 1) := by decide +kernel
theorem d_J6_numberOfTrailingZeros_0f7a4_49 : decode oJ6_numberOfTrailingZeros_0f7a4.2.1 49 = .ok (.iload_n 0, 1) := by decide +kernel
theorem d_J6_numberOfTrailingZeros_0f7a4_50 : decode oJ6_numberOfTrailingZeros_0f7a4.2.1 50 = .ok (.bipush 16, 2) := by decide +kernel
theorem d_J6_numberOfTrailingZeros_0f7a4_52 : decode oJ6_numberOfTrailingZeros_0f7a4.2.1 52 = .ok (.if_icmp .le 10, 3) := by decide +kernel
theorem d_J6_numberOfTrailingZeros_0f7a4_55 : decode oJ6_numberOfTrailingZeros_0f7a4.2.1 55 = .ok (.iinc 1 4, 3) := by decide +kernel
theorem d_J6_numberOfTrailingZeros_0f7a4_58 : decode oJ6_numberOfTrailingZeros_0f7a4.2.1 58 = .ok (.iload_n 0, 1) := by decide +kernel
theorem d_J6_numberOfTrailingZeros_0f7a4_59 : decode oJ6_numberOfTrailingZeros_0f7a4.2.1 59 = .ok (.iconst 4, 1) := by decide +kernel
theorem d_J6_numberOfTrailingZeros_0f7a4_60 : decode oJ6_numberOfTrailingZeros_0f7a4.2.1 60 = .ok (.iushr, 1) := by decide +kernel
theorem d_J6_numberOfTrailingZeros_0f7a4_61 : decode oJ6_numberOfTrailingZeros_0f7a4.2.1 61 = .ok (.istore_n 0, 1) := by decide +kernel
theorem d_J6_numberOfTrailingZeros_0f7a4_62 : decode oJ6_numberOfTrailingZeros_0f7a4.2.1 62 = .ok (.iload_n 0, 1) := by decide +kernel
theorem d_J6_numberOfTrailingZeros_0f7a4_63 : decode oJ6_numberOfTrailingZeros_0f7a4.2.1 63 = .ok (.iconst 4, 1) := by decide +kernel
theorem d_J6_numberOfTrailingZeros_0f7a4_64 : decode oJ6_numberOfTrailingZeros_0f7a4.2.1 64 = .ok (.if_icmp .le 10, 3) := by decide +kernel
theorem d_J6_numberOfTrailingZeros_0f7a4_67 : decode oJ6_numberOfTrailingZeros_0f7a4.2.1 67 = .ok (.iinc 1 2, 3) := by decide +kernel
theorem d_J6_numberOfTrailingZeros_0f7a4_70 : decode oJ6_numberOfTrailingZeros_0f7a4.2.1 70 = .ok (.iload_n 0, 1) := by decide +kernel
theorem d_J6_numberOfTrailingZeros_0f7a4_71 : decode oJ6_numberOfTrailingZeros_0f7a4.2.1 71 = .ok (.iconst 2, 1) := by decide +kernel
theorem d_J6_numberOfTrailingZeros_0f7a4_72 : decode oJ6_numberOfTrailingZeros_0f7a4.2.1 72 = .ok (.iushr, 1) := by decide +kernel
theorem d_J6_numberOfTrailingZeros_0f7a4_73 : decode oJ6_numberOfTrailingZeros_0f7a4.2.1 73 = .ok (.istore_n 0, 1) := by decide +kernel
theorem d_J6_numberOfTrailingZeros_0f7a4_74 : decode oJ6_numberOfTrailingZeros_0f7a4.2.1 74 = .ok (.iload_n 1, 1) := by decide +kernel
theorem d_J6_numberOfTrailingZeros_0f7a4_75 : decode oJ6_numberOfTrailingZeros_0f7a4.2.1 75 = .ok (.iload_n 0, 1) := by decide +kernel
theorem d_J6_numberOfTrailingZeros_0f7a4_76 : decode oJ6_numberOfTrailingZeros_0f7a4.2.1 76 = .ok (.iconst 1, 1) := by decide +kernel
theorem d_J6_numberOfTrailingZeros_0f7a4_77 : decode oJ6_numberOfTrailingZeros_0f7a4.2.1 77 = .ok (.iushr, 1) := by decide +kernel
theorem d_J6_numberOfTrailingZeros_0f7a4_78 : decode oJ6_numberOfTrailingZeros_0f7a4.2.1 78 = .ok (.iadd, 1) := by decide +kernel
theorem d_J6_numberOfTrailingZeros_0f7a4_79 : decode oJ6_numberOfTrailingZeros_0f7a4.2.1 79 = .ok (.ireturn, 1) := by decide +kernel
theorem b_J6_numberOfTrailingZeros_0f7a4_0 {E : ob_E} {σ : ob_Mem} {Q : Int32 → ob_Mem → Prop} {x0 : Int32} (k : ((0 < ((x0 ^^^ (-1 : Int32)) &&& (x0 - (1 : Int32))) → ((((x0 ^^^ (-1 : Int32)) &&& (x0 - (1 : Int32))) ≤ (65536 : Int32) → ob_RT shp E oJ6_numberOfTrailingZeros_0f7a4 34 [.int ((x0 ^^^ (-1 : Int32)) &&& (x0 - (1 : Int32))), .int (1 : Int32)] [] σ (ob_qI Q)) ∧ (¬ ((x0 ^^^ (-1 : Int32)) &&& (x0 - (1 : Int32))) ≤ (65536 : Int32) → (∀ w1 : Int32, w1 = ((((x0 ^^^ (-1 : Int32)) &&& (x0 - (1 : Int32)))).toUInt32 >>> (((16 : Int32)).toUInt32 &&& Int32.toUInt32 31)).toInt32 → ob_RT shp E oJ6_numberOfTrailingZeros_0f7a4 34 [.int w1, .int ((1 : Int32) + (16 : Int32))] [] σ (ob_qI Q))))) ∧ (¬ 0 < ((x0 ^^^ (-1 : Int32)) &&& (x0 - (1 : Int32))) → Q (((x0 ^^^ (-1 : Int32)) &&& (x0 - (1 : Int32))) &&& (32 : Int32)) σ))) : ob_RT shp E oJ6_numberOfTrailingZeros_0f7a4 0 [.int x0, .null] [] σ (ob_qI Q) := by
  refine ob_iload_n d_J6_numberOfTrailingZeros_0f7a4_0 rfl ?_
  refine ob_iconst (v := -1) d_J6_numberOfTrailingZeros_0f7a4_1 ci_m1 ?_
  refine ob_ixor d_J6_numberOfTrailingZeros_0f7a4_2 ?_
  refine ob_iload_n d_J6_numberOfTrailingZeros_0f7a4_3 rfl ?_
  refine ob_iconst (v := 1) d_J6_numberOfTrailingZeros_0f7a4_4 ci_1 ?_
  refine ob_isub d_J6_numberOfTrailingZeros_0f7a4_5 ?_
  refine ob_iand d_J6_numberOfTrailingZeros_0f7a4_6 ?_
  refine ob_istore_n (ls' := [.int ((x0 ^^^ (-1 : Int32)) &&& (x0 - (1 : Int32))), .null]) d_J6_numberOfTrailingZeros_0f7a4_7 (Nat.le_of_ble_eq_true rfl) rfl ?_
  refine ob_iload_n d_J6_numberOfTrailingZeros_0f7a4_8 rfl ?_
  refine ob_if_gt (tgt := 17) d_J6_numberOfTrailingZeros_0f7a4_9 rfl (fun cc => ?_) (fun cc => ?_)
  · have k := k.1 cc
    refine ob_iconst (v := 1) d_J6_numberOfTrailingZeros_0f7a4_17 ci_1 ?_
    refine ob_istore_n (ls' := [.int ((x0 ^^^ (-1 : Int32)) &&& (x0 - (1 : Int32))), .int (1 : Int32)]) d_J6_numberOfTrailingZeros_0f7a4_18 (Nat.le_of_ble_eq_true rfl) rfl ?_
    refine ob_iload_n d_J6_numberOfTrailingZeros_0f7a4_19 rfl ?_
    refine ob_ldcw (v := 65536) d_J6_numberOfTrailingZeros_0f7a4_20 k_J6_264 ?_
    refine ob_icmp_le (tgt := 34) d_J6_numberOfTrailingZeros_0f7a4_23 rfl (fun cc => ?_) (fun cc => ?_)
    · have k := k.1 cc
      exact k
    · have k := k.2 cc
      refine ob_iinc (ls' := [.int ((x0 ^^^ (-1 : Int32)) &&& (x0 - (1 : Int32))), .int ((1 : Int32) + (16 : Int32))]) (v := 16) d_J6_numberOfTrailingZeros_0f7a4_26 rfl ci_16 (Nat.le_of_ble_eq_true rfl) rfl ?_
      refine ob_iload_n d_J6_numberOfTrailingZeros_0f7a4_29 rfl ?_
      refine ob_bipush (v := 16) d_J6_numberOfTrailingZeros_0f7a4_30 cb_16 ?_
      refine ob_iushr d_J6_numberOfTrailingZeros_0f7a4_32 ?_
      refine ob_nmI (fun w1 hw1 => ?_)
      have k := k w1 hw1
      refine ob_istore_n (ls' := [.int w1, .int ((1 : Int32) + (16 : Int32))]) d_J6_numberOfTrailingZeros_0f7a4_33 (Nat.le_of_ble_eq_true rfl) rfl ?_
      exact k
  · have k := k.2 cc
    refine ob_iload_n d_J6_numberOfTrailingZeros_0f7a4_12 rfl ?_
    refine ob_bipush (v := 32) d_J6_numberOfTrailingZeros_0f7a4_13 cb_32 ?_
    refine ob_iand d_J6_numberOfTrailingZeros_0f7a4_15 ?_
    exact ob_iret d_J6_numberOfTrailingZeros_0f7a4_16 rfl ⟨_, rfl, k⟩
theorem b_J6_numberOfTrailingZeros_0f7a4_34 {E : ob_E} {σ : ob_Mem} {Q : Int32 → ob_Mem → Prop} {x0 x1 : Int32} (k : ((x0 ≤ (256 : Int32) → ob_RT shp E oJ6_numberOfTrailingZeros_0f7a4 49 [.int x0, .int x1] [] σ (ob_qI Q)) ∧ (¬ x0 ≤ (256 : Int32) → (∀ w1 : Int32, w1 = ((x0).toUInt32 >>> (((8 : Int32)).toUInt32 &&& Int32.toUInt32 31)).toInt32 → ob_RT shp E oJ6_numberOfTrailingZeros_0f7a4 49 [.int w1, .int (x1 + (8 : Int32))] [] σ (ob_qI Q))))) : ob_RT shp E oJ6_numberOfTrailingZeros_0f7a4 34 [.int x0, .int x1] [] σ (ob_qI Q) := by
  refine ob_iload_n d_J6_numberOfTrailingZeros_0f7a4_34 rfl ?_
  refine ob_sipush (v := 256) d_J6_numberOfTrailingZeros_0f7a4_35 cs_256 ?_
  refine ob_icmp_le (tgt := 49) d_J6_numberOfTrailingZeros_0f7a4_38 rfl (fun cc => ?_) (fun cc => ?_)
  · have k := k.1 cc
    exact k
  · have k := k.2 cc
    refine ob_iinc (ls' := [.int x0, .int (x1 + (8 : Int32))]) (v := 8) d_J6_numberOfTrailingZeros_0f7a4_41 rfl ci_8 (Nat.le_of_ble_eq_true rfl) rfl ?_
    refine ob_iload_n d_J6_numberOfTrailingZeros_0f7a4_44 rfl ?_
    refine ob_bipush (v := 8) d_J6_numberOfTrailingZeros_0f7a4_45 cb_8 ?_
    refine ob_iushr d_J6_numberOfTrailingZeros_0f7a4_47 ?_
    refine ob_nmI (fun w1 hw1 => ?_)
    have k := k w1 hw1
    refine ob_istore_n (ls' := [.int w1, .int (x1 + (8 : Int32))]) d_J6_numberOfTrailingZeros_0f7a4_48 (Nat.le_of_ble_eq_true rfl) rfl ?_
    exact k
theorem b_J6_numberOfTrailingZeros_0f7a4_49 {E : ob_E} {σ : ob_Mem} {Q : Int32 → ob_Mem → Prop} {x0 x1 : Int32} (k : ((x0 ≤ (16 : Int32) → ob_RT shp E oJ6_numberOfTrailingZeros_0f7a4 62 [.int x0, .int x1] [] σ (ob_qI Q)) ∧ (¬ x0 ≤ (16 : Int32) → (∀ w1 : Int32, w1 = ((x0).toUInt32 >>> (((4 : Int32)).toUInt32 &&& Int32.toUInt32 31)).toInt32 → ob_RT shp E oJ6_numberOfTrailingZeros_0f7a4 62 [.int w1, .int (x1 + (4 : Int32))] [] σ (ob_qI Q))))) : ob_RT shp E oJ6_numberOfTrailingZeros_0f7a4 49 [.int x0, .int x1] [] σ (ob_qI Q) := by
  refine ob_iload_n d_J6_numberOfTrailingZeros_0f7a4_49 rfl ?_
  refine ob_bipush (v := 16) d_J6_numberOfTrailingZeros_0f7a4_50 cb_16 ?_
  refine ob_icmp_le (tgt := 62) d_J6_numberOfTrailingZeros_0f7a4_52 rfl (fun cc => ?_) (fun cc => ?_)
  · have k := k.1 cc
    exact k
  · have k := k.2 cc
    refine ob_iinc (ls' := [.int x0, .int (x1 + (4 : Int32))]) (v := 4) d_J6_numberOfTrailingZeros_0f7a4_55 rfl ci_4 (Nat.le_of_ble_eq_true rfl) rfl ?_
    refine ob_iload_n d_J6_numberOfTrailingZeros_0f7a4_58 rfl ?_
    refine ob_iconst (v := 4) d_J6_numberOfTrailingZeros_0f7a4_59 ci_4 ?_
    refine ob_iushr d_J6_numberOfTrailingZeros_0f7a4_60 ?_
    refine ob_nmI (fun w1 hw1 => ?_)
    have k := k w1 hw1
    refine ob_istore_n (ls' := [.int w1, .int (x1 + (4 : Int32))]) d_J6_numberOfTrailingZeros_0f7a4_61 (Nat.le_of_ble_eq_true rfl) rfl ?_
    exact k
theorem b_J6_numberOfTrailingZeros_0f7a4_62 {E : ob_E} {σ : ob_Mem} {Q : Int32 → ob_Mem → Prop} {x0 x1 : Int32} (k : ((x0 ≤ (4 : Int32) → Q (x1 + ((x0).toUInt32 >>> (((1 : Int32)).toUInt32 &&& Int32.toUInt32 31)).toInt32) σ) ∧ (¬ x0 ≤ (4 : Int32) → (∀ w1 : Int32, w1 = ((x0).toUInt32 >>> (((2 : Int32)).toUInt32 &&& Int32.toUInt32 31)).toInt32 → Q ((x1 + (2 : Int32)) + ((w1).toUInt32 >>> (((1 : Int32)).toUInt32 &&& Int32.toUInt32 31)).toInt32) σ)))) : ob_RT shp E oJ6_numberOfTrailingZeros_0f7a4 62 [.int x0, .int x1] [] σ (ob_qI Q) := by
  refine ob_iload_n d_J6_numberOfTrailingZeros_0f7a4_62 rfl ?_
  refine ob_iconst (v := 4) d_J6_numberOfTrailingZeros_0f7a4_63 ci_4 ?_
  refine ob_icmp_le (tgt := 74) d_J6_numberOfTrailingZeros_0f7a4_64 rfl (fun cc => ?_) (fun cc => ?_)
  · have k := k.1 cc
    refine ob_iload_n d_J6_numberOfTrailingZeros_0f7a4_74 rfl ?_
    refine ob_iload_n d_J6_numberOfTrailingZeros_0f7a4_75 rfl ?_
    refine ob_iconst (v := 1) d_J6_numberOfTrailingZeros_0f7a4_76 ci_1 ?_
    refine ob_iushr d_J6_numberOfTrailingZeros_0f7a4_77 ?_
    refine ob_iadd d_J6_numberOfTrailingZeros_0f7a4_78 ?_
    exact ob_iret d_J6_numberOfTrailingZeros_0f7a4_79 rfl ⟨_, rfl, k⟩
  · have k := k.2 cc
    refine ob_iinc (ls' := [.int x0, .int (x1 + (2 : Int32))]) (v := 2) d_J6_numberOfTrailingZeros_0f7a4_67 rfl ci_2 (Nat.le_of_ble_eq_true rfl) rfl ?_
    refine ob_iload_n d_J6_numberOfTrailingZeros_0f7a4_70 rfl ?_
    refine ob_iconst (v := 2) d_J6_numberOfTrailingZeros_0f7a4_71 ci_2 ?_
    refine ob_iushr d_J6_numberOfTrailingZeros_0f7a4_72 ?_
    refine ob_nmI (fun w1 hw1 => ?_)
    have k := k w1 hw1
    refine ob_istore_n (ls' := [.int w1, .int (x1 + (2 : Int32))]) d_J6_numberOfTrailingZeros_0f7a4_73 (Nat.le_of_ble_eq_true rfl) rfl ?_
    refine ob_iload_n d_J6_numberOfTrailingZeros_0f7a4_74 rfl ?_
    refine ob_iload_n d_J6_numberOfTrailingZeros_0f7a4_75 rfl ?_
    refine ob_iconst (v := 1) d_J6_numberOfTrailingZeros_0f7a4_76 ci_1 ?_
    refine ob_iushr d_J6_numberOfTrailingZeros_0f7a4_77 ?_
    refine ob_iadd d_J6_numberOfTrailingZeros_0f7a4_78 ?_
    exact ob_iret d_J6_numberOfTrailingZeros_0f7a4_79 rfl ⟨_, rfl, k⟩
