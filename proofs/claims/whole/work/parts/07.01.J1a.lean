/-! code of J1: the decode rows and a row for each piece between cut points (printed by wip/whole/mk.py) -/
theorem d_J1_charAt_3b067_0 : decode oJ1_charAt_3b067.2.1 0 = .ok (.iload_n 1, 1) := by decide +kernel
theorem d_J1_charAt_3b067_1 : decode oJ1_charAt_3b067.2.1 1 = .ok (.aload_n 0, 1) := by decide +kernel
theorem d_J1_charAt_3b067_2 : decode oJ1_charAt_3b067.2.1 2 = .ok (.arraylength, 1) := by decide +kernel
theorem d_J1_charAt_3b067_3 : decode oJ1_charAt_3b067.2.1 3 = .ok (.invokestatic 9, 3) := by decide +kernel
theorem d_J1_charAt_3b067_6 : decode oJ1_charAt_3b067.2.1 6 = .ok (.aload_n 0, 1) := by decide +kernel
theorem d_J1_charAt_3b067_7 : decode oJ1_charAt_3b067.2.1 7 = .ok (.iload_n 1, 1) := by decide +kernel
theorem d_J1_charAt_3b067_8 : decode oJ1_charAt_3b067.2.1 8 = .ok (.baload, 1) := by decide +kernel
theorem d_J1_charAt_3b067_9 : decode oJ1_charAt_3b067.2.1 9 = .ok (.sipush 255, 3) := by decide +kernel
theorem d_J1_charAt_3b067_12 : decode oJ1_charAt_3b067.2.1 12 = .ok (.iand, 1) := by decide +kernel
theorem d_J1_charAt_3b067_13 : decode oJ1_charAt_3b067.2.1 13 = .ok (.i2c, 1) := by decide +kernel
theorem d_J1_charAt_3b067_14 : decode oJ1_charAt_3b067.2.1 14 = .ok (.ireturn, 1) := by decide +kernel
theorem b_J1_charAt_3b067_120_0 {E : ob_E} {σ : ob_Mem} {Q : Int32 → ob_Mem → Prop} {x1 : Int32} (k : ob_RM shp E oJ0_checkIndex_df160 [.int x1, .int (4 : Int32)] σ (ob_qV fun σ1 => (vp_in x1 (ob_sl.getD 0 0) ∧ (narrow .char (.int (((((ob_sb.getD 0 []).getD (x1).toNatClampNeg 0) &&& (255 : Int32))).toUInt32 % 65536).toInt32) = .int (((((ob_sb.getD 0 []).getD (x1).toNatClampNeg 0) &&& (255 : Int32))).toUInt32 % 65536).toInt32 ∧ Q (((((ob_sb.getD 0 []).getD (x1).toNatClampNeg 0) &&& (255 : Int32))).toUInt32 % 65536).toInt32 σ1)))) : ob_RT shp E oJ1_charAt_3b067 0 [.ref 120, .int x1] [] σ (ob_qI Q) := by
  refine ob_iload_n d_J1_charAt_3b067_0 rfl ?_
  refine ob_aload_n d_J1_charAt_3b067_1 rfl ?_
  refine ob_strlen (i := 0) (v := 4) d_J1_charAt_3b067_2 (by decide) (by decide) ?_
  refine ob_callS [.int x1, .int (4 : Int32)] (z := oJ0_checkIndex_df160) (st := []) d_J1_charAt_3b067_3 lk_J1_9 ms_J0_checkIndex_df160 rfl (Nat.le_of_ble_eq_true rfl) rfl k (ob_kV fun σ1 k => ?_)
  refine ob_aload_n d_J1_charAt_3b067_6 rfl ?_
  refine ob_iload_n d_J1_charAt_3b067_7 rfl ?_
  obtain ⟨hin, k⟩ := k
  refine ob_strld (i := 0) d_J1_charAt_3b067_8 (by decide) hin rfl ?_
  refine ob_sipush (v := 255) d_J1_charAt_3b067_9 cs_255 ?_
  refine ob_iand d_J1_charAt_3b067_12 ?_
  refine ob_i2c d_J1_charAt_3b067_13 ?_
  exact ob_zret d_J1_charAt_3b067_14 rfl k.1 ⟨_, rfl, k.2⟩
theorem b_J1_charAt_3b067_121_0 {E : ob_E} {σ : ob_Mem} {Q : Int32 → ob_Mem → Prop} {x1 : Int32} (k : ob_RM shp E oJ0_checkIndex_df160 [.int x1, .int (6 : Int32)] σ (ob_qV fun σ1 => (vp_in x1 (ob_sl.getD 1 0) ∧ (narrow .char (.int (((((ob_sb.getD 1 []).getD (x1).toNatClampNeg 0) &&& (255 : Int32))).toUInt32 % 65536).toInt32) = .int (((((ob_sb.getD 1 []).getD (x1).toNatClampNeg 0) &&& (255 : Int32))).toUInt32 % 65536).toInt32 ∧ Q (((((ob_sb.getD 1 []).getD (x1).toNatClampNeg 0) &&& (255 : Int32))).toUInt32 % 65536).toInt32 σ1)))) : ob_RT shp E oJ1_charAt_3b067 0 [.ref 121, .int x1] [] σ (ob_qI Q) := by
  refine ob_iload_n d_J1_charAt_3b067_0 rfl ?_
  refine ob_aload_n d_J1_charAt_3b067_1 rfl ?_
  refine ob_strlen (i := 1) (v := 6) d_J1_charAt_3b067_2 (by decide) (by decide) ?_
  refine ob_callS [.int x1, .int (6 : Int32)] (z := oJ0_checkIndex_df160) (st := []) d_J1_charAt_3b067_3 lk_J1_9 ms_J0_checkIndex_df160 rfl (Nat.le_of_ble_eq_true rfl) rfl k (ob_kV fun σ1 k => ?_)
  refine ob_aload_n d_J1_charAt_3b067_6 rfl ?_
  refine ob_iload_n d_J1_charAt_3b067_7 rfl ?_
  obtain ⟨hin, k⟩ := k
  refine ob_strld (i := 1) d_J1_charAt_3b067_8 (by decide) hin rfl ?_
  refine ob_sipush (v := 255) d_J1_charAt_3b067_9 cs_255 ?_
  refine ob_iand d_J1_charAt_3b067_12 ?_
  refine ob_i2c d_J1_charAt_3b067_13 ?_
  exact ob_zret d_J1_charAt_3b067_14 rfl k.1 ⟨_, rfl, k.2⟩
theorem b_J1_charAt_3b067_122_0 {E : ob_E} {σ : ob_Mem} {Q : Int32 → ob_Mem → Prop} {x1 : Int32} (k : ob_RM shp E oJ0_checkIndex_df160 [.int x1, .int (8 : Int32)] σ (ob_qV fun σ1 => (vp_in x1 (ob_sl.getD 2 0) ∧ (narrow .char (.int (((((ob_sb.getD 2 []).getD (x1).toNatClampNeg 0) &&& (255 : Int32))).toUInt32 % 65536).toInt32) = .int (((((ob_sb.getD 2 []).getD (x1).toNatClampNeg 0) &&& (255 : Int32))).toUInt32 % 65536).toInt32 ∧ Q (((((ob_sb.getD 2 []).getD (x1).toNatClampNeg 0) &&& (255 : Int32))).toUInt32 % 65536).toInt32 σ1)))) : ob_RT shp E oJ1_charAt_3b067 0 [.ref 122, .int x1] [] σ (ob_qI Q) := by
  refine ob_iload_n d_J1_charAt_3b067_0 rfl ?_
  refine ob_aload_n d_J1_charAt_3b067_1 rfl ?_
  refine ob_strlen (i := 2) (v := 8) d_J1_charAt_3b067_2 (by decide) (by decide) ?_
  refine ob_callS [.int x1, .int (8 : Int32)] (z := oJ0_checkIndex_df160) (st := []) d_J1_charAt_3b067_3 lk_J1_9 ms_J0_checkIndex_df160 rfl (Nat.le_of_ble_eq_true rfl) rfl k (ob_kV fun σ1 k => ?_)
  refine ob_aload_n d_J1_charAt_3b067_6 rfl ?_
  refine ob_iload_n d_J1_charAt_3b067_7 rfl ?_
  obtain ⟨hin, k⟩ := k
  refine ob_strld (i := 2) d_J1_charAt_3b067_8 (by decide) hin rfl ?_
  refine ob_sipush (v := 255) d_J1_charAt_3b067_9 cs_255 ?_
  refine ob_iand d_J1_charAt_3b067_12 ?_
  refine ob_i2c d_J1_charAt_3b067_13 ?_
  exact ob_zret d_J1_charAt_3b067_14 rfl k.1 ⟨_, rfl, k.2⟩
theorem b_J1_charAt_3b067_123_0 {E : ob_E} {σ : ob_Mem} {Q : Int32 → ob_Mem → Prop} {x1 : Int32} (k : ob_RM shp E oJ0_checkIndex_df160 [.int x1, .int (4 : Int32)] σ (ob_qV fun σ1 => (vp_in x1 (ob_sl.getD 3 0) ∧ (narrow .char (.int (((((ob_sb.getD 3 []).getD (x1).toNatClampNeg 0) &&& (255 : Int32))).toUInt32 % 65536).toInt32) = .int (((((ob_sb.getD 3 []).getD (x1).toNatClampNeg 0) &&& (255 : Int32))).toUInt32 % 65536).toInt32 ∧ Q (((((ob_sb.getD 3 []).getD (x1).toNatClampNeg 0) &&& (255 : Int32))).toUInt32 % 65536).toInt32 σ1)))) : ob_RT shp E oJ1_charAt_3b067 0 [.ref 123, .int x1] [] σ (ob_qI Q) := by
  refine ob_iload_n d_J1_charAt_3b067_0 rfl ?_
  refine ob_aload_n d_J1_charAt_3b067_1 rfl ?_
  refine ob_strlen (i := 3) (v := 4) d_J1_charAt_3b067_2 (by decide) (by decide) ?_
  refine ob_callS [.int x1, .int (4 : Int32)] (z := oJ0_checkIndex_df160) (st := []) d_J1_charAt_3b067_3 lk_J1_9 ms_J0_checkIndex_df160 rfl (Nat.le_of_ble_eq_true rfl) rfl k (ob_kV fun σ1 k => ?_)
  refine ob_aload_n d_J1_charAt_3b067_6 rfl ?_
  refine ob_iload_n d_J1_charAt_3b067_7 rfl ?_
  obtain ⟨hin, k⟩ := k
  refine ob_strld (i := 3) d_J1_charAt_3b067_8 (by decide) hin rfl ?_
  refine ob_sipush (v := 255) d_J1_charAt_3b067_9 cs_255 ?_
  refine ob_iand d_J1_charAt_3b067_12 ?_
  refine ob_i2c d_J1_charAt_3b067_13 ?_
  exact ob_zret d_J1_charAt_3b067_14 rfl k.1 ⟨_, rfl, k.2⟩
