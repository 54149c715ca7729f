/-! code of J0: the decode rows and a row for each piece between cut points (printed by wip/whole/mk.py) -/
theorem d_J0_length_8abf5_0 : decode oJ0_length_8abf5.2.1 0 = .ok (.aload_n 0, 1) := by decide +kernel
theorem d_J0_length_8abf5_1 : decode oJ0_length_8abf5.2.1 1 = .ok (.getfield 9, 3) := by decide +kernel
theorem d_J0_length_8abf5_4 : decode oJ0_length_8abf5.2.1 4 = .ok (.arraylength, 1) := by decide +kernel
theorem d_J0_length_8abf5_5 : decode oJ0_length_8abf5.2.1 5 = .ok (.aload_n 0, 1) := by decide +kernel
theorem d_J0_length_8abf5_6 : decode oJ0_length_8abf5.2.1 6 = .ok (.invokevirtual 335, 3) := by decide +kernel
theorem d_J0_length_8abf5_9 : decode oJ0_length_8abf5.2.1 9 = .ok (.ishr, 1) := by decide +kernel
theorem d_J0_length_8abf5_10 : decode oJ0_length_8abf5.2.1 10 = .ok (.ireturn, 1) := by decide +kernel
theorem b_J0_length_8abf5_110_0 {E : ob_E} {σ : ob_Mem} {Q : Int32 → ob_Mem → Prop} (k : ob_RM shp E oJ0_coder_7d493 [.ref 110] σ (ob_qI fun v2 σ1 => Q ((4 : Int32) >>> (v2 &&& 31)) σ1)) : ob_RT shp E oJ0_length_8abf5 0 [.ref 110] [] σ (ob_qI Q) := by
  refine ob_aload_n d_J0_length_8abf5_0 rfl ?_
  refine ob_strval (i := 0) d_J0_length_8abf5_1 (by decide) sl_J0_9 ?_
  refine ob_strlen (i := 0) (v := 4) d_J0_length_8abf5_4 (by decide) (by decide) ?_
  refine ob_aload_n d_J0_length_8abf5_5 rfl ?_
  refine ob_callT [] (z := oJ0_coder_7d493) (i := 0) (st := [.int (4 : Int32)]) d_J0_length_8abf5_6 lk_J0_335 mv_J0_coder_7d493 rfl (by decide) rfl (Nat.le_of_ble_eq_true rfl) rfl k (ob_kI fun v2 σ1 k => ?_)
  refine ob_ishr d_J0_length_8abf5_9 ?_
  exact ob_iret d_J0_length_8abf5_10 rfl ⟨_, rfl, k⟩
theorem d_J0_charAt_5068e_0 : decode oJ0_charAt_5068e.2.1 0 = .ok (.aload_n 0, 1) := by decide +kernel
theorem d_J0_charAt_5068e_1 : decode oJ0_charAt_5068e.2.1 1 = .ok (.invokevirtual 492, 3) := by decide +kernel
theorem d_J0_charAt_5068e_4 : decode oJ0_charAt_5068e.2.1 4 = .ok (.ifCond .eq 12, 3) := by decide +kernel
theorem d_J0_charAt_5068e_7 : decode oJ0_charAt_5068e.2.1 7 = .ok (.aload_n 0, 1) := by decide +kernel
theorem d_J0_charAt_5068e_8 : decode oJ0_charAt_5068e.2.1 8 = .ok (.getfield 9, 3) := by decide +kernel
theorem d_J0_charAt_5068e_11 : decode oJ0_charAt_5068e.2.1 11 = .ok (.iload_n 1, 1) := by decide +kernel
theorem d_J0_charAt_5068e_12 : decode oJ0_charAt_5068e.2.1 12 = .ok (.invokestatic 495, 3) := by decide +kernel
theorem d_J0_charAt_5068e_15 : decode oJ0_charAt_5068e.2.1 15 = .ok (.ireturn, 1) := by decide +kernel
theorem d_J0_charAt_5068e_16 : decode oJ0_charAt_5068e.2.1 16 = .ok (.aload_n 0, 1) := by decide +kernel
theorem d_J0_charAt_5068e_17 : decode oJ0_charAt_5068e.2.1 17 = .ok (.getfield 9, 3) := by decide +kernel
theorem d_J0_charAt_5068e_20 : decode oJ0_charAt_5068e.2.1 20 = .ok (.iload_n 1, 1) := by decide +kernel
theorem d_J0_charAt_5068e_21 : decode oJ0_charAt_5068e.2.1 21 = .ok (.invokestatic 498, 3) := by decide +kernel
theorem d_J0_charAt_5068e_24 : decode oJ0_charAt_5068e.2.1 24 = .ok (.ireturn, 1) := by decide +kernel
theorem b_J0_charAt_5068e_110_0 {E : ob_E} {σ : ob_Mem} {Q : Int32 → ob_Mem → Prop} {x1 : Int32} (k : ob_RM shp E oJ0_isLatin1_aae02 [.ref 110] σ (ob_qI fun v2 σ1 => ((v2 = 0 → ob_RM shp E oJ2_charAt_3b067 [.ref 120, .int x1] σ1 (ob_qI fun v4 σ3 => (narrow .char (.int v4) = .int v4 ∧ Q v4 σ3))) ∧ (¬ v2 = 0 → ob_RM shp E oJ1_charAt_3b067 [.ref 120, .int x1] σ1 (ob_qI fun v6 σ5 => (narrow .char (.int v6) = .int v6 ∧ Q v6 σ5)))))) : ob_RT shp E oJ0_charAt_5068e 0 [.ref 110, .int x1] [] σ (ob_qI Q) := by
  refine ob_aload_n d_J0_charAt_5068e_0 rfl ?_
  refine ob_callT [] (z := oJ0_isLatin1_aae02) (i := 0) (st := []) d_J0_charAt_5068e_1 lk_J0_492 mv_J0_isLatin1_aae02 rfl (by decide) rfl (Nat.le_of_ble_eq_true rfl) rfl k (ob_kI fun v2 σ1 k => ?_)
  refine ob_if_eq (tgt := 16) d_J0_charAt_5068e_4 rfl (fun cc => ?_) (fun cc => ?_)
  · have k := k.1 cc
    refine ob_aload_n d_J0_charAt_5068e_16 rfl ?_
    refine ob_strval (i := 0) d_J0_charAt_5068e_17 (by decide) sl_J0_9 ?_
    refine ob_iload_n d_J0_charAt_5068e_20 rfl ?_
    refine ob_callS [.ref 120, .int x1] (z := oJ2_charAt_3b067) (st := []) d_J0_charAt_5068e_21 lk_J0_498 ms_J2_charAt_3b067 rfl (Nat.le_of_ble_eq_true rfl) rfl k (ob_kI fun v4 σ3 k => ?_)
    exact ob_zret d_J0_charAt_5068e_24 rfl k.1 ⟨_, rfl, k.2⟩
  · have k := k.2 cc
    refine ob_aload_n d_J0_charAt_5068e_7 rfl ?_
    refine ob_strval (i := 0) d_J0_charAt_5068e_8 (by decide) sl_J0_9 ?_
    refine ob_iload_n d_J0_charAt_5068e_11 rfl ?_
    refine ob_callS [.ref 120, .int x1] (z := oJ1_charAt_3b067) (st := []) d_J0_charAt_5068e_12 lk_J0_495 ms_J1_charAt_3b067 rfl (Nat.le_of_ble_eq_true rfl) rfl k (ob_kI fun v6 σ5 k => ?_)
    exact ob_zret d_J0_charAt_5068e_15 rfl k.1 ⟨_, rfl, k.2⟩
theorem b_J0_length_8abf5_111_0 {E : ob_E} {σ : ob_Mem} {Q : Int32 → ob_Mem → Prop} (k : ob_RM shp E oJ0_coder_7d493 [.ref 111] σ (ob_qI fun v2 σ1 => Q ((6 : Int32) >>> (v2 &&& 31)) σ1)) : ob_RT shp E oJ0_length_8abf5 0 [.ref 111] [] σ (ob_qI Q) := by
  refine ob_aload_n d_J0_length_8abf5_0 rfl ?_
  refine ob_strval (i := 1) d_J0_length_8abf5_1 (by decide) sl_J0_9 ?_
  refine ob_strlen (i := 1) (v := 6) d_J0_length_8abf5_4 (by decide) (by decide) ?_
  refine ob_aload_n d_J0_length_8abf5_5 rfl ?_
  refine ob_callT [] (z := oJ0_coder_7d493) (i := 1) (st := [.int (6 : Int32)]) d_J0_length_8abf5_6 lk_J0_335 mv_J0_coder_7d493 rfl (by decide) rfl (Nat.le_of_ble_eq_true rfl) rfl k (ob_kI fun v2 σ1 k => ?_)
  refine ob_ishr d_J0_length_8abf5_9 ?_
  exact ob_iret d_J0_length_8abf5_10 rfl ⟨_, rfl, k⟩
theorem b_J0_charAt_5068e_111_0 {E : ob_E} {σ : ob_Mem} {Q : Int32 → ob_Mem → Prop} {x1 : Int32} (k : ob_RM shp E oJ0_isLatin1_aae02 [.ref 111] σ (ob_qI fun v2 σ1 => ((v2 = 0 → ob_RM shp E oJ2_charAt_3b067 [.ref 121, .int x1] σ1 (ob_qI fun v4 σ3 => (narrow .char (.int v4) = .int v4 ∧ Q v4 σ3))) ∧ (¬ v2 = 0 → ob_RM shp E oJ1_charAt_3b067 [.ref 121, .int x1] σ1 (ob_qI fun v6 σ5 => (narrow .char (.int v6) = .int v6 ∧ Q v6 σ5)))))) : ob_RT shp E oJ0_charAt_5068e 0 [.ref 111, .int x1] [] σ (ob_qI Q) := by
  refine ob_aload_n d_J0_charAt_5068e_0 rfl ?_
  refine ob_callT [] (z := oJ0_isLatin1_aae02) (i := 1) (st := []) d_J0_charAt_5068e_1 lk_J0_492 mv_J0_isLatin1_aae02 rfl (by decide) rfl (Nat.le_of_ble_eq_true rfl) rfl k (ob_kI fun v2 σ1 k => ?_)
  refine ob_if_eq (tgt := 16) d_J0_charAt_5068e_4 rfl (fun cc => ?_) (fun cc => ?_)
  · have k := k.1 cc
    refine ob_aload_n d_J0_charAt_5068e_16 rfl ?_
    refine ob_strval (i := 1) d_J0_charAt_5068e_17 (by decide) sl_J0_9 ?_
    refine ob_iload_n d_J0_charAt_5068e_20 rfl ?_
    refine ob_callS [.ref 121, .int x1] (z := oJ2_charAt_3b067) (st := []) d_J0_charAt_5068e_21 lk_J0_498 ms_J2_charAt_3b067 rfl (Nat.le_of_ble_eq_true rfl) rfl k (ob_kI fun v4 σ3 k => ?_)
    exact ob_zret d_J0_charAt_5068e_24 rfl k.1 ⟨_, rfl, k.2⟩
  · have k := k.2 cc
    refine ob_aload_n d_J0_charAt_5068e_7 rfl ?_
    refine ob_strval (i := 1) d_J0_charAt_5068e_8 (by decide) sl_J0_9 ?_
    refine ob_iload_n d_J0_charAt_5068e_11 rfl ?_
    refine ob_callS [.ref 121, .int x1] (z := oJ1_charAt_3b067) (st := []) d_J0_charAt_5068e_12 lk_J0_495 ms_J1_charAt_3b067 rfl (Nat.le_of_ble_eq_true rfl) rfl k (ob_kI fun v6 σ5 k => ?_)
    exact ob_zret d_J0_charAt_5068e_15 rfl k.1 ⟨_, rfl, k.2⟩
theorem b_J0_length_8abf5_112_0 {E : ob_E} {σ : ob_Mem} {Q : Int32 → ob_Mem → Prop} (k : ob_RM shp E oJ0_coder_7d493 [.ref 112] σ (ob_qI fun v2 σ1 => Q ((8 : Int32) >>> (v2 &&& 31)) σ1)) : ob_RT shp E oJ0_length_8abf5 0 [.ref 112] [] σ (ob_qI Q) := by
  refine ob_aload_n d_J0_length_8abf5_0 rfl ?_
  refine ob_strval (i := 2) d_J0_length_8abf5_1 (by decide) sl_J0_9 ?_
  refine ob_strlen (i := 2) (v := 8) d_J0_length_8abf5_4 (by decide) (by decide) ?_
  refine ob_aload_n d_J0_length_8abf5_5 rfl ?_
  refine ob_callT [] (z := oJ0_coder_7d493) (i := 2) (st := [.int (8 : Int32)]) d_J0_length_8abf5_6 lk_J0_335 mv_J0_coder_7d493 rfl (by decide) rfl (Nat.le_of_ble_eq_true rfl) rfl k (ob_kI fun v2 σ1 k => ?_)
  refine ob_ishr d_J0_length_8abf5_9 ?_
  exact ob_iret d_J0_length_8abf5_10 rfl ⟨_, rfl, k⟩
theorem b_J0_charAt_5068e_112_0 {E : ob_E} {σ : ob_Mem} {Q : Int32 → ob_Mem → Prop} {x1 : Int32} (k : ob_RM shp E oJ0_isLatin1_aae02 [.ref 112] σ (ob_qI fun v2 σ1 => ((v2 = 0 → ob_RM shp E oJ2_charAt_3b067 [.ref 122, .int x1] σ1 (ob_qI fun v4 σ3 => (narrow .char (.int v4) = .int v4 ∧ Q v4 σ3))) ∧ (¬ v2 = 0 → ob_RM shp E oJ1_charAt_3b067 [.ref 122, .int x1] σ1 (ob_qI fun v6 σ5 => (narrow .char (.int v6) = .int v6 ∧ Q v6 σ5)))))) : ob_RT shp E oJ0_charAt_5068e 0 [.ref 112, .int x1] [] σ (ob_qI Q) := by
  refine ob_aload_n d_J0_charAt_5068e_0 rfl ?_
  refine ob_callT [] (z := oJ0_isLatin1_aae02) (i := 2) (st := []) d_J0_charAt_5068e_1 lk_J0_492 mv_J0_isLatin1_aae02 rfl (by decide) rfl (Nat.le_of_ble_eq_true rfl) rfl k (ob_kI fun v2 σ1 k => ?_)
  refine ob_if_eq (tgt := 16) d_J0_charAt_5068e_4 rfl (fun cc => ?_) (fun cc => ?_)
  · have k := k.1 cc
    refine ob_aload_n d_J0_charAt_5068e_16 rfl ?_
    refine ob_strval (i := 2) d_J0_charAt_5068e_17 (by decide) sl_J0_9 ?_
    refine ob_iload_n d_J0_charAt_5068e_20 rfl ?_
    refine ob_callS [.ref 122, .int x1] (z := oJ2_charAt_3b067) (st := []) d_J0_charAt_5068e_21 lk_J0_498 ms_J2_charAt_3b067 rfl (Nat.le_of_ble_eq_true rfl) rfl k (ob_kI fun v4 σ3 k => ?_)
    exact ob_zret d_J0_charAt_5068e_24 rfl k.1 ⟨_, rfl, k.2⟩
  · have k := k.2 cc
    refine ob_aload_n d_J0_charAt_5068e_7 rfl ?_
    refine ob_strval (i := 2) d_J0_charAt_5068e_8 (by decide) sl_J0_9 ?_
    refine ob_iload_n d_J0_charAt_5068e_11 rfl ?_
    refine ob_callS [.ref 122, .int x1] (z := oJ1_charAt_3b067) (st := []) d_J0_charAt_5068e_12 lk_J0_495 ms_J1_charAt_3b067 rfl (Nat.le_of_ble_eq_true rfl) rfl k (ob_kI fun v6 σ5 k => ?_)
    exact ob_zret d_J0_charAt_5068e_15 rfl k.1 ⟨_, rfl, k.2⟩
theorem b_J0_length_8abf5_113_0 {E : ob_E} {σ : ob_Mem} {Q : Int32 → ob_Mem → Prop} (k : ob_RM shp E oJ0_coder_7d493 [.ref 113] σ (ob_qI fun v2 σ1 => Q ((4 : Int32) >>> (v2 &&& 31)) σ1)) : ob_RT shp E oJ0_length_8abf5 0 [.ref 113] [] σ (ob_qI Q) := by
  refine ob_aload_n d_J0_length_8abf5_0 rfl ?_
  refine ob_strval (i := 3) d_J0_length_8abf5_1 (by decide) sl_J0_9 ?_
  refine ob_strlen (i := 3) (v := 4) d_J0_length_8abf5_4 (by decide) (by decide) ?_
  refine ob_aload_n d_J0_length_8abf5_5 rfl ?_
  refine ob_callT [] (z := oJ0_coder_7d493) (i := 3) (st := [.int (4 : Int32)]) d_J0_length_8abf5_6 lk_J0_335 mv_J0_coder_7d493 rfl (by decide) rfl (Nat.le_of_ble_eq_true rfl) rfl k (ob_kI fun v2 σ1 k => ?_)
  refine ob_ishr d_J0_length_8abf5_9 ?_
  exact ob_iret d_J0_length_8abf5_10 rfl ⟨_, rfl, k⟩
theorem b_J0_charAt_5068e_113_0 {E : ob_E} {σ : ob_Mem} {Q : Int32 → ob_Mem → Prop} {x1 : Int32} (k : ob_RM shp E oJ0_isLatin1_aae02 [.ref 113] σ (ob_qI fun v2 σ1 => ((v2 = 0 → ob_RM shp E oJ2_charAt_3b067 [.ref 123, .int x1] σ1 (ob_qI fun v4 σ3 => (narrow .char (.int v4) = .int v4 ∧ Q v4 σ3))) ∧ (¬ v2 = 0 → ob_RM shp E oJ1_charAt_3b067 [.ref 123, .int x1] σ1 (ob_qI fun v6 σ5 => (narrow .char (.int v6) = .int v6 ∧ Q v6 σ5)))))) : ob_RT shp E oJ0_charAt_5068e 0 [.ref 113, .int x1] [] σ (ob_qI Q) := by
  refine ob_aload_n d_J0_charAt_5068e_0 rfl ?_
  refine ob_callT [] (z := oJ0_isLatin1_aae02) (i := 3) (st := []) d_J0_charAt_5068e_1 lk_J0_492 mv_J0_isLatin1_aae02 rfl (by decide) rfl (Nat.le_of_ble_eq_true rfl) rfl k (ob_kI fun v2 σ1 k => ?_)
  refine ob_if_eq (tgt := 16) d_J0_charAt_5068e_4 rfl (fun cc => ?_) (fun cc => ?_)
  · have k := k.1 cc
    refine ob_aload_n d_J0_charAt_5068e_16 rfl ?_
    refine ob_strval (i := 3) d_J0_charAt_5068e_17 (by decide) sl_J0_9 ?_
    refine ob_iload_n d_J0_charAt_5068e_20 rfl ?_
    refine ob_callS [.ref 123, .int x1] (z := oJ2_charAt_3b067) (st := []) d_J0_charAt_5068e_21 lk_J0_498 ms_J2_charAt_3b067 rfl (Nat.le_of_ble_eq_true rfl) rfl k (ob_kI fun v4 σ3 k => ?_)
    exact ob_zret d_J0_charAt_5068e_24 rfl k.1 ⟨_, rfl, k.2⟩
  · have k := k.2 cc
    refine ob_aload_n d_J0_charAt_5068e_7 rfl ?_
    refine ob_strval (i := 3) d_J0_charAt_5068e_8 (by decide) sl_J0_9 ?_
    refine ob_iload_n d_J0_charAt_5068e_11 rfl ?_
    refine ob_callS [.ref 123, .int x1] (z := oJ1_charAt_3b067) (st := []) d_J0_charAt_5068e_12 lk_J0_495 ms_J1_charAt_3b067 rfl (Nat.le_of_ble_eq_true rfl) rfl k (ob_kI fun v6 σ5 k => ?_)
    exact ob_zret d_J0_charAt_5068e_15 rfl k.1 ⟨_, rfl, k.2⟩
theorem d_J0_coder_7d493_0 : decode oJ0_coder_7d493.2.1 0 = .ok (.getstatic 38, 3) := by decide +kernel
theorem d_J0_coder_7d493_3 : decode oJ0_coder_7d493.2.1 3 = .ok (.ifCond .eq 10, 3) := by decide +kernel
theorem d_J0_coder_7d493_6 : decode oJ0_coder_7d493.2.1 6 = .ok (.aload_n 0, 1) := by decide +kernel
theorem d_J0_coder_7d493_7 : decode oJ0_coder_7d493.2.1 7 = .ok (.getfield 15, 3) := by decide +kernel
theorem d_J0_coder_7d493_10 : decode oJ0_coder_7d493.2.1 10 = .ok (.goto 4, 3) := by decide +kernel
theorem d_J0_coder_7d493_13 : decode oJ0_coder_7d493.2.1 13 = .ok (.iconst 1, 1) := by decide +kernel
theorem d_J0_coder_7d493_14 : decode oJ0_coder_7d493.2.1 14 = .ok (.ireturn, 1) := by decide +kernel
theorem b_J0_coder_7d493_110_0 {E : ob_E} {σ : ob_Mem} {Q : Int32 → ob_Mem → Prop} (k : (((1 : Int32) = 0 → Q (1 : Int32) σ) ∧ (¬ (1 : Int32) = 0 → Q (0 : Int32) σ))) : ob_RT shp E oJ0_coder_7d493 0 [.ref 110] [] σ (ob_qI Q) := by
  refine ob_compact d_J0_coder_7d493_0 sl_J0_38 ?_
  refine ob_if_eq (tgt := 13) d_J0_coder_7d493_3 rfl (fun cc => ?_) (fun cc => ?_)
  · have k := k.1 cc
    refine ob_iconst (v := 1) d_J0_coder_7d493_13 ci_1 ?_
    exact ob_zret d_J0_coder_7d493_14 rfl rfl ⟨_, rfl, k⟩
  · have k := k.2 cc
    refine ob_aload_n d_J0_coder_7d493_6 rfl ?_
    refine ob_strcod (i := 0) d_J0_coder_7d493_7 (by decide) sl_J0_15 ?_
    refine ob_goto (tgt := 14) d_J0_coder_7d493_10 rfl ?_
    exact ob_zret d_J0_coder_7d493_14 rfl rfl ⟨_, rfl, k⟩
theorem d_J0_isLatin1_aae02_0 : decode oJ0_isLatin1_aae02.2.1 0 = .ok (.getstatic 38, 3) := by decide +kernel
theorem d_J0_isLatin1_aae02_3 : decode oJ0_isLatin1_aae02.2.1 3 = .ok (.ifCond .eq 14, 3) := by decide +kernel
theorem d_J0_isLatin1_aae02_6 : decode oJ0_isLatin1_aae02.2.1 6 = .ok (.aload_n 0, 1) := by decide +kernel
theorem d_J0_isLatin1_aae02_7 : decode oJ0_isLatin1_aae02.2.1 7 = .ok (.getfield 15, 3) := by decide +kernel
theorem d_J0_isLatin1_aae02_10 : decode oJ0_isLatin1_aae02.2.1 10 = .ok (.ifCond .ne 7, 3) := by decide +kernel
theorem d_J0_isLatin1_aae02_13 : decode oJ0_isLatin1_aae02.2.1 13 = .ok (.iconst 1, 1) := by decide +kernel
theorem d_J0_isLatin1_aae02_14 : decode oJ0_isLatin1_aae02.2.1 14 = .ok (.goto 4, 3) := by decide +kernel
theorem d_J0_isLatin1_aae02_17 : decode oJ0_isLatin1_aae02.2.1 17 = .ok (.iconst 0, 1) := by decide +kernel
theorem d_J0_isLatin1_aae02_18 : decode oJ0_isLatin1_aae02.2.1 18 = .ok (.ireturn, 1) := by decide +kernel
theorem b_J0_isLatin1_aae02_110_0 {E : ob_E} {σ : ob_Mem} {Q : Int32 → ob_Mem → Prop} (k : (((1 : Int32) = 0 → Q (0 : Int32) σ) ∧ (¬ (1 : Int32) = 0 → ((¬ (0 : Int32) = 0 → Q (0 : Int32) σ) ∧ ((0 : Int32) = 0 → Q (1 : Int32) σ))))) : ob_RT shp E oJ0_isLatin1_aae02 0 [.ref 110] [] σ (ob_qI Q) := by
  refine ob_compact d_J0_isLatin1_aae02_0 sl_J0_38 ?_
  refine ob_if_eq (tgt := 17) d_J0_isLatin1_aae02_3 rfl (fun cc => ?_) (fun cc => ?_)
  · have k := k.1 cc
    refine ob_iconst (v := 0) d_J0_isLatin1_aae02_17 ci_0 ?_
    exact ob_zret d_J0_isLatin1_aae02_18 rfl rfl ⟨_, rfl, k⟩
  · have k := k.2 cc
    refine ob_aload_n d_J0_isLatin1_aae02_6 rfl ?_
    refine ob_strcod (i := 0) d_J0_isLatin1_aae02_7 (by decide) sl_J0_15 ?_
    refine ob_if_ne (tgt := 17) d_J0_isLatin1_aae02_10 rfl (fun cc => ?_) (fun cc => ?_)
    · have k := k.1 cc
      refine ob_iconst (v := 0) d_J0_isLatin1_aae02_17 ci_0 ?_
      exact ob_zret d_J0_isLatin1_aae02_18 rfl rfl ⟨_, rfl, k⟩
    · have k := k.2 cc
      refine ob_iconst (v := 1) d_J0_isLatin1_aae02_13 ci_1 ?_
      refine ob_goto (tgt := 18) d_J0_isLatin1_aae02_14 rfl ?_
      exact ob_zret d_J0_isLatin1_aae02_18 rfl rfl ⟨_, rfl, k⟩
theorem b_J0_coder_7d493_111_0 {E : ob_E} {σ : ob_Mem} {Q : Int32 → ob_Mem → Prop} (k : (((1 : Int32) = 0 → Q (1 : Int32) σ) ∧ (¬ (1 : Int32) = 0 → Q (0 : Int32) σ))) : ob_RT shp E oJ0_coder_7d493 0 [.ref 111] [] σ (ob_qI Q) := by
  refine ob_compact d_J0_coder_7d493_0 sl_J0_38 ?_
  refine ob_if_eq (tgt := 13) d_J0_coder_7d493_3 rfl (fun cc => ?_) (fun cc => ?_)
  · have k := k.1 cc
    refine ob_iconst (v := 1) d_J0_coder_7d493_13 ci_1 ?_
    exact ob_zret d_J0_coder_7d493_14 rfl rfl ⟨_, rfl, k⟩
  · have k := k.2 cc
    refine ob_aload_n d_J0_coder_7d493_6 rfl ?_
    refine ob_strcod (i := 1) d_J0_coder_7d493_7 (by decide) sl_J0_15 ?_
    refine ob_goto (tgt := 14) d_J0_coder_7d493_10 rfl ?_
    exact ob_zret d_J0_coder_7d493_14 rfl rfl ⟨_, rfl, k⟩
theorem b_J0_isLatin1_aae02_111_0 {E : ob_E} {σ : ob_Mem} {Q : Int32 → ob_Mem → Prop} (k : (((1 : Int32) = 0 → Q (0 : Int32) σ) ∧ (¬ (1 : Int32) = 0 → ((¬ (0 : Int32) = 0 → Q (0 : Int32) σ) ∧ ((0 : Int32) = 0 → Q (1 : Int32) σ))))) : ob_RT shp E oJ0_isLatin1_aae02 0 [.ref 111] [] σ (ob_qI Q) := by
  refine ob_compact d_J0_isLatin1_aae02_0 sl_J0_38 ?_
  refine ob_if_eq (tgt := 17) d_J0_isLatin1_aae02_3 rfl (fun cc => ?_) (fun cc => ?_)
  · have k := k.1 cc
    refine ob_iconst (v := 0) d_J0_isLatin1_aae02_17 ci_0 ?_
    exact ob_zret d_J0_isLatin1_aae02_18 rfl rfl ⟨_, rfl, k⟩
  · have k := k.2 cc
    refine ob_aload_n d_J0_isLatin1_aae02_6 rfl ?_
    refine ob_strcod (i := 1) d_J0_isLatin1_aae02_7 (by decide) sl_J0_15 ?_
    refine ob_if_ne (tgt := 17) d_J0_isLatin1_aae02_10 rfl (fun cc => ?_) (fun cc => ?_)
    · have k := k.1 cc
      refine ob_iconst (v := 0) d_J0_isLatin1_aae02_17 ci_0 ?_
      exact ob_zret d_J0_isLatin1_aae02_18 rfl rfl ⟨_, rfl, k⟩
    · have k := k.2 cc
      refine ob_iconst (v := 1) d_J0_isLatin1_aae02_13 ci_1 ?_
      refine ob_goto (tgt := 18) d_J0_isLatin1_aae02_14 rfl ?_
      exact ob_zret d_J0_isLatin1_aae02_18 rfl rfl ⟨_, rfl, k⟩
theorem b_J0_coder_7d493_112_0 {E : ob_E} {σ : ob_Mem} {Q : Int32 → ob_Mem → Prop} (k : (((1 : Int32) = 0 → Q (1 : Int32) σ) ∧ (¬ (1 : Int32) = 0 → Q (0 : Int32) σ))) : ob_RT shp E oJ0_coder_7d493 0 [.ref 112] [] σ (ob_qI Q) := by
  refine ob_compact d_J0_coder_7d493_0 sl_J0_38 ?_
  refine ob_if_eq (tgt := 13) d_J0_coder_7d493_3 rfl (fun cc => ?_) (fun cc => ?_)
  · have k := k.1 cc
    refine ob_iconst (v := 1) d_J0_coder_7d493_13 ci_1 ?_
    exact ob_zret d_J0_coder_7d493_14 rfl rfl ⟨_, rfl, k⟩
  · have k := k.2 cc
    refine ob_aload_n d_J0_coder_7d493_6 rfl ?_
    refine ob_strcod (i := 2) d_J0_coder_7d493_7 (by decide) sl_J0_15 ?_
    refine ob_goto (tgt := 14) d_J0_coder_7d493_10 rfl ?_
    exact ob_zret d_J0_coder_7d493_14 rfl rfl ⟨_, rfl, k⟩
theorem b_J0_isLatin1_aae02_112_0 {E : ob_E} {σ : ob_Mem} {Q : Int32 → ob_Mem → Prop} (k : (((1 : Int32) = 0 → Q (0 : Int32) σ) ∧ (¬ (1 : Int32) = 0 → ((¬ (0 : Int32) = 0 → Q (0 : Int32) σ) ∧ ((0 : Int32) = 0 → Q (1 : Int32) σ))))) : ob_RT shp E oJ0_isLatin1_aae02 0 [.ref 112] [] σ (ob_qI Q) := by
  refine ob_compact d_J0_isLatin1_aae02_0 sl_J0_38 ?_
  refine ob_if_eq (tgt := 17) d_J0_isLatin1_aae02_3 rfl (fun cc => ?_) (fun cc => ?_)
  · have k := k.1 cc
    refine ob_iconst (v := 0) d_J0_isLatin1_aae02_17 ci_0 ?_
    exact ob_zret d_J0_isLatin1_aae02_18 rfl rfl ⟨_, rfl, k⟩
  · have k := k.2 cc
    refine ob_aload_n d_J0_isLatin1_aae02_6 rfl ?_
    refine ob_strcod (i := 2) d_J0_isLatin1_aae02_7 (by decide) sl_J0_15 ?_
    refine ob_if_ne (tgt := 17) d_J0_isLatin1_aae02_10 rfl (fun cc => ?_) (fun cc => ?_)
    · have k := k.1 cc
      refine ob_iconst (v := 0) d_J0_isLatin1_aae02_17 ci_0 ?_
      exact ob_zret d_J0_isLatin1_aae02_18 rfl rfl ⟨_, rfl, k⟩
    · have k := k.2 cc
      refine ob_iconst (v := 1) d_J0_isLatin1_aae02_13 ci_1 ?_
      refine ob_goto (tgt := 18) d_J0_isLatin1_aae02_14 rfl ?_
      exact ob_zret d_J0_isLatin1_aae02_18 rfl rfl ⟨_, rfl, k⟩
theorem b_J0_coder_7d493_113_0 {E : ob_E} {σ : ob_Mem} {Q : Int32 → ob_Mem → Prop} (k : (((1 : Int32) = 0 → Q (1 : Int32) σ) ∧ (¬ (1 : Int32) = 0 → Q (0 : Int32) σ))) : ob_RT shp E oJ0_coder_7d493 0 [.ref 113] [] σ (ob_qI Q) := by
  refine ob_compact d_J0_coder_7d493_0 sl_J0_38 ?_
  refine ob_if_eq (tgt := 13) d_J0_coder_7d493_3 rfl (fun cc => ?_) (fun cc => ?_)
  · have k := k.1 cc
    refine ob_iconst (v := 1) d_J0_coder_7d493_13 ci_1 ?_
    exact ob_zret d_J0_coder_7d493_14 rfl rfl ⟨_, rfl, k⟩
  · have k := k.2 cc
    refine ob_aload_n d_J0_coder_7d493_6 rfl ?_
    refine ob_strcod (i := 3) d_J0_coder_7d493_7 (by decide) sl_J0_15 ?_
    refine ob_goto (tgt := 14) d_J0_coder_7d493_10 rfl ?_
    exact ob_zret d_J0_coder_7d493_14 rfl rfl ⟨_, rfl, k⟩
theorem b_J0_isLatin1_aae02_113_0 {E : ob_E} {σ : ob_Mem} {Q : Int32 → ob_Mem → Prop} (k : (((1 : Int32) = 0 → Q (0 : Int32) σ) ∧ (¬ (1 : Int32) = 0 → ((¬ (0 : Int32) = 0 → Q (0 : Int32) σ) ∧ ((0 : Int32) = 0 → Q (1 : Int32) σ))))) : ob_RT shp E oJ0_isLatin1_aae02 0 [.ref 113] [] σ (ob_qI Q) := by
  refine ob_compact d_J0_isLatin1_aae02_0 sl_J0_38 ?_
  refine ob_if_eq (tgt := 17) d_J0_isLatin1_aae02_3 rfl (fun cc => ?_) (fun cc => ?_)
  · have k := k.1 cc
    refine ob_iconst (v := 0) d_J0_isLatin1_aae02_17 ci_0 ?_
    exact ob_zret d_J0_isLatin1_aae02_18 rfl rfl ⟨_, rfl, k⟩
  · have k := k.2 cc
    refine ob_aload_n d_J0_isLatin1_aae02_6 rfl ?_
    refine ob_strcod (i := 3) d_J0_isLatin1_aae02_7 (by decide) sl_J0_15 ?_
    refine ob_if_ne (tgt := 17) d_J0_isLatin1_aae02_10 rfl (fun cc => ?_) (fun cc => ?_)
    · have k := k.1 cc
      refine ob_iconst (v := 0) d_J0_isLatin1_aae02_17 ci_0 ?_
      exact ob_zret d_J0_isLatin1_aae02_18 rfl rfl ⟨_, rfl, k⟩
    · have k := k.2 cc
      refine ob_iconst (v := 1) d_J0_isLatin1_aae02_13 ci_1 ?_
      refine ob_goto (tgt := 18) d_J0_isLatin1_aae02_14 rfl ?_
      exact ob_zret d_J0_isLatin1_aae02_18 rfl rfl ⟨_, rfl, k⟩
theorem d_J0_checkIndex_df160_0 : decode oJ0_checkIndex_df160.2.1 0 = .ok (.iload_n 0, 1) := by decide +kernel
theorem d_J0_checkIndex_df160_1 : decode oJ0_checkIndex_df160.2.1 1 = .ok (.iload_n 1, 1) := by decide +kernel
theorem d_J0_checkIndex_df160_2 : decode oJ0_checkIndex_df160.2.1 2 = .ok (.getstatic 1053, 3) := by decide +kernel
theorem d_J0_checkIndex_df160_5 : decode oJ0_checkIndex_df160.2.1 5 = .ok (.invokestatic 1059, 3) := by decide +kernel
theorem d_J0_checkIndex_df160_8 : decode oJ0_checkIndex_df160.2.1 8 = .ok (.pop, 1) := by decide +kernel
theorem d_J0_checkIndex_df160_9 : decode oJ0_checkIndex_df160.2.1 9 = .ok (.return_, 1) := by decide +kernel
theorem b_J0_checkIndex_df160_0 {E : ob_E} {σ : ob_Mem} {Q : ob_Mem → Prop} {x0 x1 : Int32} (k : ∀ w : Value, (w = .null ∨ w = .ref 130) → ob_RM shp E oJ3_checkIndex_8e157 [.int x0, .int x1, w] σ (ob_qI fun v2 σ1 => Q σ1)) : ob_RT shp E oJ0_checkIndex_df160 0 [.int x0, .int x1] [] σ (ob_qV Q) := by
  refine ob_iload_n d_J0_checkIndex_df160_0 rfl ?_
  refine ob_iload_n d_J0_checkIndex_df160_1 rfl ?_
  refine ob_sioobe d_J0_checkIndex_df160_2 sl_J0_1053 ?_ ?_
  · refine ob_callS [.int x0, .int x1, .null] (z := oJ3_checkIndex_8e157) (st := []) d_J0_checkIndex_df160_5 lk_J0_1059 ms_J3_checkIndex_8e157 rfl (Nat.le_of_ble_eq_true rfl) rfl (k _ (Or.inl rfl)) (ob_kI fun v2 σ1 k => ?_)
    refine ob_pop d_J0_checkIndex_df160_8 rfl ?_
    exact ob_vret d_J0_checkIndex_df160_9 rfl ⟨rfl, k⟩
  · refine ob_callS [.int x0, .int x1, .ref 130] (z := oJ3_checkIndex_8e157) (st := []) d_J0_checkIndex_df160_5 lk_J0_1059 ms_J3_checkIndex_8e157 rfl (Nat.le_of_ble_eq_true rfl) rfl (k _ (Or.inr rfl)) (ob_kI fun v2 σ1 k => ?_)
    refine ob_pop d_J0_checkIndex_df160_8 rfl ?_
    exact ob_vret d_J0_checkIndex_df160_9 rfl ⟨rfl, k⟩
