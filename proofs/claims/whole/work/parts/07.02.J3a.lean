/-! code of J3: the decode rows and a row for each piece between cut points (printed by wip/whole/mk.py) -/
theorem d_J3_checkIndex_8e157_0 : decode oJ3_checkIndex_8e157.2.1 0 = .ok (.iload_n 0, 1) := by decide +kernel
theorem d_J3_checkIndex_8e157_1 : decode oJ3_checkIndex_8e157.2.1 1 = .ok (.ifCond .lt 8, 3) := by decide +kernel
theorem d_J3_checkIndex_8e157_4 : decode oJ3_checkIndex_8e157.2.1 4 = .ok (.iload_n 0, 1) := by decide +kernel
theorem d_J3_checkIndex_8e157_5 : decode oJ3_checkIndex_8e157.2.1 5 = .ok (.iload_n 1, 1) := by decide +kernel
theorem d_J3_checkIndex_8e157_6 : decode oJ3_checkIndex_8e157.2.1 6 = .ok (.if_icmp .lt 10, 3) := by decide +kernel
theorem d_J3_checkIndex_8e157_9 : decode oJ3_checkIndex_8e157.2.1 9 = .ok (.aload_n 2, 1) := by decide +kernel
theorem d_J3_checkIndex_8e157_10 : decode oJ3_checkIndex_8e157.2.1 10 = .ok (.iload_n 0, 1) := by decide +kernel
theorem d_J3_checkIndex_8e157_11 : decode oJ3_checkIndex_8e157.2.1 11 = .ok (.iload_n 1, 1) := by decide +kernel
theorem d_J3_checkIndex_8e157_12 : decode oJ3_checkIndex_8e157.2.1 12 = .ok (.invokestatic 95, 3) := by decide +kernel
theorem d_J3_checkIndex_8e157_16 : decode oJ3_checkIndex_8e157.2.1 16 = .ok (.iload_n 0, 1) := by decide +kernel
theorem d_J3_checkIndex_8e157_17 : decode oJ3_checkIndex_8e157.2.1 17 = .ok (.ireturn, 1) := by decide +kernel
theorem b_J3_checkIndex_8e157_0 {E : ob_E} {σ : ob_Mem} {Q : Int32 → ob_Mem → Prop} {x0 x1 : Int32} (k : ((x0 < 0 → False) ∧ (¬ x0 < 0 → ((x0 < x1 → Q x0 σ) ∧ (¬ x0 < x1 → False))))) : ob_RT shp E oJ3_checkIndex_8e157 0 [.int x0, .int x1, .ref 130] [] σ (ob_qI Q) := by
  refine ob_iload_n d_J3_checkIndex_8e157_0 rfl ?_
  refine ob_if_lt (tgt := 9) d_J3_checkIndex_8e157_1 rfl (fun cc => ?_) (fun cc => ?_)
  · have k := k.1 cc
    refine ob_aload_n d_J3_checkIndex_8e157_9 rfl ?_
    refine ob_iload_n d_J3_checkIndex_8e157_10 rfl ?_
    refine ob_iload_n d_J3_checkIndex_8e157_11 rfl ?_
    exact k.elim
  · have k := k.2 cc
    refine ob_iload_n d_J3_checkIndex_8e157_4 rfl ?_
    refine ob_iload_n d_J3_checkIndex_8e157_5 rfl ?_
    refine ob_icmp_lt (tgt := 16) d_J3_checkIndex_8e157_6 rfl (fun cc => ?_) (fun cc => ?_)
    · have k := k.1 cc
      refine ob_iload_n d_J3_checkIndex_8e157_16 rfl ?_
      exact ob_iret d_J3_checkIndex_8e157_17 rfl ⟨_, rfl, k⟩
    · have k := k.2 cc
      refine ob_aload_n d_J3_checkIndex_8e157_9 rfl ?_
      refine ob_iload_n d_J3_checkIndex_8e157_10 rfl ?_
      refine ob_iload_n d_J3_checkIndex_8e157_11 rfl ?_
      exact k.elim
