/-! code of J9: the decode rows and a row for each piece between cut points (printed by wip/whole/mk.py) -/
theorem d_J9_min_7cf53_0 : decode oJ9_min_7cf53.2.1 0 = .ok (.iload_n 0, 1) := by decide +kernel
theorem d_J9_min_7cf53_1 : decode oJ9_min_7cf53.2.1 1 = .ok (.iload_n 1, 1) := by decide +kernel
theorem d_J9_min_7cf53_2 : decode oJ9_min_7cf53.2.1 2 = .ok (.if_icmp .gt 7, 3) := by decide +kernel
theorem d_J9_min_7cf53_5 : decode oJ9_min_7cf53.2.1 5 = .ok (.iload_n 0, 1) := by decide +kernel
theorem d_J9_min_7cf53_6 : decode oJ9_min_7cf53.2.1 6 = .ok (.goto 4, 3) := by decide +kernel
theorem d_J9_min_7cf53_9 : decode oJ9_min_7cf53.2.1 9 = .ok (.iload_n 1, 1) := by decide +kernel
theorem d_J9_min_7cf53_10 : decode oJ9_min_7cf53.2.1 10 = .ok (.ireturn, 1) := by decide +kernel
theorem b_J9_min_7cf53_0 {E : ob_E} {σ : ob_Mem} {Q : Int32 → ob_Mem → Prop} {x0 x1 : Int32} (k : ((x1 < x0 → Q x1 σ) ∧ (¬ x1 < x0 → Q x0 σ))) : ob_RT shp E oJ9_min_7cf53 0 [.int x0, .int x1] [] σ (ob_qI Q) := by
  refine ob_iload_n d_J9_min_7cf53_0 rfl ?_
  refine ob_iload_n d_J9_min_7cf53_1 rfl ?_
  refine ob_icmp_gt (tgt := 9) d_J9_min_7cf53_2 rfl (fun cc => ?_) (fun cc => ?_)
  · have k := k.1 cc
    refine ob_iload_n d_J9_min_7cf53_9 rfl ?_
    exact ob_iret d_J9_min_7cf53_10 rfl ⟨_, rfl, k⟩
  · have k := k.2 cc
    refine ob_iload_n d_J9_min_7cf53_5 rfl ?_
    refine ob_goto (tgt := 10) d_J9_min_7cf53_6 rfl ?_
    exact ob_iret d_J9_min_7cf53_10 rfl ⟨_, rfl, k⟩
theorem d_J9_max_7cf53_0 : decode oJ9_max_7cf53.2.1 0 = .ok (.iload_n 0, 1) := by decide +kernel
theorem d_J9_max_7cf53_1 : decode oJ9_max_7cf53.2.1 1 = .ok (.iload_n 1, 1) := by decide +kernel
theorem d_J9_max_7cf53_2 : decode oJ9_max_7cf53.2.1 2 = .ok (.if_icmp .lt 7, 3) := by decide +kernel
theorem d_J9_max_7cf53_5 : decode oJ9_max_7cf53.2.1 5 = .ok (.iload_n 0, 1) := by decide +kernel
theorem d_J9_max_7cf53_6 : decode oJ9_max_7cf53.2.1 6 = .ok (.goto 4, 3) := by decide +kernel
theorem d_J9_max_7cf53_9 : decode oJ9_max_7cf53.2.1 9 = .ok (.iload_n 1, 1) := by decide +kernel
theorem d_J9_max_7cf53_10 : decode oJ9_max_7cf53.2.1 10 = .ok (.ireturn, 1) := by decide +kernel
theorem b_J9_max_7cf53_0 {E : ob_E} {σ : ob_Mem} {Q : Int32 → ob_Mem → Prop} {x0 x1 : Int32} (k : ((x0 < x1 → Q x1 σ) ∧ (¬ x0 < x1 → Q x0 σ))) : ob_RT shp E oJ9_max_7cf53 0 [.int x0, .int x1] [] σ (ob_qI Q) := by
  refine ob_iload_n d_J9_max_7cf53_0 rfl ?_
  refine ob_iload_n d_J9_max_7cf53_1 rfl ?_
  refine ob_icmp_lt (tgt := 9) d_J9_max_7cf53_2 rfl (fun cc => ?_) (fun cc => ?_)
  · have k := k.1 cc
    refine ob_iload_n d_J9_max_7cf53_9 rfl ?_
    exact ob_iret d_J9_max_7cf53_10 rfl ⟨_, rfl, k⟩
  · have k := k.2 cc
    refine ob_iload_n d_J9_max_7cf53_5 rfl ?_
    refine ob_goto (tgt := 10) d_J9_max_7cf53_6 rfl ?_
    exact ob_iret d_J9_max_7cf53_10 rfl ⟨_, rfl, k⟩
theorem d_J9_min_f86c9_0 : decode oJ9_min_f86c9.2.1 0 = .ok (.lload_n 0, 1) := by decide +kernel
theorem d_J9_min_f86c9_1 : decode oJ9_min_f86c9.2.1 1 = .ok (.lload_n 2, 1) := by decide +kernel
theorem d_J9_min_f86c9_2 : decode oJ9_min_f86c9.2.1 2 = .ok (.lcmp, 1) := by decide +kernel
theorem d_J9_min_f86c9_3 : decode oJ9_min_f86c9.2.1 3 = .ok (.ifCond .gt 7, 3) := by decide +kernel
theorem d_J9_min_f86c9_6 : decode oJ9_min_f86c9.2.1 6 = .ok (.lload_n 0, 1) := by decide +kernel
theorem d_J9_min_f86c9_7 : decode oJ9_min_f86c9.2.1 7 = .ok (.goto 4, 3) := by decide +kernel
theorem d_J9_min_f86c9_10 : decode oJ9_min_f86c9.2.1 10 = .ok (.lload_n 2, 1) := by decide +kernel
theorem d_J9_min_f86c9_11 : decode oJ9_min_f86c9.2.1 11 = .ok (.lreturn, 1) := by decide +kernel
theorem b_J9_min_f86c9_0 {E : ob_E} {σ : ob_Mem} {Q : Int64 → ob_Mem → Prop} {x0 x2 : Int64} (k : ((x2 < x0 → Q x2 σ) ∧ (¬ x2 < x0 → Q x0 σ))) : ob_RT shp E oJ9_min_f86c9 0 [.long x0, .null, .long x2, .null] [] σ (ob_qL Q) := by
  refine ob_lload_n d_J9_min_f86c9_0 rfl ?_
  refine ob_lload_n d_J9_min_f86c9_1 rfl ?_
  refine ob_lcmp d_J9_min_f86c9_2 ?_
  refine ob_if_gt (tgt := 10) d_J9_min_f86c9_3 rfl (fun cc => ?_) (fun cc => ?_)
  · have k := k.1 (ob_c_gt.mp cc)
    refine ob_lload_n d_J9_min_f86c9_10 rfl ?_
    exact ob_lret d_J9_min_f86c9_11 rfl ⟨_, rfl, k⟩
  · have k := k.2 (mt ob_c_gt.mpr cc)
    refine ob_lload_n d_J9_min_f86c9_6 rfl ?_
    refine ob_goto (tgt := 11) d_J9_min_f86c9_7 rfl ?_
    exact ob_lret d_J9_min_f86c9_11 rfl ⟨_, rfl, k⟩
