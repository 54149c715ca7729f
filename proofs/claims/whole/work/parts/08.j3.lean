/-! checkIndex with a formatter or null -/
theorem m_J3_any {E : ob_E} {σ : ob_Mem} {Q : Int32 → ob_Mem → Prop} {x0 x1 : Int32} {w : Value} (hw : w = .null ∨ w = .ref 130) (h0 : ¬ x0 < 0) (h1 : x0 < x1) (k : Q x0 σ) : ob_RM shp E oJ3_checkIndex_8e157 [.int x0, .int x1, w] σ (ob_qI Q) := by
  rcases hw with rfl | rfl
  · refine ob_entry 0 (ls := [.int x0, .int x1, .null]) rfl rfl (Nat.le_of_ble_eq_true rfl) ?_
    refine ob_iload_n d_J3_checkIndex_8e157_0 rfl ?_
    refine ob_if_lt (tgt := 9) d_J3_checkIndex_8e157_1 rfl (fun cc => absurd cc h0) (fun cc => ?_)
    refine ob_iload_n d_J3_checkIndex_8e157_4 rfl ?_
    refine ob_iload_n d_J3_checkIndex_8e157_5 rfl ?_
    refine ob_icmp_lt (tgt := 16) d_J3_checkIndex_8e157_6 rfl (fun cc => ?_) (fun cc => absurd h1 cc)
    refine ob_iload_n d_J3_checkIndex_8e157_16 rfl ?_
    exact ob_iret d_J3_checkIndex_8e157_17 rfl ⟨_, rfl, k⟩
  · exact m_J3_checkIndex_8e157 (b_J3_checkIndex_8e157_0 (br_f h0 (br_t h1 k)))
