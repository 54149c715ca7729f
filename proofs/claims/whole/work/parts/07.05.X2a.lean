/-! code of X2: the decode rows and a row for each piece between cut points (printed by wip/whole/mk.py) -/
theorem d_X2_becomeLike_0 : decode oX2_becomeLike.2.1 0 = .ok (.aload_n 0, 1) := by decide +kernel
theorem d_X2_becomeLike_1 : decode oX2_becomeLike.2.1 1 = .ok (.aload_n 1, 1) := by decide +kernel
theorem d_X2_becomeLike_2 : decode oX2_becomeLike.2.1 2 = .ok (.getfield 33, 3) := by decide +kernel
theorem d_X2_becomeLike_5 : decode oX2_becomeLike.2.1 5 = .ok (.putfield 33, 3) := by decide +kernel
theorem d_X2_becomeLike_8 : decode oX2_becomeLike.2.1 8 = .ok (.aload_n 0, 1) := by decide +kernel
theorem d_X2_becomeLike_9 : decode oX2_becomeLike.2.1 9 = .ok (.aload_n 1, 1) := by decide +kernel
theorem d_X2_becomeLike_10 : decode oX2_becomeLike.2.1 10 = .ok (.getfield 37, 3) := by decide +kernel
theorem d_X2_becomeLike_13 : decode oX2_becomeLike.2.1 13 = .ok (.putfield 37, 3) := by decide +kernel
theorem d_X2_becomeLike_16 : decode oX2_becomeLike.2.1 16 = .ok (.aload_n 0, 1) := by decide +kernel
theorem d_X2_becomeLike_17 : decode oX2_becomeLike.2.1 17 = .ok (.aload_n 1, 1) := by decide +kernel
theorem d_X2_becomeLike_18 : decode oX2_becomeLike.2.1 18 = .ok (.getfield 40, 3) := by decide +kernel
theorem d_X2_becomeLike_21 : decode oX2_becomeLike.2.1 21 = .ok (.putfield 40, 3) := by decide +kernel
theorem d_X2_becomeLike_24 : decode oX2_becomeLike.2.1 24 = .ok (.aload_n 0, 1) := by decide +kernel
theorem d_X2_becomeLike_25 : decode oX2_becomeLike.2.1 25 = .ok (.aload_n 1, 1) := by decide +kernel
theorem d_X2_becomeLike_26 : decode oX2_becomeLike.2.1 26 = .ok (.getfield 43, 3) := by decide +kernel
theorem d_X2_becomeLike_29 : decode oX2_becomeLike.2.1 29 = .ok (.putfield 43, 3) := by decide +kernel
theorem d_X2_becomeLike_32 : decode oX2_becomeLike.2.1 32 = .ok (.aload_n 1, 1) := by decide +kernel
theorem d_X2_becomeLike_33 : decode oX2_becomeLike.2.1 33 = .ok (.getfield 9, 3) := by decide +kernel
theorem d_X2_becomeLike_36 : decode oX2_becomeLike.2.1 36 = .ok (.iconst 0, 1) := by decide +kernel
theorem d_X2_becomeLike_37 : decode oX2_becomeLike.2.1 37 = .ok (.aload_n 0, 1) := by decide +kernel
theorem d_X2_becomeLike_38 : decode oX2_becomeLike.2.1 38 = .ok (.getfield 9, 3) := by decide +kernel
theorem d_X2_becomeLike_41 : decode oX2_becomeLike.2.1 41 = .ok (.iconst 0, 1) := by decide +kernel
theorem d_X2_becomeLike_42 : decode oX2_becomeLike.2.1 42 = .ok (.bipush 6, 2) := by decide +kernel
theorem d_X2_becomeLike_44 : decode oX2_becomeLike.2.1 44 = .ok (.invokestatic 52, 3) := by decide +kernel
theorem d_X2_becomeLike_47 : decode oX2_becomeLike.2.1 47 = .ok (.aload_n 1, 1) := by decide +kernel
theorem d_X2_becomeLike_48 : decode oX2_becomeLike.2.1 48 = .ok (.getfield 15, 3) := by decide +kernel
theorem d_X2_becomeLike_51 : decode oX2_becomeLike.2.1 51 = .ok (.iconst 0, 1) := by decide +kernel
theorem d_X2_becomeLike_52 : decode oX2_becomeLike.2.1 52 = .ok (.aload_n 0, 1) := by decide +kernel
theorem d_X2_becomeLike_53 : decode oX2_becomeLike.2.1 53 = .ok (.getfield 15, 3) := by decide +kernel
theorem d_X2_becomeLike_56 : decode oX2_becomeLike.2.1 56 = .ok (.iconst 0, 1) := by decide +kernel
theorem d_X2_becomeLike_57 : decode oX2_becomeLike.2.1 57 = .ok (.bipush 6, 2) := by decide +kernel
theorem d_X2_becomeLike_59 : decode oX2_becomeLike.2.1 59 = .ok (.invokestatic 52, 3) := by decide +kernel
theorem d_X2_becomeLike_62 : decode oX2_becomeLike.2.1 62 = .ok (.aload_n 1, 1) := by decide +kernel
theorem d_X2_becomeLike_63 : decode oX2_becomeLike.2.1 63 = .ok (.getfield 18, 3) := by decide +kernel
theorem d_X2_becomeLike_66 : decode oX2_becomeLike.2.1 66 = .ok (.iconst 0, 1) := by decide +kernel
theorem d_X2_becomeLike_67 : decode oX2_becomeLike.2.1 67 = .ok (.aload_n 0, 1) := by decide +kernel
theorem d_X2_becomeLike_68 : decode oX2_becomeLike.2.1 68 = .ok (.getfield 18, 3) := by decide +kernel
theorem d_X2_becomeLike_71 : decode oX2_becomeLike.2.1 71 = .ok (.iconst 0, 1) := by decide +kernel
theorem d_X2_becomeLike_72 : decode oX2_becomeLike.2.1 72 = .ok (.bipush 8, 2) := by decide +kernel
theorem d_X2_becomeLike_74 : decode oX2_becomeLike.2.1 74 = .ok (.invokestatic 52, 3) := by decide +kernel
theorem d_X2_becomeLike_77 : decode oX2_becomeLike.2.1 77 = .ok (.aload_n 1, 1) := by decide +kernel
theorem d_X2_becomeLike_78 : decode oX2_becomeLike.2.1 78 = .ok (.getfield 21, 3) := by decide +kernel
theorem d_X2_becomeLike_81 : decode oX2_becomeLike.2.1 81 = .ok (.iconst 0, 1) := by decide +kernel
theorem d_X2_becomeLike_82 : decode oX2_becomeLike.2.1 82 = .ok (.aload_n 0, 1) := by decide +kernel
theorem d_X2_becomeLike_83 : decode oX2_becomeLike.2.1 83 = .ok (.getfield 21, 3) := by decide +kernel
theorem d_X2_becomeLike_86 : decode oX2_becomeLike.2.1 86 = .ok (.iconst 0, 1) := by decide +kernel
theorem d_X2_becomeLike_87 : decode oX2_becomeLike.2.1 87 = .ok (.bipush 8, 2) := by decide +kernel
theorem d_X2_becomeLike_89 : decode oX2_becomeLike.2.1 89 = .ok (.invokestatic 52, 3) := by decide +kernel
theorem d_X2_becomeLike_92 : decode oX2_becomeLike.2.1 92 = .ok (.aload_n 1, 1) := by decide +kernel
theorem d_X2_becomeLike_93 : decode oX2_becomeLike.2.1 93 = .ok (.getfield 24, 3) := by decide +kernel
theorem d_X2_becomeLike_96 : decode oX2_becomeLike.2.1 96 = .ok (.iconst 0, 1) := by decide +kernel
theorem d_X2_becomeLike_97 : decode oX2_becomeLike.2.1 97 = .ok (.aload_n 0, 1) := by decide +kernel
theorem d_X2_becomeLike_98 : decode oX2_becomeLike.2.1 98 = .ok (.getfield 24, 3) := by decide +kernel
theorem d_X2_becomeLike_101 : decode oX2_becomeLike.2.1 101 = .ok (.iconst 0, 1) := by decide +kernel
theorem d_X2_becomeLike_102 : decode oX2_becomeLike.2.1 102 = .ok (.bipush 8, 2) := by decide +kernel
theorem d_X2_becomeLike_104 : decode oX2_becomeLike.2.1 104 = .ok (.invokestatic 52, 3) := by decide +kernel
theorem d_X2_becomeLike_107 : decode oX2_becomeLike.2.1 107 = .ok (.aload_n 1, 1) := by decide +kernel
theorem d_X2_becomeLike_108 : decode oX2_becomeLike.2.1 108 = .ok (.getfield 27, 3) := by decide +kernel
theorem d_X2_becomeLike_111 : decode oX2_becomeLike.2.1 111 = .ok (.iconst 0, 1) := by decide +kernel
theorem d_X2_becomeLike_112 : decode oX2_becomeLike.2.1 112 = .ok (.aload_n 0, 1) := by decide +kernel
theorem d_X2_becomeLike_113 : decode oX2_becomeLike.2.1 113 = .ok (.getfield 27, 3) := by decide +kernel
theorem d_X2_becomeLike_116 : decode oX2_becomeLike.2.1 116 = .ok (.iconst 0, 1) := by decide +kernel
theorem d_X2_becomeLike_117 : decode oX2_becomeLike.2.1 117 = .ok (.bipush 121, 2) := by decide +kernel
theorem d_X2_becomeLike_119 : decode oX2_becomeLike.2.1 119 = .ok (.invokestatic 52, 3) := by decide +kernel
theorem d_X2_becomeLike_122 : decode oX2_becomeLike.2.1 122 = .ok (.return_, 1) := by decide +kernel
theorem b_X2_becomeLike_0 {E : ob_E} {σ : ob_Mem} {Q : ob_Mem → Prop} (k : (∀ σ1, σ1 = (ob_wI (ob_wI (ob_wI σ 10 6 (σ.1 3 6)) 10 7 ((ob_wI σ 10 6 (σ.1 3 6)).1 3 7)) 10 8 ((ob_wI (ob_wI σ 10 6 (σ.1 3 6)) 10 7 ((ob_wI σ 10 6 (σ.1 3 6)).1 3 7)).1 3 8)) → (∀ σ2, σ2 = (ob_cp (ob_cp (ob_cp (ob_wI σ1 10 9 (σ1.1 3 9)) 4 11 6) 5 12 6) 6 13 8) → Q (ob_cp (ob_cp (ob_cp σ2 7 14 8) 8 15 8) 9 16 121)))) : ob_RT shp E oX2_becomeLike 0 [.ref 10, .ref 3] [] σ (ob_qV Q) := by
  refine ob_aload_n d_X2_becomeLike_0 rfl ?_
  refine ob_aload_n d_X2_becomeLike_1 rfl ?_
  refine ob_getI d_X2_becomeLike_2 fl_X2_33 sh_3 rfl (by decide) ?_
  refine ob_putI d_X2_becomeLike_5 fp_X2_33 sh_10 rfl rfl ?_
  refine ob_aload_n d_X2_becomeLike_8 rfl ?_
  refine ob_aload_n d_X2_becomeLike_9 rfl ?_
  refine ob_getI d_X2_becomeLike_10 fl_X2_37 sh_3 rfl (by decide) ?_
  refine ob_putI d_X2_becomeLike_13 fp_X2_37 sh_10 rfl rfl ?_
  refine ob_aload_n d_X2_becomeLike_16 rfl ?_
  refine ob_aload_n d_X2_becomeLike_17 rfl ?_
  refine ob_getI d_X2_becomeLike_18 fl_X2_40 sh_3 rfl (by decide) ?_
  refine ob_putI d_X2_becomeLike_21 fp_X2_40 sh_10 rfl rfl ?_
  refine ob_nmM (fun σ1 hσ1 => ?_)
  have k := k σ1 hσ1
  refine ob_aload_n d_X2_becomeLike_24 rfl ?_
  refine ob_aload_n d_X2_becomeLike_25 rfl ?_
  refine ob_getI d_X2_becomeLike_26 fl_X2_43 sh_3 rfl (by decide) ?_
  refine ob_putI d_X2_becomeLike_29 fp_X2_43 sh_10 rfl rfl ?_
  refine ob_aload_n d_X2_becomeLike_32 rfl ?_
  refine ob_getR d_X2_becomeLike_33 fl_X2_9 sh_3 rfl rfl ?_
  refine ob_iconst (v := 0) d_X2_becomeLike_36 ci_0 ?_
  refine ob_aload_n d_X2_becomeLike_37 rfl ?_
  refine ob_getR d_X2_becomeLike_38 fl_X2_9 sh_10 rfl rfl ?_
  refine ob_iconst (v := 0) d_X2_becomeLike_41 ci_0 ?_
  refine ob_bipush (v := 6) d_X2_becomeLike_42 cb_6 ?_
  refine ob_copy0 (N := 6) d_X2_becomeLike_44 lk_X2_52 ac_native ac_static ac_init sh_4 sh_11 (by decide) (by decide) (by decide) (by decide) (Nat.le_of_ble_eq_true rfl) (by decide +kernel) ?_
  refine ob_aload_n d_X2_becomeLike_47 rfl ?_
  refine ob_getR d_X2_becomeLike_48 fl_X2_15 sh_3 rfl rfl ?_
  refine ob_iconst (v := 0) d_X2_becomeLike_51 ci_0 ?_
  refine ob_aload_n d_X2_becomeLike_52 rfl ?_
  refine ob_getR d_X2_becomeLike_53 fl_X2_15 sh_10 rfl rfl ?_
  refine ob_iconst (v := 0) d_X2_becomeLike_56 ci_0 ?_
  refine ob_bipush (v := 6) d_X2_becomeLike_57 cb_6 ?_
  refine ob_copy0 (N := 6) d_X2_becomeLike_59 lk_X2_52 ac_native ac_static ac_init sh_5 sh_12 (by decide) (by decide) (by decide) (by decide) (Nat.le_of_ble_eq_true rfl) (by decide +kernel) ?_
  refine ob_aload_n d_X2_becomeLike_62 rfl ?_
  refine ob_getR d_X2_becomeLike_63 fl_X2_18 sh_3 rfl rfl ?_
  refine ob_iconst (v := 0) d_X2_becomeLike_66 ci_0 ?_
  refine ob_aload_n d_X2_becomeLike_67 rfl ?_
  refine ob_getR d_X2_becomeLike_68 fl_X2_18 sh_10 rfl rfl ?_
  refine ob_iconst (v := 0) d_X2_becomeLike_71 ci_0 ?_
  refine ob_bipush (v := 8) d_X2_becomeLike_72 cb_8 ?_
  refine ob_copy0 (N := 8) d_X2_becomeLike_74 lk_X2_52 ac_native ac_static ac_init sh_6 sh_13 (by decide) (by decide) (by decide) (by decide) (Nat.le_of_ble_eq_true rfl) (by decide +kernel) ?_
  refine ob_nmM (fun σ2 hσ2 => ?_)
  have k := k σ2 hσ2
  refine ob_aload_n d_X2_becomeLike_77 rfl ?_
  refine ob_getR d_X2_becomeLike_78 fl_X2_21 sh_3 rfl rfl ?_
  refine ob_iconst (v := 0) d_X2_becomeLike_81 ci_0 ?_
  refine ob_aload_n d_X2_becomeLike_82 rfl ?_
  refine ob_getR d_X2_becomeLike_83 fl_X2_21 sh_10 rfl rfl ?_
  refine ob_iconst (v := 0) d_X2_becomeLike_86 ci_0 ?_
  refine ob_bipush (v := 8) d_X2_becomeLike_87 cb_8 ?_
  refine ob_copy0 (N := 8) d_X2_becomeLike_89 lk_X2_52 ac_native ac_static ac_init sh_7 sh_14 (by decide) (by decide) (by decide) (by decide) (Nat.le_of_ble_eq_true rfl) (by decide +kernel) ?_
  refine ob_aload_n d_X2_becomeLike_92 rfl ?_
  refine ob_getR d_X2_becomeLike_93 fl_X2_24 sh_3 rfl rfl ?_
  refine ob_iconst (v := 0) d_X2_becomeLike_96 ci_0 ?_
  refine ob_aload_n d_X2_becomeLike_97 rfl ?_
  refine ob_getR d_X2_becomeLike_98 fl_X2_24 sh_10 rfl rfl ?_
  refine ob_iconst (v := 0) d_X2_becomeLike_101 ci_0 ?_
  refine ob_bipush (v := 8) d_X2_becomeLike_102 cb_8 ?_
  refine ob_copy0 (N := 8) d_X2_becomeLike_104 lk_X2_52 ac_native ac_static ac_init sh_8 sh_15 (by decide) (by decide) (by decide) (by decide) (Nat.le_of_ble_eq_true rfl) (by decide +kernel) ?_
  refine ob_aload_n d_X2_becomeLike_107 rfl ?_
  refine ob_getR d_X2_becomeLike_108 fl_X2_27 sh_3 rfl rfl ?_
  refine ob_iconst (v := 0) d_X2_becomeLike_111 ci_0 ?_
  refine ob_aload_n d_X2_becomeLike_112 rfl ?_
  refine ob_getR d_X2_becomeLike_113 fl_X2_27 sh_10 rfl rfl ?_
  refine ob_iconst (v := 0) d_X2_becomeLike_116 ci_0 ?_
  refine ob_bipush (v := 121) d_X2_becomeLike_117 cb_121 ?_
  refine ob_copy0 (N := 121) d_X2_becomeLike_119 lk_X2_52 ac_native ac_static ac_init sh_9 sh_16 (by decide) (by decide) (by decide) (by decide) (Nat.le_of_ble_eq_true rfl) (by decide +kernel) ?_
  exact ob_vret d_X2_becomeLike_122 rfl ⟨rfl, k⟩
theorem d_X2_hasPerson_0 : decode oX2_hasPerson.2.1 0 = .ok (.iload_n 1, 1) := by decide +kernel
theorem d_X2_hasPerson_1 : decode oX2_hasPerson.2.1 1 = .ok (.ifCond .lt 15, 3) := by decide +kernel
theorem d_X2_hasPerson_4 : decode oX2_hasPerson.2.1 4 = .ok (.iload_n 1, 1) := by decide +kernel
theorem d_X2_hasPerson_5 : decode oX2_hasPerson.2.1 5 = .ok (.aload_n 0, 1) := by decide +kernel
theorem d_X2_hasPerson_6 : decode oX2_hasPerson.2.1 6 = .ok (.getfield 37, 3) := by decide +kernel
theorem d_X2_hasPerson_9 : decode oX2_hasPerson.2.1 9 = .ok (.if_icmp .ge 7, 3) := by decide +kernel
theorem d_X2_hasPerson_12 : decode oX2_hasPerson.2.1 12 = .ok (.iconst 1, 1) := by decide +kernel
theorem d_X2_hasPerson_13 : decode oX2_hasPerson.2.1 13 = .ok (.goto 4, 3) := by decide +kernel
theorem d_X2_hasPerson_16 : decode oX2_hasPerson.2.1 16 = .ok (.iconst 0, 1) := by decide +kernel
theorem d_X2_hasPerson_17 : decode oX2_hasPerson.2.1 17 = .ok (.ireturn, 1) := by decide +kernel
theorem b_X2_hasPerson_0 {E : ob_E} {σ : ob_Mem} {Q : Int32 → ob_Mem → Prop} {x1 : Int32} (k : ((x1 < 0 → Q (0 : Int32) σ) ∧ (¬ x1 < 0 → (((σ.1 10 7) ≤ x1 → Q (0 : Int32) σ) ∧ (¬ (σ.1 10 7) ≤ x1 → Q (1 : Int32) σ))))) : ob_RT shp E oX2_hasPerson 0 [.ref 10, .int x1] [] σ (ob_qI Q) := by
  refine ob_iload_n d_X2_hasPerson_0 rfl ?_
  refine ob_if_lt (tgt := 16) d_X2_hasPerson_1 rfl (fun cc => ?_) (fun cc => ?_)
  · have k := k.1 cc
    refine ob_iconst (v := 0) d_X2_hasPerson_16 ci_0 ?_
    exact ob_zret d_X2_hasPerson_17 rfl rfl ⟨_, rfl, k⟩
  · have k := k.2 cc
    refine ob_iload_n d_X2_hasPerson_4 rfl ?_
    refine ob_aload_n d_X2_hasPerson_5 rfl ?_
    refine ob_getI d_X2_hasPerson_6 fl_X2_37 sh_10 rfl (by decide) ?_
    refine ob_icmp_ge (tgt := 16) d_X2_hasPerson_9 rfl (fun cc => ?_) (fun cc => ?_)
    · have k := k.1 cc
      refine ob_iconst (v := 0) d_X2_hasPerson_16 ci_0 ?_
      exact ob_zret d_X2_hasPerson_17 rfl rfl ⟨_, rfl, k⟩
    · have k := k.2 cc
      refine ob_iconst (v := 1) d_X2_hasPerson_12 ci_1 ?_
      refine ob_goto (tgt := 17) d_X2_hasPerson_13 rfl ?_
      exact ob_zret d_X2_hasPerson_17 rfl rfl ⟨_, rfl, k⟩
theorem d_X2_hasBirthday_0 : decode oX2_hasBirthday.2.1 0 = .ok (.iload_n 1, 1) := by decide +kernel
theorem d_X2_hasBirthday_1 : decode oX2_hasBirthday.2.1 1 = .ok (.ifCond .lt 15, 3) := by decide +kernel
theorem d_X2_hasBirthday_4 : decode oX2_hasBirthday.2.1 4 = .ok (.iload_n 1, 1) := by decide +kernel
theorem d_X2_hasBirthday_5 : decode oX2_hasBirthday.2.1 5 = .ok (.aload_n 0, 1) := by decide +kernel
theorem d_X2_hasBirthday_6 : decode oX2_hasBirthday.2.1 6 = .ok (.getfield 40, 3) := by decide +kernel
theorem d_X2_hasBirthday_9 : decode oX2_hasBirthday.2.1 9 = .ok (.if_icmp .ge 7, 3) := by decide +kernel
theorem d_X2_hasBirthday_12 : decode oX2_hasBirthday.2.1 12 = .ok (.iconst 1, 1) := by decide +kernel
theorem d_X2_hasBirthday_13 : decode oX2_hasBirthday.2.1 13 = .ok (.goto 4, 3) := by decide +kernel
theorem d_X2_hasBirthday_16 : decode oX2_hasBirthday.2.1 16 = .ok (.iconst 0, 1) := by decide +kernel
theorem d_X2_hasBirthday_17 : decode oX2_hasBirthday.2.1 17 = .ok (.ireturn, 1) := by decide +kernel
theorem b_X2_hasBirthday_0 {E : ob_E} {σ : ob_Mem} {Q : Int32 → ob_Mem → Prop} {x1 : Int32} (k : ((x1 < 0 → Q (0 : Int32) σ) ∧ (¬ x1 < 0 → (((σ.1 10 8) ≤ x1 → Q (0 : Int32) σ) ∧ (¬ (σ.1 10 8) ≤ x1 → Q (1 : Int32) σ))))) : ob_RT shp E oX2_hasBirthday 0 [.ref 10, .int x1] [] σ (ob_qI Q) := by
  refine ob_iload_n d_X2_hasBirthday_0 rfl ?_
  refine ob_if_lt (tgt := 16) d_X2_hasBirthday_1 rfl (fun cc => ?_) (fun cc => ?_)
  · have k := k.1 cc
    refine ob_iconst (v := 0) d_X2_hasBirthday_16 ci_0 ?_
    exact ob_zret d_X2_hasBirthday_17 rfl rfl ⟨_, rfl, k⟩
  · have k := k.2 cc
    refine ob_iload_n d_X2_hasBirthday_4 rfl ?_
    refine ob_aload_n d_X2_hasBirthday_5 rfl ?_
    refine ob_getI d_X2_hasBirthday_6 fl_X2_40 sh_10 rfl (by decide) ?_
    refine ob_icmp_ge (tgt := 16) d_X2_hasBirthday_9 rfl (fun cc => ?_) (fun cc => ?_)
    · have k := k.1 cc
      refine ob_iconst (v := 0) d_X2_hasBirthday_16 ci_0 ?_
      exact ob_zret d_X2_hasBirthday_17 rfl rfl ⟨_, rfl, k⟩
    · have k := k.2 cc
      refine ob_iconst (v := 1) d_X2_hasBirthday_12 ci_1 ?_
      refine ob_goto (tgt := 17) d_X2_hasBirthday_13 rfl ?_
      exact ob_zret d_X2_hasBirthday_17 rfl rfl ⟨_, rfl, k⟩
theorem d_X2_goodOf_0 : decode oX2_goodOf.2.1 0 = .ok (.aload_n 0, 1) := by decide +kernel
theorem d_X2_goodOf_1 : decode oX2_goodOf.2.1 1 = .ok (.iload_n 1, 1) := by decide +kernel
theorem d_X2_goodOf_2 : decode oX2_goodOf.2.1 2 = .ok (.invokevirtual 58, 3) := by decide +kernel
theorem d_X2_goodOf_5 : decode oX2_goodOf.2.1 5 = .ok (.ifCond .eq 12, 3) := by decide +kernel
theorem d_X2_goodOf_8 : decode oX2_goodOf.2.1 8 = .ok (.aload_n 0, 1) := by decide +kernel
theorem d_X2_goodOf_9 : decode oX2_goodOf.2.1 9 = .ok (.getfield 27, 3) := by decide +kernel
theorem d_X2_goodOf_12 : decode oX2_goodOf.2.1 12 = .ok (.iload_n 1, 1) := by decide +kernel
theorem d_X2_goodOf_13 : decode oX2_goodOf.2.1 13 = .ok (.iaload, 1) := by decide +kernel
theorem d_X2_goodOf_14 : decode oX2_goodOf.2.1 14 = .ok (.goto 4, 3) := by decide +kernel
theorem d_X2_goodOf_17 : decode oX2_goodOf.2.1 17 = .ok (.iconst 0, 1) := by decide +kernel
theorem d_X2_goodOf_18 : decode oX2_goodOf.2.1 18 = .ok (.ireturn, 1) := by decide +kernel
theorem b_X2_goodOf_0 {E : ob_E} {σ : ob_Mem} {Q : Int32 → ob_Mem → Prop} {x1 : Int32} (k : ob_RM shp E oX2_tellsGoodOf [.ref 10, .int x1] σ (ob_qI fun v2 σ1 => ((v2 = 0 → Q (0 : Int32) σ1) ∧ (¬ v2 = 0 → (vp_in x1 121 ∧ Q (σ1.1 16 (x1).toNatClampNeg) σ1))))) : ob_RT shp E oX2_goodOf 0 [.ref 10, .int x1] [] σ (ob_qI Q) := by
  refine ob_aload_n d_X2_goodOf_0 rfl ?_
  refine ob_iload_n d_X2_goodOf_1 rfl ?_
  refine ob_callV [.int x1] (z := oX2_tellsGoodOf) (st := []) d_X2_goodOf_2 lk_X2_58 mv_X2_tellsGoodOf rfl sh_10 cl_2 rfl (Nat.le_of_ble_eq_true rfl) rfl k (ob_kI fun v2 σ1 k => ?_)
  refine ob_if_eq (tgt := 17) d_X2_goodOf_5 rfl (fun cc => ?_) (fun cc => ?_)
  · have k := k.1 cc
    refine ob_iconst (v := 0) d_X2_goodOf_17 ci_0 ?_
    exact ob_iret d_X2_goodOf_18 rfl ⟨_, rfl, k⟩
  · have k := k.2 cc
    refine ob_aload_n d_X2_goodOf_8 rfl ?_
    refine ob_getR d_X2_goodOf_9 fl_X2_27 sh_10 rfl rfl ?_
    refine ob_iload_n d_X2_goodOf_12 rfl ?_
    obtain ⟨hin, k⟩ := k
    refine ob_iald d_X2_goodOf_13 sh_16 hin ?_
    refine ob_goto (tgt := 18) d_X2_goodOf_14 rfl ?_
    exact ob_iret d_X2_goodOf_18 rfl ⟨_, rfl, k⟩
theorem d_X2_clearAll_0 : decode oX2_clearAll.2.1 0 = .ok (.aload_n 0, 1) := by decide +kernel
theorem d_X2_clearAll_1 : decode oX2_clearAll.2.1 1 = .ok (.bipush 12, 2) := by decide +kernel
theorem d_X2_clearAll_3 : decode oX2_clearAll.2.1 3 = .ok (.putfield 33, 3) := by decide +kernel
theorem d_X2_clearAll_6 : decode oX2_clearAll.2.1 6 = .ok (.aload_n 0, 1) := by decide +kernel
theorem d_X2_clearAll_7 : decode oX2_clearAll.2.1 7 = .ok (.iconst 0, 1) := by decide +kernel
theorem d_X2_clearAll_8 : decode oX2_clearAll.2.1 8 = .ok (.putfield 37, 3) := by decide +kernel
theorem d_X2_clearAll_11 : decode oX2_clearAll.2.1 11 = .ok (.aload_n 0, 1) := by decide +kernel
theorem d_X2_clearAll_12 : decode oX2_clearAll.2.1 12 = .ok (.iconst 0, 1) := by decide +kernel
theorem d_X2_clearAll_13 : decode oX2_clearAll.2.1 13 = .ok (.putfield 40, 3) := by decide +kernel
theorem d_X2_clearAll_16 : decode oX2_clearAll.2.1 16 = .ok (.aload_n 0, 1) := by decide +kernel
theorem d_X2_clearAll_17 : decode oX2_clearAll.2.1 17 = .ok (.iconst 0, 1) := by decide +kernel
theorem d_X2_clearAll_18 : decode oX2_clearAll.2.1 18 = .ok (.putfield 43, 3) := by decide +kernel
theorem d_X2_clearAll_21 : decode oX2_clearAll.2.1 21 = .ok (.aload_n 0, 1) := by decide +kernel
theorem d_X2_clearAll_22 : decode oX2_clearAll.2.1 22 = .ok (.getfield 27, 3) := by decide +kernel
theorem d_X2_clearAll_25 : decode oX2_clearAll.2.1 25 = .ok (.iconst (-1), 1) := by decide +kernel
theorem d_X2_clearAll_26 : decode oX2_clearAll.2.1 26 = .ok (.invokestatic 46, 3) := by decide +kernel
theorem d_X2_clearAll_29 : decode oX2_clearAll.2.1 29 = .ok (.return_, 1) := by decide +kernel
theorem b_X2_clearAll_0 {E : ob_E} {σ : ob_Mem} {Q : ob_Mem → Prop} (k : (∀ σ1, σ1 = (ob_wI (ob_wI (ob_wI σ 3 6 (12 : Int32)) 3 7 (0 : Int32)) 3 8 (0 : Int32)) → ob_RM shp E oJ7_fill_53178 [.ref 9, .int (-1 : Int32)] (ob_wI σ1 3 9 (0 : Int32)) (ob_qV fun σ2 => Q σ2))) : ob_RT shp E oX2_clearAll 0 [.ref 3] [] σ (ob_qV Q) := by
  refine ob_aload_n d_X2_clearAll_0 rfl ?_
  refine ob_bipush (v := 12) d_X2_clearAll_1 cb_12 ?_
  refine ob_putI d_X2_clearAll_3 fp_X2_33 sh_3 rfl rfl ?_
  refine ob_aload_n d_X2_clearAll_6 rfl ?_
  refine ob_iconst (v := 0) d_X2_clearAll_7 ci_0 ?_
  refine ob_putI d_X2_clearAll_8 fp_X2_37 sh_3 rfl rfl ?_
  refine ob_aload_n d_X2_clearAll_11 rfl ?_
  refine ob_iconst (v := 0) d_X2_clearAll_12 ci_0 ?_
  refine ob_putI d_X2_clearAll_13 fp_X2_40 sh_3 rfl rfl ?_
  refine ob_nmM (fun σ1 hσ1 => ?_)
  have k := k σ1 hσ1
  refine ob_aload_n d_X2_clearAll_16 rfl ?_
  refine ob_iconst (v := 0) d_X2_clearAll_17 ci_0 ?_
  refine ob_putI d_X2_clearAll_18 fp_X2_43 sh_3 rfl rfl ?_
  refine ob_aload_n d_X2_clearAll_21 rfl ?_
  refine ob_getR d_X2_clearAll_22 fl_X2_27 sh_3 rfl rfl ?_
  refine ob_iconst (v := -1) d_X2_clearAll_25 ci_m1 ?_
  refine ob_callS [.ref 9, .int (-1 : Int32)] (z := oJ7_fill_53178) (st := []) d_X2_clearAll_26 lk_X2_46 ms_J7_fill_53178 rfl (Nat.le_of_ble_eq_true rfl) rfl k (ob_kV fun σ2 k => ?_)
  exact ob_vret d_X2_clearAll_29 rfl ⟨rfl, k⟩
theorem d_X2_tellsGoodOf_0 : decode oX2_tellsGoodOf.2.1 0 = .ok (.iload_n 1, 1) := by decide +kernel
theorem d_X2_tellsGoodOf_1 : decode oX2_tellsGoodOf.2.1 1 = .ok (.ifCond .lt 23, 3) := by decide +kernel
theorem d_X2_tellsGoodOf_4 : decode oX2_tellsGoodOf.2.1 4 = .ok (.iload_n 1, 1) := by decide +kernel
theorem d_X2_tellsGoodOf_5 : decode oX2_tellsGoodOf.2.1 5 = .ok (.bipush 120, 2) := by decide +kernel
theorem d_X2_tellsGoodOf_7 : decode oX2_tellsGoodOf.2.1 7 = .ok (.if_icmp .gt 17, 3) := by decide +kernel
theorem d_X2_tellsGoodOf_10 : decode oX2_tellsGoodOf.2.1 10 = .ok (.aload_n 0, 1) := by decide +kernel
theorem d_X2_tellsGoodOf_11 : decode oX2_tellsGoodOf.2.1 11 = .ok (.getfield 27, 3) := by decide +kernel
theorem d_X2_tellsGoodOf_14 : decode oX2_tellsGoodOf.2.1 14 = .ok (.iload_n 1, 1) := by decide +kernel
theorem d_X2_tellsGoodOf_15 : decode oX2_tellsGoodOf.2.1 15 = .ok (.iaload, 1) := by decide +kernel
theorem d_X2_tellsGoodOf_16 : decode oX2_tellsGoodOf.2.1 16 = .ok (.iconst (-1), 1) := by decide +kernel
theorem d_X2_tellsGoodOf_17 : decode oX2_tellsGoodOf.2.1 17 = .ok (.if_icmp .eq 7, 3) := by decide +kernel
theorem d_X2_tellsGoodOf_20 : decode oX2_tellsGoodOf.2.1 20 = .ok (.iconst 1, 1) := by decide +kernel
theorem d_X2_tellsGoodOf_21 : decode oX2_tellsGoodOf.2.1 21 = .ok (.goto 4, 3) := by decide +kernel
theorem d_X2_tellsGoodOf_24 : decode oX2_tellsGoodOf.2.1 24 = .ok (.iconst 0, 1) := by decide +kernel
theorem d_X2_tellsGoodOf_25 : decode oX2_tellsGoodOf.2.1 25 = .ok (.ireturn, 1) := by decide +kernel
theorem b_X2_tellsGoodOf_10_0 {E : ob_E} {σ : ob_Mem} {Q : Int32 → ob_Mem → Prop} {x1 : Int32} (k : ((x1 < 0 → Q (0 : Int32) σ) ∧ (¬ x1 < 0 → (((120 : Int32) < x1 → Q (0 : Int32) σ) ∧ (¬ (120 : Int32) < x1 → (vp_in x1 121 ∧ (((σ.1 16 (x1).toNatClampNeg) = (-1 : Int32) → Q (0 : Int32) σ) ∧ (¬ (σ.1 16 (x1).toNatClampNeg) = (-1 : Int32) → Q (1 : Int32) σ)))))))) : ob_RT shp E oX2_tellsGoodOf 0 [.ref 10, .int x1] [] σ (ob_qI Q) := by
  refine ob_iload_n d_X2_tellsGoodOf_0 rfl ?_
  refine ob_if_lt (tgt := 24) d_X2_tellsGoodOf_1 rfl (fun cc => ?_) (fun cc => ?_)
  · have k := k.1 cc
    refine ob_iconst (v := 0) d_X2_tellsGoodOf_24 ci_0 ?_
    exact ob_zret d_X2_tellsGoodOf_25 rfl rfl ⟨_, rfl, k⟩
  · have k := k.2 cc
    refine ob_iload_n d_X2_tellsGoodOf_4 rfl ?_
    refine ob_bipush (v := 120) d_X2_tellsGoodOf_5 cb_120 ?_
    refine ob_icmp_gt (tgt := 24) d_X2_tellsGoodOf_7 rfl (fun cc => ?_) (fun cc => ?_)
    · have k := k.1 cc
      refine ob_iconst (v := 0) d_X2_tellsGoodOf_24 ci_0 ?_
      exact ob_zret d_X2_tellsGoodOf_25 rfl rfl ⟨_, rfl, k⟩
    · have k := k.2 cc
      refine ob_aload_n d_X2_tellsGoodOf_10 rfl ?_
      refine ob_getR d_X2_tellsGoodOf_11 fl_X2_27 sh_10 rfl rfl ?_
      refine ob_iload_n d_X2_tellsGoodOf_14 rfl ?_
      obtain ⟨hin, k⟩ := k
      refine ob_iald d_X2_tellsGoodOf_15 sh_16 hin ?_
      refine ob_iconst (v := -1) d_X2_tellsGoodOf_16 ci_m1 ?_
      refine ob_icmp_eq (tgt := 24) d_X2_tellsGoodOf_17 rfl (fun cc => ?_) (fun cc => ?_)
      · have k := k.1 cc
        refine ob_iconst (v := 0) d_X2_tellsGoodOf_24 ci_0 ?_
        exact ob_zret d_X2_tellsGoodOf_25 rfl rfl ⟨_, rfl, k⟩
      · have k := k.2 cc
        refine ob_iconst (v := 1) d_X2_tellsGoodOf_20 ci_1 ?_
        refine ob_goto (tgt := 25) d_X2_tellsGoodOf_21 rfl ?_
        exact ob_zret d_X2_tellsGoodOf_25 rfl rfl ⟨_, rfl, k⟩
theorem b_X2_tellsGoodOf_3_0 {E : ob_E} {σ : ob_Mem} {Q : Int32 → ob_Mem → Prop} {x1 : Int32} (k : ((x1 < 0 → Q (0 : Int32) σ) ∧ (¬ x1 < 0 → (((120 : Int32) < x1 → Q (0 : Int32) σ) ∧ (¬ (120 : Int32) < x1 → (vp_in x1 121 ∧ (((σ.1 9 (x1).toNatClampNeg) = (-1 : Int32) → Q (0 : Int32) σ) ∧ (¬ (σ.1 9 (x1).toNatClampNeg) = (-1 : Int32) → Q (1 : Int32) σ)))))))) : ob_RT shp E oX2_tellsGoodOf 0 [.ref 3, .int x1] [] σ (ob_qI Q) := by
  refine ob_iload_n d_X2_tellsGoodOf_0 rfl ?_
  refine ob_if_lt (tgt := 24) d_X2_tellsGoodOf_1 rfl (fun cc => ?_) (fun cc => ?_)
  · have k := k.1 cc
    refine ob_iconst (v := 0) d_X2_tellsGoodOf_24 ci_0 ?_
    exact ob_zret d_X2_tellsGoodOf_25 rfl rfl ⟨_, rfl, k⟩
  · have k := k.2 cc
    refine ob_iload_n d_X2_tellsGoodOf_4 rfl ?_
    refine ob_bipush (v := 120) d_X2_tellsGoodOf_5 cb_120 ?_
    refine ob_icmp_gt (tgt := 24) d_X2_tellsGoodOf_7 rfl (fun cc => ?_) (fun cc => ?_)
    · have k := k.1 cc
      refine ob_iconst (v := 0) d_X2_tellsGoodOf_24 ci_0 ?_
      exact ob_zret d_X2_tellsGoodOf_25 rfl rfl ⟨_, rfl, k⟩
    · have k := k.2 cc
      refine ob_aload_n d_X2_tellsGoodOf_10 rfl ?_
      refine ob_getR d_X2_tellsGoodOf_11 fl_X2_27 sh_3 rfl rfl ?_
      refine ob_iload_n d_X2_tellsGoodOf_14 rfl ?_
      obtain ⟨hin, k⟩ := k
      refine ob_iald d_X2_tellsGoodOf_15 sh_9 hin ?_
      refine ob_iconst (v := -1) d_X2_tellsGoodOf_16 ci_m1 ?_
      refine ob_icmp_eq (tgt := 24) d_X2_tellsGoodOf_17 rfl (fun cc => ?_) (fun cc => ?_)
      · have k := k.1 cc
        refine ob_iconst (v := 0) d_X2_tellsGoodOf_24 ci_0 ?_
        exact ob_zret d_X2_tellsGoodOf_25 rfl rfl ⟨_, rfl, k⟩
      · have k := k.2 cc
        refine ob_iconst (v := 1) d_X2_tellsGoodOf_20 ci_1 ?_
        refine ob_goto (tgt := 25) d_X2_tellsGoodOf_21 rfl ?_
        exact ob_zret d_X2_tellsGoodOf_25 rfl rfl ⟨_, rfl, k⟩
theorem d_X2_addGood_0 : decode oX2_addGood.2.1 0 = .ok (.iload_n 1, 1) := by decide +kernel
theorem d_X2_addGood_1 : decode oX2_addGood.2.1 1 = .ok (.ifCond .lt 26, 3) := by decide +kernel
theorem d_X2_addGood_4 : decode oX2_addGood.2.1 4 = .ok (.iload_n 1, 1) := by decide +kernel
theorem d_X2_addGood_5 : decode oX2_addGood.2.1 5 = .ok (.bipush 120, 2) := by decide +kernel
theorem d_X2_addGood_7 : decode oX2_addGood.2.1 7 = .ok (.if_icmp .gt 20, 3) := by decide +kernel
theorem d_X2_addGood_10 : decode oX2_addGood.2.1 10 = .ok (.aload_n 0, 1) := by decide +kernel
theorem d_X2_addGood_11 : decode oX2_addGood.2.1 11 = .ok (.getfield 27, 3) := by decide +kernel
theorem d_X2_addGood_14 : decode oX2_addGood.2.1 14 = .ok (.iload_n 1, 1) := by decide +kernel
theorem d_X2_addGood_15 : decode oX2_addGood.2.1 15 = .ok (.iload_n 2, 1) := by decide +kernel
theorem d_X2_addGood_16 : decode oX2_addGood.2.1 16 = .ok (.iastore, 1) := by decide +kernel
theorem d_X2_addGood_17 : decode oX2_addGood.2.1 17 = .ok (.aload_n 0, 1) := by decide +kernel
theorem d_X2_addGood_18 : decode oX2_addGood.2.1 18 = .ok (.dup, 1) := by decide +kernel
theorem d_X2_addGood_19 : decode oX2_addGood.2.1 19 = .ok (.getfield 43, 3) := by decide +kernel
theorem d_X2_addGood_22 : decode oX2_addGood.2.1 22 = .ok (.iconst 1, 1) := by decide +kernel
theorem d_X2_addGood_23 : decode oX2_addGood.2.1 23 = .ok (.iadd, 1) := by decide +kernel
theorem d_X2_addGood_24 : decode oX2_addGood.2.1 24 = .ok (.putfield 43, 3) := by decide +kernel
theorem d_X2_addGood_27 : decode oX2_addGood.2.1 27 = .ok (.return_, 1) := by decide +kernel
theorem b_X2_addGood_0 {E : ob_E} {σ : ob_Mem} {Q : ob_Mem → Prop} {x1 x2 : Int32} (k : ((x1 < 0 → Q σ) ∧ (¬ x1 < 0 → (((120 : Int32) < x1 → Q σ) ∧ (¬ (120 : Int32) < x1 → (vp_in x1 121 ∧ Q (ob_wI (ob_wI σ 9 (x1).toNatClampNeg x2) 3 9 (((ob_wI σ 9 (x1).toNatClampNeg x2).1 3 9) + (1 : Int32))))))))) : ob_RT shp E oX2_addGood 0 [.ref 3, .int x1, .int x2] [] σ (ob_qV Q) := by
  refine ob_iload_n d_X2_addGood_0 rfl ?_
  refine ob_if_lt (tgt := 27) d_X2_addGood_1 rfl (fun cc => ?_) (fun cc => ?_)
  · have k := k.1 cc
    exact ob_vret d_X2_addGood_27 rfl ⟨rfl, k⟩
  · have k := k.2 cc
    refine ob_iload_n d_X2_addGood_4 rfl ?_
    refine ob_bipush (v := 120) d_X2_addGood_5 cb_120 ?_
    refine ob_icmp_gt (tgt := 27) d_X2_addGood_7 rfl (fun cc => ?_) (fun cc => ?_)
    · have k := k.1 cc
      exact ob_vret d_X2_addGood_27 rfl ⟨rfl, k⟩
    · have k := k.2 cc
      refine ob_aload_n d_X2_addGood_10 rfl ?_
      refine ob_getR d_X2_addGood_11 fl_X2_27 sh_3 rfl rfl ?_
      refine ob_iload_n d_X2_addGood_14 rfl ?_
      refine ob_iload_n d_X2_addGood_15 rfl ?_
      obtain ⟨hin, k⟩ := k
      refine ob_iast d_X2_addGood_16 sh_9 hin ?_
      refine ob_aload_n d_X2_addGood_17 rfl ?_
      refine ob_dup d_X2_addGood_18 rfl ?_
      refine ob_getI d_X2_addGood_19 fl_X2_43 sh_3 rfl (by decide) ?_
      refine ob_iconst (v := 1) d_X2_addGood_22 ci_1 ?_
      refine ob_iadd d_X2_addGood_23 ?_
      refine ob_putI d_X2_addGood_24 fp_X2_43 sh_3 rfl rfl ?_
      exact ob_vret d_X2_addGood_27 rfl ⟨rfl, k⟩
theorem d_X2_addBirthday_0 : decode oX2_addBirthday.2.1 0 = .ok (.aload_n 0, 1) := by decide +kernel
theorem d_X2_addBirthday_1 : decode oX2_addBirthday.2.1 1 = .ok (.getfield 40, 3) := by decide +kernel
theorem d_X2_addBirthday_4 : decode oX2_addBirthday.2.1 4 = .ok (.bipush 8, 2) := by decide +kernel
theorem d_X2_addBirthday_6 : decode oX2_addBirthday.2.1 6 = .ok (.if_icmp .ge 43, 3) := by decide +kernel
theorem d_X2_addBirthday_9 : decode oX2_addBirthday.2.1 9 = .ok (.aload_n 0, 1) := by decide +kernel
theorem d_X2_addBirthday_10 : decode oX2_addBirthday.2.1 10 = .ok (.getfield 18, 3) := by decide +kernel
theorem d_X2_addBirthday_13 : decode oX2_addBirthday.2.1 13 = .ok (.aload_n 0, 1) := by decide +kernel
theorem d_X2_addBirthday_14 : decode oX2_addBirthday.2.1 14 = .ok (.getfield 40, 3) := by decide +kernel
theorem d_X2_addBirthday_17 : decode oX2_addBirthday.2.1 17 = .ok (.iload_n 1, 1) := by decide +kernel
theorem d_X2_addBirthday_18 : decode oX2_addBirthday.2.1 18 = .ok (.iastore, 1) := by decide +kernel
theorem d_X2_addBirthday_19 : decode oX2_addBirthday.2.1 19 = .ok (.aload_n 0, 1) := by decide +kernel
theorem d_X2_addBirthday_20 : decode oX2_addBirthday.2.1 20 = .ok (.getfield 21, 3) := by decide +kernel
theorem d_X2_addBirthday_23 : decode oX2_addBirthday.2.1 23 = .ok (.aload_n 0, 1) := by decide +kernel
theorem d_X2_addBirthday_24 : decode oX2_addBirthday.2.1 24 = .ok (.getfield 40, 3) := by decide +kernel
theorem d_X2_addBirthday_27 : decode oX2_addBirthday.2.1 27 = .ok (.iload_n 2, 1) := by decide +kernel
theorem d_X2_addBirthday_28 : decode oX2_addBirthday.2.1 28 = .ok (.iastore, 1) := by decide +kernel
theorem d_X2_addBirthday_29 : decode oX2_addBirthday.2.1 29 = .ok (.aload_n 0, 1) := by decide +kernel
theorem d_X2_addBirthday_30 : decode oX2_addBirthday.2.1 30 = .ok (.getfield 24, 3) := by decide +kernel
theorem d_X2_addBirthday_33 : decode oX2_addBirthday.2.1 33 = .ok (.aload_n 0, 1) := by decide +kernel
theorem d_X2_addBirthday_34 : decode oX2_addBirthday.2.1 34 = .ok (.getfield 40, 3) := by decide +kernel
theorem d_X2_addBirthday_37 : decode oX2_addBirthday.2.1 37 = .ok (.iload_n 3, 1) := by decide +kernel
theorem d_X2_addBirthday_38 : decode oX2_addBirthday.2.1 38 = .ok (.iastore, 1) := by decide +kernel
theorem d_X2_addBirthday_39 : decode oX2_addBirthday.2.1 39 = .ok (.aload_n 0, 1) := by decide +kernel
theorem d_X2_addBirthday_40 : decode oX2_addBirthday.2.1 40 = .ok (.dup, 1) := by decide +kernel
theorem d_X2_addBirthday_41 : decode oX2_addBirthday.2.1 41 = .ok (.getfield 40, 3) := by decide +kernel
theorem d_X2_addBirthday_44 : decode oX2_addBirthday.2.1 44 = .ok (.iconst 1, 1) := by decide +kernel
theorem d_X2_addBirthday_45 : decode oX2_addBirthday.2.1 45 = .ok (.iadd, 1) := by decide +kernel
theorem d_X2_addBirthday_46 : decode oX2_addBirthday.2.1 46 = .ok (.putfield 40, 3) := by decide +kernel
theorem d_X2_addBirthday_49 : decode oX2_addBirthday.2.1 49 = .ok (.return_, 1) := by decide +kernel
theorem b_X2_addBirthday_0 {E : ob_E} {σ : ob_Mem} {Q : ob_Mem → Prop} {x1 x2 x3 : Int32} (k : (((8 : Int32) ≤ (σ.1 3 8) → Q σ) ∧ (¬ (8 : Int32) ≤ (σ.1 3 8) → (vp_in (σ.1 3 8) 8 ∧ (vp_in ((ob_wI σ 6 ((σ.1 3 8)).toNatClampNeg x1).1 3 8) 8 ∧ (∀ σ1, σ1 = (ob_wI (ob_wI σ 6 ((σ.1 3 8)).toNatClampNeg x1) 7 (((ob_wI σ 6 ((σ.1 3 8)).toNatClampNeg x1).1 3 8)).toNatClampNeg x2) → (vp_in (σ1.1 3 8) 8 ∧ Q (ob_wI (ob_wI σ1 8 ((σ1.1 3 8)).toNatClampNeg x3) 3 8 (((ob_wI σ1 8 ((σ1.1 3 8)).toNatClampNeg x3).1 3 8) + (1 : Int32)))))))))) : ob_RT shp E oX2_addBirthday 0 [.ref 3, .int x1, .int x2, .int x3] [] σ (ob_qV Q) := by
  refine ob_aload_n d_X2_addBirthday_0 rfl ?_
  refine ob_getI d_X2_addBirthday_1 fl_X2_40 sh_3 rfl (by decide) ?_
  refine ob_bipush (v := 8) d_X2_addBirthday_4 cb_8 ?_
  refine ob_icmp_ge (tgt := 49) d_X2_addBirthday_6 rfl (fun cc => ?_) (fun cc => ?_)
  · have k := k.1 cc
    exact ob_vret d_X2_addBirthday_49 rfl ⟨rfl, k⟩
  · have k := k.2 cc
    refine ob_aload_n d_X2_addBirthday_9 rfl ?_
    refine ob_getR d_X2_addBirthday_10 fl_X2_18 sh_3 rfl rfl ?_
    refine ob_aload_n d_X2_addBirthday_13 rfl ?_
    refine ob_getI d_X2_addBirthday_14 fl_X2_40 sh_3 rfl (by decide) ?_
    refine ob_iload_n d_X2_addBirthday_17 rfl ?_
    obtain ⟨hin, k⟩ := k
    refine ob_iast d_X2_addBirthday_18 sh_6 hin ?_
    refine ob_aload_n d_X2_addBirthday_19 rfl ?_
    refine ob_getR d_X2_addBirthday_20 fl_X2_21 sh_3 rfl rfl ?_
    refine ob_aload_n d_X2_addBirthday_23 rfl ?_
    refine ob_getI d_X2_addBirthday_24 fl_X2_40 sh_3 rfl (by decide) ?_
    refine ob_iload_n d_X2_addBirthday_27 rfl ?_
    obtain ⟨hin, k⟩ := k
    refine ob_iast d_X2_addBirthday_28 sh_7 hin ?_
    refine ob_nmM (fun σ1 hσ1 => ?_)
    have k := k σ1 hσ1
    refine ob_aload_n d_X2_addBirthday_29 rfl ?_
    refine ob_getR d_X2_addBirthday_30 fl_X2_24 sh_3 rfl rfl ?_
    refine ob_aload_n d_X2_addBirthday_33 rfl ?_
    refine ob_getI d_X2_addBirthday_34 fl_X2_40 sh_3 rfl (by decide) ?_
    refine ob_iload_n d_X2_addBirthday_37 rfl ?_
    obtain ⟨hin, k⟩ := k
    refine ob_iast d_X2_addBirthday_38 sh_8 hin ?_
    refine ob_aload_n d_X2_addBirthday_39 rfl ?_
    refine ob_dup d_X2_addBirthday_40 rfl ?_
    refine ob_getI d_X2_addBirthday_41 fl_X2_40 sh_3 rfl (by decide) ?_
    refine ob_iconst (v := 1) d_X2_addBirthday_44 ci_1 ?_
    refine ob_iadd d_X2_addBirthday_45 ?_
    refine ob_putI d_X2_addBirthday_46 fp_X2_40 sh_3 rfl rfl ?_
    exact ob_vret d_X2_addBirthday_49 rfl ⟨rfl, k⟩
theorem d_X2_addPerson_0 : decode oX2_addPerson.2.1 0 = .ok (.aload_n 0, 1) := by decide +kernel
theorem d_X2_addPerson_1 : decode oX2_addPerson.2.1 1 = .ok (.getfield 37, 3) := by decide +kernel
theorem d_X2_addPerson_4 : decode oX2_addPerson.2.1 4 = .ok (.bipush 6, 2) := by decide +kernel
theorem d_X2_addPerson_6 : decode oX2_addPerson.2.1 6 = .ok (.if_icmp .ge 33, 3) := by decide +kernel
theorem d_X2_addPerson_9 : decode oX2_addPerson.2.1 9 = .ok (.aload_n 0, 1) := by decide +kernel
theorem d_X2_addPerson_10 : decode oX2_addPerson.2.1 10 = .ok (.getfield 9, 3) := by decide +kernel
theorem d_X2_addPerson_13 : decode oX2_addPerson.2.1 13 = .ok (.aload_n 0, 1) := by decide +kernel
theorem d_X2_addPerson_14 : decode oX2_addPerson.2.1 14 = .ok (.getfield 37, 3) := by decide +kernel
theorem d_X2_addPerson_17 : decode oX2_addPerson.2.1 17 = .ok (.iload_n 1, 1) := by decide +kernel
theorem d_X2_addPerson_18 : decode oX2_addPerson.2.1 18 = .ok (.iastore, 1) := by decide +kernel
theorem d_X2_addPerson_19 : decode oX2_addPerson.2.1 19 = .ok (.aload_n 0, 1) := by decide +kernel
theorem d_X2_addPerson_20 : decode oX2_addPerson.2.1 20 = .ok (.getfield 15, 3) := by decide +kernel
theorem d_X2_addPerson_23 : decode oX2_addPerson.2.1 23 = .ok (.aload_n 0, 1) := by decide +kernel
theorem d_X2_addPerson_24 : decode oX2_addPerson.2.1 24 = .ok (.getfield 37, 3) := by decide +kernel
theorem d_X2_addPerson_27 : decode oX2_addPerson.2.1 27 = .ok (.iload_n 2, 1) := by decide +kernel
theorem d_X2_addPerson_28 : decode oX2_addPerson.2.1 28 = .ok (.iastore, 1) := by decide +kernel
theorem d_X2_addPerson_29 : decode oX2_addPerson.2.1 29 = .ok (.aload_n 0, 1) := by decide +kernel
theorem d_X2_addPerson_30 : decode oX2_addPerson.2.1 30 = .ok (.dup, 1) := by decide +kernel
theorem d_X2_addPerson_31 : decode oX2_addPerson.2.1 31 = .ok (.getfield 37, 3) := by decide +kernel
theorem d_X2_addPerson_34 : decode oX2_addPerson.2.1 34 = .ok (.iconst 1, 1) := by decide +kernel
theorem d_X2_addPerson_35 : decode oX2_addPerson.2.1 35 = .ok (.iadd, 1) := by decide +kernel
theorem d_X2_addPerson_36 : decode oX2_addPerson.2.1 36 = .ok (.putfield 37, 3) := by decide +kernel
theorem d_X2_addPerson_39 : decode oX2_addPerson.2.1 39 = .ok (.return_, 1) := by decide +kernel
theorem b_X2_addPerson_0 {E : ob_E} {σ : ob_Mem} {Q : ob_Mem → Prop} {x1 x2 : Int32} (k : (((6 : Int32) ≤ (σ.1 3 7) → Q σ) ∧ (¬ (6 : Int32) ≤ (σ.1 3 7) → (vp_in (σ.1 3 7) 6 ∧ (vp_in ((ob_wI σ 4 ((σ.1 3 7)).toNatClampNeg x1).1 3 7) 6 ∧ (∀ σ1, σ1 = (ob_wI (ob_wI σ 4 ((σ.1 3 7)).toNatClampNeg x1) 5 (((ob_wI σ 4 ((σ.1 3 7)).toNatClampNeg x1).1 3 7)).toNatClampNeg x2) → Q (ob_wI σ1 3 7 ((σ1.1 3 7) + (1 : Int32))))))))) : ob_RT shp E oX2_addPerson 0 [.ref 3, .int x1, .int x2] [] σ (ob_qV Q) := by
  refine ob_aload_n d_X2_addPerson_0 rfl ?_
  refine ob_getI d_X2_addPerson_1 fl_X2_37 sh_3 rfl (by decide) ?_
  refine ob_bipush (v := 6) d_X2_addPerson_4 cb_6 ?_
  refine ob_icmp_ge (tgt := 39) d_X2_addPerson_6 rfl (fun cc => ?_) (fun cc => ?_)
  · have k := k.1 cc
    exact ob_vret d_X2_addPerson_39 rfl ⟨rfl, k⟩
  · have k := k.2 cc
    refine ob_aload_n d_X2_addPerson_9 rfl ?_
    refine ob_getR d_X2_addPerson_10 fl_X2_9 sh_3 rfl rfl ?_
    refine ob_aload_n d_X2_addPerson_13 rfl ?_
    refine ob_getI d_X2_addPerson_14 fl_X2_37 sh_3 rfl (by decide) ?_
    refine ob_iload_n d_X2_addPerson_17 rfl ?_
    obtain ⟨hin, k⟩ := k
    refine ob_iast d_X2_addPerson_18 sh_4 hin ?_
    refine ob_aload_n d_X2_addPerson_19 rfl ?_
    refine ob_getR d_X2_addPerson_20 fl_X2_15 sh_3 rfl rfl ?_
    refine ob_aload_n d_X2_addPerson_23 rfl ?_
    refine ob_getI d_X2_addPerson_24 fl_X2_37 sh_3 rfl (by decide) ?_
    refine ob_iload_n d_X2_addPerson_27 rfl ?_
    obtain ⟨hin, k⟩ := k
    refine ob_iast d_X2_addPerson_28 sh_5 hin ?_
    refine ob_nmM (fun σ1 hσ1 => ?_)
    have k := k σ1 hσ1
    refine ob_aload_n d_X2_addPerson_29 rfl ?_
    refine ob_dup d_X2_addPerson_30 rfl ?_
    refine ob_getI d_X2_addPerson_31 fl_X2_37 sh_3 rfl (by decide) ?_
    refine ob_iconst (v := 1) d_X2_addPerson_34 ci_1 ?_
    refine ob_iadd d_X2_addPerson_35 ?_
    refine ob_putI d_X2_addPerson_36 fp_X2_37 sh_3 rfl rfl ?_
    exact ob_vret d_X2_addPerson_39 rfl ⟨rfl, k⟩
theorem d_X2_isEmpty_0 : decode oX2_isEmpty.2.1 0 = .ok (.aload_n 0, 1) := by decide +kernel
theorem d_X2_isEmpty_1 : decode oX2_isEmpty.2.1 1 = .ok (.getfield 37, 3) := by decide +kernel
theorem d_X2_isEmpty_4 : decode oX2_isEmpty.2.1 4 = .ok (.ifCond .ne 21, 3) := by decide +kernel
theorem d_X2_isEmpty_7 : decode oX2_isEmpty.2.1 7 = .ok (.aload_n 0, 1) := by decide +kernel
theorem d_X2_isEmpty_8 : decode oX2_isEmpty.2.1 8 = .ok (.getfield 40, 3) := by decide +kernel
theorem d_X2_isEmpty_11 : decode oX2_isEmpty.2.1 11 = .ok (.ifCond .ne 14, 3) := by decide +kernel
theorem d_X2_isEmpty_14 : decode oX2_isEmpty.2.1 14 = .ok (.aload_n 0, 1) := by decide +kernel
theorem d_X2_isEmpty_15 : decode oX2_isEmpty.2.1 15 = .ok (.getfield 43, 3) := by decide +kernel
theorem d_X2_isEmpty_18 : decode oX2_isEmpty.2.1 18 = .ok (.ifCond .ne 7, 3) := by decide +kernel
theorem d_X2_isEmpty_21 : decode oX2_isEmpty.2.1 21 = .ok (.iconst 1, 1) := by decide +kernel
theorem d_X2_isEmpty_22 : decode oX2_isEmpty.2.1 22 = .ok (.goto 4, 3) := by decide +kernel
theorem d_X2_isEmpty_25 : decode oX2_isEmpty.2.1 25 = .ok (.iconst 0, 1) := by decide +kernel
theorem d_X2_isEmpty_26 : decode oX2_isEmpty.2.1 26 = .ok (.ireturn, 1) := by decide +kernel
theorem b_X2_isEmpty_0 {E : ob_E} {σ : ob_Mem} {Q : Int32 → ob_Mem → Prop} (k : ((¬ (σ.1 3 7) = 0 → Q (0 : Int32) σ) ∧ ((σ.1 3 7) = 0 → ((¬ (σ.1 3 8) = 0 → Q (0 : Int32) σ) ∧ ((σ.1 3 8) = 0 → ((¬ (σ.1 3 9) = 0 → Q (0 : Int32) σ) ∧ ((σ.1 3 9) = 0 → Q (1 : Int32) σ))))))) : ob_RT shp E oX2_isEmpty 0 [.ref 3] [] σ (ob_qI Q) := by
  refine ob_aload_n d_X2_isEmpty_0 rfl ?_
  refine ob_getI d_X2_isEmpty_1 fl_X2_37 sh_3 rfl (by decide) ?_
  refine ob_if_ne (tgt := 25) d_X2_isEmpty_4 rfl (fun cc => ?_) (fun cc => ?_)
  · have k := k.1 cc
    refine ob_iconst (v := 0) d_X2_isEmpty_25 ci_0 ?_
    exact ob_zret d_X2_isEmpty_26 rfl rfl ⟨_, rfl, k⟩
  · have k := k.2 cc
    refine ob_aload_n d_X2_isEmpty_7 rfl ?_
    refine ob_getI d_X2_isEmpty_8 fl_X2_40 sh_3 rfl (by decide) ?_
    refine ob_if_ne (tgt := 25) d_X2_isEmpty_11 rfl (fun cc => ?_) (fun cc => ?_)
    · have k := k.1 cc
      refine ob_iconst (v := 0) d_X2_isEmpty_25 ci_0 ?_
      exact ob_zret d_X2_isEmpty_26 rfl rfl ⟨_, rfl, k⟩
    · have k := k.2 cc
      refine ob_aload_n d_X2_isEmpty_14 rfl ?_
      refine ob_getI d_X2_isEmpty_15 fl_X2_43 sh_3 rfl (by decide) ?_
      refine ob_if_ne (tgt := 25) d_X2_isEmpty_18 rfl (fun cc => ?_) (fun cc => ?_)
      · have k := k.1 cc
        refine ob_iconst (v := 0) d_X2_isEmpty_25 ci_0 ?_
        exact ob_zret d_X2_isEmpty_26 rfl rfl ⟨_, rfl, k⟩
      · have k := k.2 cc
        refine ob_iconst (v := 1) d_X2_isEmpty_21 ci_1 ?_
        refine ob_goto (tgt := 26) d_X2_isEmpty_22 rfl ?_
        exact ob_zret d_X2_isEmpty_26 rfl rfl ⟨_, rfl, k⟩
