/-! what is made: arrays of known classes; fill, clearAll -/
abbrev kt_tys (k0 k1 k2 k3 : ClassId) : List (ClassId × FieldType) := [(k0, .int), (k1, .byte), (k2, .boolean), (k3, .long)]
theorem kt_newa {p : Program} {l : Launch} {e : Env} {R : Room} {s : State} {m : MethodId} {args : Array Value} {below : List Frame} {meth : Method} {c : Code} {H : Heap} {locs : List Loc} {cells slots : Nat} {Q : State → Prop} {pc : Nat} {ls : Array Slot} {rest : List Value} {D : va_G} {cl : List vw_C} {tys : List (ClassId × FieldType)} {ws : va_W} {A : Nat → Prop} {H0 : Heap} {cc : ByteArray} (hexec : p.tables.exec = Jvm.exec) (hb : c.code = cc) {atype : ArrayType} {ty : FieldType} (harr : (Cond.arrayClass ty).before args s = true) (hty : newarray.typeOf atype = ty) (hK : va_K D cl tys s) {j : Nat} {cA0 : ClassId} (hj : tys[j]? = some (cA0, ty)) (hnm : ∀ c1 c2, va_RA s c1 ty → va_RA s c2 ty → c1 = c2) (hP : va_P D cl ws H) (hD : va_D A ws) (hS : va_S A H0 H locs) (hA : ∀ q, H0.size ≤ q → A q)
    {n : Int32} {N' : Nat} {a0 : vp_A} (ha : ∀ cA : ClassId, vp_cell cA a0 = arrV cA N' (fun _ => defaultValue ty)) (hn : ¬ n < 0) (hN : n.toNatClampNeg = N') (hbytes : N' * componentBytes ty ≤ 536870912) (hcells : cells + 1 ≤ R.cells) (hslots : slots + N' ≤ R.slots) (hdg : decode cc pc = .ok (.newarray atype, 2))
    (kk : ∀ (q : Nat) (H1 : Heap), va_P D cl (ws ++ [(q, .inl (cA0, a0))]) H1 → va_D A (ws ++ [(q, .inl (cA0, a0))]) → va_S A H0 H1 locs →
      W p l e R s m args below meth c H1 locs (cells + 1) (slots + N') Q (F0 m (pc + 2) ls (.ref q :: rest))) : W p l e R s m args below meth c H locs cells slots Q (F0 m pc ls (.int n :: rest)) := by
  refine va_newa hexec hb (by rw [hty]; exact harr) hty hK hP hD hS hA ha hn hN hbytes hcells hslots hdg (fun q cA H1 hK1 hP1 hD1 hS1 => ?_)
  have h1 := (hK1.2 tys.length (cA, ty) (by simp)).2
  have h2 := (hK.2 j _ hj).2
  have e1 := hnm _ _ h1 h2
  subst e1
  exact kk q H1 hP1 hD1 hS1
theorem dk_fill_0 : decode cJ7_fill_53178 0 = .ok (.iconst 0, 1) := by decide +kernel
theorem dk_fill_1 : decode cJ7_fill_53178 1 = .ok (.istore_n 2, 1) := by decide +kernel
theorem dk_fill_2 : decode cJ7_fill_53178 2 = .ok (.aload_n 0, 1) := by decide +kernel
theorem dk_fill_3 : decode cJ7_fill_53178 3 = .ok (.arraylength, 1) := by decide +kernel
theorem dk_fill_4 : decode cJ7_fill_53178 4 = .ok (.istore_n 3, 1) := by decide +kernel
theorem dk_fill_5 : decode cJ7_fill_53178 5 = .ok (.iload_n 2, 1) := by decide +kernel
theorem dk_fill_6 : decode cJ7_fill_53178 6 = .ok (.iload_n 3, 1) := by decide +kernel
theorem dk_fill_7 : decode cJ7_fill_53178 7 = .ok (.if_icmp .ge 13, 3) := by decide +kernel
theorem dk_fill_10 : decode cJ7_fill_53178 10 = .ok (.aload_n 0, 1) := by decide +kernel
theorem dk_fill_11 : decode cJ7_fill_53178 11 = .ok (.iload_n 2, 1) := by decide +kernel
theorem dk_fill_12 : decode cJ7_fill_53178 12 = .ok (.iload_n 1, 1) := by decide +kernel
theorem dk_fill_13 : decode cJ7_fill_53178 13 = .ok (.iastore, 1) := by decide +kernel
theorem dk_fill_14 : decode cJ7_fill_53178 14 = .ok (.iinc 2 1, 3) := by decide +kernel
theorem dk_fill_17 : decode cJ7_fill_53178 17 = .ok (.goto (-12), 3) := by decide +kernel
theorem dk_fill_20 : decode cJ7_fill_53178 20 = .ok (.return_, 1) := by decide +kernel
theorem dk_clearAll_0 : decode cX2_clearAll 0 = .ok (.aload_n 0, 1) := by decide +kernel
theorem dk_clearAll_1 : decode cX2_clearAll 1 = .ok (.bipush 12, 2) := by decide +kernel
theorem dk_clearAll_3 : decode cX2_clearAll 3 = .ok (.putfield 33, 3) := by decide +kernel
theorem dk_clearAll_6 : decode cX2_clearAll 6 = .ok (.aload_n 0, 1) := by decide +kernel
theorem dk_clearAll_7 : decode cX2_clearAll 7 = .ok (.iconst 0, 1) := by decide +kernel
theorem dk_clearAll_8 : decode cX2_clearAll 8 = .ok (.putfield 37, 3) := by decide +kernel
theorem dk_clearAll_11 : decode cX2_clearAll 11 = .ok (.aload_n 0, 1) := by decide +kernel
theorem dk_clearAll_12 : decode cX2_clearAll 12 = .ok (.iconst 0, 1) := by decide +kernel
theorem dk_clearAll_13 : decode cX2_clearAll 13 = .ok (.putfield 40, 3) := by decide +kernel
theorem dk_clearAll_16 : decode cX2_clearAll 16 = .ok (.aload_n 0, 1) := by decide +kernel
theorem dk_clearAll_17 : decode cX2_clearAll 17 = .ok (.iconst 0, 1) := by decide +kernel
theorem dk_clearAll_18 : decode cX2_clearAll 18 = .ok (.putfield 43, 3) := by decide +kernel
theorem dk_clearAll_21 : decode cX2_clearAll 21 = .ok (.aload_n 0, 1) := by decide +kernel
theorem dk_clearAll_22 : decode cX2_clearAll 22 = .ok (.getfield 27, 3) := by decide +kernel
theorem dk_clearAll_25 : decode cX2_clearAll 25 = .ok (.iconst (-1), 1) := by decide +kernel
theorem dk_clearAll_26 : decode cX2_clearAll 26 = .ok (.invokestatic 46, 3) := by decide +kernel
theorem dk_clearAll_29 : decode cX2_clearAll 29 = .ok (.return_, 1) := by decide +kernel
theorem fill_loop {p : Program} {l : Launch} {e : Env} {R : Room} {s : State} {m : MethodId} {args : Array Value} {below : List Frame} {meth : Method} {c : Code} {cells slots : Nat} {Q : State → Prop} {D : va_G} {A : Nat → Prop} {H0 : Heap} {k0 k1 k2 k3 : ClassId} {a : Nat} {x : Int32} {f : Nat → Int32} (hx : p.tables.exec = Jvm.exec) (hb : c.code = cJ7_fill_53178) (hK : va_K D vwCl (kt_tys k0 k1 k2 k3) s)
    (hend : ∀ (H : Heap) (locs : List Loc) (ls : Array Slot), va_P D vwCl [(a, .inl (k0, 121, .inl (fun j => if j < 121 then x else f j)))] H → va_D A [(a, .inl (k0, 121, .inl (fun j => if j < 121 then x else f j)))] → va_S A H0 H locs → W p l e R s m args below meth c H locs cells slots Q (F0 m 20 ls [])) : ∀ (n i : Nat), i + n = 121 → ∀ (H : Heap) (locs : List Loc) (ls : Array Slot), va_P D vwCl [(a, .inl (k0, 121, .inl (fun j => if j < i then x else f j)))] H → va_D A [(a, .inl (k0, 121, .inl (fun j => if j < i then x else f j)))] → va_S A H0 H locs → lv_has ls 4 [(2, .int (nI i)), (3, .int 121), (0, .ref a), (1, .int x)] → W p l e R s m args below meth c H locs cells slots Q (F0 m 5 ls []) := by
  intro n
  induction n with
  | zero =>
    intro i hi H locs ls hP hD hS hl
    refine lv_iload_n hx hb dk_fill_5 rfl (lv_at hl 0 rfl) (lv_iload_n hx hb dk_fill_6 rfl (lv_at hl 1 rfl) (lv_icmp_ge (tgt := 20) hx hb dk_fill_7 (by decide) (fun _ => ?_) (fun z => absurd ((ob_le (a := 121) (by omega) (by omega)).mpr (by omega)) z)))
    rw [show i = 121 by omega] at hP hD
    exact hend H locs ls hP hD hS
  | succ n ih =>
    intro i hi H locs ls hP hD hS hl
    refine lv_iload_n hx hb dk_fill_5 rfl (lv_at hl 0 rfl) (lv_iload_n hx hb dk_fill_6 rfl (lv_at hl 1 rfl) (lv_icmp_ge (tgt := 20) hx hb dk_fill_7 (by decide) (fun z => by have := (ob_le (a := 121) (by omega) (by omega)).mp z; omega) (fun _ => ?_)))
    refine lv_aload_n hx hb dk_fill_10 rfl (lv_at hl 2 rfl) (lv_iload_n hx hb dk_fill_11 rfl (lv_at hl 0 rfl) (lv_iload_n hx hb dk_fill_12 rfl (lv_at hl 3 rfl) ?_))
    refine va_iast hx hb hK hP hD hS 0 0 rfl rfl (ob_in (by omega) (by omega)) dk_fill_13 (fun H1 locs1 hP1 hD1 hS1 => ?_)
    have eu : upd (fun j => if j < i then x else f j) (nI i).toNatClampNeg x = (fun j => if j < i + 1 then x else f j) := by
      rw [ob_cl (n := i) (by omega)]
      funext j
      unfold upd
      by_cases e1 : j = i
      · subst e1; simp
      · have : (j < i + 1) ↔ (j < i) := by omega
        simp [e1, this]
    rw [eu] at hP1 hD1
    refine lv_iinc (k := 0) (v := nI (i + 1)) hx hb dk_fill_14 hl rfl (nI_1 i) (by decide) (lv' := [(2, .int (nI (i + 1))), (3, .int 121), (0, .ref a), (1, .int x)]) rfl (fun ls2 hl2 => lv_goto (tgt := 5) hx hb dk_fill_17 (by decide) (ih (i + 1) (by omega) H1 locs1 ls2 hP1 hD1 hS1 hl2))
set_option maxHeartbeats 4000000 in
set_option maxRecDepth 100000 in
theorem c_fill (l : Launch) (D : va_G) (k0 k1 k2 k3 : ClassId) (a sz : Nat) (f : Nat → Int32) (x : Int32) : Met l yJ7_fill_53178 (ob_w oJ7_fill_53178) { frames := 0, cells := 0, slots := 0, locals := 0 } (va_Pc [.ref a, .int x] (fun U => U.heap.size = sz ∧ va_P D vwCl [(a, .inl (k0, 121, .inl f))] U.heap ∧ va_K D vwCl (kt_tys k0 k1 k2 k3) U ∧ va_D (fun _ => True) [(a, .inl (k0, 121, .inl f))])) (va_Qv (fun _ : Unit => True) (fun _ t => va_P D vwCl [(a, .inl (k0, 121, .inl (fun j => if j < 121 then x else f j)))] t.heap ∧ va_K D vwCl (kt_tys k0 k1 k2 k3) t ∧ va_D (va_A [(a, .inl (k0, 121, .inl f))] sz) [(a, .inl (k0, 121, .inl (fun j => if j < 121 then x else f j)))]) (va_A [(a, .inl (k0, 121, .inl f))] sz)) 0 0 (va_A [(a, .inl (k0, 121, .inl f))] sz) := by
  refine Met.ofW (cc := cJ7_fill_53178) (maxL := 4) (ret := none) (by decide) rfl ?_
  intro p e s m args below meth c s₁ B hml hv
  obtain ⟨rfl, hsz, hP, hK, hD0⟩ := hv
  have hx := B.exec
  have hb := B.bytes
  have hr := B.returns
  subst hsz
  have hD := hD0.self (sz := s.heap.size)
  generalize hAe : va_A [(a, .inl (k0, 121, .inl f))] s.heap.size = A at hD ⊢
  have hS : va_S A s.heap s.heap [] := va_S.rf
  have hl := lv_entry ([.ref a, .int x]) (n := 4) (Nat.le_of_ble_eq_true rfl)
  rw [lg_entry_eq]
  generalize (lg_sl ([.ref a, .int x]) ++ List.replicate (4 - (lg_sl ([.ref a, .int x])).length) Slot.unset).toArray = ls at hl ⊢
  have hl : lv_has ls 4 [(0, .ref a), (1, .int x)] := hl
  refine lv_iconst (v := 0) hx hb dk_fill_0 (by decide) ?_
  refine lv_istore_n (lv' := [(2, .int 0), (0, .ref a), (1, .int x)]) hx hb dk_fill_1 rfl hl (by decide) rfl (fun ls hl => ?_)
  refine lv_aload_n hx hb dk_fill_2 rfl (lv_at hl 1 rfl) ?_
  refine va_alen (v := 121) hx hb hK hP 0 0 rfl rfl rfl dk_fill_3 ?_
  refine lv_istore_n (lv' := [(3, .int 121), (2, .int 0), (0, .ref a), (1, .int x)]) hx hb dk_fill_4 rfl hl (by decide) rfl (fun ls hl => ?_)
  have f0 : (fun j => if j < 0 then x else f j) = f := by
    funext j
    exact if_neg (Nat.not_lt_zero j)
  refine fill_loop hx hb hK (fun H locs ls hP hD hS => W.vret hx hb hr (fun t ht hW => ⟨⟨(), rfl, trivial, by rw [ht]; exact hP, va_K.moved hW.alike hK, hD⟩, hS.F ht⟩) hS.2.2 dk_fill_20) 121 0 rfl _ _ ls (by rw [f0]; exact hP) (by rw [f0]; exact hD) hS (lv_sub hl [1, 0, 2, 3] rfl)
