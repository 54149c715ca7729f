/-! THE CLAIM OUT OF ONE WALK OF THE LAW'S BODY. Your part is whole_start (and what it stands on); all else here is the same for every law, but numbers. -/
def R_law : String := "OwnBirthdaysLaw"
def lw_P (b : Addr) (xs : List Int32) (args : Array Value) (s : State) : Prop := args = #[.ref b] ∧ s.IntsAt b xs ∧ xs.length ≤ 2560 ∧ (Jvm.Cond.and given_1 narrow_1).before args s = true
def lw_Q (_ : Array Value) (s : State) (o : Outcome) (t : State) : Prop := o = .returned (some (.int 1)) ∧ Framed s o t [] 84 8669
def lw_Z (below : List Frame) (a : Array Value) (s : State) : State → Prop := fun t => ∃ o, t.status = .running ∧ Ended t below o ∧ lw_Q a s o t
/-- the law's own end, with 1 on the stack, nothing written that was there before, its room as the claim has it -/
theorem lw_ret {p : Program} {l : Launch} {e : Env} {s : State} {m : MethodId} {below : List Frame} {meth : Method} {c : Code} {b : Nat} (hx : p.tables.exec = Jvm.exec) (hb : c.code = code) (hr : meth.sig.returnType = ret) (hlocks : meth.locks = false) {pc : Nat} {H : Heap} {ls : Array Slot} (hdg : decode code pc = .ok (.ireturn, 1)) : W p l e room_1 s m #[Value.ref b] below meth c H [] 84 8669 (lw_Z below #[Value.ref b] s) (F0 m pc ls [.int 1]) := by
  intro T hT X
  obtain ⟨fs, hret, hrun, hended, hW, hframe⟩ := X.leave (v := some (.int 1)) (hlocks := hlocks) (fun h => by rw [hr] at h; cases h)
  have hmeth' : T.vm.method? m = some meth := X.method'
  refine ⟨T.setFrames fs, ?_, .returned (some (.int 1)), hrun, hended, rfl, ⟨_, rfl⟩, hW, hframe⟩
  jvm_step X.here [X.here.top, hx, hb, hdg, hmeth', hr, ret, narrow_b1]
  (try refine ⟨rfl, ?_⟩); (try refine ⟨rfl, ?_⟩)
  first | (intro acts; rw [hret _ acts rfl rfl rfl]) | rw [hret _ _ rfl rfl rfl]
  exact Steps.refl _
/-- what holds at the law's entry: the machine, the code, the tables' words (any of lw_tbl by 'hts w (by decide +kernel)'), the script of L ints xs at the cell b, what the Statement gives of the start (any of its parts by flat_of_before) -/
def lw_At (p : Program) (s : State) (m : MethodId) (meth : Method) (c : Code) (b L : Nat) (xs : Nat → Int32) : Prop :=
  p.tables.exec = Jvm.exec ∧ c.code = code ∧ meth.sig.returnType = ret ∧ c.maxLocals = 4 ∧ s.vm.findClass R_law = some m.cls ∧ (∀ w ∈ lw_tbl, w.before #[Value.ref b] s = true) ∧ va_X b L xs s s.heap ∧ b < s.heap.size ∧ meth.locks = false ∧ (Jvm.Cond.and given_1 narrow_1).before #[Value.ref b] s = true
/-! the law at a place of its code, over the memory of both objects -/
def lw_CX (E : ob_E) (L : Nat) (xs : Nat → Int32) (p : Program) (s : State) (m : MethodId) (meth : Method) (c : Code) (H : Heap) (locs : List Loc) (lsM : Array Slot) (ls : List Value) (σ : ob_Mem) : Prop :=
  lw_At p s m meth c (E.2.2.2 140) L xs ∧ va_K E.2.1 vwCl (ob_tys E) s ∧ ob_RO shp E s s.heap ∧ ob_inj shp E ∧ (∀ i, i < shp.length → s.heap.size ≤ E.2.2.2 i) ∧ va_P E.2.1 vwCl (ob_ws shp E σ) H ∧ va_S (fun q : Nat => s.heap.size ≤ q) s.heap H locs ∧ ob_L E lsM 4 ls
def lw_LT (E : ob_E) (L : Nat) (xs : Nat → Int32) (pc : Nat) (ls st : List Value) (σ : ob_Mem) : Prop :=
  ∀ (p : Program) (e : Env) (s : State) (m : MethodId) (below : List Frame) (meth : Method) (c : Code) (H : Heap) (locs : List Loc) (lsM : Array Slot), lw_CX E L xs p s m meth c H locs lsM ls σ →
    W p E.1 e room_1 s m #[Value.ref (E.2.2.2 140)] below meth c H locs 84 8669 (lw_Z below #[Value.ref (E.2.2.2 140)] s) (F0 m pc lsM (st.map (ob_cv E)))
theorem lw_iconst {E : ob_E} {L : Nat} {xs : Nat → Int32} {pc : Nat} {ls st : List Value} {σ : ob_Mem} {n : Int} {v : Int32} (d : decode code pc = .ok (.iconst n, 1)) (hv : Int32.ofInt n = v) (k : lw_LT E L xs (pc + 1) ls (.int v :: st) σ) : lw_LT E L xs pc ls (st) σ := fun p e s m below meth c H locs lsM h => lv_iconst h.1.1 h.1.2.1 d hv (k p e s m below meth c H locs lsM h)
theorem lw_bipush {E : ob_E} {L : Nat} {xs : Nat → Int32} {pc : Nat} {ls st : List Value} {σ : ob_Mem} {n : Int} {v : Int32} (d : decode code pc = .ok (.bipush n, 2)) (hv : (Int8.ofInt n).toInt32 = v) (k : lw_LT E L xs (pc + 2) ls (.int v :: st) σ) : lw_LT E L xs pc ls (st) σ := fun p e s m below meth c H locs lsM h => lv_bipush h.1.1 h.1.2.1 d hv (k p e s m below meth c H locs lsM h)
theorem lw_iadd {E : ob_E} {L : Nat} {xs : Nat → Int32} {pc : Nat} {ls st : List Value} {σ : ob_Mem} {a b : Int32} (d : decode code pc = .ok (.iadd, 1)) (k : lw_LT E L xs (pc + 1) ls (.int (a + b) :: st) σ) : lw_LT E L xs pc ls (.int b :: .int a :: st) σ := fun p e s m below meth c H locs lsM h => lv_iadd h.1.1 h.1.2.1 d  (k p e s m below meth c H locs lsM h)
theorem lw_isub {E : ob_E} {L : Nat} {xs : Nat → Int32} {pc : Nat} {ls st : List Value} {σ : ob_Mem} {a b : Int32} (d : decode code pc = .ok (.isub, 1)) (k : lw_LT E L xs (pc + 1) ls (.int (a - b) :: st) σ) : lw_LT E L xs pc ls (.int b :: .int a :: st) σ := fun p e s m below meth c H locs lsM h => lv_isub h.1.1 h.1.2.1 d  (k p e s m below meth c H locs lsM h)
theorem lw_iand {E : ob_E} {L : Nat} {xs : Nat → Int32} {pc : Nat} {ls st : List Value} {σ : ob_Mem} {a b : Int32} (d : decode code pc = .ok (.iand, 1)) (k : lw_LT E L xs (pc + 1) ls (.int (a &&& b) :: st) σ) : lw_LT E L xs pc ls (.int b :: .int a :: st) σ := fun p e s m below meth c H locs lsM h => lv_iand h.1.1 h.1.2.1 d  (k p e s m below meth c H locs lsM h)
theorem lw_lor {E : ob_E} {L : Nat} {xs : Nat → Int32} {pc : Nat} {ls st : List Value} {σ : ob_Mem} {a b : Int64} (d : decode code pc = .ok (.lor, 1)) (k : lw_LT E L xs (pc + 1) ls (.long (a ||| b) :: st) σ) : lw_LT E L xs pc ls (.long b :: .long a :: st) σ := fun p e s m below meth c H locs lsM h => lv_lor h.1.1 h.1.2.1 d  (k p e s m below meth c H locs lsM h)
theorem lw_land {E : ob_E} {L : Nat} {xs : Nat → Int32} {pc : Nat} {ls st : List Value} {σ : ob_Mem} {a b : Int64} (d : decode code pc = .ok (.land, 1)) (k : lw_LT E L xs (pc + 1) ls (.long (a &&& b) :: st) σ) : lw_LT E L xs pc ls (.long b :: .long a :: st) σ := fun p e s m below meth c H locs lsM h => lv_land h.1.1 h.1.2.1 d  (k p e s m below meth c H locs lsM h)
theorem lw_lshl {E : ob_E} {L : Nat} {xs : Nat → Int32} {pc : Nat} {ls st : List Value} {σ : ob_Mem} {a : Int64} {b : Int32} (d : decode code pc = .ok (.lshl, 1)) (k : lw_LT E L xs (pc + 1) ls (.long (a <<< (b.toInt64 &&& 63)) :: st) σ) : lw_LT E L xs pc ls (.int b :: .long a :: st) σ := fun p e s m below meth c H locs lsM h => lv_lshl h.1.1 h.1.2.1 d rfl (k p e s m below meth c H locs lsM h)
theorem lw_i2l {E : ob_E} {L : Nat} {xs : Nat → Int32} {pc : Nat} {ls st : List Value} {σ : ob_Mem} {a : Int32} (d : decode code pc = .ok (.i2l, 1)) (k : lw_LT E L xs (pc + 1) ls (.long a.toInt64 :: st) σ) : lw_LT E L xs pc ls (.int a :: st) σ := fun p e s m below meth c H locs lsM h => lv_i2l h.1.1 h.1.2.1 d rfl (k p e s m below meth c H locs lsM h)
theorem lw_iload_n {E : ob_E} {L : Nat} {xs : Nat → Int32} {pc : Nat} {ls st : List Value} {σ : ob_Mem} {j : Fin 4} {x : Int32} (d : decode code pc = .ok (.iload_n j, 1)) (hl : ls[(j : Nat)]? = some (.int x)) (k : lw_LT E L xs (pc + 1) ls (.int x :: st) σ) : lw_LT E L xs pc ls st σ := fun p e s m below meth c H locs lsM h => lv_iload_n h.1.1 h.1.2.1 d rfl (h.2.2.2.2.2.2.2.at hl (fun q => by cases q)) (k p e s m below meth c H locs lsM h)
theorem lw_aload_n {E : ob_E} {L : Nat} {xs : Nat → Int32} {pc : Nat} {ls st : List Value} {σ : ob_Mem} {j : Fin 4} {x : Nat} (d : decode code pc = .ok (.aload_n j, 1)) (hl : ls[(j : Nat)]? = some (.ref x)) (k : lw_LT E L xs (pc + 1) ls (.ref x :: st) σ) : lw_LT E L xs pc ls st σ := fun p e s m below meth c H locs lsM h => lv_aload_n h.1.1 h.1.2.1 d rfl (h.2.2.2.2.2.2.2.at hl (fun q => by cases q)) (k p e s m below meth c H locs lsM h)
theorem lw_iinc {E : ob_E} {L : Nat} {xs : Nat → Int32} {pc : Nat} {ls st : List Value} {σ : ob_Mem} {j : Nat} {n : Int} {x v : Int32} {ls' : List Value} (d : decode code pc = .ok (.iinc j n, 3)) (hx : ls[j]? = some (.int x)) (hv : Int32.ofInt n = v) (hn : j < 4) (hl : ob_s1 ls j (.int (x + v)) = ls') (k : lw_LT E L xs (pc + 3) ls' st σ) : lw_LT E L xs pc ls st σ := by
  intro p e s m below meth c H locs lsM h
  obtain ⟨h1, h2, h3, h4, h5, h6, h7, h13⟩ := h
  subst hv
  obtain ⟨q, hq⟩ := List.getElem?_of_mem ((ob_lv_mem E ls 0 j _).mpr ⟨.int x, Nat.zero_le _, hx, (fun q => by cases q), rfl⟩)
  exact lv_iinc h1.1 h1.2.1 d h13 hq rfl hn rfl (fun ls2 hz => k p e s m below meth c H locs ls2 ⟨h1, h2, h3, h4, h5, h6, h7, by rw [← hl]; exact ob_lv_has hz ob_s1_sub⟩)
theorem lw_icmp_eq {E : ob_E} {L : Nat} {xs : Nat → Int32} {pc : Nat} {ls st : List Value} {σ : ob_Mem} {x z : Int32} {off : Int} {tgt : Nat} (d : decode code pc = .ok (.if_icmp .eq off, 3)) (ht : (pc : Int) + off = (tgt : Int)) (kt : x = z → lw_LT E L xs tgt ls st σ) (kf : ¬ x = z → lw_LT E L xs (pc + 3) ls st σ) : lw_LT E L xs pc ls (.int z :: .int x :: st) σ := fun p e s m below meth c H locs lsM h => lv_icmp_eq h.1.1 h.1.2.1 d ht (fun q => kt q p e s m below meth c H locs lsM h) (fun q => kf q p e s m below meth c H locs lsM h)
theorem lw_icmp_gt {E : ob_E} {L : Nat} {xs : Nat → Int32} {pc : Nat} {ls st : List Value} {σ : ob_Mem} {x z : Int32} {off : Int} {tgt : Nat} (d : decode code pc = .ok (.if_icmp .gt off, 3)) (ht : (pc : Int) + off = (tgt : Int)) (kt : z < x → lw_LT E L xs tgt ls st σ) (kf : ¬ z < x → lw_LT E L xs (pc + 3) ls st σ) : lw_LT E L xs pc ls (.int z :: .int x :: st) σ := fun p e s m below meth c H locs lsM h => lv_icmp_gt h.1.1 h.1.2.1 d ht (fun q => kt q p e s m below meth c H locs lsM h) (fun q => kf q p e s m below meth c H locs lsM h)
theorem lw_goto {E : ob_E} {L : Nat} {xs : Nat → Int32} {pc : Nat} {ls st : List Value} {σ : ob_Mem} {off : Int} {tgt : Nat} (d : decode code pc = .ok (.goto off, 3)) (ht : (pc : Int) + off = (tgt : Int)) (k : lw_LT E L xs tgt ls st σ) : lw_LT E L xs pc ls st σ := fun p e s m below meth c H locs lsM h => lv_goto h.1.1 h.1.2.1 d ht (k p e s m below meth c H locs lsM h)
theorem lw_tabO {E : ob_E} {L : Nat} {xs : Nat → Int32} {pc : Nat} {ls st : List Value} {σ : ob_Mem} {dflt lo hi : Int} {offs : Array Int} {len : Nat} {x : Int32} {tgt : Nat} (d : decode code pc = .ok (.tableswitch dflt lo hi offs, len)) (hx : x.toInt < lo ∨ hi < x.toInt) (ht : (pc : Int) + dflt = (tgt : Int)) (k : lw_LT E L xs tgt ls st σ) : lw_LT E L xs pc ls (.int x :: st) σ := fun p e s m below meth c H locs lsM h => lv_tableOut h.1.1 h.1.2.1 d hx ht (k p e s m below meth c H locs lsM h)
theorem lw_tabI {E : ob_E} {L : Nat} {xs : Nat → Int32} {pc : Nat} {ls st : List Value} {σ : ob_Mem} {dflt lo hi : Int} {offs : Array Int} {len : Nat} {x : Int32} {off : Int} {tgt : Nat} (d : decode code pc = .ok (.tableswitch dflt lo hi offs, len)) (h1 : ¬ x.toInt < lo) (h2 : ¬ hi < x.toInt) (ho : offs[(x.toInt - lo).toNat]? = some off) (ht : (pc : Int) + off = (tgt : Int)) (k : lw_LT E L xs tgt ls st σ) : lw_LT E L xs pc ls (.int x :: st) σ := fun p e s m below meth c H locs lsM h => lv_tableIn h.1.1 h.1.2.1 d h1 h2 ho ht (k p e s m below meth c H locs lsM h)
theorem lw_ldc2 {E : ob_E} {L : Nat} {xs : Nat → Int32} {pc : Nat} {ls st : List Value} {σ : ob_Mem} {j : Nat} {v : Int64} (d : decode code pc = .ok (.ldc2_w j, 3)) (hw : Cond.constantLong R_law j v ∈ ob_good) (k : lw_LT E L xs (pc + 3) ls (.long v :: st) σ) : lw_LT E L xs pc ls st σ := fun p e s m below meth c H locs lsM h => lv_ldc2 h.1.1 h.1.2.1 h.1.2.2.2.2.1 (h.1.2.2.2.2.2.1 _ (List.mem_filter.mp hw).1) d (k p e s m below meth c H locs lsM h)
section LW
variable {E : ob_E} {L : Nat} {xs : Nat → Int32} {pc : Nat} {ls st st0 : List Value} {σ : ob_Mem}
theorem lw_sld {i : Nat} (d : decode code pc = .ok (.iaload, 1)) (hL : L ≤ 2560) (hi : i < L) (k : lw_LT E L xs (pc + 1) ls (.int (xs i) :: st) σ) : lw_LT E L xs pc ls (.int (nI i) :: .ref 140 :: st) σ := by
  intro p e s m below meth c H locs lsM h
  have h0 := h
  obtain ⟨⟨hx, hb, hr, hml, hown, hts, hX, hbl, hlocks, hgv⟩, h2, h3, h4, h5, h6, h7, h8⟩ := h
  have e1 : xs i = xs (nI i).toNatClampNeg := by rw [ob_cl (n := i) (by omega)]
  rw [e1] at k
  exact va_sld hx hb hX hbl (Nat.not_le.mpr hbl) h7 (vp_in_nI hi (by omega)) d (k p e s m below meth c H locs lsM h0)
theorem lw_slen (d : decode code pc = .ok (.arraylength, 1)) (k : lw_LT E L xs (pc + 1) ls (.int (nI L) :: st) σ) : lw_LT E L xs pc ls (.ref 140 :: st) σ := by
  intro p e s m below meth c H locs lsM h
  have h0 := h
  obtain ⟨⟨hx, hb, hr, hml, hown, hts, hX, hbl, hlocks, hgv⟩, h2, h3, h4, h5, h6, h7, h8⟩ := h
  exact va_slen hx hb hX hbl (Nat.not_le.mpr hbl) h7 d (k p e s m below meth c H locs lsM h0)
theorem lw_arg {i k : Nat} {n : Int} (d0 : decode code pc = .ok (.aload_n 0, 1)) (d1 : decode code (pc + 1) = .ok (.iload_n 3, 1)) (d2 : decode code (pc + 1 + 1) = .ok (.iconst n, 1)) (d3 : decode code (pc + 1 + 1 + 1) = .ok (.iadd, 1)) (d4 : decode code (pc + 1 + 1 + 1 + 1) = .ok (.iaload, 1)) (hv : Int32.ofInt n = nI k) (h0 : ls[0]? = some (.ref 140)) (h3 : ls[3]? = some (.int (nI i))) (hik : i + k < L) (hL : L ≤ 2560) (kk : lw_LT E L xs (pc + 1 + 1 + 1 + 1 + 1) ls (.int (xs (i + k)) :: st) σ) : lw_LT E L xs pc ls st σ := by
  refine lw_aload_n (j := 0) d0 h0 (lw_iload_n (j := 3) d1 h3 (lw_iconst d2 hv (lw_iadd d3 ?_)))
  rw [nI_add]
  exact lw_sld d4 hL hik kk
theorem lw_goodIn {z : ob_M} (hz : Cond.code z.1 z.2.1 z.2.2.1 z.2.2.2.1 ∈ ob_good) : GoodIn lw_tbl (ob_w z) := by
  intro w hw
  have h1 : w ∈ ob_good := by
    rcases List.mem_cons.mp hw with rfl | h
    · exact hz
    · exact h
  exact ⟨(List.mem_filter.mp h1).1, good_of_word (List.mem_filter.mp h1).2⟩
def lw_room (z : ob_M) : Bool := Nat.ble (z.2.2.2.2.1 + 1) 11 && Nat.ble (8 + (z.2.2.1 + 11) + z.2.2.2.2.2) 386
theorem lw_room.at {z : ob_M} (h : lw_room z = true) : (ob_rm z).frames + 1 ≤ room_1.frames ∧ 8 + (z.2.2.1 + 11) + (ob_rm z).locals ≤ room_1.locals := by
  rw [lw_room, Bool.and_eq_true] at h
  exact ⟨Nat.le_of_ble_eq_true h.1, Nat.le_of_ble_eq_true h.2⟩
theorem lw_back {Q' : Option Value → ob_Mem → Prop} {p : Program} {e : Env} {s : State} {m : MethodId} {below : List Frame} {meth : Method} {c : Code} {H : Heap} {locs : List Loc} {lsM : Array Slot} {a : Array Value} {sv : List Value} (h : lw_CX E L xs p s m meth c H locs lsM ls σ)
    (hr : va_Run p E.1 e room_1 s m #[Value.ref (E.2.2.2 140)] below meth c H locs 84 8669 0 0 (F0 m pc lsM sv) (st.map (ob_cv E)) (ob_QQ shp E Q' a) (ob_F shp E)) (k : ∀ r σ', Q' r σ' → lw_LT E L xs (pc + 3) ls (r.toList ++ st) σ') : W p E.1 e room_1 s m #[Value.ref (E.2.2.2 140)] below meth c H locs 84 8669 (lw_Z below #[Value.ref (E.2.2.2 140)] s) (F0 m pc lsM sv) := by
  obtain ⟨h1, h2, h3, h4, h5, h6, h7, h8⟩ := h
  have hF : ∀ q, ob_F shp E q → s.heap.size ≤ q := by
    rintro q ⟨i, hi, rfl⟩
    exact h5 i hi
  intro T hT X
  obtain ⟨v, st₀, t, T', L', g0, X', hL, e1, e2, ⟨⟨r, σ', hv, hq, hP1⟩, hz, hk⟩, go⟩ := hr T hT X
  cases hv
  rw [g0] at hz hk
  have hS1 : va_S (fun q : Nat => s.heap.size ≤ q) s.heap T'.heap (locs ++ L') := ⟨Nat.le_trans h7.1 (by rw [e1]; exact hz), fun q q1 q2 => by rw [e1, hk q (Nat.lt_of_lt_of_le q1 h7.1) (fun z => q2 (hF q z))]; exact h7.2.1 q q1 q2, fun q hq => by
      rcases List.mem_append.mp hq with h | h
      · exact h7.2.2 q h
      · exact hF _ (hL q h)⟩
  obtain ⟨t2, a1, b1⟩ := k r σ' hq p e s m below meth c T'.heap (locs ++ L') lsM ⟨h1, h2, h3, h4, h5, by rw [e1]; exact hP1, hS1, h8⟩ T' rfl X'
  refine ⟨t2, go t2 ?_, b1⟩
  have : (r.map (ob_cv E)).toList ++ st.map (ob_cv E) = (r.toList ++ st).map (ob_cv E) := by cases r <;> rfl
  rw [this]
  exact a1
theorem lw_call {Q' : Int32 → ob_Mem → Prop} (As : List Value) {z : ob_M} {j i ci : Nat} {rs : List Nat} {q : vw_C} (d : decode code pc = .ok (.invokevirtual j, 3)) (hlk : Cond.methodLink R_law j z.1 ∈ ob_good) (hz : ob_MV z As.length) (hR : lw_room z = true) (hs : shp[i]? = some (.inr (ci, rs))) (hc : vwCl[ci]? = some q) (hcl : q.1 = z.1.cls) (hst : (st.map fun v => v.category).sum ≤ 8) (hk0 : As.reverse ++ .ref i :: st = st0)
    (hm : ob_RM shp E z (.ref i :: As) σ (ob_qI Q')) (k : ∀ v σ', Q' v σ' → lw_LT E L xs (pc + 3) ls (.int v :: st) σ') : lw_LT E L xs pc ls st0 σ := by
  intro p e s m below meth c H locs lsM h
  have h0 := h
  obtain ⟨⟨hx, hb, hr, hml, hown, hts, hX, hbl, hlocks, hgv⟩, h2, h3, h4, h5, h6, h7, h8⟩ := h
  have hF : ∀ q, ob_F shp E q → s.heap.size ≤ q := by
    rintro q ⟨i, hi, rfl⟩
    exact h5 i hi
  have tb : ∀ w, w ∈ ob_good → w.before #[Value.ref (E.2.2.2 140)] s = true := fun w hw => hts w (List.mem_filter.mp hw).1
  subst hk0
  obtain ⟨z1, z2, z3, z4, z5, z6, z7⟩ := hz
  refine lw_back h0 (va_runV (C := z.1.cls) (b := E.2.2.2 i) (bytes := z.2.1) (maxL := z.2.2.1) (ret := z.2.2.2.1) (n := As.length) (As := As.map (ob_cv E)) (rest := st.map (ob_cv E)) ⟨hx, hb, hml, hown, hts⟩ hm ⟨callB_of As.length hts (lw_goodIn z4) rfl rfl rfl (tb _ z3) (tb _ hlk) ⟨z5, z6, z7⟩ (lw_room.at hR), (tb _ z1), (tb _ z2)⟩ ⟨ob_blind shp E _ σ, ?_, (fun U hU hW => ⟨rfl, by rw [hU]; exact h6, va_K.moved hW.alike h2, by rw [hU]; exact (h3.warm hW).kept (fun a ha hn => h7.2.1 a ha (fun z => absurd (Nat.lt_of_lt_of_le ha z) (Nat.lt_irrefl _))), h4⟩)⟩ rfl (by rw [List.length_map]) h8.1 (by rw [List.map_append, List.map_reverse, List.map_cons]; rfl) (lv_room (by rw [ob_cats]; exact hst)) d ⟨Nat.le_refl _, Nat.le_refl _⟩) (fun r σ' hq => ?_)
  · rw [← hcl]
    exact va_recv h2 h6 hc (ob_ws_at hs)
  · obtain ⟨v, rfl, hv⟩ := hq
    exact k v σ' hv
end LW
