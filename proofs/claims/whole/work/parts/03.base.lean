/-! THE JUDGEMENT: a method at a place of its code, its locals and operands and the memory as pure values (a reference is a cell's number), comes to its end with an answer and a memory that Q takes -/
abbrev ob_Mem : Type := (Nat → Nat → Int32) × (Nat → Nat → Int64)
abbrev ob_Sh : Type := List ((Nat × Nat) ⊕ (Nat × List Nat))
abbrev ob_E : Type := Launch × va_G × (Nat → ClassId) × (Nat → Nat)
abbrev ob_M : Type := MethodName × ByteArray × Nat × Option FieldType × Nat × Nat
def ob_cv (E : ob_E) : Value → Value
  | .ref i => .ref (E.2.2.2 i)
  | v => v
theorem ob_cv_cat (E : ob_E) (v : Value) : (ob_cv E v).category = v.category := by cases v <;> rfl
/-- what a field is, by its class and place: 0 a reference, 1 an int, 2 a long, 3 a boolean -/
def ob_fk : List (List Nat) := [[0, 0, 1, 1], [0, 0, 0, 0, 1, 1, 2], [0, 0, 0, 0, 0, 0, 1, 1, 1, 1], [0, 0, 1, 1, 1, 1, 1, 3], [0, 0], [0, 0, 1], [0, 0, 0, 0, 0, 0, 1, 1, 1], [0, 0, 0, 1], [0, 0, 0, 0, 0, 0, 0, 0, 0, 0, 1, 1], [1, 1, 0, 0, 1, 0, 0, 0, 0, 1, 0, 0, 0, 0, 0, 0, 1, 0, 1, 1, 1, 2, 1, 1, 1, 1, 1, 1, 0, 0, 1, 0, 0, 0, 1, 0, 0, 0, 0, 0, 0, 0, 1, 0, 0, 0, 0, 0]]
def ob_fv (E : ob_E) (σ : ob_Mem) (i : Nat) (rs : List Nat) (kd k : Nat) : Value := if kd = 0 then .ref (E.2.2.2 (rs.getD k 0)) else if kd = 2 then .long (σ.2 i k) else .int (σ.1 i k)
def ob_fs (E : ob_E) (σ : ob_Mem) (i ci : Nat) (rs : List Nat) : List Value := (ob_fk.getD ci []).mapIdx (fun k kd => ob_fv E σ i rs kd k)
def ob_ce (E : ob_E) (σ : ob_Mem) (i : Nat) (x : (Nat × Nat) ⊕ (Nat × List Nat)) : va_E := match x with
  | .inl q => .inl (E.2.2.1 q.1, q.2, if q.1 = 3 then .inr (.inl (σ.2 i)) else .inl (σ.1 i))
  | .inr q => .inr (q.1, ob_fs E σ i q.1 q.2)
def ob_ws (sh : ob_Sh) (E : ob_E) (σ : ob_Mem) : va_W := sh.mapIdx (fun i x => (E.2.2.2 i, ob_ce E σ i x))
def ob_tys (E : ob_E) : List (ClassId × FieldType) := [(E.2.2.1 0, .int), (E.2.2.1 1, .byte), (E.2.2.1 2, .boolean), (E.2.2.1 3, .long)]
/-- one int, one long, one row of ints, one row of longs written -/
def ob_wI (σ : ob_Mem) (i k : Nat) (x : Int32) : ob_Mem := (fun a b => if a = i then (if b = k then x else σ.1 a b) else σ.1 a b, σ.2)
def ob_wL (σ : ob_Mem) (i k : Nat) (x : Int64) : ob_Mem := (σ.1, fun a b => if a = i then (if b = k then x else σ.2 a b) else σ.2 a b)
def ob_wA (σ : ob_Mem) (i : Nat) (f : Nat → Int32) : ob_Mem := (fun a => if a = i then f else σ.1 a, σ.2)
theorem ob_ws_at {sh : ob_Sh} {E : ob_E} {σ : ob_Mem} {i : Nat} {x : (Nat × Nat) ⊕ (Nat × List Nat)} (h : sh[i]? = some x) : (ob_ws sh E σ)[i]? = some (E.2.2.2 i, ob_ce E σ i x) := by
  simp [ob_ws, List.getElem?_mapIdx, h]
theorem ob_ws_set {sh : ob_Sh} {E : ob_E} {σ σ' : ob_Mem} {i : Nat} {x : (Nat × Nat) ⊕ (Nat × List Nat)} {e : va_E} (h : sh[i]? = some x) (he : ob_ce E σ' i x = e) (hn : ∀ j, j ≠ i → σ'.1 j = σ.1 j ∧ σ'.2 j = σ.2 j) : (ob_ws sh E σ).set i (E.2.2.2 i, e) = ob_ws sh E σ' := by
  apply List.ext_getElem?
  intro j
  rw [List.getElem?_set]
  by_cases hj : i = j
  · subst hj
    have hl : i < sh.length := (List.getElem?_eq_some_iff.mp h).1
    rw [if_pos rfl, if_pos (by simpa [ob_ws] using hl), ob_ws_at h, he]
  · rw [if_neg hj]
    simp only [ob_ws, List.getElem?_mapIdx]
    cases hx : sh[j]? with
    | none => rfl
    | some z =>
      have h1 := hn j (fun e => hj e.symm)
      cases z with
      | inl q => simp [ob_ce, h1.1, h1.2]
      | inr q => simp [ob_ce, ob_fs, ob_fv, h1.1, h1.2]
theorem ob_ws_I {sh : ob_Sh} {E : ob_E} {σ : ob_Mem} {i t n k : Nat} {x : Int32} (h : sh[i]? = some (.inl (t, n))) (ht : t ≠ 3) : (ob_ws sh E σ).set i (E.2.2.2 i, .inl (E.2.2.1 t, n, .inl (upd (σ.1 i) k x))) = ob_ws sh E (ob_wI σ i k x) := by
  refine ob_ws_set h ?_ (fun j hj => ⟨by funext b; simp [ob_wI, hj], rfl⟩)
  simp only [ob_ce, if_neg ht]
  congr 3
  have : (ob_wI σ i k x).1 i = upd (σ.1 i) k x := by
    funext b
    simp [ob_wI, upd]
  rw [this]
theorem ob_ws_L {sh : ob_Sh} {E : ob_E} {σ : ob_Mem} {i n k : Nat} {x : Int64} (h : sh[i]? = some (.inl (3, n))) : (ob_ws sh E σ).set i (E.2.2.2 i, .inl (E.2.2.1 3, n, .inr (.inl (vp_updL (σ.2 i) k x)))) = ob_ws sh E (ob_wL σ i k x) := by
  refine ob_ws_set h ?_ (fun j hj => ⟨rfl, by funext b; simp [ob_wL, hj]⟩)
  have : (ob_wL σ i k x).2 i = vp_updL (σ.2 i) k x := by
    funext b
    simp [ob_wL, vp_updL]
  simp [ob_ce, this]
theorem ob_ws_A {sh : ob_Sh} {E : ob_E} {σ : ob_Mem} {i t n : Nat} {f : Nat → Int32} (h : sh[i]? = some (.inl (t, n))) (ht : t ≠ 3) : (ob_ws sh E σ).set i (E.2.2.2 i, .inl (E.2.2.1 t, n, .inl f)) = ob_ws sh E (ob_wA σ i f) := by
  refine ob_ws_set h ?_ (fun j hj => ⟨by simp [ob_wA, hj], rfl⟩)
  simp [ob_ce, if_neg ht, ob_wA]
theorem ob_ws_fI {sh : ob_Sh} {E : ob_E} {σ : ob_Mem} {i ci k kd : Nat} {rs : List Nat} {x : Int32} (h : sh[i]? = some (.inr (ci, rs))) (hk : (ob_fk.getD ci [])[k]? = some kd) (h0 : kd ≠ 0) (h2 : kd ≠ 2) : (ob_ws sh E σ).set i (E.2.2.2 i, .inr (ci, (ob_fs E σ i ci rs).set k (.int x))) = ob_ws sh E (ob_wI σ i k x) := by
  refine ob_ws_set h ?_ (fun j hj => ⟨by funext b; simp [ob_wI, hj], rfl⟩)
  simp only [ob_ce]
  congr 2
  apply List.ext_getElem?
  intro j
  rw [List.getElem?_set]
  simp only [ob_fs, List.getElem?_mapIdx, List.length_mapIdx]
  have hl : k < (ob_fk.getD ci []).length := (List.getElem?_eq_some_iff.mp hk).1
  by_cases hj : k = j
  · subst hj
    rw [if_pos rfl, if_pos hl, hk]
    simp [ob_fv, h0, h2, ob_wI]
  · rw [if_neg hj]
    cases (ob_fk.getD ci [])[j]? with
    | none => rfl
    | some z =>
      have hj' : ¬ j = k := fun e => hj e.symm
      simp [ob_fv, ob_wI, hj']
theorem ob_ws_fL {sh : ob_Sh} {E : ob_E} {σ : ob_Mem} {i ci k : Nat} {rs : List Nat} {x : Int64} (h : sh[i]? = some (.inr (ci, rs))) (hk : (ob_fk.getD ci [])[k]? = some 2) : (ob_ws sh E σ).set i (E.2.2.2 i, .inr (ci, (ob_fs E σ i ci rs).set k (.long x))) = ob_ws sh E (ob_wL σ i k x) := by
  refine ob_ws_set h ?_ (fun j hj => ⟨rfl, by funext b; simp [ob_wL, hj]⟩)
  simp only [ob_ce]
  congr 2
  apply List.ext_getElem?
  intro j
  rw [List.getElem?_set]
  simp only [ob_fs, List.getElem?_mapIdx, List.length_mapIdx]
  have hl : k < (ob_fk.getD ci []).length := (List.getElem?_eq_some_iff.mp hk).1
  by_cases hj : k = j
  · subst hj
    rw [if_pos rfl, if_pos hl, hk]
    simp [ob_fv, ob_wL]
  · rw [if_neg hj]
    cases (ob_fk.getD ci [])[j]? with
    | none => rfl
    | some z =>
      have hj' : ¬ j = k := fun e => hj e.symm
      simp [ob_fv, ob_wL, hj']
/-- the cells that may change, their addresses apart -/
def ob_F (sh : ob_Sh) (E : ob_E) : Nat → Prop := fun q => ∃ i, i < sh.length ∧ q = E.2.2.2 i
def ob_inj (sh : ob_Sh) (E : ob_E) : Prop := ∀ i j, i < sh.length → j < sh.length → E.2.2.2 i = E.2.2.2 j → i = j
theorem ob_inj.D {sh : ob_Sh} {E : ob_E} (h : ob_inj sh E) (σ : ob_Mem) : va_D (ob_F sh E) (ob_ws sh E σ) := by
  have key : ∀ (k : Nat) (q : Nat × va_E), (ob_ws sh E σ)[k]? = some q → k < sh.length ∧ q.1 = E.2.2.2 k := by
    intro k q hk
    have hl : k < (ob_ws sh E σ).length := (List.getElem?_eq_some_iff.mp hk).1
    have hl2 : k < sh.length := by simpa [ob_ws] using hl
    obtain ⟨x, hx⟩ : ∃ x, sh[k]? = some x := ⟨_, List.getElem?_eq_getElem hl2⟩
    rw [ob_ws_at hx] at hk
    cases hk
    exact ⟨hl2, rfl⟩
  refine ⟨fun i j p q hp hq e => ?_, fun k q hk => ⟨k, key k q hk⟩⟩
  obtain ⟨a1, a2⟩ := key i p hp
  obtain ⟨b1, b2⟩ := key j q hq
  exact h i j a1 b1 (by rw [← a2, ← b2]; exact e)
/-- what stands outside the cells that may change: the table FIGURE, the four words, two statics of the JDK, a link to a nest mate -/
def ob_fig (j : Nat) : Int32 := ([279936, 46656, 7776, 1296, 216, 36, 6, 1] : List Int32).getD j 0
def ob_sl : List Nat := [4, 6, 8, 4]
def ob_sb : List (List Int32) := [[121, 101, 97, 114], [112, 101, 114, 115, 111, 110], [98, 105, 114, 116, 104, 100, 97, 121], [103, 111, 111, 100]]
def ob_sk : List (Nat × String) := [(51, "year"), (61, "person"), (66, "birthday"), (71, "good")]
def ob_RO (sh : ob_Sh) (E : ob_E) (s : State) (H : Heap) : Prop :=
  va_Z RX1 "FIGURE" "[I" (.ref (E.2.2.2 100)) (ob_F sh E) s H ∧ va_T .int (E.2.2.2 100) 8 (fun j => .int (ob_fig j)) (ob_F sh E) s H ∧
  (∀ i, i < 4 → vk_R RX3 (ob_sk.getD i (0, "")).1 (ob_sk.getD i (0, "")).2 (E.2.2.2 (110 + i)) s) ∧ vk_S 4 ob_sl ob_sb (fun i => E.2.2.2 (110 + i)) (fun i => E.2.2.2 (120 + i)) (ob_F sh E) s H ∧
  va_Z RJ0 "COMPACT_STRINGS" "Z" (.int 1) (ob_F sh E) s H ∧ (va_Z RJ3 "SIOOBE_FORMATTER" "Ljava/util/function/BiFunction;" .null (ob_F sh E) s H ∨ va_Z RJ3 "SIOOBE_FORMATTER" "Ljava/util/function/BiFunction;" (.ref (E.2.2.2 130)) (ob_F sh E) s H) ∧ va_Nw (.methodLinkNest RX3 123 yX8_isOutside RX8) s
theorem ob_RO.kept {sh : ob_Sh} {E : ob_E} {s : State} {H H1 : Heap} (h : ob_RO sh E s H) (hq : ∀ a : Nat, a < H.size → ¬ ob_F sh E a → H1[a]? = H[a]?) : ob_RO sh E s H1 := by
  obtain ⟨h1, h2, h3, h4, h5, h6, h7⟩ := h
  exact ⟨h1.kept hq, h2.kept hq, h3, h4.kept hq, h5.kept hq, h6.imp (fun z => z.kept hq) (fun z => z.kept hq), h7⟩
theorem ob_RO.warm {sh : ob_Sh} {E : ob_E} {s U : State} {H : Heap} (h : ob_RO sh E s H) (hW : s.WarmedH U.vm) : ob_RO sh E U H := by
  obtain ⟨h1, h2, h3, h4, h5, h6, h7⟩ := h
  exact ⟨h1.moved hW.alike, h2.moved hW.alike, fun i hi => (h3 i hi).warm hW, h4.moved hW.alike, h5.moved hW.alike, h6.imp (fun z => z.moved hW.alike) (fun z => z.moved hW.alike), h7.warmM hW⟩
theorem ob_RO.same {sh : ob_Sh} {E : ob_E} {s U : State} {H : Heap} (h : ob_RO sh E s H) (hv : U.vm = s.vm) : ob_RO sh E U H := by
  obtain ⟨h1, h2, h3, h4, h5, h6, h7⟩ := h
  have ha : s.vm.Alike U.vm := by rw [hv]; exact Vm.Alike.refl _
  exact ⟨h1.moved ha, h2.moved ha, fun i hi => (h3 i hi).same hv, h4.moved ha, h5.moved ha, h6.imp (fun z => z.moved ha) (fun z => z.moved ha), h7.same rfl hv.symm⟩
/-- the words of the tables that a call may take along -/
def ob_good : List Cond := lw_tbl.filter goodWord
theorem ob_mem {w : Cond} (i : Nat) (h : lw_tbl[i]? = some w) (hg : goodWord w = true) : w ∈ ob_good := List.mem_filter.mpr ⟨List.mem_of_getElem? h, hg⟩
def ob_w (y : ob_M) : List Cond := Cond.code y.1 y.2.1 y.2.2.1 y.2.2.2.1 :: ob_good
def ob_rm (y : ob_M) : Room := { frames := y.2.2.2.2.1, cells := 0, slots := 0, locals := y.2.2.2.2.2 }
theorem ob_goodIn {y z : ob_M} (hz : Cond.code z.1 z.2.1 z.2.2.1 z.2.2.2.1 ∈ ob_good) : GoodIn (ob_w y) (ob_w z) := by
  intro w hw
  have h1 : w ∈ ob_good := by
    rcases List.mem_cons.mp hw with rfl | h
    · exact hz
    · exact h
  exact ⟨List.mem_cons_of_mem _ h1, good_of_word (List.mem_filter.mp h1).2⟩
/-- locals: null is a place of which nothing is known -/
def ob_lv (E : ob_E) : Nat → List Value → List (Nat × Value)
  | _, [] => []
  | k, v :: t => if v = .null then ob_lv E (k + 1) t else (k, ob_cv E v) :: ob_lv E (k + 1) t
theorem ob_lv_mem (E : ob_E) : ∀ (ls : List Value) (k i : Nat) (w : Value), (i, w) ∈ ob_lv E k ls ↔ ∃ v, k ≤ i ∧ ls[i - k]? = some v ∧ v ≠ .null ∧ w = ob_cv E v
  | [], k, i, w => by simp [ob_lv]
  | u :: t, k, i, w => by
    have ih := ob_lv_mem E t (k + 1) i w
    have hsplit : (∃ v, k ≤ i ∧ (u :: t)[i - k]? = some v ∧ v ≠ .null ∧ w = ob_cv E v) ↔ ((i = k ∧ u ≠ .null ∧ w = ob_cv E u) ∨ ∃ v, k + 1 ≤ i ∧ t[i - (k + 1)]? = some v ∧ v ≠ .null ∧ w = ob_cv E v) := by
      constructor
      · rintro ⟨v, h1, h2, h3, h4⟩
        by_cases hik : i = k
        · subst hik
          simp at h2
          subst h2
          exact Or.inl ⟨rfl, h3, h4⟩
        · refine Or.inr ⟨v, by omega, ?_, h3, h4⟩
          rw [show i - k = (i - (k + 1)) + 1 by omega, List.getElem?_cons_succ] at h2
          exact h2
      · rintro (⟨rfl, h3, h4⟩ | ⟨v, h1, h2, h3, h4⟩)
        · exact ⟨u, Nat.le_refl _, by simp, h3, h4⟩
        · refine ⟨v, by omega, ?_, h3, h4⟩
          rw [show i - k = (i - (k + 1)) + 1 by omega, List.getElem?_cons_succ]
          exact h2
    rw [hsplit]
    by_cases hu : u = .null
    · simp only [ob_lv, if_pos hu, ih]
      constructor
      · exact Or.inr
      · rintro (⟨-, h, -⟩ | h)
        · exact absurd hu h
        · exact h
    · simp only [ob_lv, if_neg hu, List.mem_cons, ih, Prod.mk.injEq]
      constructor
      · rintro (⟨h1, h2⟩ | h)
        · exact Or.inl ⟨h1, hu, h2⟩
        · exact Or.inr h
      · rintro (⟨h1, -, h2⟩ | h)
        · exact Or.inl ⟨h1, h2⟩
        · exact Or.inr h
def ob_L (E : ob_E) (lsM : Array Slot) (n : Nat) (ls : List Value) : Prop := lv_has lsM n (ob_lv E 0 ls)
theorem ob_L.at {E : ob_E} {lsM : Array Slot} {n : Nat} {ls : List Value} (h : ob_L E lsM n ls) {i : Nat} {v : Value} (hi : ls[i]? = some v) (hv : v ≠ .null) : lsM[i]? = some (.val (ob_cv E v)) := h.2.2 (i, ob_cv E v) ((ob_lv_mem E ls 0 i _).mpr ⟨v, Nat.zero_le _, hi, hv, rfl⟩)
theorem ob_lv_has {lsM : Array Slot} {n : Nat} {a b : List (Nat × Value)} (h : lv_has lsM n a) (hs : ∀ q ∈ b, q ∈ a) : lv_has lsM n b := ⟨h.1, h.2.1, fun q hq => h.2.2 q (hs q hq)⟩
def ob_k1 (ls : List Value) (i : Nat) : List Value := match i with
  | 0 => ls
  | j + 1 => if (ls.getD j .null).category = 2 then ls.set j .null else ls
def ob_s1 (ls : List Value) (i : Nat) (v : Value) : List Value := (ob_k1 ls i).set i v
def ob_s2 (ls : List Value) (i : Nat) (v : Value) : List Value := ((ob_k1 ls i).set (i + 1) .null).set i v
theorem ob_k1_at {ls : List Value} {i j : Nat} {v : Value} (h : (ob_k1 ls i)[j]? = some v) (hv : v ≠ .null) : ls[j]? = some v ∧ ¬ (j + 1 = i ∧ v.category = 2) := by
  cases i with
  | zero => exact ⟨h, fun e => by omega⟩
  | succ i =>
    simp only [ob_k1] at h
    split at h
    · rename_i hc
      rw [List.getElem?_set] at h
      split at h
      · split at h
        · cases h; exact absurd rfl hv
        · cases h
      · rename_i hij
        exact ⟨h, fun e => hij (by omega)⟩
    · rename_i hc
      refine ⟨h, fun e => hc ?_⟩
      have : j = i := by omega
      subst this
      rw [List.getD_eq_getElem?_getD, h]
      exact e.2
theorem ob_s1_sub {E : ob_E} {ls : List Value} {i : Nat} {v : Value} : ∀ q ∈ ob_lv E 0 (ob_s1 ls i v), q ∈ (i, ob_cv E v) :: (ob_lv E 0 ls).filter (fun q => !(q.1 == i) && !(q.1 + 1 == i && q.2.category == 2)) := by
  rintro ⟨j, w⟩ hq
  obtain ⟨u, -, h1, h2, rfl⟩ := (ob_lv_mem E _ 0 j w).mp hq
  rw [Nat.sub_zero, ob_s1, List.getElem?_set] at h1
  split at h1
  · rename_i hij
    split at h1
    · cases h1
      subst hij
      exact List.mem_cons_self
    · cases h1
  · rename_i hij
    obtain ⟨a1, a2⟩ := ob_k1_at h1 h2
    refine List.mem_cons_of_mem _ (List.mem_filter.mpr ⟨(ob_lv_mem E ls 0 j _).mpr ⟨u, Nat.zero_le _, a1, h2, rfl⟩, ?_⟩)
    have hne : (j == i) = false := by simpa using fun e : j = i => hij e.symm
    simp only [hne, ob_cv_cat, Bool.not_false, Bool.true_and, Bool.not_eq_true']
    by_cases hc : j + 1 = i
    · have : u.category ≠ 2 := fun e => a2 ⟨hc, e⟩
      simp [this]
    · simp [hc]
theorem ob_s2_sub {E : ob_E} {ls : List Value} {i : Nat} {v : Value} : ∀ q ∈ ob_lv E 0 (ob_s2 ls i v), q ∈ (i, ob_cv E v) :: (ob_lv E 0 ls).filter (fun q => !(q.1 == i) && (!(q.1 == i + 1) && !(q.1 + 1 == i && q.2.category == 2))) := by
  rintro ⟨j, w⟩ hq
  obtain ⟨u, -, h1, h2, rfl⟩ := (ob_lv_mem E _ 0 j w).mp hq
  rw [Nat.sub_zero, ob_s2, List.getElem?_set] at h1
  split at h1
  · rename_i hij
    split at h1
    · cases h1
      subst hij
      exact List.mem_cons_self
    · cases h1
  · rename_i hij
    rw [List.getElem?_set] at h1
    split at h1
    · split at h1
      · cases h1; exact absurd rfl h2
      · cases h1
    · rename_i hij2
      obtain ⟨a1, a2⟩ := ob_k1_at h1 h2
      refine List.mem_cons_of_mem _ (List.mem_filter.mpr ⟨(ob_lv_mem E ls 0 j _).mpr ⟨u, Nat.zero_le _, a1, h2, rfl⟩, ?_⟩)
      have hne : (j == i) = false := by simpa using fun e : j = i => hij e.symm
      have hne2 : (j == i + 1) = false := by simpa using fun e : j = i + 1 => hij2 e.symm
      simp only [hne, hne2, ob_cv_cat, Bool.not_false, Bool.true_and, Bool.not_eq_true']
      by_cases hc : j + 1 = i
      · have : u.category ≠ 2 := fun e => a2 ⟨hc, e⟩
        simp [this]
      · simp [hc]
/-- the locals at a method's entry -/
def ob_ex : List Value → List Value
  | [] => []
  | v :: t => if v.category = 2 then v :: .null :: ob_ex t else v :: ob_ex t
theorem ob_ex_sub (E : ob_E) (n : Nat) : ∀ (vs : List Value) (k : Nat), ∀ q ∈ ob_lv E k (ob_ex vs ++ List.replicate n .null), q ∈ lv_args k (vs.map (ob_cv E))
  | [], k => by
    rintro ⟨j, w⟩ hq
    obtain ⟨u, -, h1, h2, rfl⟩ := (ob_lv_mem E _ k j w).mp hq
    simp only [ob_ex, List.nil_append] at h1
    have := List.mem_of_getElem? h1
    exact absurd (List.eq_of_mem_replicate this) h2
  | v :: t, k => by
    intro q hq
    simp only [ob_ex, List.map_cons, lv_args, ob_cv_cat] at hq ⊢
    by_cases hc : v.category = 2
    · simp only [if_pos hc, List.cons_append, ob_lv] at hq ⊢
      split at hq
      · rename_i hv
        subst hv
        cases hc
      · rcases List.mem_cons.mp hq with rfl | h
        · exact List.mem_cons_self
        · exact List.mem_cons_of_mem _ (ob_ex_sub E n t (k + 2) q h)
    · simp only [if_neg hc, List.cons_append, ob_lv] at hq ⊢
      split at hq
      · exact List.mem_cons_of_mem _ (ob_ex_sub E n t (k + 1) q hq)
      · rcases List.mem_cons.mp hq with rfl | h
        · exact List.mem_cons_self
        · exact List.mem_cons_of_mem _ (ob_ex_sub E n t (k + 1) q h)
def ob_CX (sh : ob_Sh) (E : ob_E) (y : ob_M) (p : Program) (s : State) (m : MethodId) (args : Array Value) (meth : Method) (c : Code) (H : Heap) (locs : List Loc) (lsM : Array Slot) (ls : List Value) (σ : ob_Mem) : Prop :=
  p.tables.exec = Jvm.exec ∧ c.code = y.2.1 ∧ meth.sig.returnType = y.2.2.2.1 ∧ meth.locks = false ∧ c.maxLocals = y.2.2.1 ∧ s.vm.findClass y.1.cls = some m.cls ∧ (∀ w ∈ ob_w y, w.before args s = true) ∧ va_K E.2.1 vwCl (ob_tys E) s ∧ ob_RO sh E s s.heap ∧ ob_inj sh E ∧ va_P E.2.1 vwCl (ob_ws sh E σ) H ∧ va_S (ob_F sh E) s.heap H locs ∧ ob_L E lsM y.2.2.1 ls
def ob_QQ (sh : ob_Sh) (E : ob_E) (Q : Option Value → ob_Mem → Prop) : Array Value → State → Outcome → State → Prop := fun _ st oc t => (∃ (r : Option Value) (σ' : ob_Mem), oc = .returned (r.map (ob_cv E)) ∧ Q r σ' ∧ va_P E.2.1 vwCl (ob_ws sh E σ') t.heap) ∧ va_F (ob_F sh E) st t
def ob_PP (sh : ob_Sh) (E : ob_E) (vs : List Value) (σ : ob_Mem) : Array Value → State → Prop := fun v U => v = (vs.map (ob_cv E)).toArray ∧ va_P E.2.1 vwCl (ob_ws sh E σ) U.heap ∧ va_K E.2.1 vwCl (ob_tys E) U ∧ ob_RO sh E U U.heap ∧ ob_inj sh E
/-- a method called with these arguments, over this memory -/
def ob_RM (sh : ob_Sh) (E : ob_E) (y : ob_M) (vs : List Value) (σ : ob_Mem) (Q : Option Value → ob_Mem → Prop) : Prop := Met E.1 y.1 (ob_w y) (ob_rm y) (ob_PP sh E vs σ) (ob_QQ sh E Q) 0 0 (ob_F sh E)
/-- a method at a place of its code -/
def ob_RT (sh : ob_Sh) (E : ob_E) (y : ob_M) (pc : Nat) (ls st : List Value) (σ : ob_Mem) (Q : Option Value → ob_Mem → Prop) : Prop :=
  ∀ (p : Program) (e : Env) (s : State) (m : MethodId) (args : Array Value) (below : List Frame) (meth : Method) (c : Code) (H : Heap) (locs : List Loc) (lsM : Array Slot), ob_CX sh E y p s m args meth c H locs lsM ls σ →
    W p E.1 e (ob_rm y) s m args below meth c H locs 0 0 (MQ below (ob_QQ sh E Q) args s 0 0 (ob_F sh E)) (F0 m pc lsM (st.map (ob_cv E)))
theorem ob_blind (sh : ob_Sh) (E : ob_E) (vs : List Value) (σ : ob_Mem) : FrameBlind (ob_PP sh E vs σ) := by
  intro a U g mk q
  obtain ⟨q1, q2, q3, q4, q5⟩ := q
  exact ⟨q1, q2, va_K.moved (u := U) (U := U.calling g mk a) (Vm.Alike.refl U.vm) q3, ob_RO.same (U := U.calling g mk a) q4 rfl, q5⟩
/-- from the entry of the code to the call -/
theorem ob_entry {sh : ob_Sh} {E : ob_E} {y : ob_M} {vs : List Value} {σ : ob_Mem} {Q : Option Value → ob_Mem → Prop} (n : Nat) {ls : List Value} (hls : ob_ex vs ++ List.replicate n .null = ls) (hy : plainName y.1.cls = true) (hn : (lg_sl (vs.map (ob_cv E))).length ≤ y.2.2.1) (h : ob_RT sh E y 0 ls [] σ Q) : ob_RM sh E y vs σ Q := by
  refine Met.ofW (cc := y.2.1) (maxL := y.2.2.1) (ret := y.2.2.2.1) hy rfl ?_
  intro p e s m args below meth c s₁ B hml hv
  obtain ⟨rfl, hP, hK, hRO, hi⟩ := hv
  have hl := lv_entry (vs.map (ob_cv E)) (n := y.2.2.1) hn
  rw [lg_entry_eq]
  generalize (lg_sl (vs.map (ob_cv E)) ++ List.replicate (y.2.2.1 - (lg_sl (vs.map (ob_cv E))).length) Slot.unset).toArray = lsM at hl ⊢
  have hL : ob_L E lsM y.2.2.1 ls := by
    subst hls
    exact ob_lv_has hl (ob_ex_sub E n vs 0)
  exact h p e s m _ below meth c s.heap [] lsM ⟨B.exec, B.bytes, B.returns, B.notSynchronized, hml, findClass_of_methodNamed B.named, atoms_spec (ws := ob_w y) B.pre, hK, hRO, hi, hP, va_S.rf, hL⟩
