/-! numbers, sets, loops, and the two sides' memories as one picture -/
theorem ob_loop {T : Nat → Prop} {B : Nat} (h0 : T B) (hs : ∀ i, i < B → T (i + 1) → T i) : ∀ i, i ≤ B → T i := by
  intro i hi
  obtain ⟨n, hn⟩ : ∃ n, i + n = B := ⟨B - i, by omega⟩
  induction n generalizing i with
  | zero => rw [show i = B by omega]; exact h0
  | succ n ih => exact hs i (by omega) (ih (i + 1) (by omega) (by omega))
theorem ob_loop0 {T : Nat → Prop} {B : Nat} (h0 : T B) (hs : ∀ i, i < B → T (i + 1) → T i) : T 0 := ob_loop h0 hs 0 (Nat.zero_le _)
theorem ob_bt {c A B : Prop} (h : ¬ c) (a : A) : (¬ c → A) ∧ (c → B) := ⟨fun _ => a, fun z => absurd z h⟩
theorem ob_bf {c A B : Prop} (h : c) (b : B) : (¬ c → A) ∧ (c → B) := ⟨fun z => absurd h z, fun _ => b⟩
theorem ob_in {n N : Nat} (h : n < N) (hN : N ≤ 100000) : vp_in (nI n) N := vp_in_nI h (by omega)
theorem ob_cl {n : Nat} (h : n < 2000000000) : (nI n).toNatClampNeg = n := nI_clamp (by omega)
theorem ob_le {a b : Nat} (ha : a < 2000000000) (hb : b < 2000000000) : nI a ≤ nI b ↔ a ≤ b := nI_leI (by omega) (by omega)
theorem ob_lt {a b : Nat} (ha : a < 2000000000) (hb : b < 2000000000) : nI a < nI b ↔ a < b := nI_ltI (by omega) (by omega)
theorem ob_eq {a b : Nat} (ha : a < 2000000000) (hb : b < 2000000000) : nI a = nI b ↔ a = b := nI_eq (by omega) (by omega)
theorem ob_div {a d : Nat} (ha : a < 2000000000) (h0 : 0 < d) (hd : d < 2000000000) : nI a / nI d = nI (a / d) := pk_div (by omega) h0 (by omega)
theorem ob_mod {a d : Nat} (ha : a < 2000000000) (h0 : 0 < d) (hd : d < 2000000000) : ob_rem (nI a) (nI d) = nI (a % d) := pk_rem (by omega) h0 (by omega)
theorem ob_sub {a b : Nat} (h : b ≤ a) : nI a - nI b = nI (a - b) := pk_sub h
theorem ob_m1 {n : Nat} (h : n < 2000000000) : ¬ nI n = -1 := by
  intro e
  have h1 : (nI n).toInt = (-1 : Int32).toInt := by rw [e]
  rw [nI_toInt (by omega)] at h1
  have h2 : (-1 : Int32).toInt = -1 := by decide
  omega
theorem ob_nneg {n : Nat} (h : n < 2000000000) : ¬ nI n < 0 := nI_pos (by omega)
theorem ob_pos {n : Nat} (h : n < 2000000000) : 0 ≤ nI n := nI_pos' (by omega)
theorem ob_inv {x : Int32} {n : Nat} (h0 : ¬ x < 0) (h1 : ¬ nI n ≤ x) (hn : n < 2000000000) : ∃ j, j < n ∧ x = nI j := by
  rcases pk_ix x (n := n) (by omega) with h | h | h
  · exact absurd h h0
  · exact absurd h h1
  · exact h
/-- who: nobody, somebody -/
def ob_oI : Option Nat → Int32
  | none => -1
  | some p => nI p
def ob_bI : Bool → Int32
  | false => 0
  | true => 1
theorem ob_oI_m1 {o : Option Nat} (h : ∀ p, o = some p → p < 2000000000) : ob_oI o = -1 ↔ o = none := by
  cases o with
  | none => simp [ob_oI]
  | some p => simp [ob_oI, ob_m1 (h p rfl)]
theorem ob_oI_lt {o : Option Nat} (h : ∀ p, o = some p → p < 2000000000) : ob_oI o < 0 ↔ o = none := by
  cases o with
  | none => simp [ob_oI]
  | some p => simp [ob_oI, ob_nneg (h p rfl)]
theorem ob_oI_ge {o : Option Nat} (h : ∀ p, o = some p → p < 2000000000) : 0 ≤ ob_oI o ↔ o ≠ none := by
  cases o with
  | none => simp [ob_oI]
  | some p => simp [ob_oI, ob_pos (h p rfl)]
theorem ob_oI_eq {o : Option Nat} (h : ∀ p, o = some p → p < 2000000000) {q : Nat} (hq : q < 2000000000) : ob_oI o = nI q ↔ o = some q := by
  cases o with
  | none =>
    simp only [ob_oI, reduceCtorEq, iff_false]
    exact fun e => ob_m1 hq e.symm
  | some p => simp [ob_oI, ob_eq (h p rfl) hq]
theorem ob_oI_inj {o q : Option Nat} (h : ∀ p, o = some p → p < 2000000000) (h2 : ∀ p, q = some p → p < 2000000000) : ob_oI o = ob_oI q ↔ o = q := by
  cases q with
  | none => exact ob_oI_m1 h
  | some p => exact ob_oI_eq h (h2 p rfl)
/-- a set out of a test, place by place -/
def ob_sf (f : Nat → Bool) : Nat → Int32
  | 0 => 0
  | n + 1 => if f n then ob_sf f n ||| (1 <<< (nI n &&& 31)) else ob_sf f n
theorem ob_sf_congr {f g : Nat → Bool} : ∀ {n : Nat}, (∀ i, i < n → f i = g i) → ob_sf f n = ob_sf g n
  | 0, _ => rfl
  | n + 1, h => by
    simp only [ob_sf]
    rw [h n (by omega), ob_sf_congr (fun i hi => h i (by omega))]
theorem ob_or0 (x : Int32) : x ||| 0 = x := by
  apply Int32.toBitVec_inj.1
  simp
/-- the sets of up to eight, bit by bit, by trying -/
def ob_t8 (a b c d e f g h : Bool) : Nat → Bool
  | 0 => a
  | 1 => b
  | 2 => c
  | 3 => d
  | 4 => e
  | 5 => f
  | 6 => g
  | _ => h
theorem ob_sf_t8 (f : Nat → Bool) {n : Nat} (hn : n ≤ 8) : ob_sf f n = ob_sf (ob_t8 (f 0) (f 1) (f 2) (f 3) (f 4) (f 5) (f 6) (f 7)) n := by
  apply ob_sf_congr
  intro i hi
  match i, hi with
  | 0, _ => rfl
  | 1, _ => rfl
  | 2, _ => rfl
  | 3, _ => rfl
  | 4, _ => rfl
  | 5, _ => rfl
  | 6, _ => rfl
  | 7, _ => rfl
  | k + 8, h => omega
theorem ob_sf_bit8 : ∀ (a b c d e f g h : Bool) (n p : Fin 9), p.val < n.val → (decide (((ob_sf (ob_t8 a b c d e f g h) n.val >>> (nI p.val &&& 31)) &&& 1) = 1) = ob_t8 a b c d e f g h p.val) := by decide +kernel
theorem ob_sf_bit {f : Nat → Bool} {n p : Nat} (hn : n ≤ 8) (hp : p < n) : ((ob_sf f n >>> (nI p &&& 31)) &&& 1) = 1 ↔ f p = true := by
  have h := ob_sf_bit8 (f 0) (f 1) (f 2) (f 3) (f 4) (f 5) (f 6) (f 7) ⟨n, by omega⟩ ⟨p, by omega⟩ hp
  rw [← ob_sf_t8 f hn] at h
  have h2 : ob_t8 (f 0) (f 1) (f 2) (f 3) (f 4) (f 5) (f 6) (f 7) p = f p := by
    match p, (show p < 8 by omega) with
    | 0, _ => rfl
    | 1, _ => rfl
    | 2, _ => rfl
    | 3, _ => rfl
    | 4, _ => rfl
    | 5, _ => rfl
    | 6, _ => rfl
    | 7, _ => rfl
    | k + 8, h => omega
  dsimp only at h
  rw [h2] at h
  rw [← h]
  simp
/-- THE LAND: N, P, B; days, owners, prices, goods, ages, purses as told -/
abbrev LdT : Type := (Nat × Nat × Nat) × (Nat → Nat) × (Nat → Nat) × (Nat → Nat) × (Nat → Nat) × (Nat → Nat) × (Nat → Nat)
abbrev la_N (l : LdT) : Nat := l.1.1
abbrev la_P (l : LdT) : Nat := l.1.2.1
abbrev la_B (l : LdT) : Nat := l.1.2.2
abbrev la_D (l : LdT) : Nat → Nat := l.2.1
abbrev la_O (l : LdT) : Nat → Nat := l.2.2.1
abbrev la_C (l : LdT) : Nat → Nat := l.2.2.2.1
abbrev la_G (l : LdT) : Nat → Nat := l.2.2.2.2.1
abbrev la_A (l : LdT) : Nat → Nat := l.2.2.2.2.2.1
abbrev la_U (l : LdT) : Nat → Nat := l.2.2.2.2.2.2
/-- WHAT IS SO: today, the seed; ages, purses, who lives; owners, borrowers, ends of loans -/
abbrev StT : Type := Nat × Int32 × (Nat → Nat) × (Nat → Int32) × (Nat → Bool) × (Nat → Option Nat) × (Nat → Option Nat) × (Nat → Nat)
abbrev st_t (s : StT) : Nat := s.1
abbrev st_x (s : StT) : Int32 := s.2.1
abbrev st_a (s : StT) : Nat → Nat := s.2.2.1
abbrev st_u (s : StT) : Nat → Int32 := s.2.2.2.1
abbrev st_v (s : StT) : Nat → Bool := s.2.2.2.2.1
abbrev st_w (s : StT) : Nat → Option Nat := s.2.2.2.2.2.1
abbrev st_b (s : StT) : Nat → Option Nat := s.2.2.2.2.2.2.1
abbrev st_e (s : StT) : Nat → Nat := s.2.2.2.2.2.2.2
def ob_tI (o : Option Nat) (e : Nat) : Int32 := match o with
  | none => -1
  | some _ => nI e
def ob_lok (l : LdT) : Prop := 2 ≤ la_N l ∧ la_N l ≤ 60 ∧ la_P l ≤ 6 ∧ la_B l ≤ 8 ∧ (∀ b, b < la_B l → la_D l b < la_N l ∧ la_O l b < la_P l ∧ 1 ≤ la_C l b ∧ la_C l b ≤ 99) ∧ (∀ a, la_G l a ≤ 99) ∧ (∀ a, 120 < a → la_G l a = 0) ∧ ∀ p, p < la_P l → la_A l p ≤ 120
def ob_sok (l : LdT) (s : StT) (c : Nat) : Prop := st_t s ≤ 9999 * c ∧ ¬ st_x s < 0 ∧ (∀ p, p < la_P l → st_a s p ≤ 999) ∧ (∀ b, b < la_B l → (st_w s b = none → ∀ p, p < la_P l → st_v s p = false) ∧ (∀ p, st_w s b = some p → p < la_P l ∧ st_v s p = true) ∧ ∀ q, st_b s b = some q → q < la_P l ∧ st_v s q = true ∧ st_w s b ≠ none ∧ st_w s b ≠ some q ∧ st_t s < st_e s b ∧ st_e s b ≤ st_t s + 9999)
/-- the class's land at the cells from c on -/
def pi_CL (M : Nat → Nat → Int32) (c : Nat) (l : LdT) : Prop := M c 6 = nI (la_N l) ∧ M c 7 = nI (la_P l) ∧ M c 8 = nI (la_B l) ∧ (∀ p, p < la_P l → M (c + 1) p = nI (la_A l p) ∧ M (c + 2) p = nI (la_U l p)) ∧ (∀ b, b < la_B l → M (c + 3) b = nI (la_D l b) ∧ M (c + 4) b = nI (la_O l b) ∧ M (c + 5) b = nI (la_C l b)) ∧ ∀ a, a ≤ 120 → (M (c + 6) a = -1 ∧ la_G l a = 0) ∨ M (c + 6) a = nI (la_G l a)
/-- the class's state at the cells from c on -/
def pi_CS (M : Nat → Nat → Int32) (c : Nat) (l : LdT) (s : StT) : Prop := M c 6 = ob_sf (st_v s) (la_P l) ∧ M c 7 = nI (st_t s) ∧ M c 8 = st_x s ∧ (∀ p, p < la_P l → M (c + 1) p = nI (st_a s p) ∧ M (c + 2) p = st_u s p) ∧ ∀ b, b < la_B l → M (c + 3) b = ob_oI (st_w s b) ∧ M (c + 4) b = ob_oI (st_b s b) ∧ M (c + 5) b = ob_tI (st_b s b) (st_e s b)
/-- the reference's land and state -/
def pi_ML (M : Nat → Nat → Int32) (l : LdT) : Prop := M 53 0 = nI (la_N l) ∧ M 53 1 = nI (la_P l) ∧ M 53 4 = nI (la_B l) ∧ (∀ p, p < la_P l → M 54 p = nI (la_A l p) ∧ M 55 p = nI (la_U l p)) ∧ (∀ b, b < la_B l → M 56 b = nI (la_D l b) ∧ M 57 b = nI (la_O l b) ∧ M 58 b = nI (la_C l b)) ∧ ∀ a, a ≤ 120 → M 59 a = nI (la_G l a)
def pi_MS (M : Nat → Nat → Int32) (l : LdT) (s : StT) : Prop := M 53 9 = nI (st_t s) ∧ M 53 16 = st_x s ∧ (∀ p, p < la_P l → M 60 p = nI (st_a s p) ∧ M 61 p = st_u s p ∧ M 62 p = ob_bI (st_v s p)) ∧ ∀ b, b < la_B l → M 63 b = ob_oI (st_w s b) ∧ M 64 b = ob_oI (st_b s b) ∧ M 65 b = ob_tI (st_b s b) (st_e s b)
