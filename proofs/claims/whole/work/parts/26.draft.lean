/-! the draft of a land, and a clause in abstract -/
abbrev DrT : Type := (Nat × Nat × Nat × Nat) × (Nat → Nat) × (Nat → Nat) × (Nat → Nat) × (Nat → Nat) × (Nat → Nat) × (Nat → Option Nat)
abbrev dr_Y (d : DrT) : Nat := d.1.1
abbrev dr_P (d : DrT) : Nat := d.1.2.1
abbrev dr_B (d : DrT) : Nat := d.1.2.2.1
abbrev dr_G (d : DrT) : Nat := d.1.2.2.2
abbrev dr_A (d : DrT) : Nat → Nat := d.2.1
abbrev dr_U (d : DrT) : Nat → Nat := d.2.2.1
abbrev dr_D (d : DrT) : Nat → Nat := d.2.2.2.1
abbrev dr_O (d : DrT) : Nat → Nat := d.2.2.2.2.1
abbrev dr_C (d : DrT) : Nat → Nat := d.2.2.2.2.2.1
abbrev dr_g (d : DrT) : Nat → Option Nat := d.2.2.2.2.2.2
def dr_N (d : DrT) : Nat := if dr_Y d = 0 then 12 else dr_Y d
def ob_dok (d : DrT) : Prop := (dr_Y d = 0 ∨ (2 ≤ dr_Y d ∧ dr_Y d ≤ 60)) ∧ dr_P d ≤ 6 ∧ dr_B d ≤ 8 ∧ dr_G d ≤ 10 ∧ (∀ p, p < dr_P d → dr_A d p ≤ 120 ∧ dr_U d p ≤ 999) ∧ (∀ b, b < dr_B d → dr_D d b < dr_N d ∧ dr_O d b < dr_P d ∧ 1 ≤ dr_C d b ∧ dr_C d b ≤ 99) ∧ ∀ a g, dr_g d a = some g → g ≤ 99
def ob_u1 (f : Nat → Nat) (i x : Nat) : Nat → Nat := fun j => if j = i then x else f j
def dr_setY (d : DrT) (v : Nat) : DrT := ((v, dr_P d, dr_B d, dr_G d), d.2)
def dr_addP (d : DrT) (a u : Nat) : DrT := ((dr_Y d, dr_P d + 1, dr_B d, dr_G d), ob_u1 (dr_A d) (dr_P d) a, ob_u1 (dr_U d) (dr_P d) u, dr_D d, dr_O d, dr_C d, dr_g d)
def dr_addB (d : DrT) (x y z : Nat) : DrT := ((dr_Y d, dr_P d, dr_B d + 1, dr_G d), dr_A d, dr_U d, ob_u1 (dr_D d) (dr_B d) x, ob_u1 (dr_O d) (dr_B d) y, ob_u1 (dr_C d) (dr_B d) z, dr_g d)
def dr_addG (d : DrT) (a g : Nat) : DrT := ((dr_Y d, dr_P d, dr_B d, dr_G d + 1), dr_A d, dr_U d, dr_D d, dr_O d, dr_C d, fun j => if j = a then some g else dr_g d j)
/-- the draft in the class -/
def pi_CD (M : Nat → Nat → Int32) (d : DrT) : Prop := M 3 6 = nI (dr_N d) ∧ M 1 7 = ob_bI (decide (dr_Y d ≠ 0)) ∧ M 3 7 = nI (dr_P d) ∧ M 3 8 = nI (dr_B d) ∧ M 3 9 = nI (dr_G d) ∧ (∀ p, p < dr_P d → M 4 p = nI (dr_A d p) ∧ M 5 p = nI (dr_U d p)) ∧ (∀ b, b < dr_B d → M 6 b = nI (dr_D d b) ∧ M 7 b = nI (dr_O d b) ∧ M 8 b = nI (dr_C d b)) ∧ ∀ a, a ≤ 120 → M 9 a = ob_oI (dr_g d a)
/-- the draft in the reference -/
def pi_MD (M : Nat → Nat → Int32) (d : DrT) : Prop := M 53 25 = nI (dr_Y d) ∧ M 53 26 = nI (dr_P d + dr_B d + dr_G d) ∧ M 53 27 = nI (dr_P d) ∧ M 53 30 = nI (dr_B d) ∧ M 53 34 = nI (dr_G d) ∧ (∀ p, p < dr_P d → M 67 p = nI (dr_A d p) ∧ M 68 p = nI (dr_U d p)) ∧ (∀ b, b < dr_B d → M 69 b = nI (dr_D d b) ∧ M 70 b = nI (dr_O d b) ∧ M 71 b = nI (dr_C d b)) ∧ ∀ a, a ≤ 120 → M 72 a = ob_oI (dr_g d a)
def ob_aft {α : Type} (T : Nat → Nat) (n : Nat) (r : (Nat × Nat) ⊕ (Nat × Nat × Nat)) (k : Nat → Nat → Nat → (Nat × Nat) ⊕ α) : (Nat × Nat) ⊕ α := match r with
  | .inl f => .inl f
  | .inr (v, p, e) => k v p e
def ob_fin (T : Nat → Nat) (n a : Nat) (d : DrT) : (Nat × Nat) ⊕ (DrT × Nat) := match ob_en T n a with
  | .inl f => .inl f
  | .inr e => .inr (d, e)
def ob_clY (T : Nat → Nat) (n : Nat) (d : DrT) (a e : Nat) : (Nat × Nat) ⊕ (DrT × Nat) := if dr_P d + dr_B d + dr_G d ≠ 0 then .inl (1, a) else if dr_Y d ≠ 0 then .inl (3, a) else ob_aft T n (ob_nm T n 2 61 e) fun v _ e1 => ob_fin T n e1 (dr_setY d v)
def ob_clP (T : Nat → Nat) (n : Nat) (d : DrT) (a e : Nat) : (Nat × Nat) ⊕ (DrT × Nat) := if dr_P d = 6 then .inl (3, a) else ob_aft T n (ob_nm T n 0 121 e) fun v _ e1 => ob_aft T n (ob_nm T n 0 1000 e1) fun u _ e2 => ob_fin T n e2 (dr_addP d v u)
def ob_clB (T : Nat → Nat) (n : Nat) (d : DrT) (a e : Nat) : (Nat × Nat) ⊕ (DrT × Nat) := if dr_B d = 8 then .inl (3, a) else ob_aft T n (ob_nm T n 0 (dr_N d) e) fun x _ e1 => ob_aft T n (ob_nm T n 0 (dr_P d) e1) fun y _ e2 => ob_aft T n (ob_nm T n 1 100 e2) fun z _ e3 => ob_fin T n e3 (dr_addB d x y z)
def ob_clG (T : Nat → Nat) (n : Nat) (d : DrT) (a e : Nat) : (Nat × Nat) ⊕ (DrT × Nat) := if dr_G d = 10 then .inl (3, a) else ob_aft T n (ob_nm T n 0 121 e) fun v p e1 => if dr_g d v ≠ none then .inl (4, p) else ob_aft T n (ob_nm T n 0 100 e1) fun g _ e2 => ob_fin T n e2 (dr_addG d v g)
theorem ob_nm_v {T : Nat → Nat} {n lo hi a v p e : Nat} (h : ob_nm T n lo hi a = .inr (v, p, e)) : lo ≤ v ∧ v < hi := by
  unfold ob_nm at h
  split at h
  · cases h
  · split at h
    · rename_i z
      cases h
      exact z.2
    · cases h
theorem ob_nm_c {T : Nat → Nat} {n lo hi a c p : Nat} (h : ob_nm T n lo hi a = .inl (c, p)) : c = 1 ∨ c = 2 := by
  unfold ob_nm at h
  split at h
  · cases h; exact Or.inl rfl
  · split at h
    · cases h
    · cases h; exact Or.inr rfl
theorem ob_en_c {T : Nat → Nat} {n a c p : Nat} (h : ob_en T n a = .inl (c, p)) : c = 1 := by
  unfold ob_en at h
  split at h
  · cases h
  · cases h; rfl
section CK
variable {E : ob_E} {σ : ob_Mem} {T : Nat → Nat} {n : Nat} {d : DrT}
theorem pi_CD.f1 {σ' : ob_Mem} (h : pi_CD σ.1 d) (f : ob_f1 σ σ') : pi_CD σ'.1 d := by
  unfold pi_CD
  rw [f.1 3 (by decide), f.1 4 (by decide), f.1 5 (by decide), f.1 6 (by decide), f.1 7 (by decide), f.1 8 (by decide), f.1 9 (by decide), f.2.2]
  exact h
/-- once there is a fault, a year's clause does nothing more -/
theorem k_yearX {Q : ob_Mem → Prop} {x : Int32} (h4 : ¬ σ.1 1 4 = 0) (h : Q σ) : ob_RT shp E oX3_readYear 32 [.ref 1, .int x, .null] [] σ (ob_qV Q) := b_X3_readYear_32 (k_numberX h4 (k_endX h4 (ob_bt h4 h)))
theorem k_personX {Q : ob_Mem → Prop} {x : Int32} (h4 : ¬ σ.1 1 4 = 0) (h : Q σ) : ob_RT shp E oX3_readPerson 18 [.ref 1, .int x, .null, .null] [] σ (ob_qV Q) := b_X3_readPerson_18 (k_numberX h4 (k_numberX h4 (k_endX h4 (ob_bt h4 h))))
theorem k_birthdayX {Q : ob_Mem → Prop} {x : Int32} (h4 : ¬ σ.1 1 4 = 0) (h : Q σ) : ob_RT shp E oX3_readBirthday 18 [.ref 1, .int x, .null, .null, .null] [] σ (ob_qV Q) := b_X3_readBirthday_18 (k_numberX h4 (k_numberX h4 (k_numberX h4 (k_endX h4 (ob_bt h4 h)))))
theorem k_goodX2 {Q : ob_Mem → Prop} {x y : Int32} (h4 : ¬ σ.1 1 4 = 0) (h : Q σ) : ob_RT shp E oX3_readGood 53 [.ref 1, .int x, .int y, .null] [] σ (ob_qV Q) := b_X3_readGood_53 (k_numberX h4 (k_endX h4 (ob_bt h4 h)))
theorem k_goodX {Q : ob_Mem → Prop} {x : Int32} (h4 : ¬ σ.1 1 4 = 0) (h : Q σ) : ob_RT shp E oX3_readGood 18 [.ref 1, .int x, .null, .null] [] σ (ob_qV Q) := b_X3_readGood_18 (k_numberX h4 (ob_bt h4 (k_goodX2 h4 h)))
end CK
