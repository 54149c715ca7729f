/-! the reference's numbers into rows -/
section MI
variable {E : ob_E} {σ : ob_Mem} {T : Nat → Nat} {n : Nat}
theorem n_into_67 {Q : Int32 → ob_Mem → Prop} {a lo hi i : Nat} {xh : Int32} (hi2 : i < 6) (ht : pi_MT σ.1 T n) (ha : a ≤ n) (h3 : σ.1 53 20 = nI a) (hlo : lo ≤ 2) (hhi : hi ≤ 1000) (hx : xh = nI hi - 1) (hf : ∀ c p, ob_nm T n lo hi a = .inl (c, p) → ∀ (x : Int32) (σ' : ob_Mem), ob_f5 σ σ' → σ'.1 53 19 = nI p → Q (nI c) (ob_wI σ' 67 i x)) (hv : ∀ v p e, ob_nm T n lo hi a = .inr (v, p, e) → ∀ σ' : ob_Mem, ob_f5 σ σ' → σ'.1 53 20 = nI e → e ≤ n → σ'.1 53 19 = σ.1 53 19 → Q 0 (ob_wI σ' 67 i (nI v))) : ob_RM shp E oX9_into [.ref 53, .ref 67, .int (nI i), .int (nI lo), .int xh] σ (ob_qI Q) := by
  have hin : vp_in (nI i) 6 := ob_in hi2 (by omega)
  refine m_X9_into_53_67 (b_X9_into_53_67_0 (n_number ht ha h3 hlo hhi hx (fun c p hn σ1 f1 a5 => ⟨hin, ?_⟩) (fun v p e hn σ1 f1 a3 ae a5 a6 a7 => ⟨hin, ?_⟩)))
  · rw [ob_cl (n := i) (by omega)]
    exact hf c p hn _ σ1 f1 a5
  · rw [ob_cl (n := i) (by omega), a6]
    exact hv v p e hn σ1 f1 a3 ae a5
theorem n_into_68 {Q : Int32 → ob_Mem → Prop} {a lo hi i : Nat} {xh : Int32} (hi2 : i < 6) (ht : pi_MT σ.1 T n) (ha : a ≤ n) (h3 : σ.1 53 20 = nI a) (hlo : lo ≤ 2) (hhi : hi ≤ 1000) (hx : xh = nI hi - 1) (hf : ∀ c p, ob_nm T n lo hi a = .inl (c, p) → ∀ (x : Int32) (σ' : ob_Mem), ob_f5 σ σ' → σ'.1 53 19 = nI p → Q (nI c) (ob_wI σ' 68 i x)) (hv : ∀ v p e, ob_nm T n lo hi a = .inr (v, p, e) → ∀ σ' : ob_Mem, ob_f5 σ σ' → σ'.1 53 20 = nI e → e ≤ n → σ'.1 53 19 = σ.1 53 19 → Q 0 (ob_wI σ' 68 i (nI v))) : ob_RM shp E oX9_into [.ref 53, .ref 68, .int (nI i), .int (nI lo), .int xh] σ (ob_qI Q) := by
  have hin : vp_in (nI i) 6 := ob_in hi2 (by omega)
  refine m_X9_into_53_68 (b_X9_into_53_68_0 (n_number ht ha h3 hlo hhi hx (fun c p hn σ1 f1 a5 => ⟨hin, ?_⟩) (fun v p e hn σ1 f1 a3 ae a5 a6 a7 => ⟨hin, ?_⟩)))
  · rw [ob_cl (n := i) (by omega)]
    exact hf c p hn _ σ1 f1 a5
  · rw [ob_cl (n := i) (by omega), a6]
    exact hv v p e hn σ1 f1 a3 ae a5
theorem n_into_69 {Q : Int32 → ob_Mem → Prop} {a lo hi i : Nat} {xh : Int32} (hi2 : i < 8) (ht : pi_MT σ.1 T n) (ha : a ≤ n) (h3 : σ.1 53 20 = nI a) (hlo : lo ≤ 2) (hhi : hi ≤ 1000) (hx : xh = nI hi - 1) (hf : ∀ c p, ob_nm T n lo hi a = .inl (c, p) → ∀ (x : Int32) (σ' : ob_Mem), ob_f5 σ σ' → σ'.1 53 19 = nI p → Q (nI c) (ob_wI σ' 69 i x)) (hv : ∀ v p e, ob_nm T n lo hi a = .inr (v, p, e) → ∀ σ' : ob_Mem, ob_f5 σ σ' → σ'.1 53 20 = nI e → e ≤ n → σ'.1 53 19 = σ.1 53 19 → Q 0 (ob_wI σ' 69 i (nI v))) : ob_RM shp E oX9_into [.ref 53, .ref 69, .int (nI i), .int (nI lo), .int xh] σ (ob_qI Q) := by
  have hin : vp_in (nI i) 8 := ob_in hi2 (by omega)
  refine m_X9_into_53_69 (b_X9_into_53_69_0 (n_number ht ha h3 hlo hhi hx (fun c p hn σ1 f1 a5 => ⟨hin, ?_⟩) (fun v p e hn σ1 f1 a3 ae a5 a6 a7 => ⟨hin, ?_⟩)))
  · rw [ob_cl (n := i) (by omega)]
    exact hf c p hn _ σ1 f1 a5
  · rw [ob_cl (n := i) (by omega), a6]
    exact hv v p e hn σ1 f1 a3 ae a5
theorem n_into_70 {Q : Int32 → ob_Mem → Prop} {a lo hi i : Nat} {xh : Int32} (hi2 : i < 8) (ht : pi_MT σ.1 T n) (ha : a ≤ n) (h3 : σ.1 53 20 = nI a) (hlo : lo ≤ 2) (hhi : hi ≤ 1000) (hx : xh = nI hi - 1) (hf : ∀ c p, ob_nm T n lo hi a = .inl (c, p) → ∀ (x : Int32) (σ' : ob_Mem), ob_f5 σ σ' → σ'.1 53 19 = nI p → Q (nI c) (ob_wI σ' 70 i x)) (hv : ∀ v p e, ob_nm T n lo hi a = .inr (v, p, e) → ∀ σ' : ob_Mem, ob_f5 σ σ' → σ'.1 53 20 = nI e → e ≤ n → σ'.1 53 19 = σ.1 53 19 → Q 0 (ob_wI σ' 70 i (nI v))) : ob_RM shp E oX9_into [.ref 53, .ref 70, .int (nI i), .int (nI lo), .int xh] σ (ob_qI Q) := by
  have hin : vp_in (nI i) 8 := ob_in hi2 (by omega)
  refine m_X9_into_53_70 (b_X9_into_53_70_0 (n_number ht ha h3 hlo hhi hx (fun c p hn σ1 f1 a5 => ⟨hin, ?_⟩) (fun v p e hn σ1 f1 a3 ae a5 a6 a7 => ⟨hin, ?_⟩)))
  · rw [ob_cl (n := i) (by omega)]
    exact hf c p hn _ σ1 f1 a5
  · rw [ob_cl (n := i) (by omega), a6]
    exact hv v p e hn σ1 f1 a3 ae a5
theorem n_into_71 {Q : Int32 → ob_Mem → Prop} {a lo hi i : Nat} {xh : Int32} (hi2 : i < 8) (ht : pi_MT σ.1 T n) (ha : a ≤ n) (h3 : σ.1 53 20 = nI a) (hlo : lo ≤ 2) (hhi : hi ≤ 1000) (hx : xh = nI hi - 1) (hf : ∀ c p, ob_nm T n lo hi a = .inl (c, p) → ∀ (x : Int32) (σ' : ob_Mem), ob_f5 σ σ' → σ'.1 53 19 = nI p → Q (nI c) (ob_wI σ' 71 i x)) (hv : ∀ v p e, ob_nm T n lo hi a = .inr (v, p, e) → ∀ σ' : ob_Mem, ob_f5 σ σ' → σ'.1 53 20 = nI e → e ≤ n → σ'.1 53 19 = σ.1 53 19 → Q 0 (ob_wI σ' 71 i (nI v))) : ob_RM shp E oX9_into [.ref 53, .ref 71, .int (nI i), .int (nI lo), .int xh] σ (ob_qI Q) := by
  have hin : vp_in (nI i) 8 := ob_in hi2 (by omega)
  refine m_X9_into_53_71 (b_X9_into_53_71_0 (n_number ht ha h3 hlo hhi hx (fun c p hn σ1 f1 a5 => ⟨hin, ?_⟩) (fun v p e hn σ1 f1 a3 ae a5 a6 a7 => ⟨hin, ?_⟩)))
  · rw [ob_cl (n := i) (by omega)]
    exact hf c p hn _ σ1 f1 a5
  · rw [ob_cl (n := i) (by omega), a6]
    exact hv v p e hn σ1 f1 a3 ae a5
theorem n_into_72 {Q : Int32 → ob_Mem → Prop} {a lo hi i : Nat} {xh : Int32} (hi2 : i < 121) (ht : pi_MT σ.1 T n) (ha : a ≤ n) (h3 : σ.1 53 20 = nI a) (hlo : lo ≤ 2) (hhi : hi ≤ 1000) (hx : xh = nI hi - 1) (hf : ∀ c p, ob_nm T n lo hi a = .inl (c, p) → ∀ (x : Int32) (σ' : ob_Mem), ob_f5 σ σ' → σ'.1 53 19 = nI p → Q (nI c) (ob_wI σ' 72 i x)) (hv : ∀ v p e, ob_nm T n lo hi a = .inr (v, p, e) → ∀ σ' : ob_Mem, ob_f5 σ σ' → σ'.1 53 20 = nI e → e ≤ n → σ'.1 53 19 = σ.1 53 19 → Q 0 (ob_wI σ' 72 i (nI v))) : ob_RM shp E oX9_into [.ref 53, .ref 72, .int (nI i), .int (nI lo), .int xh] σ (ob_qI Q) := by
  have hin : vp_in (nI i) 121 := ob_in hi2 (by omega)
  refine m_X9_into_53_72 (b_X9_into_53_72_0 (n_number ht ha h3 hlo hhi hx (fun c p hn σ1 f1 a5 => ⟨hin, ?_⟩) (fun v p e hn σ1 f1 a3 ae a5 a6 a7 => ⟨hin, ?_⟩)))
  · rw [ob_cl (n := i) (by omega)]
    exact hf c p hn _ σ1 f1 a5
  · rw [ob_cl (n := i) (by omega), a6]
    exact hv v p e hn σ1 f1 a3 ae a5
end MI
