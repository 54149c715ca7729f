/-! the law's loop -/
theorem lw_end {E : ob_E} {L : Nat} {xs : Nat → Int32} {ls : List Value} {σ : ob_Mem} : lw_LT E L xs 916 ls [] σ := by
  refine lw_iconst (v := 1) dl_916 (by decide) ?_
  intro p e s m below meth c H locs lsM h
  obtain ⟨⟨hx, hb, hr, hml, hown, hts, hX, hbl, hlocks, hgv⟩, h2, h3, h4, h5, h6, h7, h8⟩ := h
  exact va_forget h7.2.2 (lw_ret hx hb hr hlocks dl_917)
theorem lw_loop {E : ob_E} {L : Nat} {xs : Nat → Int32} (hL : L ≤ 2560) : ∀ (n c : Nat) (σ : ob_Mem), n + c = 514 → ob_REL c σ.1 → 5 * c ≤ L + 5 → lw_LT E L xs 18 [.ref 140, .ref 0, .ref 53, .int (nI (5 * c))] [] σ := by
  intro n
  induction n with
  | zero => intro c σ h1 h2 h3; omega
  | succ n ih =>
    intro c σ h1 hR h3
    refine lw_iload_n (j := 3) dl_18 rfl (lw_aload_n (j := 0) dl_19 rfl (lw_slen dl_20 (lw_iconst (v := 5) dl_21 (by decide) (lw_isub dl_22 (lw_icmp_gt (tgt := 916) dl_23 (by decide) (fun _ => lw_end) (fun hgt => ?_))))))
    have hi : 5 * c + 5 ≤ L := by
      rw [Int32.lt_iff_toInt_lt, show (5 : Int32) = nI 5 from rfl, pk_sub_toInt (by omega) (by omega), nI_toInt (by omega)] at hgt
      omega
    have next : ∀ σ2 : ob_Mem, ob_REL (c + 1) σ2.1 → lw_LT E L xs 910 [.ref 140, .ref 0, .ref 53, .int (nI (5 * c))] [] σ2 := by
      intro σ2 hR2
      refine lw_iinc (v := 5) dl_910 rfl (by decide) (by decide) (ls' := [.ref 140, .ref 0, .ref 53, .int (nI (5 * (c + 1)))]) ?_ (lw_goto (tgt := 18) dl_913 (by decide) (ih (c + 1) σ2 (by omega) hR2 (by omega)))
      rw [show (5 : Int32) = nI 5 from rfl, nI_add, show 5 * c + 5 = 5 * (c + 1) by omega]
      rfl
    have hc : c < 512 := by omega
    refine lw_aload_n (j := 0) dl_26 rfl (lw_iload_n (j := 3) dl_27 rfl (lw_sld dl_28 hL (by omega) (lw_bipush (v := 31) dl_29 (by decide) (lw_iand dl_31 ?_))))
    obtain ⟨j, hj, he⟩ := pk_andE (xs (5 * c)) (m := 31) 5 (by decide)
    rw [he]
    have ht : (nI j).toInt = (j : Int) := nI_toInt (by omega)
    by_cases h26 : j < 26
    · have key : ∀ (off : Int) (tgt : Nat), (#[120, 183, 196, 209, 232, 265, 298, 321, 344, 387, 440, 463, 476, 509, 562, 605, 628, 681, 704, 747, 760, 773, 786, 809, 832, 855] : Array Int)[j]? = some off → ((32 : Nat) : Int) + off = (tgt : Int) → lw_LT E L xs tgt [.ref 140, .ref 0, .ref 53, .int (nI (5 * c))] [] σ → lw_LT E L xs 32 [.ref 140, .ref 0, .ref 53, .int (nI (5 * c))] [.int (nI j)] σ := by
        intro off tgt ho htg kk
        refine lw_tabI dl_32 (by rw [ht]; omega) (by rw [ht]; omega) (off := off) ?_ htg kk
        rw [ht, Int.sub_zero, Int.toNat_natCast]
        exact ho
      match j, h26 with
      | 0, _ => exact key 120 152 rfl (by decide) (lc_0 hL hi hc hR next)
      | 1, _ => exact key 183 215 rfl (by decide) (lc_1 hL hi hc hR next)
      | 2, _ => exact key 196 228 rfl (by decide) (lc_2 hL hi hc hR next)
      | 3, _ => exact key 209 241 rfl (by decide) (lc_3 hL hi hc hR next)
      | 4, _ => exact key 232 264 rfl (by decide) (lc_4 hL hi hc hR next)
      | 5, _ => exact key 265 297 rfl (by decide) (lc_5 hL hi hc hR next)
      | 6, _ => exact key 298 330 rfl (by decide) (lc_6 hL hi hc hR next)
      | 7, _ => exact key 321 353 rfl (by decide) (lc_7 hL hi hc hR next)
      | 8, _ => exact key 344 376 rfl (by decide) (lc_8 hL hi hc hR next)
      | 9, _ => exact key 387 419 rfl (by decide) (lc_9 hL hi hc hR next)
      | 10, _ => exact key 440 472 rfl (by decide) (lc_10 hL hi hc hR next)
      | 11, _ => exact key 463 495 rfl (by decide) (lc_11 hL hi hc hR next)
      | 12, _ => exact key 476 508 rfl (by decide) (lc_12 hL hi hc hR next)
      | 13, _ => exact key 509 541 rfl (by decide) (lc_13 hL hi hc hR next)
      | 14, _ => exact key 562 594 rfl (by decide) (lc_14 hL hi hc hR next)
      | 15, _ => exact key 605 637 rfl (by decide) (lc_15 hL hi hc hR next)
      | 16, _ => exact key 628 660 rfl (by decide) (lc_16 hL hi hc hR next)
      | 17, _ => exact key 681 713 rfl (by decide) (lc_17 hL hi hc hR next)
      | 18, _ => exact key 704 736 rfl (by decide) (lc_18 hL hi hc hR next)
      | 19, _ => exact key 747 779 rfl (by decide) (lc_19 hL hi hc hR next)
      | 20, _ => exact key 760 792 rfl (by decide) (lc_20 hL hi hc hR next)
      | 21, _ => exact key 773 805 rfl (by decide) (lc_21 hL hi hc hR next)
      | 22, _ => exact key 786 818 rfl (by decide) (lc_22 hL hi hc hR next)
      | 23, _ => exact key 809 841 rfl (by decide) (lc_23 hL hi hc hR next)
      | 24, _ => exact key 832 864 rfl (by decide) (lc_24 hL hi hc hR next)
      | 25, _ => exact key 855 887 rfl (by decide) (lc_25 hL hi hc hR next)
      | j + 26, h => omega
    · exact lw_tabO (tgt := 910) dl_32 (Or.inr (by rw [ht]; omega)) (by decide) (next σ (hR.mono (Nat.le_succ c)))
