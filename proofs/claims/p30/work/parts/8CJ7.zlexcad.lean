set_option maxHeartbeats 4000000 in
set_option maxRecDepth 20000 in
theorem c6_X7_wordKind (l0 : Launch) {Ia Ja : aI1} {Ra : aR1} {Sa : aS1} (hL : LY Ra Sa) (hI : XI Ia) {f : Nat → Int} {N : Nat} (hN : Ia 8 1 = N) (hf : ∀ j, j < N → f j = Ia 9 j) {a b : Int} (ha0 : 0 ≤ a) (hab : a ≤ b) (hb : b ≤ Ia 8 1)  : CT l0 6 0 0 mX7_wordKind [kR (some 10), kI a, kI b] Ia Ja Ra Sa (cI (fun x I' J' => Ia = I' ∧ Ja = J' ∧ (-8 ≤ x ∧ x ≤ 262) ∧ ((zWc f a.toNat b.toNat = 0 ∧ x = 257) ∨ (1 ≤ zWc f a.toNat b.toNat ∧ zWc f a.toNat b.toNat ≤ 5 ∧ x = 257 + zWc f a.toNat b.toNat) ∨ (6 ≤ zWc f a.toNat b.toNat ∧ x = 5 - zWc f a.toNat b.toNat))) Ra Sa) := by
  refine ct_in pn_X7 (Nat.le_of_ble_eq_true rfl) (fun X hX hT hIn => ?_)
  have hX : aK l0 X cX7_wordKind 3 RX7 (some .int) 6 0 0 := hX
  change WW X 0 [some (kR (some 10)), some (kI a), some (kI b)] [] Ia Ja Ra Sa 0 0
  obtain ⟨hn1, hn2⟩ := hI.1
  obtain ⟨hk1, hk2⟩ := hI.2.1
  obtain ⟨hf1, hf2⟩ := hI.fu
  obtain ⟨hl1, hl2⟩ := hI.2.2.2.2.2.2.1
  have n0 : zWn f a.toNat b.toNat 0 := zWn_0
  refine ww_aload_n hX (pc := 0) dX7_wordKind_0 rfl ?_
  refine ww_getR hX (pc := 1) fX7_28 (by decide) (xs_10 hL) (xr_10_1 hL) dX7_wordKind_1 ?_
  refine ww_ldcS hX (pc := 4) (n := 0) (tx := "reads") dX7_wordKind_4 rfl ?_
  refine ww_iload_n hX (pc := 6) dX7_wordKind_6 rfl ?_
  refine ww_iload_n hX (pc := 7) dX7_wordKind_7 rfl ?_
  refine vI3 hX (pc := 8) sX7_156 (xs_8 hL) (c6_X9_spells l0 hL hI hN hf (n := 0) (by decide) (by omega) (by omega) (by omega)) (by decide) (Nat.le_refl 0) (Nat.le_refl 0) (Nat.le_of_ble_eq_true rfl) dX7_wordKind_8 (fun x_8 I_8 J_8 h_8 => ?_)
  obtain ⟨rfl, rfl, h_8⟩ := h_8
  refine ww_if_eq hX (pc := 11) (tgt := 18) dX7_wordKind_11 (by decide) (fun h_11 => ?_) (fun h_11 => ?_)
  · simp only [w32_mod] at h_11
    have n1 := zWn_s n0 (fun h9 => by have := h_8.2.mpr h9; omega)
    refine ww_aload_n hX (pc := 18) dX7_wordKind_18 rfl ?_
    refine ww_getR hX (pc := 19) fX7_28 (by decide) (xs_10 hL) (xr_10_1 hL) dX7_wordKind_19 ?_
    refine ww_ldcS hX (pc := 22) (n := 1) (tx := "if") dX7_wordKind_22 rfl ?_
    refine ww_iload_n hX (pc := 24) dX7_wordKind_24 rfl ?_
    refine ww_iload_n hX (pc := 25) dX7_wordKind_25 rfl ?_
    refine vI3 hX (pc := 26) sX7_156 (xs_8 hL) (c6_X9_spells l0 hL hI hN hf (n := 1) (by decide) (by omega) (by omega) (by omega)) (by decide) (Nat.le_refl 0) (Nat.le_refl 0) (Nat.le_of_ble_eq_true rfl) dX7_wordKind_26 (fun x_26 I_26 J_26 h_26 => ?_)
    obtain ⟨rfl, rfl, h_26⟩ := h_26
    refine ww_if_eq hX (pc := 29) (tgt := 36) dX7_wordKind_29 (by decide) (fun h_29 => ?_) (fun h_29 => ?_)
    · simp only [w32_mod] at h_29
      have n2 := zWn_s n1 (fun h9 => by have := h_26.2.mpr h9; omega)
      refine ww_aload_n hX (pc := 36) dX7_wordKind_36 rfl ?_
      refine ww_getR hX (pc := 37) fX7_28 (by decide) (xs_10 hL) (xr_10_1 hL) dX7_wordKind_37 ?_
      refine ww_ldcS hX (pc := 40) (n := 2) (tx := "or") dX7_wordKind_40 rfl ?_
      refine ww_iload_n hX (pc := 42) dX7_wordKind_42 rfl ?_
      refine ww_iload_n hX (pc := 43) dX7_wordKind_43 rfl ?_
      refine vI3 hX (pc := 44) sX7_156 (xs_8 hL) (c6_X9_spells l0 hL hI hN hf (n := 2) (by decide) (by omega) (by omega) (by omega)) (by decide) (Nat.le_refl 0) (Nat.le_refl 0) (Nat.le_of_ble_eq_true rfl) dX7_wordKind_44 (fun x_44 I_44 J_44 h_44 => ?_)
      obtain ⟨rfl, rfl, h_44⟩ := h_44
      refine ww_if_eq hX (pc := 47) (tgt := 54) dX7_wordKind_47 (by decide) (fun h_47 => ?_) (fun h_47 => ?_)
      · simp only [w32_mod] at h_47
        have n3 := zWn_s n2 (fun h9 => by have := h_44.2.mpr h9; omega)
        refine ww_aload_n hX (pc := 54) dX7_wordKind_54 rfl ?_
        refine ww_getR hX (pc := 55) fX7_28 (by decide) (xs_10 hL) (xr_10_1 hL) dX7_wordKind_55 ?_
        refine ww_ldcS hX (pc := 58) (n := 3) (tx := "and") dX7_wordKind_58 rfl ?_
        refine ww_iload_n hX (pc := 60) dX7_wordKind_60 rfl ?_
        refine ww_iload_n hX (pc := 61) dX7_wordKind_61 rfl ?_
        refine vI3 hX (pc := 62) sX7_156 (xs_8 hL) (c6_X9_spells l0 hL hI hN hf (n := 3) (by decide) (by omega) (by omega) (by omega)) (by decide) (Nat.le_refl 0) (Nat.le_refl 0) (Nat.le_of_ble_eq_true rfl) dX7_wordKind_62 (fun x_62 I_62 J_62 h_62 => ?_)
        obtain ⟨rfl, rfl, h_62⟩ := h_62
        refine ww_if_eq hX (pc := 65) (tgt := 72) dX7_wordKind_65 (by decide) (fun h_65 => ?_) (fun h_65 => ?_)
        · simp only [w32_mod] at h_65
          have n4 := zWn_s n3 (fun h9 => by have := h_62.2.mpr h9; omega)
          refine ww_aload_n hX (pc := 72) dX7_wordKind_72 rfl ?_
          refine ww_getR hX (pc := 73) fX7_28 (by decide) (xs_10 hL) (xr_10_1 hL) dX7_wordKind_73 ?_
          refine ww_ldcS hX (pc := 76) (n := 4) (tx := "not") dX7_wordKind_76 rfl ?_
          refine ww_iload_n hX (pc := 78) dX7_wordKind_78 rfl ?_
          refine ww_iload_n hX (pc := 79) dX7_wordKind_79 rfl ?_
          refine vI3 hX (pc := 80) sX7_156 (xs_8 hL) (c6_X9_spells l0 hL hI hN hf (n := 4) (by decide) (by omega) (by omega) (by omega)) (by decide) (Nat.le_refl 0) (Nat.le_refl 0) (Nat.le_of_ble_eq_true rfl) dX7_wordKind_80 (fun x_80 I_80 J_80 h_80 => ?_)
          obtain ⟨rfl, rfl, h_80⟩ := h_80
          refine ww_if_eq hX (pc := 83) (tgt := 90) dX7_wordKind_83 (by decide) (fun h_83 => ?_) (fun h_83 => ?_)
          · simp only [w32_mod] at h_83
            have n5 := zWn_s n4 (fun h9 => by have := h_80.2.mpr h9; omega)
            refine ww_aload_n hX (pc := 90) dX7_wordKind_90 rfl ?_
            refine ww_iload_n hX (pc := 91) dX7_wordKind_91 rfl ?_
            refine ww_iload_n hX (pc := 92) dX7_wordKind_92 rfl ?_
            refine vI2 hX (pc := 93) sX7_168 (xs_10 hL) (c6_X7_partKind l0 hL hI hN hf (by omega) (by omega) (by omega) n5) (by decide) (Nat.le_refl 0) (Nat.le_refl 0) (Nat.le_of_ble_eq_true rfl) dX7_wordKind_93 (fun x_93 I_93 J_93 h_93 => ?_)
            obtain ⟨rfl, rfl, h_93⟩ := h_93
            refine rI hX (pc := 96) hT (Nat.le_refl 0) (Nat.le_refl 0) dX7_wordKind_96 ?_
            exact ⟨rfl, rfl, by omega, h_93.2⟩
          · simp only [w32_mod] at h_83
            have w9 := zWc_at n4 (by decide) (h_80.2.mp (by omega))
            refine ww_sipush hX (pc := 86) (x := 262) dX7_wordKind_86 (by decide) ?_
            refine rI hX (pc := 89) hT (Nat.le_refl 0) (Nat.le_refl 0) dX7_wordKind_89 ?_
            exact ⟨rfl, rfl, by omega, by omega⟩
        · simp only [w32_mod] at h_65
          have w9 := zWc_at n3 (by decide) (h_62.2.mp (by omega))
          refine ww_sipush hX (pc := 68) (x := 261) dX7_wordKind_68 (by decide) ?_
          refine rI hX (pc := 71) hT (Nat.le_refl 0) (Nat.le_refl 0) dX7_wordKind_71 ?_
          exact ⟨rfl, rfl, by omega, by omega⟩
      · simp only [w32_mod] at h_47
        have w9 := zWc_at n2 (by decide) (h_44.2.mp (by omega))
        refine ww_sipush hX (pc := 50) (x := 260) dX7_wordKind_50 (by decide) ?_
        refine rI hX (pc := 53) hT (Nat.le_refl 0) (Nat.le_refl 0) dX7_wordKind_53 ?_
        exact ⟨rfl, rfl, by omega, by omega⟩
    · simp only [w32_mod] at h_29
      have w9 := zWc_at n1 (by decide) (h_26.2.mp (by omega))
      refine ww_sipush hX (pc := 32) (x := 259) dX7_wordKind_32 (by decide) ?_
      refine rI hX (pc := 35) hT (Nat.le_refl 0) (Nat.le_refl 0) dX7_wordKind_35 ?_
      exact ⟨rfl, rfl, by omega, by omega⟩
  · simp only [w32_mod] at h_11
    have w9 := zWc_at n0 (by decide) (h_8.2.mp (by omega))
    refine ww_sipush hX (pc := 14) (x := 258) dX7_wordKind_14 (by decide) ?_
    refine rI hX (pc := 17) hT (Nat.le_refl 0) (Nat.le_refl 0) dX7_wordKind_17 ?_
    exact ⟨rfl, rfl, by omega, by omega⟩
