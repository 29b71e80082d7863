set_option maxHeartbeats 4000000 in
set_option maxRecDepth 20000 in
theorem c6_X7_skipBlanks (l0 : Launch) {Ia Ja : aI1} {Ra : aR1} {Sa : aS1} (hL : LY Ra Sa) (hI : XI Ia) {f : Nat → Int} {N : Nat} (hN : Ia 8 1 = N) (hf : ∀ j, j < N → f j = Ia 9 j) {a : Int} (ha0 : 0 ≤ a) (ha1 : a ≤ Ia 8 1)  : CT l0 1 0 0 mX7_skipBlanks [kR (some 10), kI a] Ia Ja Ra Sa (cI (fun x I' J' => Ia = I' ∧ Ja = J' ∧ (a ≤ x ∧ x ≤ Ia 8 1) ∧ (x < Ia 8 1 → ¬ f x.toNat = 32) ∧ zTk f N x.toNat = zTk f N a.toNat) Ra Sa) := by
  refine ct_in pn_X7 (Nat.le_of_ble_eq_true rfl) (fun X hX hT hIn => ?_)
  have hX : aK l0 X cX7_skipBlanks 3 RX7 (some .int) 1 0 0 := hX
  change WW X 0 [some (kR (some 10)), some (kI a), none] [] Ia Ja Ra Sa 0 0
  obtain ⟨hn1, hn2⟩ := hI.1
  obtain ⟨hk1, hk2⟩ := hI.2.1
  obtain ⟨hf1, hf2⟩ := hI.fu
  obtain ⟨hl1, hl2⟩ := hI.2.2.2.2.2.2.1
  refine ww_iload_n hX (pc := 0) dX7_skipBlanks_0 rfl ?_
  refine ww_istore_n hX (pc := 1) (lv' := [some (kR (some 10)), some (kI a), some (kI a)]) dX7_skipBlanks_1 (by decide) rfl rfl ?_
  have hl_2 : ∀ (n_2 : Nat) (q : Int), (Ia 8 1 - q).toNat = n_2 → ((a ≤ q ∧ q ≤ Ia 8 1) ∧ zTk f N q.toNat = zTk f N a.toNat) → WW X 2 [some (kR (some 10)), some (kI a), some (kI q)] [] Ia Ja Ra Sa 0 0 := by
    intro n_2
    induction n_2 using Nat.strongRecOn with
    | ind n_2 ih_2 =>
      intro q hm_2 hv_2
      have hq_2 := Sh0_i hm_2
      clear hm_2
      obtain ⟨⟨hq0, hq1⟩, hz9⟩ := hv_2
      refine ww_iload_n hX (pc := 2) dX7_skipBlanks_2 rfl ?_
      refine ww_aload_n hX (pc := 3) dX7_skipBlanks_3 rfl ?_
      refine ww_getR hX (pc := 4) fX7_28 (by decide) (xs_10 hL) (xr_10_1 hL) dX7_skipBlanks_4 ?_
      refine ww_getI hX (pc := 7) fX7_128 (by decide) (xs_8 hL) dX7_skipBlanks_7 ?_
      refine ww_icmp_ge hX (pc := 10) (tgt := 32) dX7_skipBlanks_10 (by decide) (fun h_10 => ?_) (fun h_10 => ?_)
      · simp only [w32_mod] at h_10
        refine ww_iload_n hX (pc := 32) dX7_skipBlanks_32 rfl ?_
        refine rI hX (pc := 33) hT (Nat.le_refl 0) (Nat.le_refl 0) dX7_skipBlanks_33 ?_
        exact ⟨rfl, rfl, by omega, fun h9 => absurd h9 (by omega), hz9⟩
      · simp only [w32_mod] at h_10
        refine ww_aload_n hX (pc := 13) dX7_skipBlanks_13 rfl ?_
        refine ww_getR hX (pc := 14) fX7_28 (by decide) (xs_10 hL) (xr_10_1 hL) dX7_skipBlanks_14 ?_
        refine ww_iload_n hX (pc := 17) dX7_skipBlanks_17 rfl ?_
        refine vI1 hX (pc := 18) sX7_139 (xs_8 hL) (c_X9_byteAt l0 hL hI (by omega) (by omega)) (by decide) (Nat.le_refl 0) (Nat.le_refl 0) (Nat.le_of_ble_eq_true rfl) dX7_skipBlanks_18 (fun x_18 I_18 J_18 h_18 => ?_)
        obtain ⟨rfl, rfl, h_18⟩ := h_18
        refine ww_bipush hX (pc := 21) (x := 32) dX7_skipBlanks_21 (by decide) ?_
        refine ww_icmp_ne hX (pc := 23) (tgt := 32) dX7_skipBlanks_23 (by decide) (fun h_23 => ?_) (fun h_23 => ?_)
        · simp only [w32_mod] at h_23
          refine ww_iload_n hX (pc := 32) dX7_skipBlanks_32 rfl ?_
          refine rI hX (pc := 33) hT (Nat.le_refl 0) (Nat.le_refl 0) dX7_skipBlanks_33 ?_
          exact ⟨rfl, rfl, by omega, fun _ => by rw [hf _ (by omega)]; omega, hz9⟩
        · simp only [w32_mod] at h_23
          have hz8 : zTk f N (q + 1).toNat = zTk f N a.toNat := by rw [show (q + 1).toNat = q.toNat + 1 by omega, ← zTk_b (by omega) (by rw [hf _ (by omega)]; omega)]; exact hz9
          refine ww_iinc hX (pc := 26) (lv' := [some (kR (some 10)), some (kI a), some (kI (q + 1))]) dX7_skipBlanks_26 rfl (by decide) rfl rfl ?_
          refine ww_goto hX (pc := 29) (tgt := 2) dX7_skipBlanks_29 (by decide) ?_
          exact ih_2 _ (by have hm9 := Sh0_e hq_2; omega) (q + 1) rfl ⟨⟨by omega, by omega⟩, hz8⟩
  exact hl_2 _ a rfl ⟨⟨by omega, by omega⟩, rfl⟩
set_option maxHeartbeats 4000000 in
set_option maxRecDepth 20000 in
theorem c6_X7_stopOf (l0 : Launch) {Ia Ja : aI1} {Ra : aR1} {Sa : aS1} (hL : LY Ra Sa) (hI : XI Ia) {f : Nat → Int} {N : Nat} (hN : Ia 8 1 = N) (hf : ∀ j, j < N → f j = Ia 9 j) {a : Int} (ha0 : 0 ≤ a) (ha1 : a < Ia 8 1)  : CT l0 1 0 0 mX7_stopOf [kR (some 10), kI a] Ia Ja Ra Sa (cI (fun x I' J' => Ia = I' ∧ Ja = J' ∧ (a < x ∧ x ≤ Ia 8 1) ∧ (48 ≤ Ia 9 a.toNat ∧ Ia 9 a.toNat ≤ 57 → ∀ j : Int, a ≤ j → j < x → 48 ≤ Ia 9 j.toNat ∧ Ia 9 j.toNat ≤ 57) ∧ x = (zSt f N a.toNat : Nat)) Ra Sa) := by
  refine ct_in pn_X7 (Nat.le_of_ble_eq_true rfl) (fun X hX hT hIn => ?_)
  have hX : aK l0 X cX7_stopOf 5 RX7 (some .int) 1 0 0 := hX
  change WW X 0 [some (kR (some 10)), some (kI a), none, none, none] [] Ia Ja Ra Sa 0 0
  obtain ⟨hn1, hn2⟩ := hI.1
  obtain ⟨hk1, hk2⟩ := hI.2.1
  obtain ⟨hf1, hf2⟩ := hI.fu
  obtain ⟨hl1, hl2⟩ := hI.2.2.2.2.2.2.1
  have hba := hI.2.2.2.2.2.2.2.2.2.2 a.toNat (by omega)
  refine ww_aload_n hX (pc := 0) dX7_stopOf_0 rfl ?_
  refine ww_getR hX (pc := 1) fX7_28 (by decide) (xs_10 hL) (xr_10_1 hL) dX7_stopOf_1 ?_
  refine ww_iload_n hX (pc := 4) dX7_stopOf_4 rfl ?_
  refine vI1 hX (pc := 5) sX7_139 (xs_8 hL) (c_X9_byteAt l0 hL hI (by omega) (by omega)) (by decide) (Nat.le_refl 0) (Nat.le_refl 0) (Nat.le_of_ble_eq_true rfl) dX7_stopOf_5 (fun x_5 I_5 J_5 h_5 => ?_)
  obtain ⟨rfl, rfl, h_5⟩ := h_5
  refine sI1 hX (pc := 8) sX7_142 (c_X7_isLetter l0 (by omega) (by omega)) (by decide) (Nat.le_refl 0) (Nat.le_refl 0) (Nat.le_of_ble_eq_true rfl) dX7_stopOf_8 (fun x_8 I_8 J_8 h_8 => ?_)
  obtain ⟨rfl, rfl, h_8⟩ := h_8
  refine ww_istore_n hX (pc := 11) (lv' := [some (kR (some 10)), some (kI a), some (kI x_8), none, none]) dX7_stopOf_11 (by decide) rfl rfl ?_
  refine ww_aload_n hX (pc := 12) dX7_stopOf_12 rfl ?_
  refine ww_getR hX (pc := 13) fX7_28 (by decide) (xs_10 hL) (xr_10_1 hL) dX7_stopOf_13 ?_
  refine ww_iload_n hX (pc := 16) dX7_stopOf_16 rfl ?_
  refine vI1 hX (pc := 17) sX7_139 (xs_8 hL) (c_X9_byteAt l0 hL hI (by omega) (by omega)) (by decide) (Nat.le_refl 0) (Nat.le_refl 0) (Nat.le_of_ble_eq_true rfl) dX7_stopOf_17 (fun x_17 I_17 J_17 h_17 => ?_)
  obtain ⟨rfl, rfl, h_17⟩ := h_17
  refine sI1 hX (pc := 20) sX7_145 (c_X7_isDigit l0 (by omega) (by omega)) (by decide) (Nat.le_refl 0) (Nat.le_refl 0) (Nat.le_of_ble_eq_true rfl) dX7_stopOf_20 (fun x_20 I_20 J_20 h_20 => ?_)
  obtain ⟨rfl, rfl, h_20⟩ := h_20
  refine ww_istore_n hX (pc := 23) (lv' := [some (kR (some 10)), some (kI a), some (kI x_8), some (kI x_20), none]) dX7_stopOf_23 (by decide) rfl rfl ?_
  refine ww_iload_n hX (pc := 24) dX7_stopOf_24 rfl ?_
  refine ww_iconst hX (pc := 25) (x := 1) dX7_stopOf_25 rfl ?_
  refine ww_iadd hX (pc := 26) dX7_stopOf_26 ?_
  refine ww_nmI (fun v_27 hv_27 => ?_)
  refine ww_istore hX (pc := 27) (lv' := [some (kR (some 10)), some (kI a), some (kI x_8), some (kI x_20), some (kI v_27)]) dX7_stopOf_27 (by decide) rfl rfl ?_
  have hl_29 : ∀ (n_29 : Nat) (q : Int), (Ia 8 1 - q).toNat = n_29 → ((a < q ∧ q ≤ Ia 8 1) ∧ zSW f N a.toNat q.toNat ∧ (48 ≤ Ia 9 a.toNat ∧ Ia 9 a.toNat ≤ 57 → ∀ j : Int, a ≤ j → j < q → 48 ≤ Ia 9 j.toNat ∧ Ia 9 j.toNat ≤ 57)) → WW X 29 [some (kR (some 10)), some (kI a), some (kI x_8), some (kI x_20), some (kI q)] [] Ia Ja Ra Sa 0 0 := by
    intro n_29
    induction n_29 using Nat.strongRecOn with
    | ind n_29 ih_29 =>
      intro q hm_29 hv_29
      have hq_29 := Sh0_i hm_29
      clear hm_29
      obtain ⟨hq0, hsw, hdg⟩ := hv_29
      refine ww_iload hX (pc := 29) dX7_stopOf_29 rfl ?_
      refine ww_aload_n hX (pc := 31) dX7_stopOf_31 rfl ?_
      refine ww_getR hX (pc := 32) fX7_28 (by decide) (xs_10 hL) (xr_10_1 hL) dX7_stopOf_32 ?_
      refine ww_getI hX (pc := 35) fX7_128 (by decide) (xs_8 hL) dX7_stopOf_35 ?_
      refine ww_icmp_ge hX (pc := 38) (tgt := 85) dX7_stopOf_38 (by decide) (fun h_38 => ?_) (fun h_38 => ?_)
      · simp only [w32_mod] at h_38
        refine ww_iload hX (pc := 85) dX7_stopOf_85 rfl ?_
        refine rI hX (pc := 87) hT (Nat.le_refl 0) (Nat.le_refl 0) dX7_stopOf_87 ?_
        exact ⟨rfl, rfl, by omega, hdg, by have h9 := zSW_e hsw (fun h9 => absurd h9.1.1 (by omega)); omega⟩
      · simp only [w32_mod] at h_38
        have hbq := hI.2.2.2.2.2.2.2.2.2.2 q.toNat (by omega)
        refine ww_iload_n hX (pc := 41) dX7_stopOf_41 rfl ?_
        refine ww_if_eq hX (pc := 42) (tgt := 60) dX7_stopOf_42 (by decide) (fun h_42 => ?_) (fun h_42 => ?_)
        · simp only [w32_mod] at h_42
          refine ww_iload_n hX (pc := 60) dX7_stopOf_60 rfl ?_
          refine ww_if_eq hX (pc := 61) (tgt := 85) dX7_stopOf_61 (by decide) (fun h_61 => ?_) (fun h_61 => ?_)
          · simp only [w32_mod] at h_61
            refine ww_iload hX (pc := 85) dX7_stopOf_85 rfl ?_
            refine rI hX (pc := 87) hT (Nat.le_refl 0) (Nat.le_refl 0) dX7_stopOf_87 ?_
            exact ⟨rfl, rfl, by omega, hdg, by have h9 := zSW_e hsw (fun h9 => by have k1 := zKl_1 (x := f a.toNat); have k2 := zKl_2 (x := f a.toNat); have k3 := zKl_1 (x := f q.toNat); have k4 := zKl_2 (x := f q.toNat); have k5 := zKl_r (f a.toNat); have k6 := h9.1.2; have k7 := h9.2; rw [hf _ (by omega)] at k1 k2 k5 k6 k7; rw [hf _ (by omega)] at k3 k4 k6; omega); omega⟩
          · simp only [w32_mod] at h_61
            refine ww_aload_n hX (pc := 64) dX7_stopOf_64 rfl ?_
            refine ww_getR hX (pc := 65) fX7_28 (by decide) (xs_10 hL) (xr_10_1 hL) dX7_stopOf_65 ?_
            refine ww_iload hX (pc := 68) dX7_stopOf_68 rfl ?_
            refine vI1 hX (pc := 70) sX7_139 (xs_8 hL) (c_X9_byteAt l0 hL hI (by omega) (by omega)) (by decide) (Nat.le_refl 0) (Nat.le_refl 0) (Nat.le_of_ble_eq_true rfl) dX7_stopOf_70 (fun x_70 I_70 J_70 h_70 => ?_)
            obtain ⟨rfl, rfl, h_70⟩ := h_70
            refine sI1 hX (pc := 73) sX7_145 (c_X7_isDigit l0 (by omega) (by omega)) (by decide) (Nat.le_refl 0) (Nat.le_refl 0) (Nat.le_of_ble_eq_true rfl) dX7_stopOf_73 (fun x_73 I_73 J_73 h_73 => ?_)
            obtain ⟨rfl, rfl, h_73⟩ := h_73
            refine ww_if_eq hX (pc := 76) (tgt := 85) dX7_stopOf_76 (by decide) (fun h_76 => ?_) (fun h_76 => ?_)
            · simp only [w32_mod] at h_76
              refine ww_iload hX (pc := 85) dX7_stopOf_85 rfl ?_
              refine rI hX (pc := 87) hT (Nat.le_refl 0) (Nat.le_refl 0) dX7_stopOf_87 ?_
              exact ⟨rfl, rfl, by omega, hdg, by have h9 := zSW_e hsw (fun h9 => by have k1 := zKl_1 (x := f a.toNat); have k2 := zKl_2 (x := f a.toNat); have k3 := zKl_1 (x := f q.toNat); have k4 := zKl_2 (x := f q.toNat); have k5 := zKl_r (f a.toNat); have k6 := h9.1.2; have k7 := h9.2; rw [hf _ (by omega)] at k1 k2 k5 k6 k7; rw [hf _ (by omega)] at k3 k4 k6; omega); omega⟩
            · simp only [w32_mod] at h_76
              have k_73 := h_73.2.mp (by omega)
              clear h_73
              have hk0 : ¬ zKl (f a.toNat) = 0 := fun h9 => by have := (zKl_2 (x := f a.toNat)).mpr (by rw [hf _ (by omega)]; omega); omega
              have hk9 : zKl (f q.toNat) = zKl (f a.toNat) := by rw [(zKl_2 (x := f a.toNat)).mpr (by rw [hf _ (by omega)]; omega), (zKl_2 (x := f q.toNat)).mpr (by rw [hf _ (by omega)]; omega)]
              refine ww_iinc hX (pc := 79) (lv' := [some (kR (some 10)), some (kI a), some (kI x_8), some (kI x_20), some (kI (q + 1))]) dX7_stopOf_79 rfl (by decide) rfl rfl ?_
              refine ww_goto hX (pc := 82) (tgt := 29) dX7_stopOf_82 (by decide) ?_
              exact ih_29 _ (by have hm9 := Sh0_e hq_29; omega) (q + 1) rfl ⟨⟨by omega, by omega⟩, (by rw [show (q + 1).toNat = q.toNat + 1 by omega]; exact zSW_s hsw (by omega) hk9 hk0), fun hd j h1 h2 => (if hj : j < q then hdg hd j h1 hj else (by rw [show j = q by omega]; omega))⟩
        · simp only [w32_mod] at h_42
          refine ww_aload_n hX (pc := 45) dX7_stopOf_45 rfl ?_
          refine ww_getR hX (pc := 46) fX7_28 (by decide) (xs_10 hL) (xr_10_1 hL) dX7_stopOf_46 ?_
          refine ww_iload hX (pc := 49) dX7_stopOf_49 rfl ?_
          refine vI1 hX (pc := 51) sX7_139 (xs_8 hL) (c_X9_byteAt l0 hL hI (by omega) (by omega)) (by decide) (Nat.le_refl 0) (Nat.le_refl 0) (Nat.le_of_ble_eq_true rfl) dX7_stopOf_51 (fun x_51 I_51 J_51 h_51 => ?_)
          obtain ⟨rfl, rfl, h_51⟩ := h_51
          refine sI1 hX (pc := 54) sX7_142 (c_X7_isLetter l0 (by omega) (by omega)) (by decide) (Nat.le_refl 0) (Nat.le_refl 0) (Nat.le_of_ble_eq_true rfl) dX7_stopOf_54 (fun x_54 I_54 J_54 h_54 => ?_)
          obtain ⟨rfl, rfl, h_54⟩ := h_54
          refine ww_if_ne hX (pc := 57) (tgt := 79) dX7_stopOf_57 (by decide) (fun h_57 => ?_) (fun h_57 => ?_)
          · simp only [w32_mod] at h_57
            have k_54 := h_54.2.mp (by omega)
            clear h_54
            have hk0 : ¬ zKl (f a.toNat) = 0 := fun h9 => by have := (zKl_1 (x := f a.toNat)).mpr (by rw [hf _ (by omega)]; omega); omega
            have hk9 : zKl (f q.toNat) = zKl (f a.toNat) := by rw [(zKl_1 (x := f a.toNat)).mpr (by rw [hf _ (by omega)]; omega), (zKl_1 (x := f q.toNat)).mpr (by rw [hf _ (by omega)]; omega)]
            refine ww_iinc hX (pc := 79) (lv' := [some (kR (some 10)), some (kI a), some (kI x_8), some (kI x_20), some (kI (q + 1))]) dX7_stopOf_79 rfl (by decide) rfl rfl ?_
            refine ww_goto hX (pc := 82) (tgt := 29) dX7_stopOf_82 (by decide) ?_
            exact ih_29 _ (by have hm9 := Sh0_e hq_29; omega) (q + 1) rfl ⟨⟨by omega, by omega⟩, (by rw [show (q + 1).toNat = q.toNat + 1 by omega]; exact zSW_s hsw (by omega) hk9 hk0), fun hd j h1 h2 => (if hj : j < q then hdg hd j h1 hj else (by rw [show j = q by omega]; omega))⟩
          · simp only [w32_mod] at h_57
            refine ww_iload_n hX (pc := 60) dX7_stopOf_60 rfl ?_
            refine ww_if_eq hX (pc := 61) (tgt := 85) dX7_stopOf_61 (by decide) (fun h_61 => ?_) (fun h_61 => ?_)
            · simp only [w32_mod] at h_61
              refine ww_iload hX (pc := 85) dX7_stopOf_85 rfl ?_
              refine rI hX (pc := 87) hT (Nat.le_refl 0) (Nat.le_refl 0) dX7_stopOf_87 ?_
              exact ⟨rfl, rfl, by omega, hdg, by have h9 := zSW_e hsw (fun h9 => by have k1 := zKl_1 (x := f a.toNat); have k2 := zKl_2 (x := f a.toNat); have k3 := zKl_1 (x := f q.toNat); have k4 := zKl_2 (x := f q.toNat); have k5 := zKl_r (f a.toNat); have k6 := h9.1.2; have k7 := h9.2; rw [hf _ (by omega)] at k1 k2 k5 k6 k7; rw [hf _ (by omega)] at k3 k4 k6; omega); omega⟩
            · simp only [w32_mod] at h_61
              refine ww_aload_n hX (pc := 64) dX7_stopOf_64 rfl ?_
              refine ww_getR hX (pc := 65) fX7_28 (by decide) (xs_10 hL) (xr_10_1 hL) dX7_stopOf_65 ?_
              refine ww_iload hX (pc := 68) dX7_stopOf_68 rfl ?_
              refine vI1 hX (pc := 70) sX7_139 (xs_8 hL) (c_X9_byteAt l0 hL hI (by omega) (by omega)) (by decide) (Nat.le_refl 0) (Nat.le_refl 0) (Nat.le_of_ble_eq_true rfl) dX7_stopOf_70 (fun x_70 I_70 J_70 h_70 => ?_)
              obtain ⟨rfl, rfl, h_70⟩ := h_70
              refine sI1 hX (pc := 73) sX7_145 (c_X7_isDigit l0 (by omega) (by omega)) (by decide) (Nat.le_refl 0) (Nat.le_refl 0) (Nat.le_of_ble_eq_true rfl) dX7_stopOf_73 (fun x_73 I_73 J_73 h_73 => ?_)
              obtain ⟨rfl, rfl, h_73⟩ := h_73
              refine ww_if_eq hX (pc := 76) (tgt := 85) dX7_stopOf_76 (by decide) (fun h_76 => ?_) (fun h_76 => ?_)
              · simp only [w32_mod] at h_76
                refine ww_iload hX (pc := 85) dX7_stopOf_85 rfl ?_
                refine rI hX (pc := 87) hT (Nat.le_refl 0) (Nat.le_refl 0) dX7_stopOf_87 ?_
                exact ⟨rfl, rfl, by omega, hdg, by have h9 := zSW_e hsw (fun h9 => by have k1 := zKl_1 (x := f a.toNat); have k2 := zKl_2 (x := f a.toNat); have k3 := zKl_1 (x := f q.toNat); have k4 := zKl_2 (x := f q.toNat); have k5 := zKl_r (f a.toNat); have k6 := h9.1.2; have k7 := h9.2; rw [hf _ (by omega)] at k1 k2 k5 k6 k7; rw [hf _ (by omega)] at k3 k4 k6; omega); omega⟩
              · simp only [w32_mod] at h_76
                have k_73 := h_73.2.mp (by omega)
                clear h_73
                have hk0 : ¬ zKl (f a.toNat) = 0 := fun h9 => by have := (zKl_2 (x := f a.toNat)).mpr (by rw [hf _ (by omega)]; omega); omega
                have hk9 : zKl (f q.toNat) = zKl (f a.toNat) := by rw [(zKl_2 (x := f a.toNat)).mpr (by rw [hf _ (by omega)]; omega), (zKl_2 (x := f q.toNat)).mpr (by rw [hf _ (by omega)]; omega)]
                refine ww_iinc hX (pc := 79) (lv' := [some (kR (some 10)), some (kI a), some (kI x_8), some (kI x_20), some (kI (q + 1))]) dX7_stopOf_79 rfl (by decide) rfl rfl ?_
                refine ww_goto hX (pc := 82) (tgt := 29) dX7_stopOf_82 (by decide) ?_
                exact ih_29 _ (by have hm9 := Sh0_e hq_29; omega) (q + 1) rfl ⟨⟨by omega, by omega⟩, (by rw [show (q + 1).toNat = q.toNat + 1 by omega]; exact zSW_s hsw (by omega) hk9 hk0), fun hd j h1 h2 => (if hj : j < q then hdg hd j h1 hj else (by rw [show j = q by omega]; omega))⟩
  exact hl_29 _ v_27 rfl ⟨by omega, (by rw [show v_27.toNat = a.toNat + 1 by omega]; exact zSW_0), fun hd j h1 h2 => (by rw [show j = a by omega]; exact hd)⟩
