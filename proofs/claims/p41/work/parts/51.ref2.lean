set_option maxHeartbeats 4000000 in
set_option maxRecDepth 20000 in
theorem c_X11_back (l0 : Launch) {Ia Ja : aI1} {Ra : aR1} {Sa : aS1} (hL : LY Ra Sa) {a : Int} (ha0 : -2147483648 ≤ a) (ha1 : a < 2147483648)  : CT l0 2 0 0 mX11_back [kR (some 49), kI a] Ia Ja Ra Sa (cI (fun x I' J' => Kp 49 73 Ia I' ∧ Kp 49 73 Ja J' ∧ True) Ra Sa) := by
  refine ct_in pn_X11 (Nat.le_of_ble_eq_true rfl) (fun X hX hT hIn => ?_)
  have hX : aK l0 X cX11_back 3 RX11 (some .int) 2 0 0 := hX
  change WW X 0 [some (kR (some 49)), some (kI a), none] [] Ia Ja Ra Sa 0 0
  refine ww_iload_n hX (pc := 0) dX11_back_0 rfl ?_
  refine ww_iconst hX (pc := 1) (x := 0) dX11_back_1 rfl ?_
  refine ww_iconst hX (pc := 2) (x := 1) dX11_back_2 rfl ?_
  refine sI3 hX (pc := 3) sX11_101 (c_X11_lies l0 (by omega) (by omega) (by omega) (by omega) (by omega) (by omega)) (by decide) (Nat.le_refl 0) (Nat.le_refl 0) (Nat.le_of_ble_eq_true rfl) dX11_back_3 (fun x_3 I_3 J_3 h_3 => ?_)
  obtain ⟨rfl, rfl, h_3⟩ := h_3
  refine ww_if_ne hX (pc := 6) (tgt := 15) dX11_back_6 (by decide) (fun h_6 => ?_) (fun h_6 => ?_)
  · simp only [w32_mod] at h_6
    refine ww_aload_n hX (pc := 15) dX11_back_15 rfl ?_
    refine ww_getR hX (pc := 16) fX11_26 (by decide) (xs_49 hL) (xr_49_5 hL) dX11_back_16 ?_
    refine ww_iload_n hX (pc := 19) dX11_back_19 rfl ?_
    refine ww_zald hX (pc := 20) (xs_53 hL) (by decide) (by omega) (by omega) dX11_back_20 ?_
    refine ww_if_ne hX (pc := 21) (tgt := 31) dX11_back_21 (by decide) (fun h_21 => ?_) (fun h_21 => ?_)
    · simp only [w32_mod] at h_21
      refine ww_iconst hX (pc := 31) (x := 0) dX11_back_31 rfl ?_
      refine ww_istore_n hX (pc := 32) (lv' := [some (kR (some 49)), some (kI a), some (kI 0)]) dX11_back_32 (by decide) rfl rfl ?_
      have hl_33 : ∀ (n_33 : Nat) (i : Int) (I2 : aI1) (J2 : aI1), (5117 - i).toNat = n_33 → (Kp 49 73 Ia I2 ∧ Kp 49 73 Ja J2 ∧ (0 ≤ i ∧ i ≤ 5117)) → WW X 33 [some (kR (some 49)), some (kI a), some (kI i)] [] I2 J2 Ra Sa 0 0 := by
        intro n_33
        induction n_33 using Nat.strongRecOn with
        | ind n_33 ih_33 =>
          intro i I2 J2 hm_33 hv_33
          obtain ⟨kI2, kJ2, hi⟩ := hv_33
          refine ww_iload_n hX (pc := 33) dX11_back_33 rfl ?_
          refine ww_sipush hX (pc := 34) (x := 5117) dX11_back_34 (by decide) ?_
          refine ww_icmp_ge hX (pc := 37) (tgt := 64) dX11_back_37 (by decide) (fun h_37 => ?_) (fun h_37 => ?_)
          · simp only [w32_mod] at h_37
            refine ww_aload_n hX (pc := 64) dX11_back_64 rfl ?_
            refine ww_iconst hX (pc := 65) (x := 0) dX11_back_65 rfl ?_
            refine vI1 hX (pc := 66) sX11_109 (xs_49 hL) (c_X11_good l0 hL) (by decide) (Nat.le_refl 0) (Nat.le_refl 0) (Nat.le_of_ble_eq_true rfl) dX11_back_66 (fun x_66 I_66 J_66 h_66 => ?_)
            have kI_66 : Kp 49 73 Ia I_66 := Kp_tr kI2 (Kp_wd h_66.1 (by decide) (by decide))
            have kJ_66 : Kp 49 73 Ja J_66 := Kp_tr kJ2 (Kp_wd h_66.2.1 (by decide) (by decide))
            refine rI hX (pc := 69) hT (Nat.le_refl 0) (Nat.le_refl 0) dX11_back_69 ?_
            exact ⟨kI_66, kJ_66, trivial⟩
          · simp only [w32_mod] at h_37
            refine ww_aload_n hX (pc := 40) dX11_back_40 rfl ?_
            refine ww_getR hX (pc := 41) fX11_20 (by decide) (xs_49 hL) (xr_49_3 hL) dX11_back_41 ?_
            refine ww_iload_n hX (pc := 44) dX11_back_44 rfl ?_
            refine ww_aload_n hX (pc := 45) dX11_back_45 rfl ?_
            refine ww_getR hX (pc := 46) fX11_23 (by decide) (xs_49 hL) (xr_49_4 hL) dX11_back_46 ?_
            refine ww_sipush hX (pc := 49) (x := 5117) dX11_back_49 (by decide) ?_
            refine ww_iload_n hX (pc := 52) dX11_back_52 rfl ?_
            refine ww_imul hX (pc := 53) dX11_back_53 ?_
            refine ww_iload_n hX (pc := 54) dX11_back_54 rfl ?_
            refine ww_iadd hX (pc := 55) dX11_back_55 ?_
            refine ww_iald hX (pc := 56) (xs_52 hL) (by decide) (by omega) (by omega) dX11_back_56 ?_
            refine ww_iast hX (pc := 57) (xs_51 hL) (by decide) (by omega) (by omega) dX11_back_57 ?_
            refine ww_nmH (fun I_57 eI_57 => ?_)
            have kI_57 : Kp 49 73 Ia I_57 := by rw [eI_57]; exact Kp_up kI2 _ _ (by decide)
            refine ww_iinc hX (pc := 58) (lv' := [some (kR (some 49)), some (kI a), some (kI (i + 1))]) dX11_back_58 rfl (by decide) rfl rfl ?_
            refine ww_goto hX (pc := 61) (tgt := 33) dX11_back_61 (by decide) ?_
            exact ih_33 _ (by omega) (i + 1) I_57 J2 rfl ⟨kI_57, kJ2, ⟨by omega, by omega⟩⟩
      exact hl_33 _ 0 Ia Ja rfl ⟨(Kp_rf (a := 49) (b := 73)), (Kp_rf (a := 49) (b := 73)), ⟨by omega, by omega⟩⟩
    · simp only [w32_mod] at h_21
      refine ww_aload_n hX (pc := 24) dX11_back_24 rfl ?_
      refine ww_bipush hX (pc := 25) (x := (-2)) dX11_back_25 (by decide) ?_
      refine vI1 hX (pc := 27) sX11_105 (xs_49 hL) (c_X11_refuses l0 hL (by omega) (by omega)) (by decide) (Nat.le_refl 0) (Nat.le_refl 0) (Nat.le_of_ble_eq_true rfl) dX11_back_27 (fun x_27 I_27 J_27 h_27 => ?_)
      have kI_27 : Kp 49 73 Ia I_27 := Kp_tr (Kp_rf (a := 49) (b := 73)) (Kp_wd h_27.1 (by decide) (by decide))
      have kJ_27 : Kp 49 73 Ja J_27 := Kp_tr (Kp_rf (a := 49) (b := 73)) (Kp_wd h_27.2.1 (by decide) (by decide))
      refine rI hX (pc := 30) hT (Nat.le_refl 0) (Nat.le_refl 0) dX11_back_30 ?_
      exact ⟨kI_27, kJ_27, trivial⟩
  · simp only [w32_mod] at h_6
    refine ww_aload_n hX (pc := 9) dX11_back_9 rfl ?_
    refine ww_iconst hX (pc := 10) (x := (-1)) dX11_back_10 rfl ?_
    refine vI1 hX (pc := 11) sX11_105 (xs_49 hL) (c_X11_refuses l0 hL (by omega) (by omega)) (by decide) (Nat.le_refl 0) (Nat.le_refl 0) (Nat.le_of_ble_eq_true rfl) dX11_back_11 (fun x_11 I_11 J_11 h_11 => ?_)
    have kI_11 : Kp 49 73 Ia I_11 := Kp_tr (Kp_rf (a := 49) (b := 73)) (Kp_wd h_11.1 (by decide) (by decide))
    have kJ_11 : Kp 49 73 Ja J_11 := Kp_tr (Kp_rf (a := 49) (b := 73)) (Kp_wd h_11.2.1 (by decide) (by decide))
    refine rI hX (pc := 14) hT (Nat.le_refl 0) (Nat.le_refl 0) dX11_back_14 ?_
    exact ⟨kI_11, kJ_11, trivial⟩
set_option maxHeartbeats 4000000 in
set_option maxRecDepth 20000 in
theorem c_X11_greater (l0 : Launch) {Ia Ja : aI1} {Ra : aR1} {Sa : aS1} {a b : Int} (ha0 : -2147483648 ≤ a) (ha1 : a < 2147483648) (hb0 : -2147483648 ≤ b) (hb1 : b < 2147483648)  : CT l0 0 0 0 mX11_greater [kI a, kI b] Ia Ja Ra Sa (cI (fun x I' J' => Ia = I' ∧ Ja = J' ∧ x = max a b) Ra Sa) := by
  refine ct_in pn_X11 (Nat.le_of_ble_eq_true rfl) (fun X hX hT hIn => ?_)
  have hX : aK l0 X cX11_greater 2 RX11 (some .int) 0 0 0 := hX
  change WW X 0 [some (kI a), some (kI b)] [] Ia Ja Ra Sa 0 0
  refine ww_iload_n hX (pc := 0) dX11_greater_0 rfl ?_
  refine ww_iload_n hX (pc := 1) dX11_greater_1 rfl ?_
  refine ww_icmp_le hX (pc := 2) (tgt := 9) dX11_greater_2 (by decide) (fun h_2 => ?_) (fun h_2 => ?_)
  · simp only [w32_mod] at h_2
    refine ww_iload_n hX (pc := 9) dX11_greater_9 rfl ?_
    refine rI hX (pc := 10) hT (Nat.le_refl 0) (Nat.le_refl 0) dX11_greater_10 ?_
    exact ⟨rfl, rfl, by omega⟩
  · simp only [w32_mod] at h_2
    refine ww_iload_n hX (pc := 5) dX11_greater_5 rfl ?_
    refine ww_goto hX (pc := 6) (tgt := 10) dX11_greater_6 (by decide) ?_
    refine rI hX (pc := 10) hT (Nat.le_refl 0) (Nat.le_refl 0) dX11_greater_10 ?_
    exact ⟨rfl, rfl, by omega⟩
set_option maxHeartbeats 4000000 in
set_option maxRecDepth 20000 in
theorem c_X11_empties (l0 : Launch) {Ia Ja : aI1} {Ra : aR1} {Sa : aS1} (hL : LY Ra Sa)  : CT l0 0 0 0 mX11_empties [kR (some 49)] Ia Ja Ra Sa (cV (fun I' J' => Kp 49 73 Ia I' ∧ Kp 49 73 Ja J' ∧ True) Ra Sa) := by
  refine ct_in pn_X11 (Nat.le_of_ble_eq_true rfl) (fun X hX hT hIn => ?_)
  have hX : aK l0 X cX11_empties 2 RX11 none 0 0 0 := hX
  change WW X 0 [some (kR (some 49)), none] [] Ia Ja Ra Sa 0 0
  refine ww_iconst hX (pc := 0) (x := 0) dX11_empties_0 rfl ?_
  refine ww_istore_n hX (pc := 1) (lv' := [some (kR (some 49)), some (kI 0)]) dX11_empties_1 (by decide) rfl rfl ?_
  have hl_2 : ∀ (n_2 : Nat) (i : Int) (I2 : aI1) (J2 : aI1), (256 - i).toNat = n_2 → (Kp 49 73 Ia I2 ∧ Kp 49 73 Ja J2 ∧ (0 ≤ i ∧ i ≤ 256)) → WW X 2 [some (kR (some 49)), some (kI i)] [] I2 J2 Ra Sa 0 0 := by
    intro n_2
    induction n_2 using Nat.strongRecOn with
    | ind n_2 ih_2 =>
      intro i I2 J2 hm_2 hv_2
      obtain ⟨kI2, kJ2, hi⟩ := hv_2
      refine ww_iload_n hX (pc := 2) dX11_empties_2 rfl ?_
      refine ww_sipush hX (pc := 3) (x := 256) dX11_empties_3 (by decide) ?_
      refine ww_icmp_ge hX (pc := 6) (tgt := 24) dX11_empties_6 (by decide) (fun h_6 => ?_) (fun h_6 => ?_)
      · simp only [w32_mod] at h_6
        refine ww_aload_n hX (pc := 24) dX11_empties_24 rfl ?_
        refine ww_getR hX (pc := 25) fX11_20 (by decide) (xs_49 hL) (xr_49_3 hL) dX11_empties_25 ?_
        refine ww_sipush hX (pc := 28) (x := 307) dX11_empties_28 (by decide) ?_
        refine ww_iconst hX (pc := 31) (x := 0) dX11_empties_31 rfl ?_
        refine ww_iast hX (pc := 32) (xs_51 hL) (by decide) (by omega) (by omega) dX11_empties_32 ?_
        refine ww_nmH (fun I_32 eI_32 => ?_)
        have kI_32 : Kp 49 73 Ia I_32 := by rw [eI_32]; exact Kp_up kI2 _ _ (by decide)
        refine ww_aload_n hX (pc := 33) dX11_empties_33 rfl ?_
        refine ww_getR hX (pc := 34) fX11_20 (by decide) (xs_49 hL) (xr_49_3 hL) dX11_empties_34 ?_
        refine ww_sipush hX (pc := 37) (x := 308) dX11_empties_37 (by decide) ?_
        refine ww_iconst hX (pc := 40) (x := 0) dX11_empties_40 rfl ?_
        refine ww_iast hX (pc := 41) (xs_51 hL) (by decide) (by omega) (by omega) dX11_empties_41 ?_
        refine ww_nmH (fun I_41 eI_41 => ?_)
        have kI_41 : Kp 49 73 Ia I_41 := by rw [eI_41]; exact Kp_up kI_32 _ _ (by decide)
        refine ww_aload_n hX (pc := 42) dX11_empties_42 rfl ?_
        refine ww_getR hX (pc := 43) fX11_20 (by decide) (xs_49 hL) (xr_49_3 hL) dX11_empties_43 ?_
        refine ww_sipush hX (pc := 46) (x := 309) dX11_empties_46 (by decide) ?_
        refine ww_iconst hX (pc := 49) (x := 0) dX11_empties_49 rfl ?_
        refine ww_iast hX (pc := 50) (xs_51 hL) (by decide) (by omega) (by omega) dX11_empties_50 ?_
        refine ww_nmH (fun I_50 eI_50 => ?_)
        have kI_50 : Kp 49 73 Ia I_50 := by rw [eI_50]; exact Kp_up kI_41 _ _ (by decide)
        refine rV hX (pc := 51) hT (Nat.le_refl 0) (Nat.le_refl 0) dX11_empties_51 ?_
        exact ⟨kI_50, kJ2, trivial⟩
      · simp only [w32_mod] at h_6
        refine ww_aload_n hX (pc := 9) dX11_empties_9 rfl ?_
        refine ww_getR hX (pc := 10) fX11_20 (by decide) (xs_49 hL) (xr_49_3 hL) dX11_empties_10 ?_
        refine ww_iconst hX (pc := 13) (x := 0) dX11_empties_13 rfl ?_
        refine ww_iload_n hX (pc := 14) dX11_empties_14 rfl ?_
        refine ww_iadd hX (pc := 15) dX11_empties_15 ?_
        refine ww_iconst hX (pc := 16) (x := (-1)) dX11_empties_16 rfl ?_
        refine ww_iast hX (pc := 17) (xs_51 hL) (by decide) (by omega) (by omega) dX11_empties_17 ?_
        refine ww_nmH (fun I_17 eI_17 => ?_)
        have kI_17 : Kp 49 73 Ia I_17 := by rw [eI_17]; exact Kp_up kI2 _ _ (by decide)
        refine ww_iinc hX (pc := 18) (lv' := [some (kR (some 49)), some (kI (i + 1))]) dX11_empties_18 rfl (by decide) rfl rfl ?_
        refine ww_goto hX (pc := 21) (tgt := 2) dX11_empties_21 (by decide) ?_
        exact ih_2 _ (by omega) (i + 1) I_17 J2 rfl ⟨kI_17, kJ2, ⟨by omega, by omega⟩⟩
  exact hl_2 _ 0 Ia Ja rfl ⟨(Kp_rf (a := 49) (b := 73)), (Kp_rf (a := 49) (b := 73)), ⟨by omega, by omega⟩⟩
