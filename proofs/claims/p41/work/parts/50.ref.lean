set_option maxHeartbeats 4000000 in
set_option maxRecDepth 20000 in
theorem c_X11_lies (l0 : Launch) {Ia Ja : aI1} {Ra : aR1} {Sa : aS1} {a b c : Int} (ha0 : -2147483648 ≤ a) (ha1 : a < 2147483648) (hb0 : -2147483648 ≤ b) (hb1 : b < 2147483648) (hc0 : -2147483648 ≤ c) (hc1 : c < 2147483648)  : CT l0 0 0 0 mX11_lies [kI a, kI b, kI c] Ia Ja Ra Sa (cI (fun x I' J' => Ia = I' ∧ Ja = J' ∧ (x = 0 ∨ x = 1) ∧ (x = 1 ↔ b ≤ a ∧ a ≤ c)) Ra Sa) := by
  refine ct_in pn_X11 (Nat.le_of_ble_eq_true rfl) (fun X hX hT hIn => ?_)
  have hX : aK l0 X cX11_lies 3 RX11 (some .boolean) 0 0 0 := hX
  change WW X 0 [some (kI a), some (kI b), some (kI c)] [] Ia Ja Ra Sa 0 0
  refine ww_iload_n hX (pc := 0) dX11_lies_0 rfl ?_
  refine ww_iload_n hX (pc := 1) dX11_lies_1 rfl ?_
  refine ww_icmp_lt hX (pc := 2) (tgt := 14) dX11_lies_2 (by decide) (fun h_2 => ?_) (fun h_2 => ?_)
  · simp only [w32_mod] at h_2
    refine ww_iconst hX (pc := 14) (x := 0) dX11_lies_14 rfl ?_
    refine rZ hX (pc := 15) hT (Nat.le_refl 0) (Nat.le_refl 0) dX11_lies_15 (by decide) ?_
    exact ⟨rfl, rfl, by omega, by omega⟩
  · simp only [w32_mod] at h_2
    refine ww_iload_n hX (pc := 5) dX11_lies_5 rfl ?_
    refine ww_iload_n hX (pc := 6) dX11_lies_6 rfl ?_
    refine ww_icmp_gt hX (pc := 7) (tgt := 14) dX11_lies_7 (by decide) (fun h_7 => ?_) (fun h_7 => ?_)
    · simp only [w32_mod] at h_7
      refine ww_iconst hX (pc := 14) (x := 0) dX11_lies_14 rfl ?_
      refine rZ hX (pc := 15) hT (Nat.le_refl 0) (Nat.le_refl 0) dX11_lies_15 (by decide) ?_
      exact ⟨rfl, rfl, by omega, by omega⟩
    · simp only [w32_mod] at h_7
      refine ww_iconst hX (pc := 10) (x := 1) dX11_lies_10 rfl ?_
      refine ww_goto hX (pc := 11) (tgt := 15) dX11_lies_11 (by decide) ?_
      refine rZ hX (pc := 15) hT (Nat.le_refl 0) (Nat.le_refl 0) dX11_lies_15 (by decide) ?_
      exact ⟨rfl, rfl, by omega, by omega⟩
set_option maxHeartbeats 4000000 in
set_option maxRecDepth 20000 in
theorem c_X11_isManner (l0 : Launch) {Ia Ja : aI1} {Ra : aR1} {Sa : aS1} {a : Int} (ha0 : -2147483648 ≤ a) (ha1 : a < 2147483648)  : CT l0 1 0 0 mX11_isManner [kI a] Ia Ja Ra Sa (cI (fun x I' J' => Ia = I' ∧ Ja = J' ∧ (x = 0 ∨ x = 1) ∧ (x = 1 ↔ 0 ≤ a ∧ a ≤ 3)) Ra Sa) := by
  refine ct_in pn_X11 (Nat.le_of_ble_eq_true rfl) (fun X hX hT hIn => ?_)
  have hX : aK l0 X cX11_isManner 1 RX11 (some .boolean) 1 0 0 := hX
  change WW X 0 [some (kI a)] [] Ia Ja Ra Sa 0 0
  refine ww_iload_n hX (pc := 0) dX11_isManner_0 rfl ?_
  refine ww_iconst hX (pc := 1) (x := 0) dX11_isManner_1 rfl ?_
  refine ww_iconst hX (pc := 2) (x := 3) dX11_isManner_2 rfl ?_
  refine sI3 hX (pc := 3) sX11_101 (c_X11_lies l0 (by omega) (by omega) (by omega) (by omega) (by omega) (by omega)) (by decide) (Nat.le_refl 0) (Nat.le_refl 0) (Nat.le_of_ble_eq_true rfl) dX11_isManner_3 (fun x_3 I_3 J_3 h_3 => ?_)
  obtain ⟨rfl, rfl, h_3⟩ := h_3
  refine rZ hX (pc := 6) hT (Nat.le_refl 0) (Nat.le_refl 0) dX11_isManner_6 (by omega) ?_
  exact ⟨rfl, rfl, by omega, by omega⟩
set_option maxHeartbeats 4000000 in
set_option maxRecDepth 20000 in
theorem c_X11_refuses (l0 : Launch) {Ia Ja : aI1} {Ra : aR1} {Sa : aS1} (hL : LY Ra Sa) {a : Int} (ha0 : -6 ≤ a) (ha1 : a ≤ -1)  : CT l0 0 0 0 mX11_refuses [kR (some 49), kI a] Ia Ja Ra Sa (cI (fun x I' J' => Kp 49 73 Ia I' ∧ Kp 49 73 Ja J' ∧ x = a) Ra Sa) := by
  refine ct_in pn_X11 (Nat.le_of_ble_eq_true rfl) (fun X hX hT hIn => ?_)
  have hX : aK l0 X cX11_refuses 2 RX11 (some .int) 0 0 0 := hX
  change WW X 0 [some (kR (some 49)), some (kI a)] [] Ia Ja Ra Sa 0 0
  refine ww_aload_n hX (pc := 0) dX11_refuses_0 rfl ?_
  refine ww_iload_n hX (pc := 1) dX11_refuses_1 rfl ?_
  refine ww_putI hX (pc := 2) (fun h9 => absurd h9 (by decide)) gX11_3 rfl (xs_49 hL) dX11_refuses_2 ?_
  refine ww_nmH (fun I_2 eI_2 => ?_)
  have kI_2 : Kp 49 73 Ia I_2 := by rw [eI_2]; exact Kp_up (Kp_rf (a := 49) (b := 73)) _ _ (by decide)
  refine ww_aload_n hX (pc := 5) dX11_refuses_5 rfl ?_
  refine ww_getR hX (pc := 6) fX11_7 (by decide) (xs_49 hL) (xr_49_2 hL) dX11_refuses_6 ?_
  refine ww_iload_n hX (pc := 9) dX11_refuses_9 rfl ?_
  refine ww_ineg hX (pc := 10) dX11_refuses_10 ?_
  refine ww_dup2 hX (pc := 11) dX11_refuses_11 ?_
  refine ww_iald hX (pc := 12) (xs_50 hL) (by decide) (by omega) (by omega) dX11_refuses_12 ?_
  refine ww_iconst hX (pc := 13) (x := 1) dX11_refuses_13 rfl ?_
  refine ww_iadd hX (pc := 14) dX11_refuses_14 ?_
  refine ww_iast hX (pc := 15) (xs_50 hL) (by decide) (by omega) (by omega) dX11_refuses_15 ?_
  refine ww_nmH (fun I_15 eI_15 => ?_)
  have kI_15 : Kp 49 73 Ia I_15 := by rw [eI_15]; exact Kp_up kI_2 _ _ (by decide)
  refine ww_iload_n hX (pc := 16) dX11_refuses_16 rfl ?_
  refine rI hX (pc := 17) hT (Nat.le_refl 0) (Nat.le_refl 0) dX11_refuses_17 ?_
  exact ⟨kI_15, (Kp_rf (a := 49) (b := 73)), rfl⟩
set_option maxHeartbeats 4000000 in
set_option maxRecDepth 20000 in
theorem c_X11_good (l0 : Launch) {Ia Ja : aI1} {Ra : aR1} {Sa : aS1} (hL : LY Ra Sa) {a : Int}  : CT l0 0 0 0 mX11_good [kR (some 49), kI a] Ia Ja Ra Sa (cI (fun x I' J' => Kp 49 73 Ia I' ∧ Kp 49 73 Ja J' ∧ x = a) Ra Sa) := by
  refine ct_in pn_X11 (Nat.le_of_ble_eq_true rfl) (fun X hX hT hIn => ?_)
  have hX : aK l0 X cX11_good 2 RX11 (some .int) 0 0 0 := hX
  change WW X 0 [some (kR (some 49)), some (kI a)] [] Ia Ja Ra Sa 0 0
  refine ww_aload_n hX (pc := 0) dX11_good_0 rfl ?_
  refine ww_iconst hX (pc := 1) (x := 0) dX11_good_1 rfl ?_
  refine ww_putI hX (pc := 2) (fun h9 => absurd h9 (by decide)) gX11_3 rfl (xs_49 hL) dX11_good_2 ?_
  refine ww_nmH (fun I_2 eI_2 => ?_)
  have kI_2 : Kp 49 73 Ia I_2 := by rw [eI_2]; exact Kp_up (Kp_rf (a := 49) (b := 73)) _ _ (by decide)
  refine ww_aload_n hX (pc := 5) dX11_good_5 rfl ?_
  refine ww_dupR hX (pc := 6) dX11_good_6 ?_
  refine ww_getI hX (pc := 7) fX11_11 (by decide) (xs_49 hL) dX11_good_7 ?_
  refine ww_iconst hX (pc := 10) (x := 1) dX11_good_10 rfl ?_
  refine ww_iadd hX (pc := 11) dX11_good_11 ?_
  refine ww_putI hX (pc := 12) (fun h9 => absurd h9 (by decide)) gX11_11 rfl (xs_49 hL) dX11_good_12 ?_
  refine ww_nmH (fun I_12 eI_12 => ?_)
  have kI_12 : Kp 49 73 Ia I_12 := by rw [eI_12]; exact Kp_up kI_2 _ _ (by decide)
  refine ww_iload_n hX (pc := 15) dX11_good_15 rfl ?_
  refine rI hX (pc := 16) hT (Nat.le_refl 0) (Nat.le_refl 0) dX11_good_16 ?_
  exact ⟨kI_12, (Kp_rf (a := 49) (b := 73)), rfl⟩
set_option maxHeartbeats 4000000 in
set_option maxRecDepth 20000 in
theorem c_X11_image (l0 : Launch) {Ia Ja : aI1} {Ra : aR1} {Sa : aS1} (hL : LY Ra Sa) {a : Int} (ha0 : -2147483648 ≤ a) (ha1 : a < 2147483648)  : CT l0 2 0 0 mX11_image [kR (some 49), kI a] Ia Ja Ra Sa (cI (fun x I' J' => Kp 49 73 Ia I' ∧ Kp 49 73 Ja J' ∧ ((0 ≤ a ∧ a < 2) → x = 0) ∧ (¬ (0 ≤ a ∧ a < 2) → x = -1)) Ra Sa) := by
  refine ct_in pn_X11 (Nat.le_of_ble_eq_true rfl) (fun X hX hT hIn => ?_)
  have hX : aK l0 X cX11_image 3 RX11 (some .int) 2 0 0 := hX
  change WW X 0 [some (kR (some 49)), some (kI a), none] [] Ia Ja Ra Sa 0 0
  refine ww_iload_n hX (pc := 0) dX11_image_0 rfl ?_
  refine ww_iconst hX (pc := 1) (x := 0) dX11_image_1 rfl ?_
  refine ww_iconst hX (pc := 2) (x := 1) dX11_image_2 rfl ?_
  refine sI3 hX (pc := 3) sX11_101 (c_X11_lies l0 (by omega) (by omega) (by omega) (by omega) (by omega) (by omega)) (by decide) (Nat.le_refl 0) (Nat.le_refl 0) (Nat.le_of_ble_eq_true rfl) dX11_image_3 (fun x_3 I_3 J_3 h_3 => ?_)
  obtain ⟨rfl, rfl, h_3⟩ := h_3
  refine ww_if_ne hX (pc := 6) (tgt := 15) dX11_image_6 (by decide) (fun h_6 => ?_) (fun h_6 => ?_)
  · simp only [w32_mod] at h_6
    refine ww_iconst hX (pc := 15) (x := 0) dX11_image_15 rfl ?_
    refine ww_istore_n hX (pc := 16) (lv' := [some (kR (some 49)), some (kI a), some (kI 0)]) dX11_image_16 (by decide) rfl rfl ?_
    have hl_17 : ∀ (n_17 : Nat) (i : Int) (I2 : aI1) (J2 : aI1), (5117 - i).toNat = n_17 → (Kp 49 73 Ia I2 ∧ Kp 49 73 Ja J2 ∧ (0 ≤ i ∧ i ≤ 5117)) → WW X 17 [some (kR (some 49)), some (kI a), some (kI i)] [] I2 J2 Ra Sa 0 0 := by
      intro n_17
      induction n_17 using Nat.strongRecOn with
      | ind n_17 ih_17 =>
        intro i I2 J2 hm_17 hv_17
        obtain ⟨kI2, kJ2, hi⟩ := hv_17
        refine ww_iload_n hX (pc := 17) dX11_image_17 rfl ?_
        refine ww_sipush hX (pc := 18) (x := 5117) dX11_image_18 (by decide) ?_
        refine ww_icmp_ge hX (pc := 21) (tgt := 48) dX11_image_21 (by decide) (fun h_21 => ?_) (fun h_21 => ?_)
        · simp only [w32_mod] at h_21
          refine ww_aload_n hX (pc := 48) dX11_image_48 rfl ?_
          refine ww_getR hX (pc := 49) fX11_26 (by decide) (xs_49 hL) (xr_49_5 hL) dX11_image_49 ?_
          refine ww_iload_n hX (pc := 52) dX11_image_52 rfl ?_
          refine ww_iconst hX (pc := 53) (x := 1) dX11_image_53 rfl ?_
          refine ww_zast hX (pc := 54) (xs_53 hL) (by decide) (by omega) (by omega) (by decide) dX11_image_54 ?_
          refine ww_nmH (fun I_54 eI_54 => ?_)
          have kI_54 : Kp 49 73 Ia I_54 := by rw [eI_54]; exact Kp_up kI2 _ _ (by decide)
          refine ww_aload_n hX (pc := 55) dX11_image_55 rfl ?_
          refine ww_iconst hX (pc := 56) (x := 0) dX11_image_56 rfl ?_
          refine vI1 hX (pc := 57) sX11_109 (xs_49 hL) (c_X11_good l0 hL) (by decide) (Nat.le_refl 0) (Nat.le_refl 0) (Nat.le_of_ble_eq_true rfl) dX11_image_57 (fun x_57 I_57 J_57 h_57 => ?_)
          have kI_57 : Kp 49 73 Ia I_57 := Kp_tr kI_54 (Kp_wd h_57.1 (by decide) (by decide))
          have kJ_57 : Kp 49 73 Ja J_57 := Kp_tr kJ2 (Kp_wd h_57.2.1 (by decide) (by decide))
          refine rI hX (pc := 60) hT (Nat.le_refl 0) (Nat.le_refl 0) dX11_image_60 ?_
          exact ⟨kI_57, kJ_57, by omega, by omega⟩
        · simp only [w32_mod] at h_21
          refine ww_aload_n hX (pc := 24) dX11_image_24 rfl ?_
          refine ww_getR hX (pc := 25) fX11_23 (by decide) (xs_49 hL) (xr_49_4 hL) dX11_image_25 ?_
          refine ww_sipush hX (pc := 28) (x := 5117) dX11_image_28 (by decide) ?_
          refine ww_iload_n hX (pc := 31) dX11_image_31 rfl ?_
          refine ww_imul hX (pc := 32) dX11_image_32 ?_
          refine ww_iload_n hX (pc := 33) dX11_image_33 rfl ?_
          refine ww_iadd hX (pc := 34) dX11_image_34 ?_
          refine ww_aload_n hX (pc := 35) dX11_image_35 rfl ?_
          refine ww_getR hX (pc := 36) fX11_20 (by decide) (xs_49 hL) (xr_49_3 hL) dX11_image_36 ?_
          refine ww_iload_n hX (pc := 39) dX11_image_39 rfl ?_
          refine ww_iald hX (pc := 40) (xs_51 hL) (by decide) (by omega) (by omega) dX11_image_40 ?_
          refine ww_iast hX (pc := 41) (xs_52 hL) (by decide) (by omega) (by omega) dX11_image_41 ?_
          refine ww_nmH (fun I_41 eI_41 => ?_)
          have kI_41 : Kp 49 73 Ia I_41 := by rw [eI_41]; exact Kp_up kI2 _ _ (by decide)
          refine ww_iinc hX (pc := 42) (lv' := [some (kR (some 49)), some (kI a), some (kI (i + 1))]) dX11_image_42 rfl (by decide) rfl rfl ?_
          refine ww_goto hX (pc := 45) (tgt := 17) dX11_image_45 (by decide) ?_
          exact ih_17 _ (by omega) (i + 1) I_41 J2 rfl ⟨kI_41, kJ2, ⟨by omega, by omega⟩⟩
    exact hl_17 _ 0 Ia Ja rfl ⟨(Kp_rf (a := 49) (b := 73)), (Kp_rf (a := 49) (b := 73)), ⟨by omega, by omega⟩⟩
  · simp only [w32_mod] at h_6
    refine ww_aload_n hX (pc := 9) dX11_image_9 rfl ?_
    refine ww_iconst hX (pc := 10) (x := (-1)) dX11_image_10 rfl ?_
    refine vI1 hX (pc := 11) sX11_105 (xs_49 hL) (c_X11_refuses l0 hL (by omega) (by omega)) (by decide) (Nat.le_refl 0) (Nat.le_refl 0) (Nat.le_of_ble_eq_true rfl) dX11_image_11 (fun x_11 I_11 J_11 h_11 => ?_)
    have kI_11 : Kp 49 73 Ia I_11 := Kp_tr (Kp_rf (a := 49) (b := 73)) (Kp_wd h_11.1 (by decide) (by decide))
    have kJ_11 : Kp 49 73 Ja J_11 := Kp_tr (Kp_rf (a := 49) (b := 73)) (Kp_wd h_11.2.1 (by decide) (by decide))
    refine rI hX (pc := 14) hT (Nat.le_refl 0) (Nat.le_refl 0) dX11_image_14 ?_
    exact ⟨kI_11, kJ_11, by omega, by omega⟩
