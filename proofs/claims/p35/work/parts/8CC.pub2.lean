set_option maxHeartbeats 4000000 in
set_option maxRecDepth 20000 in
theorem c5_X10_lamps (l0 : Launch) {Ia Ja : aI1} {Ra : aR1} {Sa : aS1} (hL : LY Ra Sa) (hC : CX Ia) {a : Int} (ha0 : -2147483648 ≤ a) (ha1 : a < 2147483648)  : CT l0 10 0 0 mX10_lamps [kR (some 0), kI a] Ia Ja Ra Sa (cI (fun x I' J' => Kp 0 49 Ia I' ∧ Kp 0 49 Ja J' ∧ CX I' ∧ Fw [2, 3, 18, 19, 20, 21, 22, 23, 24, 25, 26, 27, 28, 29, 30, 31, 32, 33, 34, 35, 36, 48] [(0, 16), (1, 5), (1, 7), (1, 8), (1, 10), (1, 11)] Ia I' ∧ (¬ (1 ≤ a ∧ a ≤ 8) → x = -1 ∧ RFc Ia I' (-1)) ∧ ((1 ≤ a ∧ a ≤ 8) → x = Ia 1 5 ∧ Fw [2, 3, 18, 19, 20, 21, 22, 23, 24, 25, 26, 27, 28, 29, 30, 31, 32, 33, 34, 35, 36] [(0, 16), (1, 5), (1, 7), (1, 8), (1, 10), (1, 11)] Ia I' ∧ I' 1 5 = a ∧ I' 1 7 = 0 ∧ (∀ j, j < 8 → I' 2 j = 1) ∧ I' 0 16 = 0 ∧ I' 1 8 = 0 ∧ I' 1 10 = 0 ∧ I' 1 11 = 0 ∧ (∀ s, s < 256 → I' 3 s = -1))) Ra Sa) := by
  refine ct_in pn_X10 (Nat.le_of_ble_eq_true rfl) (fun X hX hT hIn => ?_)
  have hX : aK l0 X cX10_lamps 3 RX10 (some .int) 10 0 0 := hX
  change WW X 0 [some (kR (some 0)), some (kI a), none] [] Ia Ja Ra Sa 0 0
  have hI := hC.1
  have hq := XI_o hI
  refine ww_iload_n hX (pc := 0) dX10_lamps_0 rfl ?_
  refine ww_iconst hX (pc := 1) (x := 1) dX10_lamps_1 rfl ?_
  refine ww_icmp_lt hX (pc := 2) (tgt := 11) dX10_lamps_2 (by decide) (fun h_2 => ?_) (fun h_2 => ?_)
  · simp only [w32_mod] at h_2
    refine ww_aload_n hX (pc := 11) dX10_lamps_11 rfl ?_
    refine ww_iconst hX (pc := 12) (x := (-1)) dX10_lamps_12 rfl ?_
    refine vI1 hX (pc := 13) sX10_89 (xs_0 hL) (c5_X10_refuse l0 hL hC (by omega) (by omega)) (by decide) (Nat.le_refl 0) (Nat.le_refl 0) (Nat.le_of_ble_eq_true rfl) dX10_lamps_13 (fun x_13 I_13 J_13 h_13 => ?_)
    have kI_13 : Kp 0 49 Ia I_13 := Kp_tr (Kp_rf (a := 0) (b := 49)) (Kp_wd h_13.1 (by decide) (by decide))
    have kJ_13 : Kp 0 49 Ja J_13 := Kp_tr (Kp_rf (a := 0) (b := 49)) (Kp_wd h_13.2.1 (by decide) (by decide))
    have cI_13 : CX I_13 := h_13.2.2.1
    have qI_13 := XI_o cI_13.1
    have wI_13 : Fw [2, 3, 18, 19, 20, 21, 22, 23, 24, 25, 26, 27, 28, 29, 30, 31, 32, 33, 34, 35, 36, 48] [(0, 16), (1, 5), (1, 7), (1, 8), (1, 10), (1, 11)] Ia I_13 := Fw_tr Fw_rf (Fw_wd h_13.2.2.2.1 (by decide) (by decide))
    have r5_I_13 : I_13 1 5 = Ia 1 5 := h_13.2.2.2.1 1 5 (by decide) (by decide) (by decide)
    have r6_I_13 : I_13 1 6 = Ia 1 6 := h_13.2.2.2.1 1 6 (by decide) (by decide) (by decide)
    have r7_I_13 : I_13 1 7 = Ia 1 7 := h_13.2.2.2.1 1 7 (by decide) (by decide) (by decide)
    have r8_I_13 : I_13 1 8 = Ia 1 8 := h_13.2.2.2.1 1 8 (by decide) (by decide) (by decide)
    have r9_I_13 : I_13 1 9 = Ia 1 9 := h_13.2.2.2.1 1 9 (by decide) (by decide) (by decide)
    have r10_I_13 : I_13 1 10 = Ia 1 10 := h_13.2.2.2.1 1 10 (by decide) (by decide) (by decide)
    have r11_I_13 : I_13 1 11 = Ia 1 11 := h_13.2.2.2.1 1 11 (by decide) (by decide) (by decide)
    have r81_I_13 : I_13 8 1 = Ia 8 1 := h_13.2.2.2.1 8 1 (by decide) (by decide) (by decide)
    have rf_I_13 : FU (I_13 1 5) = FU (Ia 1 5) := by rw [r5_I_13]
    have y2_I_13 : I_13 2 = Ia 2 := Fw_row h_13.2.2.2.1 2 (by decide) (by decide) (by decide)
    have y3_I_13 : I_13 3 = Ia 3 := Fw_row h_13.2.2.2.1 3 (by decide) (by decide) (by decide)
    have xv_I_13 := h_13.2.2.2.2
    refine rI hX (pc := 16) hT (Nat.le_refl 0) (Nat.le_refl 0) dX10_lamps_16 ?_
    exact ⟨kI_13, kJ_13, cI_13, (Fw_wd wI_13 (by decide) (by decide)), (fun _ => ⟨xv_I_13.1, h_13.2.2.2.1, xv_I_13.2⟩), (fun h9 => absurd h9 (by omega))⟩
  · simp only [w32_mod] at h_2
    refine ww_iload_n hX (pc := 5) dX10_lamps_5 rfl ?_
    refine ww_bipush hX (pc := 6) (x := 8) dX10_lamps_6 (by decide) ?_
    refine ww_icmp_le hX (pc := 8) (tgt := 17) dX10_lamps_8 (by decide) (fun h_8 => ?_) (fun h_8 => ?_)
    · simp only [w32_mod] at h_8
      refine ww_aload_n hX (pc := 17) dX10_lamps_17 rfl ?_
      refine ww_getR hX (pc := 18) fX10_10 (by decide) (xs_0 hL) (xr_0_0 hL) dX10_lamps_18 ?_
      refine ww_getI hX (pc := 21) fX10_93 (by decide) (xs_1 hL) dX10_lamps_21 ?_
      refine ww_nmI (fun v_24 hv_24 => ?_)
      refine ww_istore_n hX (pc := 24) (lv' := [some (kR (some 0)), some (kI a), some (kI v_24)]) dX10_lamps_24 (by decide) rfl rfl ?_
      refine ww_aload_n hX (pc := 25) dX10_lamps_25 rfl ?_
      refine ww_getR hX (pc := 26) fX10_10 (by decide) (xs_0 hL) (xr_0_0 hL) dX10_lamps_26 ?_
      refine ww_iload_n hX (pc := 29) dX10_lamps_29 rfl ?_
      refine ww_putI hX (pc := 30) (fun h9 => absurd h9 (by decide)) gX10_93 rfl (xs_1 hL) dX10_lamps_30 ?_
      refine ww_nmH (fun I_30 eI_30 => ?_)
      have kI_30 : Kp 0 49 Ia I_30 := by rw [eI_30]; exact Kp_up (Kp_rf (a := 0) (b := 49)) _ _ (by decide)
      have wI_30 : Fw [2, 3, 18, 19, 20, 21, 22, 23, 24, 25, 26, 27, 28, 29, 30, 31, 32, 33, 34, 35, 36] [(0, 16), (1, 5), (1, 7), (1, 8), (1, 10), (1, 11)] Ia I_30 := by rw [eI_30]; exact Fw_up Fw_rf (Or.inr (by decide))
      have r7_I_30 : I_30 1 7 = Ia 1 7 := by rw [eI_30, up2_n _ _ (Or.inr (by decide))]
      have y2_I_30 : I_30 2 = Ia 2 := by rw [eI_30, up2_off _ _ _ (by decide)]
      have y3_I_30 : I_30 3 = Ia 3 := by rw [eI_30, up2_off _ _ _ (by decide)]
      refine ww_aload_n hX (pc := 33) dX10_lamps_33 rfl ?_
      refine ww_getR hX (pc := 34) fX10_10 (by decide) (xs_0 hL) (xr_0_0 hL) dX10_lamps_34 ?_
      refine ww_iconst hX (pc := 37) (x := 0) dX10_lamps_37 rfl ?_
      refine ww_putI hX (pc := 38) (fun h9 => absurd h9 (by decide)) gX10_96 rfl (xs_1 hL) dX10_lamps_38 ?_
      refine ww_nmH (fun I_38 eI_38 => ?_)
      have kI_38 : Kp 0 49 Ia I_38 := by rw [eI_38]; exact Kp_up kI_30 _ _ (by decide)
      have wI_38 : Fw [2, 3, 18, 19, 20, 21, 22, 23, 24, 25, 26, 27, 28, 29, 30, 31, 32, 33, 34, 35, 36] [(0, 16), (1, 5), (1, 7), (1, 8), (1, 10), (1, 11)] Ia I_38 := by rw [eI_38]; exact Fw_up wI_30 (Or.inr (by decide))
      have y2_I_38 : I_38 2 = I_30 2 := by rw [eI_38, up2_off _ _ _ (by decide)]
      have y3_I_38 : I_38 3 = I_30 3 := by rw [eI_38, up2_off _ _ _ (by decide)]
      refine ww_aload_n hX (pc := 41) dX10_lamps_41 rfl ?_
      refine ww_getR hX (pc := 42) fX10_10 (by decide) (xs_0 hL) (xr_0_0 hL) dX10_lamps_42 ?_
      refine ww_getR hX (pc := 45) fX10_99 (by decide) (xs_1 hL) (xr_1_0 hL) dX10_lamps_45 ?_
      refine ww_iconst hX (pc := 48) (x := 1) dX10_lamps_48 rfl ?_
      refine sV2 hX (pc := 49) sX10_102 (c_J7_fill_53178 l0 (xs_2 hL) (by decide)) (by decide) (Nat.le_refl 0) (Nat.le_refl 0) (Nat.le_of_ble_eq_true rfl) dX10_lamps_49 (fun I_49 J_49 h_49 => ?_)
      obtain ⟨rfl, eI_49⟩ := h_49
      have kI_49 : Kp 0 49 Ia I_49 := by rw [eI_49]; exact Kp_upR kI_38 _ (by decide)
      have wI_49 : Fw [2, 3, 18, 19, 20, 21, 22, 23, 24, 25, 26, 27, 28, 29, 30, 31, 32, 33, 34, 35, 36] [(0, 16), (1, 5), (1, 7), (1, 8), (1, 10), (1, 11)] Ia I_49 := by rw [eI_49]; exact Fw_upR wI_38 (by decide)
      have r7_I_49 : I_49 1 7 = I_38 1 7 := by rw [eI_49, upR_n _ _ (by decide)]
      have y3_I_49 : I_49 3 = I_38 3 := by rw [eI_49, upR_n _ _ (by decide)]
      refine ww_aload_n hX (pc := 52) dX10_lamps_52 rfl ?_
      refine ww_getR hX (pc := 53) fX10_10 (by decide) (xs_0 hL) (xr_0_0 hL) dX10_lamps_53 ?_
      refine vV0 hX (pc := 56) sX10_108 (xs_1 hL) (c_X1_forget l0 hL) (by decide) (Nat.le_refl 0) (Nat.le_refl 0) (Nat.le_of_ble_eq_true rfl) dX10_lamps_56 (fun I_56 J_56 h_56 => ?_)
      obtain ⟨rfl, eI_56⟩ := h_56
      have kI_56 : Kp 0 49 Ia I_56 := by rw [eI_56]; exact Kp_up (Kp_up (Kp_up (Kp_upR kI_49 _ (by decide)) _ _ (by decide)) _ _ (by decide)) _ _ (by decide)
      have cI_56 : CX I_56 := by
        refine CX_forget hC (fun a h1 h2 h3 => ?_) ?_ ?_ ?_ ?_ ?_ ?_ (fun s hs => ?_)
        · rw [eI_56, up2_off _ _ _ h1, up2_off _ _ _ h1, up2_off _ _ _ h1, upR_n _ _ h3, eI_49, upR_n _ _ h2, eI_38, up2_off _ _ _ h1, eI_30, up2_off _ _ _ h1]
        · rw [eI_56, up2_n _ _ (Or.inr (by decide)), up2_n _ _ (Or.inr (by decide)), up2_n _ _ (Or.inr (by decide)), upR_n _ _ (by decide), eI_49, upR_n _ _ (by decide), eI_38, up2_n _ _ (Or.inr (by decide)), eI_30, up2_s]; omega
        · rw [eI_56, up2_n _ _ (Or.inr (by decide)), up2_n _ _ (Or.inr (by decide)), up2_n _ _ (Or.inr (by decide)), upR_n _ _ (by decide), eI_49, upR_n _ _ (by decide), eI_38, up2_n _ _ (Or.inr (by decide)), eI_30, up2_n _ _ (Or.inr (by decide))]; omega
        · rw [eI_56, up2_n _ _ (Or.inr (by decide)), up2_n _ _ (Or.inr (by decide)), up2_s]
        · rw [eI_56, up2_n _ _ (Or.inr (by decide)), up2_n _ _ (Or.inr (by decide)), up2_n _ _ (Or.inr (by decide)), upR_n _ _ (by decide), eI_49, upR_n _ _ (by decide), eI_38, up2_n _ _ (Or.inr (by decide)), eI_30, up2_n _ _ (Or.inr (by decide))]
        · rw [eI_56, up2_n _ _ (Or.inr (by decide)), up2_s]
        · rw [eI_56, up2_s]
        · rw [eI_56, up2_off _ _ _ (by decide), up2_off _ _ _ (by decide), up2_off _ _ _ (by decide), upR_s, if_pos hs]
      have wI_56 : Fw [2, 3, 18, 19, 20, 21, 22, 23, 24, 25, 26, 27, 28, 29, 30, 31, 32, 33, 34, 35, 36] [(0, 16), (1, 5), (1, 7), (1, 8), (1, 10), (1, 11)] Ia I_56 := by rw [eI_56]; exact Fw_up (Fw_up (Fw_up (Fw_upR wI_49 (by decide)) (Or.inr (by decide))) (Or.inr (by decide))) (Or.inr (by decide))
      have v8_I_56 : I_56 1 8 = 0 := by rw [eI_56, up2_n _ _ (Or.inr (by decide)), up2_n _ _ (Or.inr (by decide)), up2_s]
      have v10_I_56 : I_56 1 10 = 0 := by rw [eI_56, up2_n _ _ (Or.inr (by decide)), up2_s]
      have v11_I_56 : I_56 1 11 = 0 := by rw [eI_56, up2_s]
      have v3_I_56 : ∀ s, s < 256 → I_56 3 s = -1 := fun s hs => by rw [eI_56, up2_off _ _ _ (by decide), up2_off _ _ _ (by decide), up2_off _ _ _ (by decide), upR_s, if_pos hs]
      have v5_I_56 : I_56 1 5 = a := by rw [eI_56, up2_n _ _ (Or.inr (by decide)), up2_n _ _ (Or.inr (by decide)), up2_n _ _ (Or.inr (by decide)), upR_n _ _ (by decide), eI_49, upR_n _ _ (by decide), eI_38, up2_n _ _ (Or.inr (by decide)), eI_30, up2_s]
      have v7_I_56 : I_56 1 7 = 0 := by rw [eI_56, up2_n _ _ (Or.inr (by decide)), up2_n _ _ (Or.inr (by decide)), up2_n _ _ (Or.inr (by decide)), upR_n _ _ (by decide), eI_49, upR_n _ _ (by decide), eI_38, up2_s]
      have v2_I_56 : ∀ j, j < 8 → I_56 2 j = 1 := fun j hj => by rw [eI_56, up2_off _ _ _ (by decide), up2_off _ _ _ (by decide), up2_off _ _ _ (by decide), upR_n _ _ (by decide), eI_49, upR_s, if_pos hj]
      refine ww_aload_n hX (pc := 59) dX10_lamps_59 rfl ?_
      refine vV0 hX (pc := 60) sX10_111 (xs_0 hL) (c5_X10_codeChanged l0 hL cI_56) (by decide) (Nat.le_refl 0) (Nat.le_refl 0) (Nat.le_of_ble_eq_true rfl) dX10_lamps_60 (fun I_60 J_60 h_60 => ?_)
      have kI_60 : Kp 0 49 Ia I_60 := Kp_tr kI_56 (Kp_wd h_60.1 (by decide) (by decide))
      have kJ_60 : Kp 0 49 Ja J_60 := Kp_tr (Kp_rf (a := 0) (b := 49)) (Kp_wd h_60.2.1 (by decide) (by decide))
      have cI_60 : CX I_60 := h_60.2.2.1
      have qI_60 := XI_o cI_60.1
      have wI_60 : Fw [2, 3, 18, 19, 20, 21, 22, 23, 24, 25, 26, 27, 28, 29, 30, 31, 32, 33, 34, 35, 36] [(0, 16), (1, 5), (1, 7), (1, 8), (1, 10), (1, 11)] Ia I_60 := Fw_tr wI_56 (Fw_wd h_60.2.2.2.1 (by decide) (by decide))
      have r5_I_60 : I_60 1 5 = I_56 1 5 := h_60.2.2.2.1 1 5 (by decide) (by decide) (by decide)
      have r6_I_60 : I_60 1 6 = I_56 1 6 := h_60.2.2.2.1 1 6 (by decide) (by decide) (by decide)
      have r7_I_60 : I_60 1 7 = I_56 1 7 := h_60.2.2.2.1 1 7 (by decide) (by decide) (by decide)
      have r8_I_60 : I_60 1 8 = I_56 1 8 := h_60.2.2.2.1 1 8 (by decide) (by decide) (by decide)
      have r9_I_60 : I_60 1 9 = I_56 1 9 := h_60.2.2.2.1 1 9 (by decide) (by decide) (by decide)
      have r10_I_60 : I_60 1 10 = I_56 1 10 := h_60.2.2.2.1 1 10 (by decide) (by decide) (by decide)
      have r11_I_60 : I_60 1 11 = I_56 1 11 := h_60.2.2.2.1 1 11 (by decide) (by decide) (by decide)
      have r81_I_60 : I_60 8 1 = I_56 8 1 := h_60.2.2.2.1 8 1 (by decide) (by decide) (by decide)
      have rf_I_60 : FU (I_60 1 5) = FU (I_56 1 5) := by rw [r5_I_60]
      have y2_I_60 : I_60 2 = I_56 2 := Fw_row h_60.2.2.2.1 2 (by decide) (by decide) (by decide)
      have y3_I_60 : I_60 3 = I_56 3 := Fw_row h_60.2.2.2.1 3 (by decide) (by decide) (by decide)
      refine ww_aload_n hX (pc := 63) dX10_lamps_63 rfl ?_
      refine ww_iload_n hX (pc := 64) dX10_lamps_64 rfl ?_
      refine vI1 hX (pc := 65) sX10_114 (xs_0 hL) (c5_X10_accept l0 hL cI_60) (by decide) (Nat.le_refl 0) (Nat.le_refl 0) (Nat.le_of_ble_eq_true rfl) dX10_lamps_65 (fun x_65 I_65 J_65 h_65 => ?_)
      have kI_65 : Kp 0 49 Ia I_65 := Kp_tr kI_60 (Kp_wd h_65.1 (by decide) (by decide))
      have kJ_65 : Kp 0 49 Ja J_65 := Kp_tr kJ_60 (Kp_wd h_65.2.1 (by decide) (by decide))
      have cI_65 : CX I_65 := h_65.2.2.1
      have qI_65 := XI_o cI_65.1
      have wI_65 : Fw [2, 3, 18, 19, 20, 21, 22, 23, 24, 25, 26, 27, 28, 29, 30, 31, 32, 33, 34, 35, 36] [(0, 16), (1, 5), (1, 7), (1, 8), (1, 10), (1, 11)] Ia I_65 := Fw_tr wI_60 (Fw_wd h_65.2.2.2.1 (by decide) (by decide))
      have r5_I_65 : I_65 1 5 = I_60 1 5 := h_65.2.2.2.1 1 5 (by decide) (by decide) (by decide)
      have r6_I_65 : I_65 1 6 = I_60 1 6 := h_65.2.2.2.1 1 6 (by decide) (by decide) (by decide)
      have r7_I_65 : I_65 1 7 = I_60 1 7 := h_65.2.2.2.1 1 7 (by decide) (by decide) (by decide)
      have r8_I_65 : I_65 1 8 = I_60 1 8 := h_65.2.2.2.1 1 8 (by decide) (by decide) (by decide)
      have r9_I_65 : I_65 1 9 = I_60 1 9 := h_65.2.2.2.1 1 9 (by decide) (by decide) (by decide)
      have r10_I_65 : I_65 1 10 = I_60 1 10 := h_65.2.2.2.1 1 10 (by decide) (by decide) (by decide)
      have r11_I_65 : I_65 1 11 = I_60 1 11 := h_65.2.2.2.1 1 11 (by decide) (by decide) (by decide)
      have r81_I_65 : I_65 8 1 = I_60 8 1 := h_65.2.2.2.1 8 1 (by decide) (by decide) (by decide)
      have rf_I_65 : FU (I_65 1 5) = FU (I_60 1 5) := by rw [r5_I_65]
      have y2_I_65 : I_65 2 = I_60 2 := Fw_row h_65.2.2.2.1 2 (by decide) (by decide) (by decide)
      have y3_I_65 : I_65 3 = I_60 3 := Fw_row h_65.2.2.2.1 3 (by decide) (by decide) (by decide)
      have xv_I_65 := h_65.2.2.2.2
      refine rI hX (pc := 68) hT (Nat.le_refl 0) (Nat.le_refl 0) dX10_lamps_68 ?_
      exact ⟨kI_65, kJ_65, cI_65, (Fw_wd wI_65 (by decide) (by decide)), (fun h9 => absurd (by omega) h9), (fun _ => ⟨by rw [xv_I_65.1, hv_24], wI_65, by omega, by omega, (fun j hj => by rw [y2_I_65, y2_I_60]; exact v2_I_56 j hj), xv_I_65.2, by omega, by omega, by omega, (fun s hs => by rw [y3_I_65, y3_I_60]; exact v3_I_56 s hs)⟩)⟩
    · simp only [w32_mod] at h_8
      refine ww_aload_n hX (pc := 11) dX10_lamps_11 rfl ?_
      refine ww_iconst hX (pc := 12) (x := (-1)) dX10_lamps_12 rfl ?_
      refine vI1 hX (pc := 13) sX10_89 (xs_0 hL) (c5_X10_refuse l0 hL hC (by omega) (by omega)) (by decide) (Nat.le_refl 0) (Nat.le_refl 0) (Nat.le_of_ble_eq_true rfl) dX10_lamps_13 (fun x_13 I_13 J_13 h_13 => ?_)
      have kI_13 : Kp 0 49 Ia I_13 := Kp_tr (Kp_rf (a := 0) (b := 49)) (Kp_wd h_13.1 (by decide) (by decide))
      have kJ_13 : Kp 0 49 Ja J_13 := Kp_tr (Kp_rf (a := 0) (b := 49)) (Kp_wd h_13.2.1 (by decide) (by decide))
      have cI_13 : CX I_13 := h_13.2.2.1
      have qI_13 := XI_o cI_13.1
      have wI_13 : Fw [2, 3, 18, 19, 20, 21, 22, 23, 24, 25, 26, 27, 28, 29, 30, 31, 32, 33, 34, 35, 36, 48] [(0, 16), (1, 5), (1, 7), (1, 8), (1, 10), (1, 11)] Ia I_13 := Fw_tr Fw_rf (Fw_wd h_13.2.2.2.1 (by decide) (by decide))
      have r5_I_13 : I_13 1 5 = Ia 1 5 := h_13.2.2.2.1 1 5 (by decide) (by decide) (by decide)
      have r6_I_13 : I_13 1 6 = Ia 1 6 := h_13.2.2.2.1 1 6 (by decide) (by decide) (by decide)
      have r7_I_13 : I_13 1 7 = Ia 1 7 := h_13.2.2.2.1 1 7 (by decide) (by decide) (by decide)
      have r8_I_13 : I_13 1 8 = Ia 1 8 := h_13.2.2.2.1 1 8 (by decide) (by decide) (by decide)
      have r9_I_13 : I_13 1 9 = Ia 1 9 := h_13.2.2.2.1 1 9 (by decide) (by decide) (by decide)
      have r10_I_13 : I_13 1 10 = Ia 1 10 := h_13.2.2.2.1 1 10 (by decide) (by decide) (by decide)
      have r11_I_13 : I_13 1 11 = Ia 1 11 := h_13.2.2.2.1 1 11 (by decide) (by decide) (by decide)
      have r81_I_13 : I_13 8 1 = Ia 8 1 := h_13.2.2.2.1 8 1 (by decide) (by decide) (by decide)
      have rf_I_13 : FU (I_13 1 5) = FU (Ia 1 5) := by rw [r5_I_13]
      have y2_I_13 : I_13 2 = Ia 2 := Fw_row h_13.2.2.2.1 2 (by decide) (by decide) (by decide)
      have y3_I_13 : I_13 3 = Ia 3 := Fw_row h_13.2.2.2.1 3 (by decide) (by decide) (by decide)
      have xv_I_13 := h_13.2.2.2.2
      refine rI hX (pc := 16) hT (Nat.le_refl 0) (Nat.le_refl 0) dX10_lamps_16 ?_
      exact ⟨kI_13, kJ_13, cI_13, (Fw_wd wI_13 (by decide) (by decide)), (fun _ => ⟨xv_I_13.1, h_13.2.2.2.1, xv_I_13.2⟩), (fun h9 => absurd h9 (by omega))⟩
set_option maxHeartbeats 4000000 in
set_option maxRecDepth 20000 in
theorem c5_X10_news (l0 : Launch) {Ia Ja : aI1} {Ra : aR1} {Sa : aS1} (hL : LY Ra Sa) (hC : CX Ia) {a : Int} (ha0 : -2147483648 ≤ a) (ha1 : a < 2147483648)  : CT l0 10 0 0 mX10_news [kR (some 0), kI a] Ia Ja Ra Sa (cI (fun x I' J' => Kp 0 49 Ia I' ∧ Kp 0 49 Ja J' ∧ CX I' ∧ Fw [3, 18, 19, 20, 21, 22, 23, 24, 25, 26, 27, 28, 29, 30, 31, 32, 33, 34, 35, 36, 48] [(0, 16), (1, 6), (1, 8), (1, 10), (1, 11)] Ia I' ∧ (¬ (2 ≤ a ∧ a ≤ 8) → x = -1 ∧ RFc Ia I' (-1)) ∧ ((2 ≤ a ∧ a ≤ 8) → x = Ia 1 6 ∧ Fw [3, 18, 19, 20, 21, 22, 23, 24, 25, 26, 27, 28, 29, 30, 31, 32, 33, 34, 35, 36] [(0, 16), (1, 6), (1, 8), (1, 10), (1, 11)] Ia I' ∧ I' 1 6 = a ∧ I' 0 16 = 0 ∧ I' 1 8 = 0 ∧ I' 1 10 = 0 ∧ I' 1 11 = 0 ∧ (∀ s, s < 256 → I' 3 s = -1))) Ra Sa) := by
  refine ct_in pn_X10 (Nat.le_of_ble_eq_true rfl) (fun X hX hT hIn => ?_)
  have hX : aK l0 X cX10_news 3 RX10 (some .int) 10 0 0 := hX
  change WW X 0 [some (kR (some 0)), some (kI a), none] [] Ia Ja Ra Sa 0 0
  have hI := hC.1
  have hq := XI_o hI
  refine ww_iload_n hX (pc := 0) dX10_news_0 rfl ?_
  refine ww_iconst hX (pc := 1) (x := 2) dX10_news_1 rfl ?_
  refine ww_icmp_lt hX (pc := 2) (tgt := 11) dX10_news_2 (by decide) (fun h_2 => ?_) (fun h_2 => ?_)
  · simp only [w32_mod] at h_2
    refine ww_aload_n hX (pc := 11) dX10_news_11 rfl ?_
    refine ww_iconst hX (pc := 12) (x := (-1)) dX10_news_12 rfl ?_
    refine vI1 hX (pc := 13) sX10_89 (xs_0 hL) (c5_X10_refuse l0 hL hC (by omega) (by omega)) (by decide) (Nat.le_refl 0) (Nat.le_refl 0) (Nat.le_of_ble_eq_true rfl) dX10_news_13 (fun x_13 I_13 J_13 h_13 => ?_)
    have kI_13 : Kp 0 49 Ia I_13 := Kp_tr (Kp_rf (a := 0) (b := 49)) (Kp_wd h_13.1 (by decide) (by decide))
    have kJ_13 : Kp 0 49 Ja J_13 := Kp_tr (Kp_rf (a := 0) (b := 49)) (Kp_wd h_13.2.1 (by decide) (by decide))
    have cI_13 : CX I_13 := h_13.2.2.1
    have qI_13 := XI_o cI_13.1
    have wI_13 : Fw [3, 18, 19, 20, 21, 22, 23, 24, 25, 26, 27, 28, 29, 30, 31, 32, 33, 34, 35, 36, 48] [(0, 16), (1, 6), (1, 8), (1, 10), (1, 11)] Ia I_13 := Fw_tr Fw_rf (Fw_wd h_13.2.2.2.1 (by decide) (by decide))
    have r5_I_13 : I_13 1 5 = Ia 1 5 := h_13.2.2.2.1 1 5 (by decide) (by decide) (by decide)
    have r6_I_13 : I_13 1 6 = Ia 1 6 := h_13.2.2.2.1 1 6 (by decide) (by decide) (by decide)
    have r7_I_13 : I_13 1 7 = Ia 1 7 := h_13.2.2.2.1 1 7 (by decide) (by decide) (by decide)
    have r8_I_13 : I_13 1 8 = Ia 1 8 := h_13.2.2.2.1 1 8 (by decide) (by decide) (by decide)
    have r9_I_13 : I_13 1 9 = Ia 1 9 := h_13.2.2.2.1 1 9 (by decide) (by decide) (by decide)
    have r10_I_13 : I_13 1 10 = Ia 1 10 := h_13.2.2.2.1 1 10 (by decide) (by decide) (by decide)
    have r11_I_13 : I_13 1 11 = Ia 1 11 := h_13.2.2.2.1 1 11 (by decide) (by decide) (by decide)
    have r81_I_13 : I_13 8 1 = Ia 8 1 := h_13.2.2.2.1 8 1 (by decide) (by decide) (by decide)
    have rf_I_13 : FU (I_13 1 5) = FU (Ia 1 5) := by rw [r5_I_13]
    have y3_I_13 : I_13 3 = Ia 3 := Fw_row h_13.2.2.2.1 3 (by decide) (by decide) (by decide)
    have xv_I_13 := h_13.2.2.2.2
    refine rI hX (pc := 16) hT (Nat.le_refl 0) (Nat.le_refl 0) dX10_news_16 ?_
    exact ⟨kI_13, kJ_13, cI_13, (Fw_wd wI_13 (by decide) (by decide)), (fun _ => ⟨xv_I_13.1, h_13.2.2.2.1, xv_I_13.2⟩), (fun h9 => absurd h9 (by omega))⟩
  · simp only [w32_mod] at h_2
    refine ww_iload_n hX (pc := 5) dX10_news_5 rfl ?_
    refine ww_bipush hX (pc := 6) (x := 8) dX10_news_6 (by decide) ?_
    refine ww_icmp_le hX (pc := 8) (tgt := 17) dX10_news_8 (by decide) (fun h_8 => ?_) (fun h_8 => ?_)
    · simp only [w32_mod] at h_8
      refine ww_aload_n hX (pc := 17) dX10_news_17 rfl ?_
      refine ww_getR hX (pc := 18) fX10_10 (by decide) (xs_0 hL) (xr_0_0 hL) dX10_news_18 ?_
      refine ww_getI hX (pc := 21) fX10_117 (by decide) (xs_1 hL) dX10_news_21 ?_
      refine ww_nmI (fun v_24 hv_24 => ?_)
      refine ww_istore_n hX (pc := 24) (lv' := [some (kR (some 0)), some (kI a), some (kI v_24)]) dX10_news_24 (by decide) rfl rfl ?_
      refine ww_aload_n hX (pc := 25) dX10_news_25 rfl ?_
      refine ww_getR hX (pc := 26) fX10_10 (by decide) (xs_0 hL) (xr_0_0 hL) dX10_news_26 ?_
      refine ww_iload_n hX (pc := 29) dX10_news_29 rfl ?_
      refine ww_putI hX (pc := 30) (fun h9 => absurd h9 (by decide)) gX10_117 rfl (xs_1 hL) dX10_news_30 ?_
      refine ww_nmH (fun I_30 eI_30 => ?_)
      have kI_30 : Kp 0 49 Ia I_30 := by rw [eI_30]; exact Kp_up (Kp_rf (a := 0) (b := 49)) _ _ (by decide)
      have cI_30 : CX I_30 := by rw [eI_30]; exact CX_x hC (XI_1_6 hC.1 (by omega) (by omega)) (by decide)
      have qI_30 := XI_o cI_30.1
      have r5_I_30 : I_30 1 5 = Ia 1 5 := by rw [eI_30, up2_n _ _ (Or.inr (by decide))]
      skip
      have r8_I_30 : I_30 1 8 = Ia 1 8 := by rw [eI_30, up2_n _ _ (Or.inr (by decide))]
      have r9_I_30 : I_30 1 9 = Ia 1 9 := by rw [eI_30, up2_n _ _ (Or.inr (by decide))]
      have r10_I_30 : I_30 1 10 = Ia 1 10 := by rw [eI_30, up2_n _ _ (Or.inr (by decide))]
      have r11_I_30 : I_30 1 11 = Ia 1 11 := by rw [eI_30, up2_n _ _ (Or.inr (by decide))]
      have rf_I_30 : FU (I_30 1 5) = FU (Ia 1 5) := by rw [r5_I_30]
      have wI_30 : Fw [3, 18, 19, 20, 21, 22, 23, 24, 25, 26, 27, 28, 29, 30, 31, 32, 33, 34, 35, 36] [(0, 16), (1, 6), (1, 8), (1, 10), (1, 11)] Ia I_30 := by rw [eI_30]; exact Fw_up Fw_rf (Or.inr (by decide))
      have r7_I_30 : I_30 1 7 = Ia 1 7 := by rw [eI_30, up2_n _ _ (Or.inr (by decide))]
      have y3_I_30 : I_30 3 = Ia 3 := by rw [eI_30, up2_off _ _ _ (by decide)]
      refine ww_aload_n hX (pc := 33) dX10_news_33 rfl ?_
      refine ww_getR hX (pc := 34) fX10_10 (by decide) (xs_0 hL) (xr_0_0 hL) dX10_news_34 ?_
      refine vV0 hX (pc := 37) sX10_108 (xs_1 hL) (c_X1_forget l0 hL) (by decide) (Nat.le_refl 0) (Nat.le_refl 0) (Nat.le_of_ble_eq_true rfl) dX10_news_37 (fun I_37 J_37 h_37 => ?_)
      obtain ⟨rfl, eI_37⟩ := h_37
      have kI_37 : Kp 0 49 Ia I_37 := by rw [eI_37]; exact Kp_up (Kp_up (Kp_up (Kp_upR kI_30 _ (by decide)) _ _ (by decide)) _ _ (by decide)) _ _ (by decide)
      have cI_37 : CX I_37 := by
        refine CX_forget cI_30 (fun a h1 h2 h3 => ?_) ?_ ?_ ?_ ?_ ?_ ?_ (fun s hs => ?_)
        · rw [eI_37, up2_off _ _ _ h1, up2_off _ _ _ h1, up2_off _ _ _ h1, upR_n _ _ h3]
        · rw [eI_37, up2_n _ _ (Or.inr (by decide)), up2_n _ _ (Or.inr (by decide)), up2_n _ _ (Or.inr (by decide)), upR_n _ _ (by decide)]; omega
        · rw [eI_37, up2_n _ _ (Or.inr (by decide)), up2_n _ _ (Or.inr (by decide)), up2_n _ _ (Or.inr (by decide)), upR_n _ _ (by decide)]; omega
        · rw [eI_37, up2_n _ _ (Or.inr (by decide)), up2_n _ _ (Or.inr (by decide)), up2_s]
        · rw [eI_37, up2_n _ _ (Or.inr (by decide)), up2_n _ _ (Or.inr (by decide)), up2_n _ _ (Or.inr (by decide)), upR_n _ _ (by decide)]
        · rw [eI_37, up2_n _ _ (Or.inr (by decide)), up2_s]
        · rw [eI_37, up2_s]
        · rw [eI_37, up2_off _ _ _ (by decide), up2_off _ _ _ (by decide), up2_off _ _ _ (by decide), upR_s, if_pos hs]
      have wI_37 : Fw [3, 18, 19, 20, 21, 22, 23, 24, 25, 26, 27, 28, 29, 30, 31, 32, 33, 34, 35, 36] [(0, 16), (1, 6), (1, 8), (1, 10), (1, 11)] Ia I_37 := by rw [eI_37]; exact Fw_up (Fw_up (Fw_up (Fw_upR wI_30 (by decide)) (Or.inr (by decide))) (Or.inr (by decide))) (Or.inr (by decide))
      have v8_I_37 : I_37 1 8 = 0 := by rw [eI_37, up2_n _ _ (Or.inr (by decide)), up2_n _ _ (Or.inr (by decide)), up2_s]
      have v10_I_37 : I_37 1 10 = 0 := by rw [eI_37, up2_n _ _ (Or.inr (by decide)), up2_s]
      have v11_I_37 : I_37 1 11 = 0 := by rw [eI_37, up2_s]
      have v3_I_37 : ∀ s, s < 256 → I_37 3 s = -1 := fun s hs => by rw [eI_37, up2_off _ _ _ (by decide), up2_off _ _ _ (by decide), up2_off _ _ _ (by decide), upR_s, if_pos hs]
      have v6_I_37 : I_37 1 6 = a := by rw [eI_37, up2_n _ _ (Or.inr (by decide)), up2_n _ _ (Or.inr (by decide)), up2_n _ _ (Or.inr (by decide)), upR_n _ _ (by decide), eI_30, up2_s]
      refine ww_aload_n hX (pc := 40) dX10_news_40 rfl ?_
      refine vV0 hX (pc := 41) sX10_111 (xs_0 hL) (c5_X10_codeChanged l0 hL cI_37) (by decide) (Nat.le_refl 0) (Nat.le_refl 0) (Nat.le_of_ble_eq_true rfl) dX10_news_41 (fun I_41 J_41 h_41 => ?_)
      have kI_41 : Kp 0 49 Ia I_41 := Kp_tr kI_37 (Kp_wd h_41.1 (by decide) (by decide))
      have kJ_41 : Kp 0 49 Ja J_41 := Kp_tr (Kp_rf (a := 0) (b := 49)) (Kp_wd h_41.2.1 (by decide) (by decide))
      have cI_41 : CX I_41 := h_41.2.2.1
      have qI_41 := XI_o cI_41.1
      have wI_41 : Fw [3, 18, 19, 20, 21, 22, 23, 24, 25, 26, 27, 28, 29, 30, 31, 32, 33, 34, 35, 36] [(0, 16), (1, 6), (1, 8), (1, 10), (1, 11)] Ia I_41 := Fw_tr wI_37 (Fw_wd h_41.2.2.2.1 (by decide) (by decide))
      have r5_I_41 : I_41 1 5 = I_37 1 5 := h_41.2.2.2.1 1 5 (by decide) (by decide) (by decide)
      have r6_I_41 : I_41 1 6 = I_37 1 6 := h_41.2.2.2.1 1 6 (by decide) (by decide) (by decide)
      have r7_I_41 : I_41 1 7 = I_37 1 7 := h_41.2.2.2.1 1 7 (by decide) (by decide) (by decide)
      have r8_I_41 : I_41 1 8 = I_37 1 8 := h_41.2.2.2.1 1 8 (by decide) (by decide) (by decide)
      have r9_I_41 : I_41 1 9 = I_37 1 9 := h_41.2.2.2.1 1 9 (by decide) (by decide) (by decide)
      have r10_I_41 : I_41 1 10 = I_37 1 10 := h_41.2.2.2.1 1 10 (by decide) (by decide) (by decide)
      have r11_I_41 : I_41 1 11 = I_37 1 11 := h_41.2.2.2.1 1 11 (by decide) (by decide) (by decide)
      have r81_I_41 : I_41 8 1 = I_37 8 1 := h_41.2.2.2.1 8 1 (by decide) (by decide) (by decide)
      have rf_I_41 : FU (I_41 1 5) = FU (I_37 1 5) := by rw [r5_I_41]
      have y3_I_41 : I_41 3 = I_37 3 := Fw_row h_41.2.2.2.1 3 (by decide) (by decide) (by decide)
      refine ww_aload_n hX (pc := 44) dX10_news_44 rfl ?_
      refine ww_iload_n hX (pc := 45) dX10_news_45 rfl ?_
      refine vI1 hX (pc := 46) sX10_114 (xs_0 hL) (c5_X10_accept l0 hL cI_41) (by decide) (Nat.le_refl 0) (Nat.le_refl 0) (Nat.le_of_ble_eq_true rfl) dX10_news_46 (fun x_46 I_46 J_46 h_46 => ?_)
      have kI_46 : Kp 0 49 Ia I_46 := Kp_tr kI_41 (Kp_wd h_46.1 (by decide) (by decide))
      have kJ_46 : Kp 0 49 Ja J_46 := Kp_tr kJ_41 (Kp_wd h_46.2.1 (by decide) (by decide))
      have cI_46 : CX I_46 := h_46.2.2.1
      have qI_46 := XI_o cI_46.1
      have wI_46 : Fw [3, 18, 19, 20, 21, 22, 23, 24, 25, 26, 27, 28, 29, 30, 31, 32, 33, 34, 35, 36] [(0, 16), (1, 6), (1, 8), (1, 10), (1, 11)] Ia I_46 := Fw_tr wI_41 (Fw_wd h_46.2.2.2.1 (by decide) (by decide))
      have r5_I_46 : I_46 1 5 = I_41 1 5 := h_46.2.2.2.1 1 5 (by decide) (by decide) (by decide)
      have r6_I_46 : I_46 1 6 = I_41 1 6 := h_46.2.2.2.1 1 6 (by decide) (by decide) (by decide)
      have r7_I_46 : I_46 1 7 = I_41 1 7 := h_46.2.2.2.1 1 7 (by decide) (by decide) (by decide)
      have r8_I_46 : I_46 1 8 = I_41 1 8 := h_46.2.2.2.1 1 8 (by decide) (by decide) (by decide)
      have r9_I_46 : I_46 1 9 = I_41 1 9 := h_46.2.2.2.1 1 9 (by decide) (by decide) (by decide)
      have r10_I_46 : I_46 1 10 = I_41 1 10 := h_46.2.2.2.1 1 10 (by decide) (by decide) (by decide)
      have r11_I_46 : I_46 1 11 = I_41 1 11 := h_46.2.2.2.1 1 11 (by decide) (by decide) (by decide)
      have r81_I_46 : I_46 8 1 = I_41 8 1 := h_46.2.2.2.1 8 1 (by decide) (by decide) (by decide)
      have rf_I_46 : FU (I_46 1 5) = FU (I_41 1 5) := by rw [r5_I_46]
      have y3_I_46 : I_46 3 = I_41 3 := Fw_row h_46.2.2.2.1 3 (by decide) (by decide) (by decide)
      have xv_I_46 := h_46.2.2.2.2
      refine rI hX (pc := 49) hT (Nat.le_refl 0) (Nat.le_refl 0) dX10_news_49 ?_
      exact ⟨kI_46, kJ_46, cI_46, (Fw_wd wI_46 (by decide) (by decide)), (fun h9 => absurd (by omega) h9), (fun _ => ⟨by rw [xv_I_46.1, hv_24], wI_46, by omega, xv_I_46.2, by omega, by omega, by omega, (fun s hs => by rw [y3_I_46, y3_I_41]; exact v3_I_37 s hs)⟩)⟩
    · simp only [w32_mod] at h_8
      refine ww_aload_n hX (pc := 11) dX10_news_11 rfl ?_
      refine ww_iconst hX (pc := 12) (x := (-1)) dX10_news_12 rfl ?_
      refine vI1 hX (pc := 13) sX10_89 (xs_0 hL) (c5_X10_refuse l0 hL hC (by omega) (by omega)) (by decide) (Nat.le_refl 0) (Nat.le_refl 0) (Nat.le_of_ble_eq_true rfl) dX10_news_13 (fun x_13 I_13 J_13 h_13 => ?_)
      have kI_13 : Kp 0 49 Ia I_13 := Kp_tr (Kp_rf (a := 0) (b := 49)) (Kp_wd h_13.1 (by decide) (by decide))
      have kJ_13 : Kp 0 49 Ja J_13 := Kp_tr (Kp_rf (a := 0) (b := 49)) (Kp_wd h_13.2.1 (by decide) (by decide))
      have cI_13 : CX I_13 := h_13.2.2.1
      have qI_13 := XI_o cI_13.1
      have wI_13 : Fw [3, 18, 19, 20, 21, 22, 23, 24, 25, 26, 27, 28, 29, 30, 31, 32, 33, 34, 35, 36, 48] [(0, 16), (1, 6), (1, 8), (1, 10), (1, 11)] Ia I_13 := Fw_tr Fw_rf (Fw_wd h_13.2.2.2.1 (by decide) (by decide))
      have r5_I_13 : I_13 1 5 = Ia 1 5 := h_13.2.2.2.1 1 5 (by decide) (by decide) (by decide)
      have r6_I_13 : I_13 1 6 = Ia 1 6 := h_13.2.2.2.1 1 6 (by decide) (by decide) (by decide)
      have r7_I_13 : I_13 1 7 = Ia 1 7 := h_13.2.2.2.1 1 7 (by decide) (by decide) (by decide)
      have r8_I_13 : I_13 1 8 = Ia 1 8 := h_13.2.2.2.1 1 8 (by decide) (by decide) (by decide)
      have r9_I_13 : I_13 1 9 = Ia 1 9 := h_13.2.2.2.1 1 9 (by decide) (by decide) (by decide)
      have r10_I_13 : I_13 1 10 = Ia 1 10 := h_13.2.2.2.1 1 10 (by decide) (by decide) (by decide)
      have r11_I_13 : I_13 1 11 = Ia 1 11 := h_13.2.2.2.1 1 11 (by decide) (by decide) (by decide)
      have r81_I_13 : I_13 8 1 = Ia 8 1 := h_13.2.2.2.1 8 1 (by decide) (by decide) (by decide)
      have rf_I_13 : FU (I_13 1 5) = FU (Ia 1 5) := by rw [r5_I_13]
      have y3_I_13 : I_13 3 = Ia 3 := Fw_row h_13.2.2.2.1 3 (by decide) (by decide) (by decide)
      have xv_I_13 := h_13.2.2.2.2
      refine rI hX (pc := 16) hT (Nat.le_refl 0) (Nat.le_refl 0) dX10_news_16 ?_
      exact ⟨kI_13, kJ_13, cI_13, (Fw_wd wI_13 (by decide) (by decide)), (fun _ => ⟨xv_I_13.1, h_13.2.2.2.1, xv_I_13.2⟩), (fun h9 => absurd h9 (by omega))⟩
set_option maxHeartbeats 4000000 in
set_option maxRecDepth 20000 in
theorem c5_X10_drawn (l0 : Launch) {Ia Ja : aI1} {Ra : aR1} {Sa : aS1} (hL : LY Ra Sa) (hC : CX Ia) {a : Int} (ha0 : -2147483648 ≤ a) (ha1 : a < 2147483648)  : CT l0 10 0 0 mX10_drawn [kR (some 0), kI a] Ia Ja Ra Sa (cI (fun x I' J' => Kp 0 49 Ia I' ∧ Kp 0 49 Ja J' ∧ CX I' ∧ Fw [] [] Ia I' ∧ True) Ra Sa) := by
  refine ct_in pn_X10 (Nat.le_of_ble_eq_true rfl) (fun X hX hT hIn => ?_)
  have hX : aK l0 X cX10_drawn 2 RX10 (some .int) 10 0 0 := hX
  change WW X 0 [some (kR (some 0)), some (kI a)] [] Ia Ja Ra Sa 0 0
  have hI := hC.1
  have hq := XI_o hI
  refine ww_iload_n hX (pc := 0) dX10_drawn_0 rfl ?_
  refine ww_iconst hX (pc := 1) (x := (-1)) dX10_drawn_1 rfl ?_
  refine ww_icmp_ne hX (pc := 2) (tgt := 10) dX10_drawn_2 (by decide) (fun h_2 => ?_) (fun h_2 => ?_)
  · simp only [w32_mod] at h_2
    refine ww_iload_n hX (pc := 10) dX10_drawn_10 rfl ?_
    refine ww_if_lt hX (pc := 11) (tgt := 31) dX10_drawn_11 (by decide) (fun h_11 => ?_) (fun h_11 => ?_)
    · simp only [w32_mod] at h_11
      refine ww_iconst hX (pc := 31) (x := (-1)) dX10_drawn_31 rfl ?_
      refine rI hX (pc := 32) hT (Nat.le_refl 0) (Nat.le_refl 0) dX10_drawn_32 ?_
      exact ⟨(Kp_rf (a := 0) (b := 49)), (Kp_rf (a := 0) (b := 49)), hC, Fw_rf, trivial⟩
    · simp only [w32_mod] at h_11
      refine ww_iload_n hX (pc := 14) dX10_drawn_14 rfl ?_
      refine ww_aload_n hX (pc := 15) dX10_drawn_15 rfl ?_
      refine ww_getI hX (pc := 16) fX10_298 (by decide) (xs_0 hL) dX10_drawn_16 ?_
      refine ww_icmp_ge hX (pc := 19) (tgt := 31) dX10_drawn_19 (by decide) (fun h_19 => ?_) (fun h_19 => ?_)
      · simp only [w32_mod] at h_19
        refine ww_iconst hX (pc := 31) (x := (-1)) dX10_drawn_31 rfl ?_
        refine rI hX (pc := 32) hT (Nat.le_refl 0) (Nat.le_refl 0) dX10_drawn_32 ?_
        exact ⟨(Kp_rf (a := 0) (b := 49)), (Kp_rf (a := 0) (b := 49)), hC, Fw_rf, trivial⟩
      · simp only [w32_mod] at h_19
        refine ww_aload_n hX (pc := 22) dX10_drawn_22 rfl ?_
        refine ww_getR hX (pc := 23) fX10_79 (by decide) (xs_0 hL) (xr_0_10 hL) dX10_drawn_23 ?_
        refine ww_iload_n hX (pc := 26) dX10_drawn_26 rfl ?_
        refine ww_iald hX (pc := 27) (xs_47 hL) (by decide) (by omega) (by omega) dX10_drawn_27 ?_
        refine ww_goto hX (pc := 28) (tgt := 32) dX10_drawn_28 (by decide) ?_
        refine rI hX (pc := 32) hT (Nat.le_refl 0) (Nat.le_refl 0) dX10_drawn_32 ?_
        exact ⟨(Kp_rf (a := 0) (b := 49)), (Kp_rf (a := 0) (b := 49)), hC, Fw_rf, trivial⟩
  · simp only [w32_mod] at h_2
    refine ww_aload_n hX (pc := 5) dX10_drawn_5 rfl ?_
    refine ww_getI hX (pc := 6) fX10_85 (by decide) (xs_0 hL) dX10_drawn_6 ?_
    refine rI hX (pc := 9) hT (Nat.le_refl 0) (Nat.le_refl 0) dX10_drawn_9 ?_
    exact ⟨(Kp_rf (a := 0) (b := 49)), (Kp_rf (a := 0) (b := 49)), hC, Fw_rf, trivial⟩
set_option maxHeartbeats 4000000 in
set_option maxRecDepth 20000 in
theorem c5_X10_send (l0 : Launch) {Ia Ja : aI1} {Ra : aR1} {Sa : aS1} (hL : LY Ra Sa) (hC : CX Ia) {a b : Int} (ha0 : -2147483648 ≤ a) (ha1 : a < 2147483648) (hb0 : -2147483648 ≤ b) (hb1 : b < 2147483648)  : CT l0 10 0 0 mX10_send [kR (some 0), kI a, kI b] Ia Ja Ra Sa (cI (fun x I' J' => Kp 0 49 Ia I' ∧ Kp 0 49 Ja J' ∧ CX I' ∧ Fw [5, 18, 19, 20, 21, 22, 23, 24, 25, 26, 27, 28, 29, 30, 31, 32, 33, 34, 35, 36, 48] [(0, 16), (1, 8), (1, 10)] Ia I' ∧ True) Ra Sa) := by
  refine ct_in pn_X10 (Nat.le_of_ble_eq_true rfl) (fun X hX hT hIn => ?_)
  have hX : aK l0 X cX10_send 5 RX10 (some .int) 10 0 0 := hX
  change WW X 0 [some (kR (some 0)), some (kI a), some (kI b), none, none] [] Ia Ja Ra Sa 0 0
  have hI := hC.1
  have hq := XI_o hI
  refine ww_aload_n hX (pc := 0) dX10_send_0 rfl ?_
  refine ww_getR hX (pc := 1) fX10_10 (by decide) (xs_0 hL) (xr_0_0 hL) dX10_send_1 ?_
  refine ww_iload_n hX (pc := 4) dX10_send_4 rfl ?_
  refine vI1 hX (pc := 5) sX10_134 (xs_1 hL) (c_X1_isNews l0 hL hC.1 (by omega)) (by decide) (Nat.le_refl 0) (Nat.le_refl 0) (Nat.le_of_ble_eq_true rfl) dX10_send_5 (fun x_5 I_5 J_5 h_5 => ?_)
  obtain ⟨rfl, rfl, h_5⟩ := h_5
  refine ww_if_eq hX (pc := 8) (tgt := 18) dX10_send_8 (by decide) (fun h_8 => ?_) (fun h_8 => ?_)
  · simp only [w32_mod] at h_8
    refine ww_aload_n hX (pc := 18) dX10_send_18 rfl ?_
    refine ww_iconst hX (pc := 19) (x := (-1)) dX10_send_19 rfl ?_
    refine vI1 hX (pc := 20) sX10_89 (xs_0 hL) (c5_X10_refuse l0 hL hC (by omega) (by omega)) (by decide) (Nat.le_refl 0) (Nat.le_refl 0) (Nat.le_of_ble_eq_true rfl) dX10_send_20 (fun x_20 I_20 J_20 h_20 => ?_)
    have kI_20 : Kp 0 49 Ia I_20 := Kp_tr (Kp_rf (a := 0) (b := 49)) (Kp_wd h_20.1 (by decide) (by decide))
    have kJ_20 : Kp 0 49 Ja J_20 := Kp_tr (Kp_rf (a := 0) (b := 49)) (Kp_wd h_20.2.1 (by decide) (by decide))
    have cI_20 : CX I_20 := h_20.2.2.1
    have qI_20 := XI_o cI_20.1
    have wI_20 : Fw [5, 18, 19, 20, 21, 22, 23, 24, 25, 26, 27, 28, 29, 30, 31, 32, 33, 34, 35, 36, 48] [(0, 16), (1, 8), (1, 10)] Ia I_20 := Fw_tr Fw_rf (Fw_wd h_20.2.2.2.1 (by decide) (by decide))
    have r5_I_20 : I_20 1 5 = Ia 1 5 := h_20.2.2.2.1 1 5 (by decide) (by decide) (by decide)
    have r6_I_20 : I_20 1 6 = Ia 1 6 := h_20.2.2.2.1 1 6 (by decide) (by decide) (by decide)
    have r7_I_20 : I_20 1 7 = Ia 1 7 := h_20.2.2.2.1 1 7 (by decide) (by decide) (by decide)
    have r8_I_20 : I_20 1 8 = Ia 1 8 := h_20.2.2.2.1 1 8 (by decide) (by decide) (by decide)
    have r9_I_20 : I_20 1 9 = Ia 1 9 := h_20.2.2.2.1 1 9 (by decide) (by decide) (by decide)
    have r10_I_20 : I_20 1 10 = Ia 1 10 := h_20.2.2.2.1 1 10 (by decide) (by decide) (by decide)
    have r11_I_20 : I_20 1 11 = Ia 1 11 := h_20.2.2.2.1 1 11 (by decide) (by decide) (by decide)
    have r81_I_20 : I_20 8 1 = Ia 8 1 := h_20.2.2.2.1 8 1 (by decide) (by decide) (by decide)
    have rf_I_20 : FU (I_20 1 5) = FU (Ia 1 5) := by rw [r5_I_20]
    have xv_I_20 := h_20.2.2.2.2
    refine rI hX (pc := 23) hT (Nat.le_refl 0) (Nat.le_refl 0) dX10_send_23 ?_
    exact ⟨kI_20, kJ_20, cI_20, (Fw_wd wI_20 (by decide) (by decide)), trivial⟩
  · simp only [w32_mod] at h_8
    have k_5 := h_5.2.mp (by omega)
    clear h_5
    refine ww_iload_n hX (pc := 11) dX10_send_11 rfl ?_
    refine sI1 hX (pc := 12) sX10_188 (c_X10_isManner l0 (by omega) (by omega)) (by decide) (Nat.le_refl 0) (Nat.le_refl 0) (Nat.le_of_ble_eq_true rfl) dX10_send_12 (fun x_12 I_12 J_12 h_12 => ?_)
    obtain ⟨rfl, rfl, h_12⟩ := h_12
    refine ww_if_ne hX (pc := 15) (tgt := 24) dX10_send_15 (by decide) (fun h_15 => ?_) (fun h_15 => ?_)
    · simp only [w32_mod] at h_15
      have k_12 := h_12.2.mp (by omega)
      clear h_12
      refine ww_aload_n hX (pc := 24) dX10_send_24 rfl ?_
      refine ww_getR hX (pc := 25) fX10_48 (by decide) (xs_0 hL) (xr_0_5 hL) dX10_send_25 ?_
      refine ww_iload_n hX (pc := 28) dX10_send_28 rfl ?_
      refine vV1 hX (pc := 29) sX10_191 (xs_18 hL) (c_X4_prepare l0 hL hC.1) (by decide) (Nat.le_refl 0) (Nat.le_refl 0) (Nat.le_of_ble_eq_true rfl) dX10_send_29 (fun I_29 J_29 h_29 => ?_)
      have kI_29 : Kp 0 49 Ia I_29 := Kp_tr (Kp_rf (a := 0) (b := 49)) (Kp_wd h_29.1 (by decide) (by decide))
      have kJ_29 : Kp 0 49 Ja J_29 := Kp_tr (Kp_rf (a := 0) (b := 49)) (Kp_wd h_29.2.1 (by decide) (by decide))
      have cI_29 : CX I_29 := CX_kp hC h_29.1 (by decide) (by decide)
      have qI_29 := XI_o cI_29.1
      have r5_I_29 : I_29 1 5 = Ia 1 5 := by rw [h_29.1 1 (by decide)]
      have r6_I_29 : I_29 1 6 = Ia 1 6 := by rw [h_29.1 1 (by decide)]
      have r8_I_29 : I_29 1 8 = Ia 1 8 := by rw [h_29.1 1 (by decide)]
      have r9_I_29 : I_29 1 9 = Ia 1 9 := by rw [h_29.1 1 (by decide)]
      have r10_I_29 : I_29 1 10 = Ia 1 10 := by rw [h_29.1 1 (by decide)]
      have r11_I_29 : I_29 1 11 = Ia 1 11 := by rw [h_29.1 1 (by decide)]
      have rf_I_29 : FU (I_29 1 5) = FU (Ia 1 5) := by rw [r5_I_29]
      have wI_29 : Fw [5, 18, 19, 20, 21, 22, 23, 24, 25, 26, 27, 28, 29, 30, 31, 32, 33, 34, 35, 36] [(0, 16), (1, 8), (1, 10)] Ia I_29 := Fw_kp Fw_rf h_29.1 (by decide)
      have r7_I_29 : I_29 1 7 = Ia 1 7 := by rw [h_29.1 1 (by decide)]
      refine ww_aload_n hX (pc := 32) dX10_send_32 rfl ?_
      refine ww_getR hX (pc := 33) fX10_48 (by decide) (xs_0 hL) (xr_0_5 hL) dX10_send_33 ?_
      refine ww_aload_n hX (pc := 36) dX10_send_36 rfl ?_
      refine ww_getR hX (pc := 37) fX10_10 (by decide) (xs_0 hL) (xr_0_0 hL) dX10_send_37 ?_
      refine ww_getI hX (pc := 40) fX10_236 (by decide) (xs_1 hL) dX10_send_40 ?_
      refine ww_iload_n hX (pc := 43) dX10_send_43 rfl ?_
      refine ww_iload_n hX (pc := 44) dX10_send_44 rfl ?_
      refine vI3 hX (pc := 45) sX10_194 (xs_18 hL) (c_X4_choose l0 hL cI_29.1 (by omega) (by omega) (by omega) (by omega)) (by decide) (Nat.le_refl 0) (Nat.le_refl 0) (Nat.le_of_ble_eq_true rfl) dX10_send_45 (fun x_45 I_45 J_45 h_45 => ?_)
      have kI_45 : Kp 0 49 Ia I_45 := Kp_tr kI_29 (Kp_wd h_45.1 (by decide) (by decide))
      have kJ_45 : Kp 0 49 Ja J_45 := Kp_tr kJ_29 (Kp_wd h_45.2.1 (by decide) (by decide))
      have cI_45 : CX I_45 := CX_kp cI_29 h_45.1 (by decide) (by decide)
      have qI_45 := XI_o cI_45.1
      have r5_I_45 : I_45 1 5 = I_29 1 5 := by rw [h_45.1 1 (by decide)]
      have r6_I_45 : I_45 1 6 = I_29 1 6 := by rw [h_45.1 1 (by decide)]
      have r8_I_45 : I_45 1 8 = I_29 1 8 := by rw [h_45.1 1 (by decide)]
      have r9_I_45 : I_45 1 9 = I_29 1 9 := by rw [h_45.1 1 (by decide)]
      have r10_I_45 : I_45 1 10 = I_29 1 10 := by rw [h_45.1 1 (by decide)]
      have r11_I_45 : I_45 1 11 = I_29 1 11 := by rw [h_45.1 1 (by decide)]
      have rf_I_45 : FU (I_45 1 5) = FU (I_29 1 5) := by rw [r5_I_45]
      have wI_45 : Fw [5, 18, 19, 20, 21, 22, 23, 24, 25, 26, 27, 28, 29, 30, 31, 32, 33, 34, 35, 36] [(0, 16), (1, 8), (1, 10)] Ia I_45 := Fw_kp wI_29 h_45.1 (by decide)
      have r7_I_45 : I_45 1 7 = I_29 1 7 := by rw [h_45.1 1 (by decide)]
      refine ww_istore_n hX (pc := 48) (lv' := [some (kR (some 0)), some (kI a), some (kI b), some (kI x_45), none]) dX10_send_48 (by decide) rfl rfl ?_
      refine ww_iload_n hX (pc := 49) dX10_send_49 rfl ?_
      refine ww_iconst hX (pc := 50) (x := (-1)) dX10_send_50 rfl ?_
      refine ww_icmp_ne hX (pc := 51) (tgt := 61) dX10_send_51 (by decide) (fun h_51 => ?_) (fun h_51 => ?_)
      · simp only [w32_mod] at h_51
        refine ww_aload_n hX (pc := 61) dX10_send_61 rfl ?_
        refine ww_getR hX (pc := 62) fX10_10 (by decide) (xs_0 hL) (xr_0_0 hL) dX10_send_62 ?_
        refine ww_getI hX (pc := 65) fX10_239 (by decide) (xs_1 hL) dX10_send_65 ?_
        refine ww_bipush hX (pc := 68) (x := 24) dX10_send_68 (by decide) ?_
        refine ww_icmp_lt hX (pc := 70) (tgt := 80) dX10_send_70 (by decide) (fun h_70 => ?_) (fun h_70 => ?_)
        · simp only [w32_mod] at h_70
          refine ww_iload_n hX (pc := 80) dX10_send_80 rfl ?_
          refine ww_aload_n hX (pc := 81) dX10_send_81 rfl ?_
          refine ww_getR hX (pc := 82) fX10_10 (by decide) (xs_0 hL) (xr_0_0 hL) dX10_send_82 ?_
          refine ww_getI hX (pc := 85) fX10_236 (by decide) (xs_1 hL) dX10_send_85 ?_
          refine ww_ixor hX (pc := 88) dX10_send_88 ?_
          refine sI1 hX (pc := 89) sX10_242 (c_J6_bitCount_0f7a4 l0) (by decide) (Nat.le_refl 0) (Nat.le_refl 0) (Nat.le_of_ble_eq_true rfl) dX10_send_89 (fun x_89 I_89 J_89 h_89 => ?_)
          obtain ⟨rfl, rfl, h_89⟩ := h_89
          refine ww_istore hX (pc := 92) (lv' := [some (kR (some 0)), some (kI a), some (kI b), some (kI x_45), some (kI x_89)]) dX10_send_92 (by decide) rfl rfl ?_
          refine ww_aload_n hX (pc := 94) dX10_send_94 rfl ?_
          refine ww_getR hX (pc := 95) fX10_10 (by decide) (xs_0 hL) (xr_0_0 hL) dX10_send_95 ?_
          refine ww_getR hX (pc := 98) fX10_247 (by decide) (xs_1 hL) (xr_1_3 hL) dX10_send_98 ?_
          refine ww_aload_n hX (pc := 101) dX10_send_101 rfl ?_
          refine ww_getR hX (pc := 102) fX10_10 (by decide) (xs_0 hL) (xr_0_0 hL) dX10_send_102 ?_
          refine ww_getI hX (pc := 105) fX10_239 (by decide) (xs_1 hL) dX10_send_105 ?_
          refine ww_iload_n hX (pc := 108) dX10_send_108 rfl ?_
          refine ww_iast hX (pc := 109) (xs_5 hL) (by decide) (by omega) (by omega) dX10_send_109 ?_
          refine ww_nmH (fun I_109 eI_109 => ?_)
          have kI_109 : Kp 0 49 Ia I_109 := by rw [eI_109]; exact Kp_up kI_45 _ _ (by decide)
          have cI_109 : CX I_109 := by rw [eI_109]; exact CX_up cI_45 (by decide)
          have qI_109 := XI_o cI_109.1
          have r5_I_109 : I_109 1 5 = I_45 1 5 := by rw [eI_109, up2_off _ _ _ (by decide)]
          have r6_I_109 : I_109 1 6 = I_45 1 6 := by rw [eI_109, up2_off _ _ _ (by decide)]
          have r8_I_109 : I_109 1 8 = I_45 1 8 := by rw [eI_109, up2_off _ _ _ (by decide)]
          have r9_I_109 : I_109 1 9 = I_45 1 9 := by rw [eI_109, up2_off _ _ _ (by decide)]
          have r10_I_109 : I_109 1 10 = I_45 1 10 := by rw [eI_109, up2_off _ _ _ (by decide)]
          have r11_I_109 : I_109 1 11 = I_45 1 11 := by rw [eI_109, up2_off _ _ _ (by decide)]
          have rf_I_109 : FU (I_109 1 5) = FU (I_45 1 5) := by rw [r5_I_109]
          have wI_109 : Fw [5, 18, 19, 20, 21, 22, 23, 24, 25, 26, 27, 28, 29, 30, 31, 32, 33, 34, 35, 36] [(0, 16), (1, 8), (1, 10)] Ia I_109 := by rw [eI_109]; exact Fw_up wI_45 (Or.inl (by decide))
          have r7_I_109 : I_109 1 7 = I_45 1 7 := by rw [eI_109, up2_n _ _ (Or.inl (by decide))]
          refine ww_aload_n hX (pc := 110) dX10_send_110 rfl ?_
          refine ww_getR hX (pc := 111) fX10_10 (by decide) (xs_0 hL) (xr_0_0 hL) dX10_send_111 ?_
          refine ww_dupR hX (pc := 114) dX10_send_114 ?_
          refine ww_getI hX (pc := 115) fX10_239 (by decide) (xs_1 hL) dX10_send_115 ?_
          refine ww_iconst hX (pc := 118) (x := 1) dX10_send_118 rfl ?_
          refine ww_iadd hX (pc := 119) dX10_send_119 ?_
          refine ww_putI hX (pc := 120) (fun h9 => absurd h9 (by decide)) gX10_239 rfl (xs_1 hL) dX10_send_120 ?_
          refine ww_nmH (fun I_120 eI_120 => ?_)
          have kI_120 : Kp 0 49 Ia I_120 := by rw [eI_120]; exact Kp_up kI_109 _ _ (by decide)
          have cI_120 : CX I_120 := by rw [eI_120]; exact CX_x cI_109 (XI_1_10 cI_109.1 (by omega) (by omega)) (by decide)
          have qI_120 := XI_o cI_120.1
          have r5_I_120 : I_120 1 5 = I_109 1 5 := by rw [eI_120, up2_n _ _ (Or.inr (by decide))]
          have r6_I_120 : I_120 1 6 = I_109 1 6 := by rw [eI_120, up2_n _ _ (Or.inr (by decide))]
          have r8_I_120 : I_120 1 8 = I_109 1 8 := by rw [eI_120, up2_n _ _ (Or.inr (by decide))]
          have r9_I_120 : I_120 1 9 = I_109 1 9 := by rw [eI_120, up2_n _ _ (Or.inr (by decide))]
          skip
          have r11_I_120 : I_120 1 11 = I_109 1 11 := by rw [eI_120, up2_n _ _ (Or.inr (by decide))]
          have rf_I_120 : FU (I_120 1 5) = FU (I_109 1 5) := by rw [r5_I_120]
          have wI_120 : Fw [5, 18, 19, 20, 21, 22, 23, 24, 25, 26, 27, 28, 29, 30, 31, 32, 33, 34, 35, 36] [(0, 16), (1, 8), (1, 10)] Ia I_120 := by rw [eI_120]; exact Fw_up wI_109 (Or.inr (by decide))
          have r7_I_120 : I_120 1 7 = I_109 1 7 := by rw [eI_120, up2_n _ _ (Or.inr (by decide))]
          refine ww_aload_n hX (pc := 123) dX10_send_123 rfl ?_
          refine ww_getR hX (pc := 124) fX10_10 (by decide) (xs_0 hL) (xr_0_0 hL) dX10_send_124 ?_
          refine ww_iload_n hX (pc := 127) dX10_send_127 rfl ?_
          refine ww_putI hX (pc := 128) (fun h9 => absurd h9 (by decide)) gX10_236 rfl (xs_1 hL) dX10_send_128 ?_
          refine ww_nmH (fun I_128 eI_128 => ?_)
          have kI_128 : Kp 0 49 Ia I_128 := by rw [eI_128]; exact Kp_up kI_120 _ _ (by decide)
          have cI_128 : CX I_128 := by rw [eI_128]; exact CX_x cI_120 (XI_1_8 cI_120.1 (by omega) (by omega)) (by decide)
          have qI_128 := XI_o cI_128.1
          have r5_I_128 : I_128 1 5 = I_120 1 5 := by rw [eI_128, up2_n _ _ (Or.inr (by decide))]
          have r6_I_128 : I_128 1 6 = I_120 1 6 := by rw [eI_128, up2_n _ _ (Or.inr (by decide))]
          skip
          have r9_I_128 : I_128 1 9 = I_120 1 9 := by rw [eI_128, up2_n _ _ (Or.inr (by decide))]
          have r10_I_128 : I_128 1 10 = I_120 1 10 := by rw [eI_128, up2_n _ _ (Or.inr (by decide))]
          have r11_I_128 : I_128 1 11 = I_120 1 11 := by rw [eI_128, up2_n _ _ (Or.inr (by decide))]
          have rf_I_128 : FU (I_128 1 5) = FU (I_120 1 5) := by rw [r5_I_128]
          have wI_128 : Fw [5, 18, 19, 20, 21, 22, 23, 24, 25, 26, 27, 28, 29, 30, 31, 32, 33, 34, 35, 36] [(0, 16), (1, 8), (1, 10)] Ia I_128 := by rw [eI_128]; exact Fw_up wI_120 (Or.inr (by decide))
          have r7_I_128 : I_128 1 7 = I_120 1 7 := by rw [eI_128, up2_n _ _ (Or.inr (by decide))]
          refine ww_aload_n hX (pc := 131) dX10_send_131 rfl ?_
          refine ww_iload hX (pc := 132) dX10_send_132 rfl ?_
          refine vI1 hX (pc := 134) sX10_114 (xs_0 hL) (c5_X10_accept l0 hL cI_128) (by decide) (Nat.le_refl 0) (Nat.le_refl 0) (Nat.le_of_ble_eq_true rfl) dX10_send_134 (fun x_134 I_134 J_134 h_134 => ?_)
          have kI_134 : Kp 0 49 Ia I_134 := Kp_tr kI_128 (Kp_wd h_134.1 (by decide) (by decide))
          have kJ_134 : Kp 0 49 Ja J_134 := Kp_tr kJ_45 (Kp_wd h_134.2.1 (by decide) (by decide))
          have cI_134 : CX I_134 := h_134.2.2.1
          have qI_134 := XI_o cI_134.1
          have wI_134 : Fw [5, 18, 19, 20, 21, 22, 23, 24, 25, 26, 27, 28, 29, 30, 31, 32, 33, 34, 35, 36] [(0, 16), (1, 8), (1, 10)] Ia I_134 := Fw_tr wI_128 (Fw_wd h_134.2.2.2.1 (by decide) (by decide))
          have r5_I_134 : I_134 1 5 = I_128 1 5 := h_134.2.2.2.1 1 5 (by decide) (by decide) (by decide)
          have r6_I_134 : I_134 1 6 = I_128 1 6 := h_134.2.2.2.1 1 6 (by decide) (by decide) (by decide)
          have r7_I_134 : I_134 1 7 = I_128 1 7 := h_134.2.2.2.1 1 7 (by decide) (by decide) (by decide)
          have r8_I_134 : I_134 1 8 = I_128 1 8 := h_134.2.2.2.1 1 8 (by decide) (by decide) (by decide)
          have r9_I_134 : I_134 1 9 = I_128 1 9 := h_134.2.2.2.1 1 9 (by decide) (by decide) (by decide)
          have r10_I_134 : I_134 1 10 = I_128 1 10 := h_134.2.2.2.1 1 10 (by decide) (by decide) (by decide)
          have r11_I_134 : I_134 1 11 = I_128 1 11 := h_134.2.2.2.1 1 11 (by decide) (by decide) (by decide)
          have r81_I_134 : I_134 8 1 = I_128 8 1 := h_134.2.2.2.1 8 1 (by decide) (by decide) (by decide)
          have rf_I_134 : FU (I_134 1 5) = FU (I_128 1 5) := by rw [r5_I_134]
          have xv_I_134 := h_134.2.2.2.2
          refine rI hX (pc := 137) hT (Nat.le_refl 0) (Nat.le_refl 0) dX10_send_137 ?_
          exact ⟨kI_134, kJ_134, cI_134, (Fw_wd wI_134 (by decide) (by decide)), trivial⟩
        · simp only [w32_mod] at h_70
          refine ww_aload_n hX (pc := 73) dX10_send_73 rfl ?_
          refine ww_bipush hX (pc := 74) (x := (-5)) dX10_send_74 (by decide) ?_
          refine vI1 hX (pc := 76) sX10_89 (xs_0 hL) (c5_X10_refuse l0 hL cI_45 (by omega) (by omega)) (by decide) (Nat.le_refl 0) (Nat.le_refl 0) (Nat.le_of_ble_eq_true rfl) dX10_send_76 (fun x_76 I_76 J_76 h_76 => ?_)
          have kI_76 : Kp 0 49 Ia I_76 := Kp_tr kI_45 (Kp_wd h_76.1 (by decide) (by decide))
          have kJ_76 : Kp 0 49 Ja J_76 := Kp_tr kJ_45 (Kp_wd h_76.2.1 (by decide) (by decide))
          have cI_76 : CX I_76 := h_76.2.2.1
          have qI_76 := XI_o cI_76.1
          have wI_76 : Fw [5, 18, 19, 20, 21, 22, 23, 24, 25, 26, 27, 28, 29, 30, 31, 32, 33, 34, 35, 36, 48] [(0, 16), (1, 8), (1, 10)] Ia I_76 := Fw_tr (Fw_wd wI_45 (by decide) (by decide)) (Fw_wd h_76.2.2.2.1 (by decide) (by decide))
          have r5_I_76 : I_76 1 5 = I_45 1 5 := h_76.2.2.2.1 1 5 (by decide) (by decide) (by decide)
          have r6_I_76 : I_76 1 6 = I_45 1 6 := h_76.2.2.2.1 1 6 (by decide) (by decide) (by decide)
          have r7_I_76 : I_76 1 7 = I_45 1 7 := h_76.2.2.2.1 1 7 (by decide) (by decide) (by decide)
          have r8_I_76 : I_76 1 8 = I_45 1 8 := h_76.2.2.2.1 1 8 (by decide) (by decide) (by decide)
          have r9_I_76 : I_76 1 9 = I_45 1 9 := h_76.2.2.2.1 1 9 (by decide) (by decide) (by decide)
          have r10_I_76 : I_76 1 10 = I_45 1 10 := h_76.2.2.2.1 1 10 (by decide) (by decide) (by decide)
          have r11_I_76 : I_76 1 11 = I_45 1 11 := h_76.2.2.2.1 1 11 (by decide) (by decide) (by decide)
          have r81_I_76 : I_76 8 1 = I_45 8 1 := h_76.2.2.2.1 8 1 (by decide) (by decide) (by decide)
          have rf_I_76 : FU (I_76 1 5) = FU (I_45 1 5) := by rw [r5_I_76]
          have xv_I_76 := h_76.2.2.2.2
          refine rI hX (pc := 79) hT (Nat.le_refl 0) (Nat.le_refl 0) dX10_send_79 ?_
          exact ⟨kI_76, kJ_76, cI_76, (Fw_wd wI_76 (by decide) (by decide)), trivial⟩
      · simp only [w32_mod] at h_51
        refine ww_aload_n hX (pc := 54) dX10_send_54 rfl ?_
        refine ww_bipush hX (pc := 55) (x := (-3)) dX10_send_55 (by decide) ?_
        refine vI1 hX (pc := 57) sX10_89 (xs_0 hL) (c5_X10_refuse l0 hL cI_45 (by omega) (by omega)) (by decide) (Nat.le_refl 0) (Nat.le_refl 0) (Nat.le_of_ble_eq_true rfl) dX10_send_57 (fun x_57 I_57 J_57 h_57 => ?_)
        have kI_57 : Kp 0 49 Ia I_57 := Kp_tr kI_45 (Kp_wd h_57.1 (by decide) (by decide))
        have kJ_57 : Kp 0 49 Ja J_57 := Kp_tr kJ_45 (Kp_wd h_57.2.1 (by decide) (by decide))
        have cI_57 : CX I_57 := h_57.2.2.1
        have qI_57 := XI_o cI_57.1
        have wI_57 : Fw [5, 18, 19, 20, 21, 22, 23, 24, 25, 26, 27, 28, 29, 30, 31, 32, 33, 34, 35, 36, 48] [(0, 16), (1, 8), (1, 10)] Ia I_57 := Fw_tr (Fw_wd wI_45 (by decide) (by decide)) (Fw_wd h_57.2.2.2.1 (by decide) (by decide))
        have r5_I_57 : I_57 1 5 = I_45 1 5 := h_57.2.2.2.1 1 5 (by decide) (by decide) (by decide)
        have r6_I_57 : I_57 1 6 = I_45 1 6 := h_57.2.2.2.1 1 6 (by decide) (by decide) (by decide)
        have r7_I_57 : I_57 1 7 = I_45 1 7 := h_57.2.2.2.1 1 7 (by decide) (by decide) (by decide)
        have r8_I_57 : I_57 1 8 = I_45 1 8 := h_57.2.2.2.1 1 8 (by decide) (by decide) (by decide)
        have r9_I_57 : I_57 1 9 = I_45 1 9 := h_57.2.2.2.1 1 9 (by decide) (by decide) (by decide)
        have r10_I_57 : I_57 1 10 = I_45 1 10 := h_57.2.2.2.1 1 10 (by decide) (by decide) (by decide)
        have r11_I_57 : I_57 1 11 = I_45 1 11 := h_57.2.2.2.1 1 11 (by decide) (by decide) (by decide)
        have r81_I_57 : I_57 8 1 = I_45 8 1 := h_57.2.2.2.1 8 1 (by decide) (by decide) (by decide)
        have rf_I_57 : FU (I_57 1 5) = FU (I_45 1 5) := by rw [r5_I_57]
        have xv_I_57 := h_57.2.2.2.2
        refine rI hX (pc := 60) hT (Nat.le_refl 0) (Nat.le_refl 0) dX10_send_60 ?_
        exact ⟨kI_57, kJ_57, cI_57, (Fw_wd wI_57 (by decide) (by decide)), trivial⟩
    · simp only [w32_mod] at h_15
      refine ww_aload_n hX (pc := 18) dX10_send_18 rfl ?_
      refine ww_iconst hX (pc := 19) (x := (-1)) dX10_send_19 rfl ?_
      refine vI1 hX (pc := 20) sX10_89 (xs_0 hL) (c5_X10_refuse l0 hL hC (by omega) (by omega)) (by decide) (Nat.le_refl 0) (Nat.le_refl 0) (Nat.le_of_ble_eq_true rfl) dX10_send_20 (fun x_20 I_20 J_20 h_20 => ?_)
      have kI_20 : Kp 0 49 Ia I_20 := Kp_tr (Kp_rf (a := 0) (b := 49)) (Kp_wd h_20.1 (by decide) (by decide))
      have kJ_20 : Kp 0 49 Ja J_20 := Kp_tr (Kp_rf (a := 0) (b := 49)) (Kp_wd h_20.2.1 (by decide) (by decide))
      have cI_20 : CX I_20 := h_20.2.2.1
      have qI_20 := XI_o cI_20.1
      have wI_20 : Fw [5, 18, 19, 20, 21, 22, 23, 24, 25, 26, 27, 28, 29, 30, 31, 32, 33, 34, 35, 36, 48] [(0, 16), (1, 8), (1, 10)] Ia I_20 := Fw_tr Fw_rf (Fw_wd h_20.2.2.2.1 (by decide) (by decide))
      have r5_I_20 : I_20 1 5 = Ia 1 5 := h_20.2.2.2.1 1 5 (by decide) (by decide) (by decide)
      have r6_I_20 : I_20 1 6 = Ia 1 6 := h_20.2.2.2.1 1 6 (by decide) (by decide) (by decide)
      have r7_I_20 : I_20 1 7 = Ia 1 7 := h_20.2.2.2.1 1 7 (by decide) (by decide) (by decide)
      have r8_I_20 : I_20 1 8 = Ia 1 8 := h_20.2.2.2.1 1 8 (by decide) (by decide) (by decide)
      have r9_I_20 : I_20 1 9 = Ia 1 9 := h_20.2.2.2.1 1 9 (by decide) (by decide) (by decide)
      have r10_I_20 : I_20 1 10 = Ia 1 10 := h_20.2.2.2.1 1 10 (by decide) (by decide) (by decide)
      have r11_I_20 : I_20 1 11 = Ia 1 11 := h_20.2.2.2.1 1 11 (by decide) (by decide) (by decide)
      have r81_I_20 : I_20 8 1 = Ia 8 1 := h_20.2.2.2.1 8 1 (by decide) (by decide) (by decide)
      have rf_I_20 : FU (I_20 1 5) = FU (Ia 1 5) := by rw [r5_I_20]
      have xv_I_20 := h_20.2.2.2.2
      refine rI hX (pc := 23) hT (Nat.le_refl 0) (Nat.le_refl 0) dX10_send_23 ?_
      exact ⟨kI_20, kJ_20, cI_20, (Fw_wd wI_20 (by decide) (by decide)), trivial⟩
set_option maxHeartbeats 4000000 in
set_option maxRecDepth 20000 in
theorem c5_X10_want (l0 : Launch) {Ia Ja : aI1} {Ra : aR1} {Sa : aS1} (hL : LY Ra Sa) (hC : CX Ia) {a : Int} (ha0 : -2147483648 ≤ a) (ha1 : a < 2147483648)  : CT l0 10 0 0 mX10_want [kR (some 0), kI a] Ia Ja Ra Sa (cI (fun x I' J' => Kp 0 49 Ia I' ∧ Kp 0 49 Ja J' ∧ CX I' ∧ Fw [6, 33, 48] [(0, 16), (1, 11)] Ia I' ∧ (¬ (0 ≤ a ∧ a < Ia 1 6) → x = -1 ∧ RFc Ia I' (-1)) ∧ ((0 ≤ a ∧ a < Ia 1 6) → (16 ≤ Ia 1 11 → x = -5 ∧ RFc Ia I' (-5)) ∧ (Ia 1 11 < 16 → x = Ia 1 11 + 1 ∧ Fw [6, 33] [(0, 16), (1, 11)] Ia I' ∧ I' 0 16 = 0 ∧ I' 1 11 = Ia 1 11 + 1 ∧ I' 6 = up1 (Ia 6) (Ia 1 11).toNat a))) Ra Sa) := by
  refine ct_in pn_X10 (Nat.le_of_ble_eq_true rfl) (fun X hX hT hIn => ?_)
  have hX : aK l0 X cX10_want 2 RX10 (some .int) 10 0 0 := hX
  change WW X 0 [some (kR (some 0)), some (kI a)] [] Ia Ja Ra Sa 0 0
  have hI := hC.1
  have hq := XI_o hI
  refine ww_aload_n hX (pc := 0) dX10_want_0 rfl ?_
  refine ww_getR hX (pc := 1) fX10_10 (by decide) (xs_0 hL) (xr_0_0 hL) dX10_want_1 ?_
  refine ww_iload_n hX (pc := 4) dX10_want_4 rfl ?_
  refine vI1 hX (pc := 5) sX10_134 (xs_1 hL) (c_X1_isNews l0 hL hC.1 (by omega)) (by decide) (Nat.le_refl 0) (Nat.le_refl 0) (Nat.le_of_ble_eq_true rfl) dX10_want_5 (fun x_5 I_5 J_5 h_5 => ?_)
  obtain ⟨rfl, rfl, h_5⟩ := h_5
  refine ww_if_ne hX (pc := 8) (tgt := 17) dX10_want_8 (by decide) (fun h_8 => ?_) (fun h_8 => ?_)
  · simp only [w32_mod] at h_8
    have k_5 := h_5.2.mp (by omega)
    clear h_5
    refine ww_aload_n hX (pc := 17) dX10_want_17 rfl ?_
    refine ww_getR hX (pc := 18) fX10_10 (by decide) (xs_0 hL) (xr_0_0 hL) dX10_want_18 ?_
    refine ww_getI hX (pc := 21) fX10_275 (by decide) (xs_1 hL) dX10_want_21 ?_
    refine ww_bipush hX (pc := 24) (x := 16) dX10_want_24 (by decide) ?_
    refine ww_icmp_lt hX (pc := 26) (tgt := 36) dX10_want_26 (by decide) (fun h_26 => ?_) (fun h_26 => ?_)
    · simp only [w32_mod] at h_26
      refine ww_aload_n hX (pc := 36) dX10_want_36 rfl ?_
      refine ww_getR hX (pc := 37) fX10_10 (by decide) (xs_0 hL) (xr_0_0 hL) dX10_want_37 ?_
      refine ww_getR hX (pc := 40) fX10_278 (by decide) (xs_1 hL) (xr_1_4 hL) dX10_want_40 ?_
      refine ww_aload_n hX (pc := 43) dX10_want_43 rfl ?_
      refine ww_getR hX (pc := 44) fX10_10 (by decide) (xs_0 hL) (xr_0_0 hL) dX10_want_44 ?_
      refine ww_getI hX (pc := 47) fX10_275 (by decide) (xs_1 hL) dX10_want_47 ?_
      refine ww_iload_n hX (pc := 50) dX10_want_50 rfl ?_
      refine ww_iast hX (pc := 51) (xs_6 hL) (by decide) (by omega) (by omega) dX10_want_51 ?_
      refine ww_nmH (fun I_51 eI_51 => ?_)
      have kI_51 : Kp 0 49 Ia I_51 := by rw [eI_51]; exact Kp_up (Kp_rf (a := 0) (b := 49)) _ _ (by decide)
      have cI_51 : CX I_51 := by rw [eI_51]; exact CX_up hC (by decide)
      have qI_51 := XI_o cI_51.1
      have r5_I_51 : I_51 1 5 = Ia 1 5 := by rw [eI_51, up2_off _ _ _ (by decide)]
      have r6_I_51 : I_51 1 6 = Ia 1 6 := by rw [eI_51, up2_off _ _ _ (by decide)]
      have r8_I_51 : I_51 1 8 = Ia 1 8 := by rw [eI_51, up2_off _ _ _ (by decide)]
      have r9_I_51 : I_51 1 9 = Ia 1 9 := by rw [eI_51, up2_off _ _ _ (by decide)]
      have r10_I_51 : I_51 1 10 = Ia 1 10 := by rw [eI_51, up2_off _ _ _ (by decide)]
      have r11_I_51 : I_51 1 11 = Ia 1 11 := by rw [eI_51, up2_off _ _ _ (by decide)]
      have rf_I_51 : FU (I_51 1 5) = FU (Ia 1 5) := by rw [r5_I_51]
      have wI_51 : Fw [6, 33] [(0, 16), (1, 11)] Ia I_51 := by rw [eI_51]; exact Fw_up Fw_rf (Or.inl (by decide))
      have r7_I_51 : I_51 1 7 = Ia 1 7 := by rw [eI_51, up2_n _ _ (Or.inl (by decide))]
      refine ww_aload_n hX (pc := 52) dX10_want_52 rfl ?_
      refine ww_getR hX (pc := 53) fX10_10 (by decide) (xs_0 hL) (xr_0_0 hL) dX10_want_53 ?_
      refine ww_dupR hX (pc := 56) dX10_want_56 ?_
      refine ww_getI hX (pc := 57) fX10_275 (by decide) (xs_1 hL) dX10_want_57 ?_
      refine ww_iconst hX (pc := 60) (x := 1) dX10_want_60 rfl ?_
      refine ww_iadd hX (pc := 61) dX10_want_61 ?_
      refine ww_putI hX (pc := 62) (fun h9 => absurd h9 (by decide)) gX10_275 rfl (xs_1 hL) dX10_want_62 ?_
      refine ww_nmH (fun I_62 eI_62 => ?_)
      have kI_62 : Kp 0 49 Ia I_62 := by rw [eI_62]; exact Kp_up kI_51 _ _ (by decide)
      have cI_62 : CX I_62 := by rw [eI_62]; exact CX_x cI_51 (XI_1_11 cI_51.1 (by omega) (by omega)) (by decide)
      have qI_62 := XI_o cI_62.1
      have r5_I_62 : I_62 1 5 = I_51 1 5 := by rw [eI_62, up2_n _ _ (Or.inr (by decide))]
      have r6_I_62 : I_62 1 6 = I_51 1 6 := by rw [eI_62, up2_n _ _ (Or.inr (by decide))]
      have r8_I_62 : I_62 1 8 = I_51 1 8 := by rw [eI_62, up2_n _ _ (Or.inr (by decide))]
      have r9_I_62 : I_62 1 9 = I_51 1 9 := by rw [eI_62, up2_n _ _ (Or.inr (by decide))]
      have r10_I_62 : I_62 1 10 = I_51 1 10 := by rw [eI_62, up2_n _ _ (Or.inr (by decide))]
      skip
      have rf_I_62 : FU (I_62 1 5) = FU (I_51 1 5) := by rw [r5_I_62]
      have wI_62 : Fw [6, 33] [(0, 16), (1, 11)] Ia I_62 := by rw [eI_62]; exact Fw_up wI_51 (Or.inr (by decide))
      have r7_I_62 : I_62 1 7 = I_51 1 7 := by rw [eI_62, up2_n _ _ (Or.inr (by decide))]
      have y6_I_62 : I_62 6 = I_51 6 := by rw [eI_62, up2_off _ _ _ (by decide)]
      have z11 : I_62 1 11 = I_51 1 11 + 1 := by rw [eI_62, up2_s]
      refine ww_aload_n hX (pc := 65) dX10_want_65 rfl ?_
      refine ww_getR hX (pc := 66) fX10_64 (by decide) (xs_0 hL) (xr_0_7 hL) dX10_want_66 ?_
      refine ww_iconst hX (pc := 69) (x := 0) dX10_want_69 rfl ?_
      refine ww_putZ hX (pc := 70) (fun h9 => absurd h9 (by decide)) gX10_128 rfl (by decide) (xs_33 hL) dX10_want_70 ?_
      refine ww_nmH (fun I_70 eI_70 => ?_)
      have kI_70 : Kp 0 49 Ia I_70 := by rw [eI_70]; exact Kp_up kI_62 _ _ (by decide)
      have cI_70 : CX I_70 := by rw [eI_70]; exact CX_up cI_62 (by decide)
      have qI_70 := XI_o cI_70.1
      have r5_I_70 : I_70 1 5 = I_62 1 5 := by rw [eI_70, up2_off _ _ _ (by decide)]
      have r6_I_70 : I_70 1 6 = I_62 1 6 := by rw [eI_70, up2_off _ _ _ (by decide)]
      have r8_I_70 : I_70 1 8 = I_62 1 8 := by rw [eI_70, up2_off _ _ _ (by decide)]
      have r9_I_70 : I_70 1 9 = I_62 1 9 := by rw [eI_70, up2_off _ _ _ (by decide)]
      have r10_I_70 : I_70 1 10 = I_62 1 10 := by rw [eI_70, up2_off _ _ _ (by decide)]
      have r11_I_70 : I_70 1 11 = I_62 1 11 := by rw [eI_70, up2_off _ _ _ (by decide)]
      have rf_I_70 : FU (I_70 1 5) = FU (I_62 1 5) := by rw [r5_I_70]
      have wI_70 : Fw [6, 33] [(0, 16), (1, 11)] Ia I_70 := by rw [eI_70]; exact Fw_up wI_62 (Or.inl (by decide))
      have r7_I_70 : I_70 1 7 = I_62 1 7 := by rw [eI_70, up2_n _ _ (Or.inl (by decide))]
      have y6_I_70 : I_70 6 = I_62 6 := by rw [eI_70, up2_off _ _ _ (by decide)]
      refine ww_aload_n hX (pc := 73) dX10_want_73 rfl ?_
      refine ww_aload_n hX (pc := 74) dX10_want_74 rfl ?_
      refine ww_getR hX (pc := 75) fX10_10 (by decide) (xs_0 hL) (xr_0_0 hL) dX10_want_75 ?_
      refine ww_getI hX (pc := 78) fX10_275 (by decide) (xs_1 hL) dX10_want_78 ?_
      refine vI1 hX (pc := 81) sX10_114 (xs_0 hL) (c5_X10_accept l0 hL cI_70) (by decide) (Nat.le_refl 0) (Nat.le_refl 0) (Nat.le_of_ble_eq_true rfl) dX10_want_81 (fun x_81 I_81 J_81 h_81 => ?_)
      have kI_81 : Kp 0 49 Ia I_81 := Kp_tr kI_70 (Kp_wd h_81.1 (by decide) (by decide))
      have kJ_81 : Kp 0 49 Ja J_81 := Kp_tr (Kp_rf (a := 0) (b := 49)) (Kp_wd h_81.2.1 (by decide) (by decide))
      have cI_81 : CX I_81 := h_81.2.2.1
      have qI_81 := XI_o cI_81.1
      have wI_81 : Fw [6, 33] [(0, 16), (1, 11)] Ia I_81 := Fw_tr wI_70 (Fw_wd h_81.2.2.2.1 (by decide) (by decide))
      have r5_I_81 : I_81 1 5 = I_70 1 5 := h_81.2.2.2.1 1 5 (by decide) (by decide) (by decide)
      have r6_I_81 : I_81 1 6 = I_70 1 6 := h_81.2.2.2.1 1 6 (by decide) (by decide) (by decide)
      have r7_I_81 : I_81 1 7 = I_70 1 7 := h_81.2.2.2.1 1 7 (by decide) (by decide) (by decide)
      have r8_I_81 : I_81 1 8 = I_70 1 8 := h_81.2.2.2.1 1 8 (by decide) (by decide) (by decide)
      have r9_I_81 : I_81 1 9 = I_70 1 9 := h_81.2.2.2.1 1 9 (by decide) (by decide) (by decide)
      have r10_I_81 : I_81 1 10 = I_70 1 10 := h_81.2.2.2.1 1 10 (by decide) (by decide) (by decide)
      have r11_I_81 : I_81 1 11 = I_70 1 11 := h_81.2.2.2.1 1 11 (by decide) (by decide) (by decide)
      have r81_I_81 : I_81 8 1 = I_70 8 1 := h_81.2.2.2.1 8 1 (by decide) (by decide) (by decide)
      have rf_I_81 : FU (I_81 1 5) = FU (I_70 1 5) := by rw [r5_I_81]
      have y6_I_81 : I_81 6 = I_70 6 := Fw_row h_81.2.2.2.1 6 (by decide) (by decide) (by decide)
      have xv_I_81 := h_81.2.2.2.2
      refine rI hX (pc := 84) hT (Nat.le_refl 0) (Nat.le_refl 0) dX10_want_84 ?_
      exact ⟨kI_81, kJ_81, cI_81, (Fw_wd wI_81 (by decide) (by decide)), (fun h9 => absurd (by omega) h9), (fun _ => ⟨(fun h9 => absurd h9 (by omega)), (fun _ => ⟨by omega, wI_81, xv_I_81.2, by omega, by rw [y6_I_81, y6_I_70, y6_I_62, eI_51, up2_row]⟩)⟩)⟩
    · simp only [w32_mod] at h_26
      refine ww_aload_n hX (pc := 29) dX10_want_29 rfl ?_
      refine ww_bipush hX (pc := 30) (x := (-5)) dX10_want_30 (by decide) ?_
      refine vI1 hX (pc := 32) sX10_89 (xs_0 hL) (c5_X10_refuse l0 hL hC (by omega) (by omega)) (by decide) (Nat.le_refl 0) (Nat.le_refl 0) (Nat.le_of_ble_eq_true rfl) dX10_want_32 (fun x_32 I_32 J_32 h_32 => ?_)
      have kI_32 : Kp 0 49 Ia I_32 := Kp_tr (Kp_rf (a := 0) (b := 49)) (Kp_wd h_32.1 (by decide) (by decide))
      have kJ_32 : Kp 0 49 Ja J_32 := Kp_tr (Kp_rf (a := 0) (b := 49)) (Kp_wd h_32.2.1 (by decide) (by decide))
      have cI_32 : CX I_32 := h_32.2.2.1
      have qI_32 := XI_o cI_32.1
      have wI_32 : Fw [6, 33, 48] [(0, 16), (1, 11)] Ia I_32 := Fw_tr Fw_rf (Fw_wd h_32.2.2.2.1 (by decide) (by decide))
      have r5_I_32 : I_32 1 5 = Ia 1 5 := h_32.2.2.2.1 1 5 (by decide) (by decide) (by decide)
      have r6_I_32 : I_32 1 6 = Ia 1 6 := h_32.2.2.2.1 1 6 (by decide) (by decide) (by decide)
      have r7_I_32 : I_32 1 7 = Ia 1 7 := h_32.2.2.2.1 1 7 (by decide) (by decide) (by decide)
      have r8_I_32 : I_32 1 8 = Ia 1 8 := h_32.2.2.2.1 1 8 (by decide) (by decide) (by decide)
      have r9_I_32 : I_32 1 9 = Ia 1 9 := h_32.2.2.2.1 1 9 (by decide) (by decide) (by decide)
      have r10_I_32 : I_32 1 10 = Ia 1 10 := h_32.2.2.2.1 1 10 (by decide) (by decide) (by decide)
      have r11_I_32 : I_32 1 11 = Ia 1 11 := h_32.2.2.2.1 1 11 (by decide) (by decide) (by decide)
      have r81_I_32 : I_32 8 1 = Ia 8 1 := h_32.2.2.2.1 8 1 (by decide) (by decide) (by decide)
      have rf_I_32 : FU (I_32 1 5) = FU (Ia 1 5) := by rw [r5_I_32]
      have y6_I_32 : I_32 6 = Ia 6 := Fw_row h_32.2.2.2.1 6 (by decide) (by decide) (by decide)
      have xv_I_32 := h_32.2.2.2.2
      refine rI hX (pc := 35) hT (Nat.le_refl 0) (Nat.le_refl 0) dX10_want_35 ?_
      exact ⟨kI_32, kJ_32, cI_32, (Fw_wd wI_32 (by decide) (by decide)), (fun h9 => absurd (by omega) h9), (fun _ => ⟨(fun _ => ⟨xv_I_32.1, h_32.2.2.2.1, xv_I_32.2⟩), (fun h9 => absurd h9 (by omega))⟩)⟩
  · simp only [w32_mod] at h_8
    refine ww_aload_n hX (pc := 11) dX10_want_11 rfl ?_
    refine ww_iconst hX (pc := 12) (x := (-1)) dX10_want_12 rfl ?_
    refine vI1 hX (pc := 13) sX10_89 (xs_0 hL) (c5_X10_refuse l0 hL hC (by omega) (by omega)) (by decide) (Nat.le_refl 0) (Nat.le_refl 0) (Nat.le_of_ble_eq_true rfl) dX10_want_13 (fun x_13 I_13 J_13 h_13 => ?_)
    have kI_13 : Kp 0 49 Ia I_13 := Kp_tr (Kp_rf (a := 0) (b := 49)) (Kp_wd h_13.1 (by decide) (by decide))
    have kJ_13 : Kp 0 49 Ja J_13 := Kp_tr (Kp_rf (a := 0) (b := 49)) (Kp_wd h_13.2.1 (by decide) (by decide))
    have cI_13 : CX I_13 := h_13.2.2.1
    have qI_13 := XI_o cI_13.1
    have wI_13 : Fw [6, 33, 48] [(0, 16), (1, 11)] Ia I_13 := Fw_tr Fw_rf (Fw_wd h_13.2.2.2.1 (by decide) (by decide))
    have r5_I_13 : I_13 1 5 = Ia 1 5 := h_13.2.2.2.1 1 5 (by decide) (by decide) (by decide)
    have r6_I_13 : I_13 1 6 = Ia 1 6 := h_13.2.2.2.1 1 6 (by decide) (by decide) (by decide)
    have r7_I_13 : I_13 1 7 = Ia 1 7 := h_13.2.2.2.1 1 7 (by decide) (by decide) (by decide)
    have r8_I_13 : I_13 1 8 = Ia 1 8 := h_13.2.2.2.1 1 8 (by decide) (by decide) (by decide)
    have r9_I_13 : I_13 1 9 = Ia 1 9 := h_13.2.2.2.1 1 9 (by decide) (by decide) (by decide)
    have r10_I_13 : I_13 1 10 = Ia 1 10 := h_13.2.2.2.1 1 10 (by decide) (by decide) (by decide)
    have r11_I_13 : I_13 1 11 = Ia 1 11 := h_13.2.2.2.1 1 11 (by decide) (by decide) (by decide)
    have r81_I_13 : I_13 8 1 = Ia 8 1 := h_13.2.2.2.1 8 1 (by decide) (by decide) (by decide)
    have rf_I_13 : FU (I_13 1 5) = FU (Ia 1 5) := by rw [r5_I_13]
    have y6_I_13 : I_13 6 = Ia 6 := Fw_row h_13.2.2.2.1 6 (by decide) (by decide) (by decide)
    have xv_I_13 := h_13.2.2.2.2
    refine rI hX (pc := 16) hT (Nat.le_refl 0) (Nat.le_refl 0) dX10_want_16 ?_
    exact ⟨kI_13, kJ_13, cI_13, (Fw_wd wI_13 (by decide) (by decide)), (fun _ => ⟨xv_I_13.1, h_13.2.2.2.1, xv_I_13.2⟩), (fun h9 => absurd h9 (by omega))⟩
theorem TBX_r (n k t : Int) : 0 ≤ TBX n k t ∧ TBX n k t < 16777216 := by
  unfold TBX TBt
  split <;> omega
theorem mem_37 {rs : List Nat} {k : Nat} (h1 : 37 ≤ k) (h2 : k < 46) (h : ∀ k, k < 46 → 37 ≤ k → k ∈ rs) : k ∈ rs := h k h2 h1
set_option maxHeartbeats 4000000 in
set_option maxRecDepth 20000 in
theorem c5_X10_make (l0 : Launch) {Ia Ja : aI1} {Ra : aR1} {Sa : aS1} (hL : LY Ra Sa) (hC : CX Ia) {a b c : Int} (ha0 : -2147483648 ≤ a) (ha1 : a < 2147483648) (hb0 : -2147483648 ≤ b) (hb1 : b < 2147483648) (hc0 : -2147483648 ≤ c) (hc1 : c < 2147483648) (hS : SR Ia)  : CT l0 10 0 0 mX10_make [kR (some 0), kI a, kI b, kI c] Ia Ja Ra Sa (cI (fun x I' J' => Kp 0 49 Ia I' ∧ Kp 0 49 Ja J' ∧ CX I' ∧ Fw [3, 18, 19, 20, 21, 22, 23, 24, 25, 26, 27, 28, 29, 30, 31, 32, 33, 34, 35, 36, 37, 38, 39, 40, 41, 42, 43, 44, 45, 48] [(0, 16)] Ia I' ∧ SR I' ∧ (¬ (1 ≤ a ∧ a ≤ 3 ∧ 2 ≤ b ∧ b ≤ 4 ∧ 0 ≤ c ∧ c ≤ 8) → x = -1) ∧ ((1 ≤ a ∧ a ≤ 3 ∧ 2 ≤ b ∧ b ≤ 4 ∧ 0 ≤ c ∧ c ≤ 8) → ¬ (a = Ia 1 5 ∧ b = Ia 1 6 ∧ ¬ TBX a b c = 0) → x = -3) ∧ ((1 ≤ a ∧ a ≤ 3 ∧ 2 ≤ b ∧ b ≤ 4 ∧ 0 ≤ c ∧ c ≤ 8) → (a = Ia 1 5 ∧ b = Ia 1 6 ∧ ¬ TBX a b c = 0) → x = 0)) Ra Sa) := by
  refine ct_in pn_X10 (Nat.le_of_ble_eq_true rfl) (fun X hX hT hIn => ?_)
  have hX : aK l0 X cX10_make 4 RX10 (some .int) 10 0 0 := hX
  change WW X 0 [some (kR (some 0)), some (kI a), some (kI b), some (kI c)] [] Ia Ja Ra Sa 0 0
  have hI := hC.1
  have hq := XI_o hI
  refine ww_iload_n hX (pc := 0) dX10_make_0 rfl ?_
  refine ww_iload_n hX (pc := 1) dX10_make_1 rfl ?_
  refine ww_iload_n hX (pc := 2) dX10_make_2 rfl ?_
  refine sI3 hX (pc := 3) sX10_225 (c_X2_isSearched l0 (by omega) (by omega) (by omega) (by omega) (by omega) (by omega)) (by decide) (Nat.le_refl 0) (Nat.le_refl 0) (Nat.le_of_ble_eq_true rfl) dX10_make_3 (fun x_3 I_3 J_3 h_3 => ?_)
  obtain ⟨rfl, rfl, h_3⟩ := h_3
  refine ww_if_ne hX (pc := 6) (tgt := 15) dX10_make_6 (by decide) (fun h_6 => ?_) (fun h_6 => ?_)
  · simp only [w32_mod] at h_6
    have k_3 := h_3.2.mp (by omega)
    clear h_3
    refine ww_iload_n hX (pc := 15) dX10_make_15 rfl ?_
    refine ww_aload_n hX (pc := 16) dX10_make_16 rfl ?_
    refine ww_getR hX (pc := 17) fX10_10 (by decide) (xs_0 hL) (xr_0_0 hL) dX10_make_17 ?_
    refine ww_getI hX (pc := 20) fX10_93 (by decide) (xs_1 hL) dX10_make_20 ?_
    refine ww_icmp_ne hX (pc := 23) (tgt := 50) dX10_make_23 (by decide) (fun h_23 => ?_) (fun h_23 => ?_)
    · simp only [w32_mod] at h_23
      refine ww_aload_n hX (pc := 50) dX10_make_50 rfl ?_
      refine ww_bipush hX (pc := 51) (x := (-3)) dX10_make_51 (by decide) ?_
      refine vI1 hX (pc := 53) sX10_89 (xs_0 hL) (c5_X10_refuse l0 hL hC (by omega) (by omega)) (by decide) (Nat.le_refl 0) (Nat.le_refl 0) (Nat.le_of_ble_eq_true rfl) dX10_make_53 (fun x_53 I_53 J_53 h_53 => ?_)
      have kI_53 : Kp 0 49 Ia I_53 := Kp_tr (Kp_rf (a := 0) (b := 49)) (Kp_wd h_53.1 (by decide) (by decide))
      have kJ_53 : Kp 0 49 Ja J_53 := Kp_tr (Kp_rf (a := 0) (b := 49)) (Kp_wd h_53.2.1 (by decide) (by decide))
      have cI_53 : CX I_53 := h_53.2.2.1
      have qI_53 := XI_o cI_53.1
      have wI_53 : Fw [3, 18, 19, 20, 21, 22, 23, 24, 25, 26, 27, 28, 29, 30, 31, 32, 33, 34, 35, 36, 37, 38, 39, 40, 41, 42, 43, 44, 45, 48] [(0, 16)] Ia I_53 := Fw_tr Fw_rf (Fw_wd h_53.2.2.2.1 (by decide) (by decide))
      have r5_I_53 : I_53 1 5 = Ia 1 5 := h_53.2.2.2.1 1 5 (by decide) (by decide) (by decide)
      have r6_I_53 : I_53 1 6 = Ia 1 6 := h_53.2.2.2.1 1 6 (by decide) (by decide) (by decide)
      have r7_I_53 : I_53 1 7 = Ia 1 7 := h_53.2.2.2.1 1 7 (by decide) (by decide) (by decide)
      have r8_I_53 : I_53 1 8 = Ia 1 8 := h_53.2.2.2.1 1 8 (by decide) (by decide) (by decide)
      have r9_I_53 : I_53 1 9 = Ia 1 9 := h_53.2.2.2.1 1 9 (by decide) (by decide) (by decide)
      have r10_I_53 : I_53 1 10 = Ia 1 10 := h_53.2.2.2.1 1 10 (by decide) (by decide) (by decide)
      have r11_I_53 : I_53 1 11 = Ia 1 11 := h_53.2.2.2.1 1 11 (by decide) (by decide) (by decide)
      have r81_I_53 : I_53 8 1 = Ia 8 1 := h_53.2.2.2.1 8 1 (by decide) (by decide) (by decide)
      have rf_I_53 : FU (I_53 1 5) = FU (Ia 1 5) := by rw [r5_I_53]
      have xv_I_53 := h_53.2.2.2.2
      have srI_53 : SR I_53 := SR_of hS (Fw_row h_53.2.2.2.1 43 (by decide) (by decide) (by decide)) (Fw_row h_53.2.2.2.1 45 (by decide) (by decide) (by decide))
      refine rI hX (pc := 56) hT (Nat.le_refl 0) (Nat.le_refl 0) dX10_make_56 ?_
      exact ⟨kI_53, kJ_53, cI_53, (Fw_wd wI_53 (by decide) (by decide)), srI_53, by omega, by omega, by omega⟩
    · simp only [w32_mod] at h_23
      refine ww_iload_n hX (pc := 26) dX10_make_26 rfl ?_
      refine ww_aload_n hX (pc := 27) dX10_make_27 rfl ?_
      refine ww_getR hX (pc := 28) fX10_10 (by decide) (xs_0 hL) (xr_0_0 hL) dX10_make_28 ?_
      refine ww_getI hX (pc := 31) fX10_117 (by decide) (xs_1 hL) dX10_make_31 ?_
      refine ww_icmp_ne hX (pc := 34) (tgt := 50) dX10_make_34 (by decide) (fun h_34 => ?_) (fun h_34 => ?_)
      · simp only [w32_mod] at h_34
        refine ww_aload_n hX (pc := 50) dX10_make_50 rfl ?_
        refine ww_bipush hX (pc := 51) (x := (-3)) dX10_make_51 (by decide) ?_
        refine vI1 hX (pc := 53) sX10_89 (xs_0 hL) (c5_X10_refuse l0 hL hC (by omega) (by omega)) (by decide) (Nat.le_refl 0) (Nat.le_refl 0) (Nat.le_of_ble_eq_true rfl) dX10_make_53 (fun x_53 I_53 J_53 h_53 => ?_)
        have kI_53 : Kp 0 49 Ia I_53 := Kp_tr (Kp_rf (a := 0) (b := 49)) (Kp_wd h_53.1 (by decide) (by decide))
        have kJ_53 : Kp 0 49 Ja J_53 := Kp_tr (Kp_rf (a := 0) (b := 49)) (Kp_wd h_53.2.1 (by decide) (by decide))
        have cI_53 : CX I_53 := h_53.2.2.1
        have qI_53 := XI_o cI_53.1
        have wI_53 : Fw [3, 18, 19, 20, 21, 22, 23, 24, 25, 26, 27, 28, 29, 30, 31, 32, 33, 34, 35, 36, 37, 38, 39, 40, 41, 42, 43, 44, 45, 48] [(0, 16)] Ia I_53 := Fw_tr Fw_rf (Fw_wd h_53.2.2.2.1 (by decide) (by decide))
        have r5_I_53 : I_53 1 5 = Ia 1 5 := h_53.2.2.2.1 1 5 (by decide) (by decide) (by decide)
        have r6_I_53 : I_53 1 6 = Ia 1 6 := h_53.2.2.2.1 1 6 (by decide) (by decide) (by decide)
        have r7_I_53 : I_53 1 7 = Ia 1 7 := h_53.2.2.2.1 1 7 (by decide) (by decide) (by decide)
        have r8_I_53 : I_53 1 8 = Ia 1 8 := h_53.2.2.2.1 1 8 (by decide) (by decide) (by decide)
        have r9_I_53 : I_53 1 9 = Ia 1 9 := h_53.2.2.2.1 1 9 (by decide) (by decide) (by decide)
        have r10_I_53 : I_53 1 10 = Ia 1 10 := h_53.2.2.2.1 1 10 (by decide) (by decide) (by decide)
        have r11_I_53 : I_53 1 11 = Ia 1 11 := h_53.2.2.2.1 1 11 (by decide) (by decide) (by decide)
        have r81_I_53 : I_53 8 1 = Ia 8 1 := h_53.2.2.2.1 8 1 (by decide) (by decide) (by decide)
        have rf_I_53 : FU (I_53 1 5) = FU (Ia 1 5) := by rw [r5_I_53]
        have xv_I_53 := h_53.2.2.2.2
        have srI_53 : SR I_53 := SR_of hS (Fw_row h_53.2.2.2.1 43 (by decide) (by decide) (by decide)) (Fw_row h_53.2.2.2.1 45 (by decide) (by decide) (by decide))
        refine rI hX (pc := 56) hT (Nat.le_refl 0) (Nat.le_refl 0) dX10_make_56 ?_
        exact ⟨kI_53, kJ_53, cI_53, (Fw_wd wI_53 (by decide) (by decide)), srI_53, by omega, by omega, by omega⟩
      · simp only [w32_mod] at h_34
        refine ww_aload_n hX (pc := 37) dX10_make_37 rfl ?_
        refine ww_getR hX (pc := 38) fX10_71 (by decide) (xs_0 hL) (xr_0_8 hL) dX10_make_38 ?_
        refine ww_iload_n hX (pc := 41) dX10_make_41 rfl ?_
        refine ww_iload_n hX (pc := 42) dX10_make_42 rfl ?_
        refine ww_iload_n hX (pc := 43) dX10_make_43 rfl ?_
        refine vI3 hX (pc := 44) sX10_229 (xs_37 hL) (c5_X2_countCodes l0 hL (by omega) (by omega) (by omega) (by omega) (by omega) (by omega) hC.2.2 hS) (by decide) (Nat.le_refl 0) (Nat.le_refl 0) (Nat.le_of_ble_eq_true rfl) dX10_make_44 (fun x_44 I_44 J_44 h_44 => ?_)
        have kI_44 : Kp 0 49 Ia I_44 := Kp_tr (Kp_rf (a := 0) (b := 49)) (Kp_wd h_44.1 (by decide) (by decide))
        have kJ_44 : Kp 0 49 Ja J_44 := Kp_tr (Kp_rf (a := 0) (b := 49)) (Kp_wd h_44.2.1 (by decide) (by decide))
        have ht44 : x_44 = TBX a b c := by
          unfold TBX
          by_cases h8 : c ≤ 3
          · rw [if_pos h8]; exact h_44.2.2.2.2.2 h8
          · rw [if_neg h8]; exact h_44.2.2.2.2.1 (by omega)
        have hr44 := TBX_r a b c
        have cI_44 : CX I_44 := CX_cs hC h_44.1 h_44.2.2.1
        have qI_44 := XI_o cI_44.1
        have r5_I_44 : I_44 1 5 = Ia 1 5 := by rw [h_44.1 1 (by decide)]
        have r6_I_44 : I_44 1 6 = Ia 1 6 := by rw [h_44.1 1 (by decide)]
        have r8_I_44 : I_44 1 8 = Ia 1 8 := by rw [h_44.1 1 (by decide)]
        have r9_I_44 : I_44 1 9 = Ia 1 9 := by rw [h_44.1 1 (by decide)]
        have r10_I_44 : I_44 1 10 = Ia 1 10 := by rw [h_44.1 1 (by decide)]
        have r11_I_44 : I_44 1 11 = Ia 1 11 := by rw [h_44.1 1 (by decide)]
        have rf_I_44 : FU (I_44 1 5) = FU (Ia 1 5) := by rw [r5_I_44]
        have wI_44 : Fw [3, 18, 19, 20, 21, 22, 23, 24, 25, 26, 27, 28, 29, 30, 31, 32, 33, 34, 35, 36, 37, 38, 39, 40, 41, 42, 43, 44, 45] [(0, 16)] Ia I_44 := Fw_kp Fw_rf h_44.1 (by decide)
        have r7_I_44 : I_44 1 7 = Ia 1 7 := by rw [h_44.1 1 (by decide)]
        refine ww_if_ne hX (pc := 47) (tgt := 57) dX10_make_47 (by decide) (fun h_47 => ?_) (fun h_47 => ?_)
        · simp only [w32_mod] at h_47
          refine ww_aload_n hX (pc := 57) dX10_make_57 rfl ?_
          refine ww_getR hX (pc := 58) fX10_71 (by decide) (xs_0 hL) (xr_0_8 hL) dX10_make_58 ?_
          refine ww_iload_n hX (pc := 61) dX10_make_61 rfl ?_
          refine ww_iload_n hX (pc := 62) dX10_make_62 rfl ?_
          refine ww_iload_n hX (pc := 63) dX10_make_63 rfl ?_
          refine ww_aload_n hX (pc := 64) dX10_make_64 rfl ?_
          refine ww_getR hX (pc := 65) fX10_10 (by decide) (xs_0 hL) (xr_0_0 hL) dX10_make_65 ?_
          refine ww_getR hX (pc := 68) fX10_137 (by decide) (xs_1 hL) (xr_1_1 hL) dX10_make_68 ?_
          refine vV4 hX (pc := 71) sX10_232 (xs_37 hL) (c5_X2_copyFirst l0 hL (by omega) (by omega) (by omega) (by omega) (by omega) (by omega) cI_44.2.2 h_44.2.2.2.1 cI_44.1.2.2.2.2.2.2.2.2.2.1) (by decide) (Nat.le_refl 0) (Nat.le_refl 0) (Nat.le_of_ble_eq_true rfl) dX10_make_71 (fun I_71 J_71 h_71 => ?_)
          have kI_71 : Kp 0 49 Ia I_71 := fun q hq => (h_71.1 q (by omega) (by omega)).trans (kI_44 q hq)
          have kJ_71 : Kp 0 49 Ja J_71 := Kp_tr kJ_44 (Kp_wd h_71.2.1 (by decide) (by decide))
          have cI_71 : CX I_71 := CX_code cI_44 h_71.1 h_71.2.2.1 h_71.2.2.2.1
          have wI_71 : Fw [3, 18, 19, 20, 21, 22, 23, 24, 25, 26, 27, 28, 29, 30, 31, 32, 33, 34, 35, 36, 37, 38, 39, 40, 41, 42, 43, 44, 45] [(0, 16)] Ia I_71 := Fw_of wI_44 (fun k h1 h2 => h_71.1 k (fun e9 => h2 (by rw [e9]; decide)) (Decidable.byContradiction (fun e9 => h2 (mem_37 (by omega) (by omega) (by decide)))))
          have r5_I_71 : I_71 1 5 = I_44 1 5 ∧ I_71 1 6 = I_44 1 6 := by rw [h_71.1 1 (by decide) (by decide)]; exact ⟨rfl, rfl⟩
          refine ww_aload_n hX (pc := 74) dX10_make_74 rfl ?_
          refine vV0 hX (pc := 75) sX10_111 (xs_0 hL) (c5_X10_codeChanged l0 hL cI_71) (by decide) (Nat.le_refl 0) (Nat.le_refl 0) (Nat.le_of_ble_eq_true rfl) dX10_make_75 (fun I_75 J_75 h_75 => ?_)
          have kI_75 : Kp 0 49 Ia I_75 := Kp_tr kI_71 (Kp_wd h_75.1 (by decide) (by decide))
          have kJ_75 : Kp 0 49 Ja J_75 := Kp_tr kJ_71 (Kp_wd h_75.2.1 (by decide) (by decide))
          have cI_75 : CX I_75 := h_75.2.2.1
          have qI_75 := XI_o cI_75.1
          have wI_75 : Fw [3, 18, 19, 20, 21, 22, 23, 24, 25, 26, 27, 28, 29, 30, 31, 32, 33, 34, 35, 36, 37, 38, 39, 40, 41, 42, 43, 44, 45] [(0, 16)] Ia I_75 := Fw_tr wI_71 (Fw_wd h_75.2.2.2.1 (by decide) (by decide))
          have r5_I_75 : I_75 1 5 = I_71 1 5 := h_75.2.2.2.1 1 5 (by decide) (by decide) (by decide)
          have r6_I_75 : I_75 1 6 = I_71 1 6 := h_75.2.2.2.1 1 6 (by decide) (by decide) (by decide)
          have r7_I_75 : I_75 1 7 = I_71 1 7 := h_75.2.2.2.1 1 7 (by decide) (by decide) (by decide)
          have r8_I_75 : I_75 1 8 = I_71 1 8 := h_75.2.2.2.1 1 8 (by decide) (by decide) (by decide)
          have r9_I_75 : I_75 1 9 = I_71 1 9 := h_75.2.2.2.1 1 9 (by decide) (by decide) (by decide)
          have r10_I_75 : I_75 1 10 = I_71 1 10 := h_75.2.2.2.1 1 10 (by decide) (by decide) (by decide)
          have r11_I_75 : I_75 1 11 = I_71 1 11 := h_75.2.2.2.1 1 11 (by decide) (by decide) (by decide)
          have r81_I_75 : I_75 8 1 = I_71 8 1 := h_75.2.2.2.1 8 1 (by decide) (by decide) (by decide)
          have rf_I_75 : FU (I_75 1 5) = FU (I_71 1 5) := by rw [r5_I_75]
          have srI_75 : SR I_75 := SR_of h_71.2.2.2.2 (Fw_row h_75.2.2.2.1 43 (by decide) (by decide) (by decide)) (Fw_row h_75.2.2.2.1 45 (by decide) (by decide) (by decide))
          refine ww_aload_n hX (pc := 78) dX10_make_78 rfl ?_
          refine ww_iconst hX (pc := 79) (x := 0) dX10_make_79 rfl ?_
          refine vI1 hX (pc := 80) sX10_114 (xs_0 hL) (c5_X10_accept l0 hL cI_75) (by decide) (Nat.le_refl 0) (Nat.le_refl 0) (Nat.le_of_ble_eq_true rfl) dX10_make_80 (fun x_80 I_80 J_80 h_80 => ?_)
          have kI_80 : Kp 0 49 Ia I_80 := Kp_tr kI_75 (Kp_wd h_80.1 (by decide) (by decide))
          have kJ_80 : Kp 0 49 Ja J_80 := Kp_tr kJ_75 (Kp_wd h_80.2.1 (by decide) (by decide))
          have cI_80 : CX I_80 := h_80.2.2.1
          have qI_80 := XI_o cI_80.1
          have wI_80 : Fw [3, 18, 19, 20, 21, 22, 23, 24, 25, 26, 27, 28, 29, 30, 31, 32, 33, 34, 35, 36, 37, 38, 39, 40, 41, 42, 43, 44, 45] [(0, 16)] Ia I_80 := Fw_tr wI_75 (Fw_wd h_80.2.2.2.1 (by decide) (by decide))
          have r5_I_80 : I_80 1 5 = I_75 1 5 := h_80.2.2.2.1 1 5 (by decide) (by decide) (by decide)
          have r6_I_80 : I_80 1 6 = I_75 1 6 := h_80.2.2.2.1 1 6 (by decide) (by decide) (by decide)
          have r7_I_80 : I_80 1 7 = I_75 1 7 := h_80.2.2.2.1 1 7 (by decide) (by decide) (by decide)
          have r8_I_80 : I_80 1 8 = I_75 1 8 := h_80.2.2.2.1 1 8 (by decide) (by decide) (by decide)
          have r9_I_80 : I_80 1 9 = I_75 1 9 := h_80.2.2.2.1 1 9 (by decide) (by decide) (by decide)
          have r10_I_80 : I_80 1 10 = I_75 1 10 := h_80.2.2.2.1 1 10 (by decide) (by decide) (by decide)
          have r11_I_80 : I_80 1 11 = I_75 1 11 := h_80.2.2.2.1 1 11 (by decide) (by decide) (by decide)
          have r81_I_80 : I_80 8 1 = I_75 8 1 := h_80.2.2.2.1 8 1 (by decide) (by decide) (by decide)
          have rf_I_80 : FU (I_80 1 5) = FU (I_75 1 5) := by rw [r5_I_80]
          have xv_I_80 := h_80.2.2.2.2
          have srI_80 : SR I_80 := SR_of srI_75 (Fw_row h_80.2.2.2.1 43 (by decide) (by decide) (by decide)) (Fw_row h_80.2.2.2.1 45 (by decide) (by decide) (by decide))
          refine rI hX (pc := 83) hT (Nat.le_refl 0) (Nat.le_refl 0) dX10_make_83 ?_
          exact ⟨kI_80, kJ_80, cI_80, (Fw_wd wI_80 (by decide) (by decide)), srI_80, by omega, by omega, by omega⟩
        · simp only [w32_mod] at h_47
          refine ww_aload_n hX (pc := 50) dX10_make_50 rfl ?_
          refine ww_bipush hX (pc := 51) (x := (-3)) dX10_make_51 (by decide) ?_
          refine vI1 hX (pc := 53) sX10_89 (xs_0 hL) (c5_X10_refuse l0 hL cI_44 (by omega) (by omega)) (by decide) (Nat.le_refl 0) (Nat.le_refl 0) (Nat.le_of_ble_eq_true rfl) dX10_make_53 (fun x_53 I_53 J_53 h_53 => ?_)
          have kI_53 : Kp 0 49 Ia I_53 := Kp_tr kI_44 (Kp_wd h_53.1 (by decide) (by decide))
          have kJ_53 : Kp 0 49 Ja J_53 := Kp_tr kJ_44 (Kp_wd h_53.2.1 (by decide) (by decide))
          have cI_53 : CX I_53 := h_53.2.2.1
          have qI_53 := XI_o cI_53.1
          have wI_53 : Fw [3, 18, 19, 20, 21, 22, 23, 24, 25, 26, 27, 28, 29, 30, 31, 32, 33, 34, 35, 36, 37, 38, 39, 40, 41, 42, 43, 44, 45, 48] [(0, 16)] Ia I_53 := Fw_tr (Fw_wd wI_44 (by decide) (by decide)) (Fw_wd h_53.2.2.2.1 (by decide) (by decide))
          have r5_I_53 : I_53 1 5 = I_44 1 5 := h_53.2.2.2.1 1 5 (by decide) (by decide) (by decide)
          have r6_I_53 : I_53 1 6 = I_44 1 6 := h_53.2.2.2.1 1 6 (by decide) (by decide) (by decide)
          have r7_I_53 : I_53 1 7 = I_44 1 7 := h_53.2.2.2.1 1 7 (by decide) (by decide) (by decide)
          have r8_I_53 : I_53 1 8 = I_44 1 8 := h_53.2.2.2.1 1 8 (by decide) (by decide) (by decide)
          have r9_I_53 : I_53 1 9 = I_44 1 9 := h_53.2.2.2.1 1 9 (by decide) (by decide) (by decide)
          have r10_I_53 : I_53 1 10 = I_44 1 10 := h_53.2.2.2.1 1 10 (by decide) (by decide) (by decide)
          have r11_I_53 : I_53 1 11 = I_44 1 11 := h_53.2.2.2.1 1 11 (by decide) (by decide) (by decide)
          have r81_I_53 : I_53 8 1 = I_44 8 1 := h_53.2.2.2.1 8 1 (by decide) (by decide) (by decide)
          have rf_I_53 : FU (I_53 1 5) = FU (I_44 1 5) := by rw [r5_I_53]
          have xv_I_53 := h_53.2.2.2.2
          have srI_53 : SR I_53 := SR_of h_44.2.2.2.1 (Fw_row h_53.2.2.2.1 43 (by decide) (by decide) (by decide)) (Fw_row h_53.2.2.2.1 45 (by decide) (by decide) (by decide))
          refine rI hX (pc := 56) hT (Nat.le_refl 0) (Nat.le_refl 0) dX10_make_56 ?_
          exact ⟨kI_53, kJ_53, cI_53, (Fw_wd wI_53 (by decide) (by decide)), srI_53, by omega, by omega, by omega⟩
  · simp only [w32_mod] at h_6
    refine ww_aload_n hX (pc := 9) dX10_make_9 rfl ?_
    refine ww_iconst hX (pc := 10) (x := (-1)) dX10_make_10 rfl ?_
    refine vI1 hX (pc := 11) sX10_89 (xs_0 hL) (c5_X10_refuse l0 hL hC (by omega) (by omega)) (by decide) (Nat.le_refl 0) (Nat.le_refl 0) (Nat.le_of_ble_eq_true rfl) dX10_make_11 (fun x_11 I_11 J_11 h_11 => ?_)
    have kI_11 : Kp 0 49 Ia I_11 := Kp_tr (Kp_rf (a := 0) (b := 49)) (Kp_wd h_11.1 (by decide) (by decide))
    have kJ_11 : Kp 0 49 Ja J_11 := Kp_tr (Kp_rf (a := 0) (b := 49)) (Kp_wd h_11.2.1 (by decide) (by decide))
    have cI_11 : CX I_11 := h_11.2.2.1
    have qI_11 := XI_o cI_11.1
    have wI_11 : Fw [3, 18, 19, 20, 21, 22, 23, 24, 25, 26, 27, 28, 29, 30, 31, 32, 33, 34, 35, 36, 37, 38, 39, 40, 41, 42, 43, 44, 45, 48] [(0, 16)] Ia I_11 := Fw_tr Fw_rf (Fw_wd h_11.2.2.2.1 (by decide) (by decide))
    have r5_I_11 : I_11 1 5 = Ia 1 5 := h_11.2.2.2.1 1 5 (by decide) (by decide) (by decide)
    have r6_I_11 : I_11 1 6 = Ia 1 6 := h_11.2.2.2.1 1 6 (by decide) (by decide) (by decide)
    have r7_I_11 : I_11 1 7 = Ia 1 7 := h_11.2.2.2.1 1 7 (by decide) (by decide) (by decide)
    have r8_I_11 : I_11 1 8 = Ia 1 8 := h_11.2.2.2.1 1 8 (by decide) (by decide) (by decide)
    have r9_I_11 : I_11 1 9 = Ia 1 9 := h_11.2.2.2.1 1 9 (by decide) (by decide) (by decide)
    have r10_I_11 : I_11 1 10 = Ia 1 10 := h_11.2.2.2.1 1 10 (by decide) (by decide) (by decide)
    have r11_I_11 : I_11 1 11 = Ia 1 11 := h_11.2.2.2.1 1 11 (by decide) (by decide) (by decide)
    have r81_I_11 : I_11 8 1 = Ia 8 1 := h_11.2.2.2.1 8 1 (by decide) (by decide) (by decide)
    have rf_I_11 : FU (I_11 1 5) = FU (Ia 1 5) := by rw [r5_I_11]
    have xv_I_11 := h_11.2.2.2.2
    have srI_11 : SR I_11 := SR_of hS (Fw_row h_11.2.2.2.1 43 (by decide) (by decide) (by decide)) (Fw_row h_11.2.2.2.1 45 (by decide) (by decide) (by decide))
    refine rI hX (pc := 14) hT (Nat.le_refl 0) (Nat.le_refl 0) dX10_make_14 ?_
    exact ⟨kI_11, kJ_11, cI_11, (Fw_wd wI_11 (by decide) (by decide)), srI_11, by omega, by omega, by omega⟩
set_option maxHeartbeats 4000000 in
set_option maxRecDepth 20000 in
theorem c5_X10_trail (l0 : Launch) {Ia Ja : aI1} {Ra : aR1} {Sa : aS1} (hL : LY Ra Sa) (hC : CX Ia)  : CT l0 10 0 0 mX10_trail [kR (some 0)] Ia Ja Ra Sa (cI (fun x I' J' => Kp 0 49 Ia I' ∧ Kp 0 49 Ja J' ∧ CX I' ∧ Fw [46, 48] [(0, 12), (0, 16), (8, 1)] Ia I' ∧ (Ia 8 1 = 0 → x = -6 ∧ RFc Ia I' (-6)) ∧ (¬ Ia 8 1 = 0 → x = min (Ia 8 1) 30 ∧ Fw [46] [(0, 12), (0, 16), (8, 1)] Ia I' ∧ I' 0 16 = 0 ∧ I' 0 12 = min (Ia 8 1) 30 ∧ I' 8 1 = 0 ∧ (∀ j : Nat, (j : Int) < min (Ia 8 1) 30 → I' 46 j = Ia 9 j))) Ra Sa) := by
  refine ct_in pn_X10 (Nat.le_of_ble_eq_true rfl) (fun X hX hT hIn => ?_)
  have hX : aK l0 X cX10_trail 2 RX10 (some .int) 10 0 0 := hX
  change WW X 0 [some (kR (some 0)), none] [] Ia Ja Ra Sa 0 0
  have hI := hC.1
  have hq := XI_o hI
  refine ww_aload_n hX (pc := 0) dX10_trail_0 rfl ?_
  refine ww_getR hX (pc := 1) fX10_23 (by decide) (xs_0 hL) (xr_0_2 hL) dX10_trail_1 ?_
  refine ww_getI hX (pc := 4) fX10_148 (by decide) (xs_8 hL) dX10_trail_4 ?_
  refine ww_if_ne hX (pc := 7) (tgt := 17) dX10_trail_7 (by decide) (fun h_7 => ?_) (fun h_7 => ?_)
  · simp only [w32_mod] at h_7
    refine ww_aload_n hX (pc := 17) dX10_trail_17 rfl ?_
    refine ww_aload_n hX (pc := 18) dX10_trail_18 rfl ?_
    refine ww_getR hX (pc := 19) fX10_23 (by decide) (xs_0 hL) (xr_0_2 hL) dX10_trail_19 ?_
    refine ww_getI hX (pc := 22) fX10_148 (by decide) (xs_8 hL) dX10_trail_22 ?_
    refine ww_bipush hX (pc := 25) (x := 30) dX10_trail_25 (by decide) ?_
    refine ww_mmin hX (pc := 27) tb_920 tb_579 tb_13 tb_580 (by decide) (Nat.le_refl 0) (Nat.le_refl 0) (Nat.le_of_ble_eq_true rfl) dX10_trail_27 ?_
    refine ww_toI (b := min (Ia 8 1) 30) (by rw [i_min_r (by omega) (by omega) (by omega) (by omega)]) ?_
    refine ww_putI hX (pc := 30) (fun h9 => absurd h9 (by decide)) gX10_256 rfl (xs_0 hL) dX10_trail_30 ?_
    refine ww_nmH (fun I_30 eI_30 => ?_)
    have kI_30 : Kp 0 49 Ia I_30 := by rw [eI_30]; exact Kp_up (Kp_rf (a := 0) (b := 49)) _ _ (by decide)
    have cI_30 : CX I_30 := by rw [eI_30]; exact CX_x hC (XI_0_12 hC.1 (by omega) (by omega)) (by decide)
    have qI_30 := XI_o cI_30.1
    have r5_I_30 : I_30 1 5 = Ia 1 5 := by rw [eI_30, up2_off _ _ _ (by decide)]
    have r6_I_30 : I_30 1 6 = Ia 1 6 := by rw [eI_30, up2_off _ _ _ (by decide)]
    have r8_I_30 : I_30 1 8 = Ia 1 8 := by rw [eI_30, up2_off _ _ _ (by decide)]
    have r9_I_30 : I_30 1 9 = Ia 1 9 := by rw [eI_30, up2_off _ _ _ (by decide)]
    have r10_I_30 : I_30 1 10 = Ia 1 10 := by rw [eI_30, up2_off _ _ _ (by decide)]
    have r11_I_30 : I_30 1 11 = Ia 1 11 := by rw [eI_30, up2_off _ _ _ (by decide)]
    have rf_I_30 : FU (I_30 1 5) = FU (Ia 1 5) := by rw [r5_I_30]
    have wI_30 : Fw [46] [(0, 12), (0, 16), (8, 1)] Ia I_30 := by rw [eI_30]; exact Fw_up Fw_rf (Or.inr (by decide))
    have r7_I_30 : I_30 1 7 = Ia 1 7 := by rw [eI_30, up2_n _ _ (Or.inl (by decide))]
    have y9_I_30 : I_30 9 = Ia 9 := by rw [eI_30, up2_off _ _ _ (by decide)]
    have y46_I_30 : I_30 46 = Ia 46 := by rw [eI_30, up2_off _ _ _ (by decide)]
    have z12 : I_30 0 12 = min (Ia 8 1) 30 := by rw [eI_30, up2_s]
    have q81 : I_30 8 1 = Ia 8 1 := by rw [eI_30, up2_off _ _ _ (by decide)]
    refine ww_iconst hX (pc := 33) (x := 0) dX10_trail_33 rfl ?_
    refine ww_istore_n hX (pc := 34) (lv' := [some (kR (some 0)), some (kI 0)]) dX10_trail_34 (by decide) rfl rfl ?_
    have hl_35 : ∀ (n_35 : Nat) (i : Int) (I2 : aI1) (J2 : aI1), (30 - i).toNat = n_35 → (Kp 0 49 Ia I2 ∧ Kp 0 49 Ja J2 ∧ CX I2 ∧ Fw [46] [(0, 12), (0, 16), (8, 1)] Ia I2 ∧ (I2 1 5 = I_30 1 5 ∧ I2 1 6 = I_30 1 6) ∧ ((0 ≤ i ∧ i ≤ min (Ia 8 1) 30 ∧ I2 0 12 = min (Ia 8 1) 30 ∧ I2 8 1 = Ia 8 1) ∧ I2 9 = Ia 9 ∧ (∀ j : Nat, (j : Int) < i → I2 46 j = Ia 9 j))) → WW X 35 [some (kR (some 0)), some (kI i)] [] I2 J2 Ra Sa 0 0 := by
      intro n_35
      induction n_35 using Nat.strongRecOn with
      | ind n_35 ih_35 =>
        intro i I2 J2 hm_35 hv_35
        have hq_35 := Sh0_i hm_35
        clear hm_35
        obtain ⟨kI2, kJ2, cI2, wI2, hI20, ⟨hi, i2_9, h46⟩⟩ := hv_35
        have qI2 := XI_o cI2.1
        have rfI2 := congrArg FU hI20.1
        refine ww_iload_n hX (pc := 35) dX10_trail_35 rfl ?_
        refine ww_aload_n hX (pc := 36) dX10_trail_36 rfl ?_
        refine ww_getI hX (pc := 37) fX10_256 (by decide) (xs_0 hL) dX10_trail_37 ?_
        refine ww_icmp_ge hX (pc := 40) (tgt := 63) dX10_trail_40 (by decide) (fun h_40 => ?_) (fun h_40 => ?_)
        · simp only [w32_mod] at h_40
          refine ww_aload_n hX (pc := 63) dX10_trail_63 rfl ?_
          refine ww_getR hX (pc := 64) fX10_23 (by decide) (xs_0 hL) (xr_0_2 hL) dX10_trail_64 ?_
          refine ww_iconst hX (pc := 67) (x := 0) dX10_trail_67 rfl ?_
          refine ww_putI hX (pc := 68) (fun h9 => absurd h9 (by decide)) gX10_148 rfl (xs_8 hL) dX10_trail_68 ?_
          refine ww_nmH (fun I_68 eI_68 => ?_)
          have kI_68 : Kp 0 49 Ia I_68 := by rw [eI_68]; exact Kp_up kI2 _ _ (by decide)
          have cI_68 : CX I_68 := by rw [eI_68]; exact CX_x cI2 (XI_8_1 cI2.1 (by omega) (by omega)) (by decide)
          have qI_68 := XI_o cI_68.1
          have r5_I_68 : I_68 1 5 = I2 1 5 := by rw [eI_68, up2_off _ _ _ (by decide)]
          have r6_I_68 : I_68 1 6 = I2 1 6 := by rw [eI_68, up2_off _ _ _ (by decide)]
          have r8_I_68 : I_68 1 8 = I2 1 8 := by rw [eI_68, up2_off _ _ _ (by decide)]
          have r9_I_68 : I_68 1 9 = I2 1 9 := by rw [eI_68, up2_off _ _ _ (by decide)]
          have r10_I_68 : I_68 1 10 = I2 1 10 := by rw [eI_68, up2_off _ _ _ (by decide)]
          have r11_I_68 : I_68 1 11 = I2 1 11 := by rw [eI_68, up2_off _ _ _ (by decide)]
          have rf_I_68 : FU (I_68 1 5) = FU (I2 1 5) := by rw [r5_I_68]
          have wI_68 : Fw [46] [(0, 12), (0, 16), (8, 1)] Ia I_68 := by rw [eI_68]; exact Fw_up wI2 (Or.inr (by decide))
          have r7_I_68 : I_68 1 7 = I2 1 7 := by rw [eI_68, up2_n _ _ (Or.inl (by decide))]
          have y9_I_68 : I_68 9 = I2 9 := by rw [eI_68, up2_off _ _ _ (by decide)]
          have y46_I_68 : I_68 46 = I2 46 := by rw [eI_68, up2_off _ _ _ (by decide)]
          have z12_ : I_68 0 12 = I2 0 12 := by rw [eI_68, up2_off _ _ _ (by decide)]
          have z81 : I_68 8 1 = 0 := by rw [eI_68, up2_s]
          refine ww_aload_n hX (pc := 71) dX10_trail_71 rfl ?_
          refine ww_aload_n hX (pc := 72) dX10_trail_72 rfl ?_
          refine ww_getI hX (pc := 73) fX10_256 (by decide) (xs_0 hL) dX10_trail_73 ?_
          refine vI1 hX (pc := 76) sX10_114 (xs_0 hL) (c5_X10_accept l0 hL cI_68) (by decide) (Nat.le_refl 0) (Nat.le_refl 0) (Nat.le_of_ble_eq_true rfl) dX10_trail_76 (fun x_76 I_76 J_76 h_76 => ?_)
          have kI_76 : Kp 0 49 Ia I_76 := Kp_tr kI_68 (Kp_wd h_76.1 (by decide) (by decide))
          have kJ_76 : Kp 0 49 Ja J_76 := Kp_tr kJ2 (Kp_wd h_76.2.1 (by decide) (by decide))
          have cI_76 : CX I_76 := h_76.2.2.1
          have qI_76 := XI_o cI_76.1
          have wI_76 : Fw [46] [(0, 12), (0, 16), (8, 1)] Ia I_76 := Fw_tr wI_68 (Fw_wd h_76.2.2.2.1 (by decide) (by decide))
          have r5_I_76 : I_76 1 5 = I_68 1 5 := h_76.2.2.2.1 1 5 (by decide) (by decide) (by decide)
          have r6_I_76 : I_76 1 6 = I_68 1 6 := h_76.2.2.2.1 1 6 (by decide) (by decide) (by decide)
          have r7_I_76 : I_76 1 7 = I_68 1 7 := h_76.2.2.2.1 1 7 (by decide) (by decide) (by decide)
          have r8_I_76 : I_76 1 8 = I_68 1 8 := h_76.2.2.2.1 1 8 (by decide) (by decide) (by decide)
          have r9_I_76 : I_76 1 9 = I_68 1 9 := h_76.2.2.2.1 1 9 (by decide) (by decide) (by decide)
          have r10_I_76 : I_76 1 10 = I_68 1 10 := h_76.2.2.2.1 1 10 (by decide) (by decide) (by decide)
          have r11_I_76 : I_76 1 11 = I_68 1 11 := h_76.2.2.2.1 1 11 (by decide) (by decide) (by decide)
          have r81_I_76 : I_76 8 1 = I_68 8 1 := h_76.2.2.2.1 8 1 (by decide) (by decide) (by decide)
          have rf_I_76 : FU (I_76 1 5) = FU (I_68 1 5) := by rw [r5_I_76]
          have y9_I_76 : I_76 9 = I_68 9 := Fw_row h_76.2.2.2.1 9 (by decide) (by decide) (by decide)
          have y46_I_76 : I_76 46 = I_68 46 := Fw_row h_76.2.2.2.1 46 (by decide) (by decide) (by decide)
          have xv_I_76 := h_76.2.2.2.2
          refine rI hX (pc := 79) hT (Nat.le_refl 0) (Nat.le_refl 0) dX10_trail_79 ?_
          exact ⟨kI_76, kJ_76, cI_76, (Fw_wd wI_76 (by decide) (by decide)), (fun h9 => absurd h9 (by omega)), (fun _ => ⟨by omega, wI_76, xv_I_76.2, by rw [h_76.2.2.2.1 0 12 (by decide) (by decide) (by decide)]; omega, by omega, (fun j hj => by rw [y46_I_76, y46_I_68]; exact h46 j (by omega))⟩)⟩
        · simp only [w32_mod] at h_40
          refine ww_aload_n hX (pc := 43) dX10_trail_43 rfl ?_
          refine ww_getR hX (pc := 44) fX10_75 (by decide) (xs_0 hL) (xr_0_9 hL) dX10_trail_44 ?_
          refine ww_iload_n hX (pc := 47) dX10_trail_47 rfl ?_
          refine ww_aload_n hX (pc := 48) dX10_trail_48 rfl ?_
          refine ww_getR hX (pc := 49) fX10_23 (by decide) (xs_0 hL) (xr_0_2 hL) dX10_trail_49 ?_
          refine ww_iload_n hX (pc := 52) dX10_trail_52 rfl ?_
          refine vI1 hX (pc := 53) sX10_155 (xs_8 hL) (c_X9_byteAt l0 hL cI2.1 (by omega) (by omega)) (by decide) (Nat.le_refl 0) (Nat.le_refl 0) (Nat.le_of_ble_eq_true rfl) dX10_trail_53 (fun x_53 I_53 J_53 h_53 => ?_)
          obtain ⟨rfl, rfl, h_53⟩ := h_53
          refine ww_iast hX (pc := 56) (xs_46 hL) (by decide) (by omega) (by omega) dX10_trail_56 ?_
          refine ww_nmH (fun I_56 eI_56 => ?_)
          have kI_56 : Kp 0 49 Ia I_56 := by rw [eI_56]; exact Kp_up kI2 _ _ (by decide)
          have cI_56 : CX I_56 := by rw [eI_56]; exact CX_up cI2 (by decide)
          have qI_56 := XI_o cI_56.1
          have r5_I_56 : I_56 1 5 = I2 1 5 := by rw [eI_56, up2_off _ _ _ (by decide)]
          have r6_I_56 : I_56 1 6 = I2 1 6 := by rw [eI_56, up2_off _ _ _ (by decide)]
          have r8_I_56 : I_56 1 8 = I2 1 8 := by rw [eI_56, up2_off _ _ _ (by decide)]
          have r9_I_56 : I_56 1 9 = I2 1 9 := by rw [eI_56, up2_off _ _ _ (by decide)]
          have r10_I_56 : I_56 1 10 = I2 1 10 := by rw [eI_56, up2_off _ _ _ (by decide)]
          have r11_I_56 : I_56 1 11 = I2 1 11 := by rw [eI_56, up2_off _ _ _ (by decide)]
          have rf_I_56 : FU (I_56 1 5) = FU (I2 1 5) := by rw [r5_I_56]
          have wI_56 : Fw [46] [(0, 12), (0, 16), (8, 1)] Ia I_56 := by rw [eI_56]; exact Fw_up wI2 (Or.inl (by decide))
          have r7_I_56 : I_56 1 7 = I2 1 7 := by rw [eI_56, up2_n _ _ (Or.inl (by decide))]
          have y9_I_56 : I_56 9 = I2 9 := by rw [eI_56, up2_off _ _ _ (by decide)]
          have z12_ : I_56 0 12 = I2 0 12 := by rw [eI_56, up2_off _ _ _ (by decide)]
          have q81_ : I_56 8 1 = I2 8 1 := by rw [eI_56, up2_off _ _ _ (by decide)]
          have t46 : ∀ j : Nat, (j : Int) < i + 1 → I_56 46 j = Ia 9 j := fun j hj => by
            rw [eI_56, up2_row]
            by_cases e9 : j = i.toNat
            · rw [e9, up1_s, h_53.2.1 (by omega), i2_9]
            · rw [up1_n _ _ e9]; exact h46 j (by omega)
          refine ww_iinc hX (pc := 57) (lv' := [some (kR (some 0)), some (kI (i + 1))]) dX10_trail_57 rfl (by decide) rfl rfl ?_
          refine ww_goto hX (pc := 60) (tgt := 35) dX10_trail_60 (by decide) ?_
          exact ih_35 _ (by have hm9 := Sh0_e hq_35; omega) (i + 1) I_56 J2 rfl ⟨kI_56, kJ2, cI_56, wI_56, ⟨by omega, by omega⟩, ⟨by omega, by rw [y9_I_56]; exact i2_9, t46⟩⟩
    exact hl_35 _ 0 I_30 Ja rfl ⟨kI_30, (Kp_rf (a := 0) (b := 49)), cI_30, wI_30, ⟨by omega, by omega⟩, ⟨by omega, y9_I_30, fun j hj => absurd hj (by omega)⟩⟩
  · simp only [w32_mod] at h_7
    refine ww_aload_n hX (pc := 10) dX10_trail_10 rfl ?_
    refine ww_bipush hX (pc := 11) (x := (-6)) dX10_trail_11 (by decide) ?_
    refine vI1 hX (pc := 13) sX10_89 (xs_0 hL) (c5_X10_refuse l0 hL hC (by omega) (by omega)) (by decide) (Nat.le_refl 0) (Nat.le_refl 0) (Nat.le_of_ble_eq_true rfl) dX10_trail_13 (fun x_13 I_13 J_13 h_13 => ?_)
    have kI_13 : Kp 0 49 Ia I_13 := Kp_tr (Kp_rf (a := 0) (b := 49)) (Kp_wd h_13.1 (by decide) (by decide))
    have kJ_13 : Kp 0 49 Ja J_13 := Kp_tr (Kp_rf (a := 0) (b := 49)) (Kp_wd h_13.2.1 (by decide) (by decide))
    have cI_13 : CX I_13 := h_13.2.2.1
    have qI_13 := XI_o cI_13.1
    have wI_13 : Fw [46, 48] [(0, 12), (0, 16), (8, 1)] Ia I_13 := Fw_tr Fw_rf (Fw_wd h_13.2.2.2.1 (by decide) (by decide))
    have r5_I_13 : I_13 1 5 = Ia 1 5 := h_13.2.2.2.1 1 5 (by decide) (by decide) (by decide)
    have r6_I_13 : I_13 1 6 = Ia 1 6 := h_13.2.2.2.1 1 6 (by decide) (by decide) (by decide)
    have r7_I_13 : I_13 1 7 = Ia 1 7 := h_13.2.2.2.1 1 7 (by decide) (by decide) (by decide)
    have r8_I_13 : I_13 1 8 = Ia 1 8 := h_13.2.2.2.1 1 8 (by decide) (by decide) (by decide)
    have r9_I_13 : I_13 1 9 = Ia 1 9 := h_13.2.2.2.1 1 9 (by decide) (by decide) (by decide)
    have r10_I_13 : I_13 1 10 = Ia 1 10 := h_13.2.2.2.1 1 10 (by decide) (by decide) (by decide)
    have r11_I_13 : I_13 1 11 = Ia 1 11 := h_13.2.2.2.1 1 11 (by decide) (by decide) (by decide)
    have r81_I_13 : I_13 8 1 = Ia 8 1 := h_13.2.2.2.1 8 1 (by decide) (by decide) (by decide)
    have rf_I_13 : FU (I_13 1 5) = FU (Ia 1 5) := by rw [r5_I_13]
    have y9_I_13 : I_13 9 = Ia 9 := Fw_row h_13.2.2.2.1 9 (by decide) (by decide) (by decide)
    have y46_I_13 : I_13 46 = Ia 46 := Fw_row h_13.2.2.2.1 46 (by decide) (by decide) (by decide)
    have xv_I_13 := h_13.2.2.2.2
    refine rI hX (pc := 16) hT (Nat.le_refl 0) (Nat.le_refl 0) dX10_trail_16 ?_
    exact ⟨kI_13, kJ_13, cI_13, (Fw_wd wI_13 (by decide) (by decide)), (fun _ => ⟨xv_I_13.1, h_13.2.2.2.1, xv_I_13.2⟩), (fun h9 => absurd (by omega) h9)⟩
set_option maxHeartbeats 4000000 in
set_option maxRecDepth 20000 in
theorem c5_X10_row (l0 : Launch) {Ia Ja : aI1} {Ra : aR1} {Sa : aS1} (hL : LY Ra Sa) (hC : CX Ia)  : CT l0 10 0 0 mX10_row [kR (some 0)] Ia Ja Ra Sa (cI (fun x I' J' => Kp 0 49 Ia I' ∧ Kp 0 49 Ja J' ∧ CX I' ∧ Fw [3, 18, 19, 20, 21, 22, 23, 24, 25, 26, 27, 28, 29, 30, 31, 32, 33, 34, 35, 36, 48] [(0, 15), (0, 16), (8, 1)] Ia I' ∧ (Ia 8 1 = 0 → x = -6 ∧ RFc Ia I' (-6)) ∧ (¬ Ia 8 1 = 0 → Fw [3, 18, 19, 20, 21, 22, 23, 24, 25, 26, 27, 28, 29, 30, 31, 32, 33, 34, 35, 36] [(0, 15), (0, 16), (8, 1)] Ia I' ∧ I' 0 16 = 0 ∧ I' 8 1 = 0 ∧ I' 0 15 = max 0 (Ia 8 1 - (FU (Ia 1 5) + 1)) ∧ (∀ j : Nat, I' 3 j = if (j : Int) < FU (Ia 1 5) + 1 then RWv (Ia 9) (Ia 8 1) (Ia 1 6) j else Ia 3 j) ∧ x = cnR (I' 3) (FU (Ia 1 5) + 1).toNat)) Ra Sa) := by
  refine ct_in pn_X10 (Nat.le_of_ble_eq_true rfl) (fun X hX hT hIn => ?_)
  have hX : aK l0 X cX10_row 4 RX10 (some .int) 10 0 0 := hX
  change WW X 0 [some (kR (some 0)), none, none, none] [] Ia Ja Ra Sa 0 0
  have hI := hC.1
  have hq := XI_o hI
  refine ww_aload_n hX (pc := 0) dX10_row_0 rfl ?_
  refine ww_getR hX (pc := 1) fX10_23 (by decide) (xs_0 hL) (xr_0_2 hL) dX10_row_1 ?_
  refine ww_getI hX (pc := 4) fX10_148 (by decide) (xs_8 hL) dX10_row_4 ?_
  refine ww_if_ne hX (pc := 7) (tgt := 17) dX10_row_7 (by decide) (fun h_7 => ?_) (fun h_7 => ?_)
  · simp only [w32_mod] at h_7
    refine ww_aload_n hX (pc := 17) dX10_row_17 rfl ?_
    refine ww_getR hX (pc := 18) fX10_10 (by decide) (xs_0 hL) (xr_0_0 hL) dX10_row_18 ?_
    refine vI0 hX (pc := 21) sX10_151 (xs_1 hL) (c_X1_full l0 hL hC.1) (by decide) (Nat.le_refl 0) (Nat.le_refl 0) (Nat.le_of_ble_eq_true rfl) dX10_row_21 (fun x_21 I_21 J_21 h_21 => ?_)
    obtain ⟨rfl, rfl, h_21⟩ := h_21
    refine ww_istore_n hX (pc := 24) (lv' := [some (kR (some 0)), some (kI x_21), none, none]) dX10_row_24 (by decide) rfl rfl ?_
    refine ww_iconst hX (pc := 25) (x := 0) dX10_row_25 rfl ?_
    refine ww_istore_n hX (pc := 26) (lv' := [some (kR (some 0)), some (kI x_21), some (kI 0), none]) dX10_row_26 (by decide) rfl rfl ?_
    have hl_27 : ∀ (n_27 : Nat) (i : Int) (I2 : aI1) (J2 : aI1), (256 - i).toNat = n_27 → (Kp 0 49 Ia I2 ∧ Kp 0 49 Ja J2 ∧ CX I2 ∧ Fw [3, 18, 19, 20, 21, 22, 23, 24, 25, 26, 27, 28, 29, 30, 31, 32, 33, 34, 35, 36] [(0, 15), (0, 16), (8, 1)] Ia I2 ∧ (I2 1 5 = Ia 1 5 ∧ I2 1 6 = Ia 1 6) ∧ ((0 ≤ i ∧ i ≤ FU (Ia 1 5) + 1 ∧ I2 8 1 = Ia 8 1) ∧ I2 9 = Ia 9 ∧ (∀ j : Nat, I2 3 j = if (j : Int) < i then RWv (Ia 9) (Ia 8 1) (Ia 1 6) j else Ia 3 j))) → WW X 27 [some (kR (some 0)), some (kI x_21), some (kI i), none] [] I2 J2 Ra Sa 0 0 := by
      intro n_27
      induction n_27 using Nat.strongRecOn with
      | ind n_27 ih_27 =>
        intro i I2 J2 hm_27 hv_27
        have hq_27 := Sh0_i hm_27
        clear hm_27
        obtain ⟨kI2, kJ2, cI2, wI2, hI20, ⟨hi, i2_9, h3⟩⟩ := hv_27
        have qI2 := XI_o cI2.1
        have rfI2 := congrArg FU hI20.1
        refine ww_iload_n hX (pc := 27) dX10_row_27 rfl ?_
        refine ww_iload_n hX (pc := 28) dX10_row_28 rfl ?_
        refine ww_icmp_gt hX (pc := 29) (tgt := 72) dX10_row_29 (by decide) (fun h_29 => ?_) (fun h_29 => ?_)
        · simp only [w32_mod] at h_29
          refine ww_aload_n hX (pc := 72) dX10_row_72 rfl ?_
          refine ww_iconst hX (pc := 73) (x := 0) dX10_row_73 rfl ?_
          refine ww_aload_n hX (pc := 74) dX10_row_74 rfl ?_
          refine ww_getR hX (pc := 75) fX10_23 (by decide) (xs_0 hL) (xr_0_2 hL) dX10_row_75 ?_
          refine ww_getI hX (pc := 78) fX10_148 (by decide) (xs_8 hL) dX10_row_78 ?_
          refine ww_iload_n hX (pc := 81) dX10_row_81 rfl ?_
          refine ww_isub hX (pc := 82) dX10_row_82 ?_
          refine ww_iconst hX (pc := 83) (x := 1) dX10_row_83 rfl ?_
          refine ww_isub hX (pc := 84) dX10_row_84 ?_
          refine ww_mmax hX (pc := 85) tb_459 tb_460 tb_13 tb_461 (by decide) (Nat.le_refl 0) (Nat.le_refl 0) (Nat.le_of_ble_eq_true rfl) dX10_row_85 ?_
          refine ww_toI (i_max_r (by omega) (by omega) (by omega) (by omega)) ?_
          refine ww_putI hX (pc := 88) (fun h9 => absurd h9 (by decide)) gX10_164 rfl (xs_0 hL) dX10_row_88 ?_
          refine ww_nmH (fun I_88 eI_88 => ?_)
          have kI_88 : Kp 0 49 Ia I_88 := by rw [eI_88]; exact Kp_up kI2 _ _ (by decide)
          have cI_88 : CX I_88 := by rw [eI_88]; exact CX_x cI2 (XI_0 cI2.1 (by decide)) (by decide)
          have qI_88 := XI_o cI_88.1
          have r5_I_88 : I_88 1 5 = I2 1 5 := by rw [eI_88, up2_off _ _ _ (by decide)]
          have r6_I_88 : I_88 1 6 = I2 1 6 := by rw [eI_88, up2_off _ _ _ (by decide)]
          have r8_I_88 : I_88 1 8 = I2 1 8 := by rw [eI_88, up2_off _ _ _ (by decide)]
          have r9_I_88 : I_88 1 9 = I2 1 9 := by rw [eI_88, up2_off _ _ _ (by decide)]
          have r10_I_88 : I_88 1 10 = I2 1 10 := by rw [eI_88, up2_off _ _ _ (by decide)]
          have r11_I_88 : I_88 1 11 = I2 1 11 := by rw [eI_88, up2_off _ _ _ (by decide)]
          have rf_I_88 : FU (I_88 1 5) = FU (I2 1 5) := by rw [r5_I_88]
          have wI_88 : Fw [3, 18, 19, 20, 21, 22, 23, 24, 25, 26, 27, 28, 29, 30, 31, 32, 33, 34, 35, 36] [(0, 15), (0, 16), (8, 1)] Ia I_88 := by rw [eI_88]; exact Fw_up wI2 (Or.inr (by decide))
          have r7_I_88 : I_88 1 7 = I2 1 7 := by rw [eI_88, up2_n _ _ (Or.inl (by decide))]
          have y3_I_88 : I_88 3 = I2 3 := by rw [eI_88, up2_off _ _ _ (by decide)]
          have y9_I_88 : I_88 9 = I2 9 := by rw [eI_88, up2_off _ _ _ (by decide)]
          have z15 : I_88 0 15 = _ := (congrFun (congrFun eI_88 0) 15).trans (up2_s _ _ _ _)
          have q81b : I_88 8 1 = I2 8 1 := by rw [eI_88, up2_off _ _ _ (by decide)]
          refine ww_aload_n hX (pc := 91) dX10_row_91 rfl ?_
          refine ww_getR hX (pc := 92) fX10_23 (by decide) (xs_0 hL) (xr_0_2 hL) dX10_row_92 ?_
          refine ww_iconst hX (pc := 95) (x := 0) dX10_row_95 rfl ?_
          refine ww_putI hX (pc := 96) (fun h9 => absurd h9 (by decide)) gX10_148 rfl (xs_8 hL) dX10_row_96 ?_
          refine ww_nmH (fun I_96 eI_96 => ?_)
          have kI_96 : Kp 0 49 Ia I_96 := by rw [eI_96]; exact Kp_up kI_88 _ _ (by decide)
          have cI_96 : CX I_96 := by rw [eI_96]; exact CX_x cI_88 (XI_8_1 cI_88.1 (by omega) (by omega)) (by decide)
          have qI_96 := XI_o cI_96.1
          have r5_I_96 : I_96 1 5 = I_88 1 5 := by rw [eI_96, up2_off _ _ _ (by decide)]
          have r6_I_96 : I_96 1 6 = I_88 1 6 := by rw [eI_96, up2_off _ _ _ (by decide)]
          have r8_I_96 : I_96 1 8 = I_88 1 8 := by rw [eI_96, up2_off _ _ _ (by decide)]
          have r9_I_96 : I_96 1 9 = I_88 1 9 := by rw [eI_96, up2_off _ _ _ (by decide)]
          have r10_I_96 : I_96 1 10 = I_88 1 10 := by rw [eI_96, up2_off _ _ _ (by decide)]
          have r11_I_96 : I_96 1 11 = I_88 1 11 := by rw [eI_96, up2_off _ _ _ (by decide)]
          have rf_I_96 : FU (I_96 1 5) = FU (I_88 1 5) := by rw [r5_I_96]
          have wI_96 : Fw [3, 18, 19, 20, 21, 22, 23, 24, 25, 26, 27, 28, 29, 30, 31, 32, 33, 34, 35, 36] [(0, 15), (0, 16), (8, 1)] Ia I_96 := by rw [eI_96]; exact Fw_up wI_88 (Or.inr (by decide))
          have r7_I_96 : I_96 1 7 = I_88 1 7 := by rw [eI_96, up2_n _ _ (Or.inl (by decide))]
          have y3_I_96 : I_96 3 = I_88 3 := by rw [eI_96, up2_off _ _ _ (by decide)]
          have y9_I_96 : I_96 9 = I_88 9 := by rw [eI_96, up2_off _ _ _ (by decide)]
          have z81 : I_96 8 1 = 0 := by rw [eI_96, up2_s]
          have z15_ : I_96 0 15 = I_88 0 15 := by rw [eI_96, up2_off _ _ _ (by decide)]
          refine ww_aload_n hX (pc := 99) dX10_row_99 rfl ?_
          refine vV0 hX (pc := 100) sX10_111 (xs_0 hL) (c5_X10_codeChanged l0 hL cI_96) (by decide) (Nat.le_refl 0) (Nat.le_refl 0) (Nat.le_of_ble_eq_true rfl) dX10_row_100 (fun I_100 J_100 h_100 => ?_)
          have kI_100 : Kp 0 49 Ia I_100 := Kp_tr kI_96 (Kp_wd h_100.1 (by decide) (by decide))
          have kJ_100 : Kp 0 49 Ja J_100 := Kp_tr kJ2 (Kp_wd h_100.2.1 (by decide) (by decide))
          have cI_100 : CX I_100 := h_100.2.2.1
          have qI_100 := XI_o cI_100.1
          have wI_100 : Fw [3, 18, 19, 20, 21, 22, 23, 24, 25, 26, 27, 28, 29, 30, 31, 32, 33, 34, 35, 36] [(0, 15), (0, 16), (8, 1)] Ia I_100 := Fw_tr wI_96 (Fw_wd h_100.2.2.2.1 (by decide) (by decide))
          have r5_I_100 : I_100 1 5 = I_96 1 5 := h_100.2.2.2.1 1 5 (by decide) (by decide) (by decide)
          have r6_I_100 : I_100 1 6 = I_96 1 6 := h_100.2.2.2.1 1 6 (by decide) (by decide) (by decide)
          have r7_I_100 : I_100 1 7 = I_96 1 7 := h_100.2.2.2.1 1 7 (by decide) (by decide) (by decide)
          have r8_I_100 : I_100 1 8 = I_96 1 8 := h_100.2.2.2.1 1 8 (by decide) (by decide) (by decide)
          have r9_I_100 : I_100 1 9 = I_96 1 9 := h_100.2.2.2.1 1 9 (by decide) (by decide) (by decide)
          have r10_I_100 : I_100 1 10 = I_96 1 10 := h_100.2.2.2.1 1 10 (by decide) (by decide) (by decide)
          have r11_I_100 : I_100 1 11 = I_96 1 11 := h_100.2.2.2.1 1 11 (by decide) (by decide) (by decide)
          have r81_I_100 : I_100 8 1 = I_96 8 1 := h_100.2.2.2.1 8 1 (by decide) (by decide) (by decide)
          have rf_I_100 : FU (I_100 1 5) = FU (I_96 1 5) := by rw [r5_I_100]
          have y3_I_100 : I_100 3 = I_96 3 := Fw_row h_100.2.2.2.1 3 (by decide) (by decide) (by decide)
          have y9_I_100 : I_100 9 = I_96 9 := Fw_row h_100.2.2.2.1 9 (by decide) (by decide) (by decide)
          refine ww_aload_n hX (pc := 103) dX10_row_103 rfl ?_
          refine ww_aload_n hX (pc := 104) dX10_row_104 rfl ?_
          refine ww_getR hX (pc := 105) fX10_10 (by decide) (xs_0 hL) (xr_0_0 hL) dX10_row_105 ?_
          refine vI0 hX (pc := 108) sX10_167 (xs_1 hL) (c5_X1_readCount l0 hL cI_100.1) (by decide) (Nat.le_refl 0) (Nat.le_refl 0) (Nat.le_of_ble_eq_true rfl) dX10_row_108 (fun x_108 I_108 J_108 h_108 => ?_)
          obtain ⟨rfl, rfl, h_108⟩ := h_108
          refine vI1 hX (pc := 111) sX10_114 (xs_0 hL) (c5_X10_accept l0 hL cI_100) (by decide) (Nat.le_refl 0) (Nat.le_refl 0) (Nat.le_of_ble_eq_true rfl) dX10_row_111 (fun x_111 I_111 J_111 h_111 => ?_)
          have kI_111 : Kp 0 49 Ia I_111 := Kp_tr kI_100 (Kp_wd h_111.1 (by decide) (by decide))
          have kJ_111 : Kp 0 49 Ja J_111 := Kp_tr kJ_100 (Kp_wd h_111.2.1 (by decide) (by decide))
          have cI_111 : CX I_111 := h_111.2.2.1
          have qI_111 := XI_o cI_111.1
          have wI_111 : Fw [3, 18, 19, 20, 21, 22, 23, 24, 25, 26, 27, 28, 29, 30, 31, 32, 33, 34, 35, 36] [(0, 15), (0, 16), (8, 1)] Ia I_111 := Fw_tr wI_100 (Fw_wd h_111.2.2.2.1 (by decide) (by decide))
          have r5_I_111 : I_111 1 5 = I_100 1 5 := h_111.2.2.2.1 1 5 (by decide) (by decide) (by decide)
          have r6_I_111 : I_111 1 6 = I_100 1 6 := h_111.2.2.2.1 1 6 (by decide) (by decide) (by decide)
          have r7_I_111 : I_111 1 7 = I_100 1 7 := h_111.2.2.2.1 1 7 (by decide) (by decide) (by decide)
          have r8_I_111 : I_111 1 8 = I_100 1 8 := h_111.2.2.2.1 1 8 (by decide) (by decide) (by decide)
          have r9_I_111 : I_111 1 9 = I_100 1 9 := h_111.2.2.2.1 1 9 (by decide) (by decide) (by decide)
          have r10_I_111 : I_111 1 10 = I_100 1 10 := h_111.2.2.2.1 1 10 (by decide) (by decide) (by decide)
          have r11_I_111 : I_111 1 11 = I_100 1 11 := h_111.2.2.2.1 1 11 (by decide) (by decide) (by decide)
          have r81_I_111 : I_111 8 1 = I_100 8 1 := h_111.2.2.2.1 8 1 (by decide) (by decide) (by decide)
          have rf_I_111 : FU (I_111 1 5) = FU (I_100 1 5) := by rw [r5_I_111]
          have y3_I_111 : I_111 3 = I_100 3 := Fw_row h_111.2.2.2.1 3 (by decide) (by decide) (by decide)
          have y9_I_111 : I_111 9 = I_100 9 := Fw_row h_111.2.2.2.1 9 (by decide) (by decide) (by decide)
          have xv_I_111 := h_111.2.2.2.2
          refine rI hX (pc := 114) hT (Nat.le_refl 0) (Nat.le_refl 0) dX10_row_114 ?_
          exact ⟨kI_111, kJ_111, cI_111, (Fw_wd wI_111 (by decide) (by decide)), (fun h9 => absurd h9 (by omega)), (fun _ => ⟨wI_111, xv_I_111.2, by omega, by rw [h_111.2.2.2.1 0 15 (by decide) (by decide) (by decide), h_100.2.2.2.1 0 15 (by decide) (by decide) (by decide)]; omega, (fun j => by rw [y3_I_111, y3_I_100, y3_I_96, y3_I_88, h3 j, show i = FU (Ia 1 5) + 1 by omega]), by rw [xv_I_111.1, h_108, y3_I_111, rf_I_100]; exact congrArg (fun z : Int => cnR (I_100 3) (z + 1).toNat) (by omega)⟩)⟩
        · simp only [w32_mod] at h_29
          refine ww_aload_n hX (pc := 32) dX10_row_32 rfl ?_
          refine ww_getR hX (pc := 33) fX10_23 (by decide) (xs_0 hL) (xr_0_2 hL) dX10_row_33 ?_
          refine ww_iload_n hX (pc := 36) dX10_row_36 rfl ?_
          refine vI1 hX (pc := 37) sX10_155 (xs_8 hL) (c_X9_byteAt l0 hL cI2.1 (by omega) (by omega)) (by decide) (Nat.le_refl 0) (Nat.le_refl 0) (Nat.le_of_ble_eq_true rfl) dX10_row_37 (fun x_37 I_37 J_37 h_37 => ?_)
          obtain ⟨rfl, rfl, h_37⟩ := h_37
          refine ww_istore_n hX (pc := 40) (lv' := [some (kR (some 0)), some (kI x_21), some (kI i), some (kI x_37)]) dX10_row_40 (by decide) rfl rfl ?_
          refine ww_aload_n hX (pc := 41) dX10_row_41 rfl ?_
          refine ww_getR hX (pc := 42) fX10_10 (by decide) (xs_0 hL) (xr_0_0 hL) dX10_row_42 ?_
          refine ww_getR hX (pc := 45) fX10_137 (by decide) (xs_1 hL) (xr_1_1 hL) dX10_row_45 ?_
          refine ww_iload_n hX (pc := 48) dX10_row_48 rfl ?_
          refine ww_aload_n hX (pc := 49) dX10_row_49 rfl ?_
          refine ww_getR hX (pc := 50) fX10_10 (by decide) (xs_0 hL) (xr_0_0 hL) dX10_row_50 ?_
          refine ww_iload_n hX (pc := 53) dX10_row_53 rfl ?_
          refine vI1 hX (pc := 54) sX10_134 (xs_1 hL) (c_X1_isNews l0 hL cI2.1 (by omega)) (by decide) (Nat.le_refl 0) (Nat.le_refl 0) (Nat.le_of_ble_eq_true rfl) dX10_row_54 (fun x_54 I_54 J_54 h_54 => ?_)
          obtain ⟨rfl, rfl, h_54⟩ := h_54
          refine ww_if_eq hX (pc := 57) (tgt := 64) dX10_row_57 (by decide) (fun h_57 => ?_) (fun h_57 => ?_)
          · simp only [w32_mod] at h_57
            refine ww_iconst hX (pc := 64) (x := (-1)) dX10_row_64 rfl ?_
            refine ww_iast hX (pc := 65) (xs_3 hL) (by decide) (by omega) (by omega) dX10_row_65 ?_
            refine ww_nmH (fun I_65 eI_65 => ?_)
            have kI_65 : Kp 0 49 Ia I_65 := by rw [eI_65]; exact Kp_up kI2 _ _ (by decide)
            have cI_65 : CX I_65 := by rw [eI_65]; exact CX_x cI2 (XI_3 cI2.1 (by omega) (by omega)) (by decide)
            have qI_65 := XI_o cI_65.1
            have r5_I_65 : I_65 1 5 = I2 1 5 := by rw [eI_65, up2_off _ _ _ (by decide)]
            have r6_I_65 : I_65 1 6 = I2 1 6 := by rw [eI_65, up2_off _ _ _ (by decide)]
            have r8_I_65 : I_65 1 8 = I2 1 8 := by rw [eI_65, up2_off _ _ _ (by decide)]
            have r9_I_65 : I_65 1 9 = I2 1 9 := by rw [eI_65, up2_off _ _ _ (by decide)]
            have r10_I_65 : I_65 1 10 = I2 1 10 := by rw [eI_65, up2_off _ _ _ (by decide)]
            have r11_I_65 : I_65 1 11 = I2 1 11 := by rw [eI_65, up2_off _ _ _ (by decide)]
            have rf_I_65 : FU (I_65 1 5) = FU (I2 1 5) := by rw [r5_I_65]
            have wI_65 : Fw [3, 18, 19, 20, 21, 22, 23, 24, 25, 26, 27, 28, 29, 30, 31, 32, 33, 34, 35, 36] [(0, 15), (0, 16), (8, 1)] Ia I_65 := by rw [eI_65]; exact Fw_up wI2 (Or.inl (by decide))
            have r7_I_65 : I_65 1 7 = I2 1 7 := by rw [eI_65, up2_n _ _ (Or.inl (by decide))]
            have y9_I_65 : I_65 9 = I2 9 := by rw [eI_65, up2_off _ _ _ (by decide)]
            have q81_ : I_65 8 1 = I2 8 1 := by rw [eI_65, up2_off _ _ _ (by decide)]
            have t3 : ∀ j : Nat, I_65 3 j = if (j : Int) < i + 1 then RWv (Ia 9) (Ia 8 1) (Ia 1 6) j else Ia 3 j := fun j => by
              rw [eI_65, up2_row]
              by_cases e9 : j = i.toNat
              · rw [e9, up1_s, if_pos (by omega)]
                unfold RWv
                by_cases e7 : (i.toNat : Int) < Ia 8 1
                · have e6 := h_37.2.1 (by omega)
                  rw [i2_9] at e6
                  first | (rw [if_pos ⟨e7, by omega, by omega⟩]; exact e6) | (rw [if_neg (by omega)])
                · have e6 := h_37.2.2 (by omega)
                  first | (rw [if_neg (by omega)]; done) | (exfalso; omega)
              · rw [up1_n _ _ e9, h3 j]
                by_cases e8 : (j : Int) < i
                · rw [if_pos e8, if_pos (by omega)]
                · rw [if_neg e8, if_neg (by omega)]
            refine ww_iinc hX (pc := 66) (lv' := [some (kR (some 0)), some (kI x_21), some (kI (i + 1)), some (kI x_37)]) dX10_row_66 rfl (by decide) rfl rfl ?_
            refine ww_goto hX (pc := 69) (tgt := 27) dX10_row_69 (by decide) ?_
            refine ww_sub [some (kR (some 0)), some (kI x_21), some (kI (i + 1)), none] (aLe_s (aLe_s (aLe_s (aLe_n aLe_0)))) ?_
            exact ih_27 _ (by have hm9 := Sh0_e hq_27; omega) (i + 1) I_65 J2 rfl ⟨kI_65, kJ2, cI_65, wI_65, ⟨by omega, by omega⟩, ⟨by omega, by rw [y9_I_65]; exact i2_9, t3⟩⟩
          · simp only [w32_mod] at h_57
            have k_54 := h_54.2.mp (by omega)
            clear h_54
            refine ww_iload_n hX (pc := 60) dX10_row_60 rfl ?_
            refine ww_goto hX (pc := 61) (tgt := 65) dX10_row_61 (by decide) ?_
            refine ww_iast hX (pc := 65) (xs_3 hL) (by decide) (by omega) (by omega) dX10_row_65 ?_
            refine ww_nmH (fun I_65 eI_65 => ?_)
            have kI_65 : Kp 0 49 Ia I_65 := by rw [eI_65]; exact Kp_up kI2 _ _ (by decide)
            have cI_65 : CX I_65 := by rw [eI_65]; exact CX_x cI2 (XI_3 cI2.1 (by omega) (by omega)) (by decide)
            have qI_65 := XI_o cI_65.1
            have r5_I_65 : I_65 1 5 = I2 1 5 := by rw [eI_65, up2_off _ _ _ (by decide)]
            have r6_I_65 : I_65 1 6 = I2 1 6 := by rw [eI_65, up2_off _ _ _ (by decide)]
            have r8_I_65 : I_65 1 8 = I2 1 8 := by rw [eI_65, up2_off _ _ _ (by decide)]
            have r9_I_65 : I_65 1 9 = I2 1 9 := by rw [eI_65, up2_off _ _ _ (by decide)]
            have r10_I_65 : I_65 1 10 = I2 1 10 := by rw [eI_65, up2_off _ _ _ (by decide)]
            have r11_I_65 : I_65 1 11 = I2 1 11 := by rw [eI_65, up2_off _ _ _ (by decide)]
            have rf_I_65 : FU (I_65 1 5) = FU (I2 1 5) := by rw [r5_I_65]
            have wI_65 : Fw [3, 18, 19, 20, 21, 22, 23, 24, 25, 26, 27, 28, 29, 30, 31, 32, 33, 34, 35, 36] [(0, 15), (0, 16), (8, 1)] Ia I_65 := by rw [eI_65]; exact Fw_up wI2 (Or.inl (by decide))
            have r7_I_65 : I_65 1 7 = I2 1 7 := by rw [eI_65, up2_n _ _ (Or.inl (by decide))]
            have y9_I_65 : I_65 9 = I2 9 := by rw [eI_65, up2_off _ _ _ (by decide)]
            have q81_ : I_65 8 1 = I2 8 1 := by rw [eI_65, up2_off _ _ _ (by decide)]
            have t3 : ∀ j : Nat, I_65 3 j = if (j : Int) < i + 1 then RWv (Ia 9) (Ia 8 1) (Ia 1 6) j else Ia 3 j := fun j => by
              rw [eI_65, up2_row]
              by_cases e9 : j = i.toNat
              · rw [e9, up1_s, if_pos (by omega)]
                unfold RWv
                by_cases e7 : (i.toNat : Int) < Ia 8 1
                · have e6 := h_37.2.1 (by omega)
                  rw [i2_9] at e6
                  first | (rw [if_pos ⟨e7, by omega, by omega⟩]; exact e6) | (rw [if_neg (by omega)])
                · have e6 := h_37.2.2 (by omega)
                  first | (rw [if_neg (by omega)]; done) | (exfalso; omega)
              · rw [up1_n _ _ e9, h3 j]
                by_cases e8 : (j : Int) < i
                · rw [if_pos e8, if_pos (by omega)]
                · rw [if_neg e8, if_neg (by omega)]
            refine ww_iinc hX (pc := 66) (lv' := [some (kR (some 0)), some (kI x_21), some (kI (i + 1)), some (kI x_37)]) dX10_row_66 rfl (by decide) rfl rfl ?_
            refine ww_goto hX (pc := 69) (tgt := 27) dX10_row_69 (by decide) ?_
            refine ww_sub [some (kR (some 0)), some (kI x_21), some (kI (i + 1)), none] (aLe_s (aLe_s (aLe_s (aLe_n aLe_0)))) ?_
            exact ih_27 _ (by have hm9 := Sh0_e hq_27; omega) (i + 1) I_65 J2 rfl ⟨kI_65, kJ2, cI_65, wI_65, ⟨by omega, by omega⟩, ⟨by omega, by rw [y9_I_65]; exact i2_9, t3⟩⟩
    exact hl_27 _ 0 Ia Ja rfl ⟨(Kp_rf (a := 0) (b := 49)), (Kp_rf (a := 0) (b := 49)), hC, Fw_rf, ⟨by omega, by omega⟩, ⟨by omega, rfl, fun j => by rw [if_neg (by omega)]⟩⟩
  · simp only [w32_mod] at h_7
    refine ww_aload_n hX (pc := 10) dX10_row_10 rfl ?_
    refine ww_bipush hX (pc := 11) (x := (-6)) dX10_row_11 (by decide) ?_
    refine vI1 hX (pc := 13) sX10_89 (xs_0 hL) (c5_X10_refuse l0 hL hC (by omega) (by omega)) (by decide) (Nat.le_refl 0) (Nat.le_refl 0) (Nat.le_of_ble_eq_true rfl) dX10_row_13 (fun x_13 I_13 J_13 h_13 => ?_)
    have kI_13 : Kp 0 49 Ia I_13 := Kp_tr (Kp_rf (a := 0) (b := 49)) (Kp_wd h_13.1 (by decide) (by decide))
    have kJ_13 : Kp 0 49 Ja J_13 := Kp_tr (Kp_rf (a := 0) (b := 49)) (Kp_wd h_13.2.1 (by decide) (by decide))
    have cI_13 : CX I_13 := h_13.2.2.1
    have qI_13 := XI_o cI_13.1
    have wI_13 : Fw [3, 18, 19, 20, 21, 22, 23, 24, 25, 26, 27, 28, 29, 30, 31, 32, 33, 34, 35, 36, 48] [(0, 15), (0, 16), (8, 1)] Ia I_13 := Fw_tr Fw_rf (Fw_wd h_13.2.2.2.1 (by decide) (by decide))
    have r5_I_13 : I_13 1 5 = Ia 1 5 := h_13.2.2.2.1 1 5 (by decide) (by decide) (by decide)
    have r6_I_13 : I_13 1 6 = Ia 1 6 := h_13.2.2.2.1 1 6 (by decide) (by decide) (by decide)
    have r7_I_13 : I_13 1 7 = Ia 1 7 := h_13.2.2.2.1 1 7 (by decide) (by decide) (by decide)
    have r8_I_13 : I_13 1 8 = Ia 1 8 := h_13.2.2.2.1 1 8 (by decide) (by decide) (by decide)
    have r9_I_13 : I_13 1 9 = Ia 1 9 := h_13.2.2.2.1 1 9 (by decide) (by decide) (by decide)
    have r10_I_13 : I_13 1 10 = Ia 1 10 := h_13.2.2.2.1 1 10 (by decide) (by decide) (by decide)
    have r11_I_13 : I_13 1 11 = Ia 1 11 := h_13.2.2.2.1 1 11 (by decide) (by decide) (by decide)
    have r81_I_13 : I_13 8 1 = Ia 8 1 := h_13.2.2.2.1 8 1 (by decide) (by decide) (by decide)
    have rf_I_13 : FU (I_13 1 5) = FU (Ia 1 5) := by rw [r5_I_13]
    have y3_I_13 : I_13 3 = Ia 3 := Fw_row h_13.2.2.2.1 3 (by decide) (by decide) (by decide)
    have y9_I_13 : I_13 9 = Ia 9 := Fw_row h_13.2.2.2.1 9 (by decide) (by decide) (by decide)
    have xv_I_13 := h_13.2.2.2.2
    refine rI hX (pc := 16) hT (Nat.le_refl 0) (Nat.le_refl 0) dX10_row_16 ?_
    exact ⟨kI_13, kJ_13, cI_13, (Fw_wd wI_13 (by decide) (by decide)), (fun _ => ⟨xv_I_13.1, h_13.2.2.2.1, xv_I_13.2⟩), (fun h9 => absurd (by omega) h9)⟩
set_option maxHeartbeats 4000000 in
set_option maxRecDepth 20000 in
theorem c5_X10_spy (l0 : Launch) {Ia Ja : aI1} {Ra : aR1} {Sa : aS1} (hL : LY Ra Sa) (hC : CX Ia) {a : Int} (ha0 : -2147483648 ≤ a) (ha1 : a < 2147483648)  : CT l0 10 0 0 mX10_spy [kR (some 0), kI a] Ia Ja Ra Sa (cI (fun x I' J' => Kp 0 49 Ia I' ∧ Kp 0 49 Ja J' ∧ CX I' ∧ Fw [] [] Ia I' ∧ True) Ra Sa) := by
  refine ct_in pn_X10 (Nat.le_of_ble_eq_true rfl) (fun X hX hT hIn => ?_)
  have hX : aK l0 X cX10_spy 5 RX10 (some .int) 10 0 0 := hX
  change WW X 0 [some (kR (some 0)), some (kI a), none, none, none] [] Ia Ja Ra Sa 0 0
  have hI := hC.1
  have hq := XI_o hI
  refine ww_iload_n hX (pc := 0) dX10_spy_0 rfl ?_
  refine ww_if_lt hX (pc := 1) (tgt := 15) dX10_spy_1 (by decide) (fun h_1 => ?_) (fun h_1 => ?_)
  · simp only [w32_mod] at h_1
    refine ww_iconst hX (pc := 15) (x := (-1)) dX10_spy_15 rfl ?_
    refine rI hX (pc := 16) hT (Nat.le_refl 0) (Nat.le_refl 0) dX10_spy_16 ?_
    exact ⟨(Kp_rf (a := 0) (b := 49)), (Kp_rf (a := 0) (b := 49)), hC, Fw_rf, trivial⟩
  · simp only [w32_mod] at h_1
    refine ww_iload_n hX (pc := 4) dX10_spy_4 rfl ?_
    refine ww_aload_n hX (pc := 5) dX10_spy_5 rfl ?_
    refine ww_getR hX (pc := 6) fX10_10 (by decide) (xs_0 hL) (xr_0_0 hL) dX10_spy_6 ?_
    refine ww_getI hX (pc := 9) fX10_93 (by decide) (xs_1 hL) dX10_spy_9 ?_
    refine ww_icmp_le hX (pc := 12) (tgt := 17) dX10_spy_12 (by decide) (fun h_12 => ?_) (fun h_12 => ?_)
    · simp only [w32_mod] at h_12
      refine ww_iconst hX (pc := 17) (x := 0) dX10_spy_17 rfl ?_
      refine ww_istore_n hX (pc := 18) (lv' := [some (kR (some 0)), some (kI a), some (kI 0), none, none]) dX10_spy_18 (by decide) rfl rfl ?_
      refine ww_aload_n hX (pc := 19) dX10_spy_19 rfl ?_
      refine ww_getR hX (pc := 20) fX10_10 (by decide) (xs_0 hL) (xr_0_0 hL) dX10_spy_20 ?_
      refine vI0 hX (pc := 23) sX10_151 (xs_1 hL) (c_X1_full l0 hL hC.1) (by decide) (Nat.le_refl 0) (Nat.le_refl 0) (Nat.le_of_ble_eq_true rfl) dX10_spy_23 (fun x_23 I_23 J_23 h_23 => ?_)
      obtain ⟨rfl, rfl, h_23⟩ := h_23
      refine ww_istore_n hX (pc := 26) (lv' := [some (kR (some 0)), some (kI a), some (kI 0), some (kI x_23), none]) dX10_spy_26 (by decide) rfl rfl ?_
      refine ww_iconst hX (pc := 27) (x := 0) dX10_spy_27 rfl ?_
      refine ww_istore hX (pc := 28) (lv' := [some (kR (some 0)), some (kI a), some (kI 0), some (kI x_23), some (kI 0)]) dX10_spy_28 (by decide) rfl rfl ?_
      have hl_30 : ∀ (n_30 : Nat) (g : Int) (i : Int), (256 - i).toNat = n_30 → (0 ≤ i ∧ i ≤ 256) → WW X 30 [some (kR (some 0)), some (kI a), some (kI g), some (kI x_23), some (kI i)] [] Ia Ja Ra Sa 0 0 := by
        intro n_30
        induction n_30 using Nat.strongRecOn with
        | ind n_30 ih_30 =>
          intro g i hm_30 hv_30
          have hq_30 := Sh0_i hm_30
          clear hm_30
          obtain ⟨hi0, hi1⟩ := hv_30
          refine ww_iload hX (pc := 30) dX10_spy_30 rfl ?_
          refine ww_iload_n hX (pc := 32) dX10_spy_32 rfl ?_
          refine ww_icmp_gt hX (pc := 33) (tgt := 63) dX10_spy_33 (by decide) (fun h_33 => ?_) (fun h_33 => ?_)
          · simp only [w32_mod] at h_33
            refine ww_iload_n hX (pc := 63) dX10_spy_63 rfl ?_
            refine rI hX (pc := 64) hT (Nat.le_refl 0) (Nat.le_refl 0) dX10_spy_64 ?_
            exact ⟨(Kp_rf (a := 0) (b := 49)), (Kp_rf (a := 0) (b := 49)), hC, Fw_rf, trivial⟩
          · simp only [w32_mod] at h_33
            refine ww_iload hX (pc := 36) dX10_spy_36 rfl ?_
            refine sI1 hX (pc := 38) sX10_242 (c_J6_bitCount_0f7a4 l0) (by decide) (Nat.le_refl 0) (Nat.le_refl 0) (Nat.le_of_ble_eq_true rfl) dX10_spy_38 (fun x_38 I_38 J_38 h_38 => ?_)
            obtain ⟨rfl, rfl, h_38⟩ := h_38
            refine ww_iload_n hX (pc := 41) dX10_spy_41 rfl ?_
            refine ww_icmp_ne hX (pc := 42) (tgt := 57) dX10_spy_42 (by decide) (fun h_42 => ?_) (fun h_42 => ?_)
            · simp only [w32_mod] at h_42
              refine ww_iinc hX (pc := 57) (lv' := [some (kR (some 0)), some (kI a), some (kI g), some (kI x_23), some (kI (i + 1))]) dX10_spy_57 rfl (by decide) rfl rfl ?_
              refine ww_goto hX (pc := 60) (tgt := 30) dX10_spy_60 (by decide) ?_
              exact ih_30 _ (by have hm9 := Sh0_e hq_30; omega) g (i + 1) rfl ⟨by omega, by omega⟩
            · simp only [w32_mod] at h_42
              refine ww_iload_n hX (pc := 45) dX10_spy_45 rfl ?_
              refine ww_aload_n hX (pc := 46) dX10_spy_46 rfl ?_
              refine ww_getR hX (pc := 47) fX10_10 (by decide) (xs_0 hL) (xr_0_0 hL) dX10_spy_47 ?_
              refine ww_iload hX (pc := 50) dX10_spy_50 rfl ?_
              refine vI1 hX (pc := 52) sX10_269 (xs_1 hL) (c_X1_newsBit l0 hL hC.1 (by omega) (by omega)) (by decide) (Nat.le_refl 0) (Nat.le_refl 0) (Nat.le_of_ble_eq_true rfl) dX10_spy_52 (fun x_52 I_52 J_52 h_52 => ?_)
              obtain ⟨rfl, rfl, h_52⟩ := h_52
              refine ww_ior hX (pc := 55) dX10_spy_55 ?_
              refine ww_nmI (fun v_56 hv_56 => ?_)
              refine ww_istore_n hX (pc := 56) (lv' := [some (kR (some 0)), some (kI a), some (kI v_56), some (kI x_23), some (kI i)]) dX10_spy_56 (by decide) rfl rfl ?_
              refine ww_iinc hX (pc := 57) (lv' := [some (kR (some 0)), some (kI a), some (kI v_56), some (kI x_23), some (kI (i + 1))]) dX10_spy_57 rfl (by decide) rfl rfl ?_
              refine ww_goto hX (pc := 60) (tgt := 30) dX10_spy_60 (by decide) ?_
              exact ih_30 _ (by have hm9 := Sh0_e hq_30; omega) v_56 (i + 1) rfl ⟨by omega, by omega⟩
      exact hl_30 _ 0 0 rfl ⟨by omega, by omega⟩
    · simp only [w32_mod] at h_12
      refine ww_iconst hX (pc := 15) (x := (-1)) dX10_spy_15 rfl ?_
      refine rI hX (pc := 16) hT (Nat.le_refl 0) (Nat.le_refl 0) dX10_spy_16 ?_
      exact ⟨(Kp_rf (a := 0) (b := 49)), (Kp_rf (a := 0) (b := 49)), hC, Fw_rf, trivial⟩
set_option maxHeartbeats 4000000 in
set_option maxRecDepth 20000 in
theorem c5_X10_judge (l0 : Launch) {Ia Ja : aI1} {Ra : aR1} {Sa : aS1} (hL : LY Ra Sa) (hC : CX Ia) {a : Int} (ha0 : -2147483648 ≤ a) (ha1 : a < 2147483648)  : CT l0 10 0 0 mX10_judge [kR (some 0), kI a] Ia Ja Ra Sa (cI (fun x I' J' => Kp 0 49 Ia I' ∧ Kp 0 49 Ja J' ∧ CX I' ∧ Fw [18, 19, 20, 21, 22, 23, 24, 25, 26, 27, 28, 29, 30, 31, 32, 33, 34, 35, 36] [] Ia I' ∧ True) Ra Sa) := by
  refine ct_in pn_X10 (Nat.le_of_ble_eq_true rfl) (fun X hX hT hIn => ?_)
  have hX : aK l0 X cX10_judge 5 RX10 (some .int) 10 0 0 := hX
  change WW X 0 [some (kR (some 0)), some (kI a), none, none, none] [] Ia Ja Ra Sa 0 0
  have hI := hC.1
  have hq := XI_o hI
  refine ww_iload_n hX (pc := 0) dX10_judge_0 rfl ?_
  refine sI1 hX (pc := 1) sX10_188 (c_X10_isManner l0 (by omega) (by omega)) (by decide) (Nat.le_refl 0) (Nat.le_refl 0) (Nat.le_of_ble_eq_true rfl) dX10_judge_1 (fun x_1 I_1 J_1 h_1 => ?_)
  obtain ⟨rfl, rfl, h_1⟩ := h_1
  refine ww_if_ne hX (pc := 4) (tgt := 9) dX10_judge_4 (by decide) (fun h_4 => ?_) (fun h_4 => ?_)
  · simp only [w32_mod] at h_4
    have k_1 := h_1.2.mp (by omega)
    clear h_1
    refine ww_aload_n hX (pc := 9) dX10_judge_9 rfl ?_
    refine ww_getR hX (pc := 10) fX10_48 (by decide) (xs_0 hL) (xr_0_5 hL) dX10_judge_10 ?_
    refine ww_iload_n hX (pc := 13) dX10_judge_13 rfl ?_
    refine vV1 hX (pc := 14) sX10_191 (xs_18 hL) (c_X4_prepare l0 hL hC.1) (by decide) (Nat.le_refl 0) (Nat.le_refl 0) (Nat.le_of_ble_eq_true rfl) dX10_judge_14 (fun I_14 J_14 h_14 => ?_)
    have kI_14 : Kp 0 49 Ia I_14 := Kp_tr (Kp_rf (a := 0) (b := 49)) (Kp_wd h_14.1 (by decide) (by decide))
    have kJ_14 : Kp 0 49 Ja J_14 := Kp_tr (Kp_rf (a := 0) (b := 49)) (Kp_wd h_14.2.1 (by decide) (by decide))
    have cI_14 : CX I_14 := CX_kp hC h_14.1 (by decide) (by decide)
    have qI_14 := XI_o cI_14.1
    have r5_I_14 : I_14 1 5 = Ia 1 5 := by rw [h_14.1 1 (by decide)]
    have r6_I_14 : I_14 1 6 = Ia 1 6 := by rw [h_14.1 1 (by decide)]
    have r8_I_14 : I_14 1 8 = Ia 1 8 := by rw [h_14.1 1 (by decide)]
    have r9_I_14 : I_14 1 9 = Ia 1 9 := by rw [h_14.1 1 (by decide)]
    have r10_I_14 : I_14 1 10 = Ia 1 10 := by rw [h_14.1 1 (by decide)]
    have r11_I_14 : I_14 1 11 = Ia 1 11 := by rw [h_14.1 1 (by decide)]
    have rf_I_14 : FU (I_14 1 5) = FU (Ia 1 5) := by rw [r5_I_14]
    have wI_14 : Fw [18, 19, 20, 21, 22, 23, 24, 25, 26, 27, 28, 29, 30, 31, 32, 33, 34, 35, 36] [] Ia I_14 := Fw_kp Fw_rf h_14.1 (by decide)
    have r7_I_14 : I_14 1 7 = Ia 1 7 := by rw [h_14.1 1 (by decide)]
    refine ww_iconst hX (pc := 17) (x := 0) dX10_judge_17 rfl ?_
    refine ww_istore_n hX (pc := 18) (lv' := [some (kR (some 0)), some (kI a), some (kI 0), none, none]) dX10_judge_18 (by decide) rfl rfl ?_
    refine ww_iconst hX (pc := 19) (x := 0) dX10_judge_19 rfl ?_
    refine ww_istore_n hX (pc := 20) (lv' := [some (kR (some 0)), some (kI a), some (kI 0), some (kI 0), none]) dX10_judge_20 (by decide) rfl rfl ?_
    have hl_21 : ∀ (n_21 : Nat) (pv : Int) (i : Int) (I2 : aI1) (J2 : aI1), (30 - i).toNat = n_21 → (Kp 0 49 Ia I2 ∧ Kp 0 49 Ja J2 ∧ CX I2 ∧ Fw [18, 19, 20, 21, 22, 23, 24, 25, 26, 27, 28, 29, 30, 31, 32, 33, 34, 35, 36] [] Ia I2 ∧ (I2 1 5 = I_14 1 5 ∧ I2 1 6 = I_14 1 6) ∧ ((0 ≤ i ∧ i ≤ 30) ∧ (-2147483648 ≤ pv ∧ pv < 2147483648) ∧ I2 0 12 = I_14 0 12)) → WW X 21 [some (kR (some 0)), some (kI a), some (kI pv), some (kI i), none] [] I2 J2 Ra Sa 0 0 := by
      intro n_21
      induction n_21 using Nat.strongRecOn with
      | ind n_21 ih_21 =>
        intro pv i I2 J2 hm_21 hv_21
        have hq_21 := Sh0_i hm_21
        clear hm_21
        obtain ⟨kI2, kJ2, cI2, wI2, hI20, ⟨hi, hpv, h012⟩⟩ := hv_21
        have qI2 := XI_o cI2.1
        have rfI2 := congrArg FU hI20.1
        refine ww_iload_n hX (pc := 21) dX10_judge_21 rfl ?_
        refine ww_aload_n hX (pc := 22) dX10_judge_22 rfl ?_
        refine ww_getI hX (pc := 23) fX10_256 (by decide) (xs_0 hL) dX10_judge_23 ?_
        refine ww_icmp_ge hX (pc := 26) (tgt := 62) dX10_judge_26 (by decide) (fun h_26 => ?_) (fun h_26 => ?_)
        · simp only [w32_mod] at h_26
          refine ww_iconst hX (pc := 62) (x := (-1)) dX10_judge_62 rfl ?_
          refine rI hX (pc := 63) hT (Nat.le_refl 0) (Nat.le_refl 0) dX10_judge_63 ?_
          exact ⟨kI2, kJ2, cI2, (Fw_wd wI2 (by decide) (by decide)), trivial⟩
        · simp only [w32_mod] at h_26
          refine ww_aload_n hX (pc := 29) dX10_judge_29 rfl ?_
          refine ww_getR hX (pc := 30) fX10_75 (by decide) (xs_0 hL) (xr_0_9 hL) dX10_judge_30 ?_
          refine ww_iload_n hX (pc := 33) dX10_judge_33 rfl ?_
          refine ww_iald hX (pc := 34) (xs_46 hL) (by decide) (by omega) (by omega) dX10_judge_34 ?_
          refine ww_w32 ?_
          refine ww_nmI (fun tv htv => ?_)
          have htv2 := w32_r (I2 46 i.toNat)
          refine ww_nmI (fun v_35 hv_35 => ?_)
          refine ww_istore hX (pc := 35) (lv' := [some (kR (some 0)), some (kI a), some (kI pv), some (kI i), some (kI v_35)]) dX10_judge_35 (by decide) rfl rfl ?_
          refine ww_aload_n hX (pc := 37) dX10_judge_37 rfl ?_
          refine ww_getR hX (pc := 38) fX10_48 (by decide) (xs_0 hL) (xr_0_5 hL) dX10_judge_38 ?_
          refine ww_iload_n hX (pc := 41) dX10_judge_41 rfl ?_
          refine ww_iload hX (pc := 42) dX10_judge_42 rfl ?_
          refine ww_iload_n hX (pc := 44) dX10_judge_44 rfl ?_
          refine vI3 hX (pc := 45) sX10_259 (xs_18 hL) (c_X4_wouldLight l0 hL cI2.1 (by omega) (by omega) (by omega) (by omega)) (by decide) (Nat.le_refl 0) (Nat.le_refl 0) (Nat.le_of_ble_eq_true rfl) dX10_judge_45 (fun x_45 I_45 J_45 h_45 => ?_)
          have kI_45 : Kp 0 49 Ia I_45 := Kp_tr kI2 (Kp_wd h_45.1 (by decide) (by decide))
          have kJ_45 : Kp 0 49 Ja J_45 := Kp_tr kJ2 (Kp_wd h_45.2.1 (by decide) (by decide))
          have cI_45 : CX I_45 := CX_kp cI2 h_45.1 (by decide) (by decide)
          have qI_45 := XI_o cI_45.1
          have r5_I_45 : I_45 1 5 = I2 1 5 := by rw [h_45.1 1 (by decide)]
          have r6_I_45 : I_45 1 6 = I2 1 6 := by rw [h_45.1 1 (by decide)]
          have r8_I_45 : I_45 1 8 = I2 1 8 := by rw [h_45.1 1 (by decide)]
          have r9_I_45 : I_45 1 9 = I2 1 9 := by rw [h_45.1 1 (by decide)]
          have r10_I_45 : I_45 1 10 = I2 1 10 := by rw [h_45.1 1 (by decide)]
          have r11_I_45 : I_45 1 11 = I2 1 11 := by rw [h_45.1 1 (by decide)]
          have rf_I_45 : FU (I_45 1 5) = FU (I2 1 5) := by rw [r5_I_45]
          have wI_45 : Fw [18, 19, 20, 21, 22, 23, 24, 25, 26, 27, 28, 29, 30, 31, 32, 33, 34, 35, 36] [] Ia I_45 := Fw_kp wI2 h_45.1 (by decide)
          have r7_I_45 : I_45 1 7 = I2 1 7 := by rw [h_45.1 1 (by decide)]
          refine ww_if_ne hX (pc := 48) (tgt := 53) dX10_judge_48 (by decide) (fun h_48 => ?_) (fun h_48 => ?_)
          · simp only [w32_mod] at h_48
            refine ww_iload hX (pc := 53) dX10_judge_53 rfl ?_
            refine ww_istore_n hX (pc := 55) (lv' := [some (kR (some 0)), some (kI a), some (kI v_35), some (kI i), some (kI v_35)]) dX10_judge_55 (by decide) rfl rfl ?_
            refine ww_iinc hX (pc := 56) (lv' := [some (kR (some 0)), some (kI a), some (kI v_35), some (kI (i + 1)), some (kI v_35)]) dX10_judge_56 rfl (by decide) rfl rfl ?_
            refine ww_goto hX (pc := 59) (tgt := 21) dX10_judge_59 (by decide) ?_
            refine ww_sub [some (kR (some 0)), some (kI a), some (kI v_35), some (kI (i + 1)), none] (aLe_s (aLe_s (aLe_s (aLe_s (aLe_n aLe_0))))) ?_
            exact ih_21 _ (by have hm9 := Sh0_e hq_21; omega) v_35 (i + 1) I_45 J_45 rfl ⟨kI_45, kJ_45, cI_45, wI_45, ⟨by omega, by omega⟩, ⟨⟨by omega, by omega⟩, ⟨by omega, by omega⟩, by first | rfl | (rw [h_45.1 0 (by decide)]; exact h012)⟩⟩
          · simp only [w32_mod] at h_48
            refine ww_iload_n hX (pc := 51) dX10_judge_51 rfl ?_
            refine rI hX (pc := 52) hT (Nat.le_refl 0) (Nat.le_refl 0) dX10_judge_52 ?_
            exact ⟨kI_45, kJ_45, cI_45, (Fw_wd wI_45 (by decide) (by decide)), trivial⟩
    exact hl_21 _ 0 0 I_14 J_14 rfl ⟨kI_14, kJ_14, cI_14, wI_14, ⟨by omega, by omega⟩, ⟨⟨by omega, by omega⟩, ⟨by omega, by omega⟩, by first | rfl | (rw [h_45.1 0 (by decide)]; exact h012)⟩⟩
  · simp only [w32_mod] at h_4
    refine ww_iconst hX (pc := 7) (x := (-1)) dX10_judge_7 rfl ?_
    refine rI hX (pc := 8) hT (Nat.le_refl 0) (Nat.le_refl 0) dX10_judge_8 ?_
    exact ⟨(Kp_rf (a := 0) (b := 49)), (Kp_rf (a := 0) (b := 49)), hC, Fw_rf, trivial⟩
set_option maxHeartbeats 4000000 in
set_option maxRecDepth 20000 in
theorem c5_X10_maybe (l0 : Launch) {Ia Ja : aI1} {Ra : aR1} {Sa : aS1} (hL : LY Ra Sa) (hC : CX Ia) {a b : Int} (ha0 : -2147483648 ≤ a) (ha1 : a < 2147483648) (hb0 : -2147483648 ≤ b) (hb1 : b < 2147483648)  : CT l0 10 0 0 mX10_maybe [kR (some 0), kI a, kI b] Ia Ja Ra Sa (cI (fun x I' J' => Kp 0 49 Ia I' ∧ Kp 0 49 Ja J' ∧ CX I' ∧ Fw [] [] Ia I' ∧ True) Ra Sa) := by
  refine ct_in pn_X10 (Nat.le_of_ble_eq_true rfl) (fun X hX hT hIn => ?_)
  have hX : aK l0 X cX10_maybe 6 RX10 (some .int) 10 0 0 := hX
  change WW X 0 [some (kR (some 0)), some (kI a), some (kI b), none, none, none] [] Ia Ja Ra Sa 0 0
  have hI := hC.1
  have hq := XI_o hI
  refine ww_aload_n hX (pc := 0) dX10_maybe_0 rfl ?_
  refine ww_getR hX (pc := 1) fX10_10 (by decide) (xs_0 hL) (xr_0_0 hL) dX10_maybe_1 ?_
  refine ww_iload_n hX (pc := 4) dX10_maybe_4 rfl ?_
  refine vI1 hX (pc := 5) sX10_131 (xs_1 hL) (c_X1_isState l0 hL hC.1 (by omega)) (by decide) (Nat.le_refl 0) (Nat.le_refl 0) (Nat.le_of_ble_eq_true rfl) dX10_maybe_5 (fun x_5 I_5 J_5 h_5 => ?_)
  obtain ⟨rfl, rfl, h_5⟩ := h_5
  refine ww_if_eq hX (pc := 8) (tgt := 21) dX10_maybe_8 (by decide) (fun h_8 => ?_) (fun h_8 => ?_)
  · simp only [w32_mod] at h_8
    refine ww_iconst hX (pc := 21) (x := (-1)) dX10_maybe_21 rfl ?_
    refine rI hX (pc := 22) hT (Nat.le_refl 0) (Nat.le_refl 0) dX10_maybe_22 ?_
    exact ⟨(Kp_rf (a := 0) (b := 49)), (Kp_rf (a := 0) (b := 49)), hC, Fw_rf, trivial⟩
  · simp only [w32_mod] at h_8
    have k_5 := h_5.2.mp (by omega)
    clear h_5
    refine ww_iload_n hX (pc := 11) dX10_maybe_11 rfl ?_
    refine ww_if_lt hX (pc := 12) (tgt := 21) dX10_maybe_12 (by decide) (fun h_12 => ?_) (fun h_12 => ?_)
    · simp only [w32_mod] at h_12
      refine ww_iconst hX (pc := 21) (x := (-1)) dX10_maybe_21 rfl ?_
      refine rI hX (pc := 22) hT (Nat.le_refl 0) (Nat.le_refl 0) dX10_maybe_22 ?_
      exact ⟨(Kp_rf (a := 0) (b := 49)), (Kp_rf (a := 0) (b := 49)), hC, Fw_rf, trivial⟩
    · simp only [w32_mod] at h_12
      refine ww_iload_n hX (pc := 15) dX10_maybe_15 rfl ?_
      refine ww_bipush hX (pc := 16) (x := 8) dX10_maybe_16 (by decide) ?_
      refine ww_icmp_le hX (pc := 18) (tgt := 23) dX10_maybe_18 (by decide) (fun h_18 => ?_) (fun h_18 => ?_)
      · simp only [w32_mod] at h_18
        refine ww_iconst hX (pc := 23) (x := 0) dX10_maybe_23 rfl ?_
        refine ww_istore_n hX (pc := 24) (lv' := [some (kR (some 0)), some (kI a), some (kI b), some (kI 0), none, none]) dX10_maybe_24 (by decide) rfl rfl ?_
        refine ww_aload_n hX (pc := 25) dX10_maybe_25 rfl ?_
        refine ww_getR hX (pc := 26) fX10_10 (by decide) (xs_0 hL) (xr_0_0 hL) dX10_maybe_26 ?_
        refine vI0 hX (pc := 29) sX10_151 (xs_1 hL) (c_X1_full l0 hL hC.1) (by decide) (Nat.le_refl 0) (Nat.le_refl 0) (Nat.le_of_ble_eq_true rfl) dX10_maybe_29 (fun x_29 I_29 J_29 h_29 => ?_)
        obtain ⟨rfl, rfl, h_29⟩ := h_29
        refine ww_istore hX (pc := 32) (lv' := [some (kR (some 0)), some (kI a), some (kI b), some (kI 0), some (kI x_29), none]) dX10_maybe_32 (by decide) rfl rfl ?_
        refine ww_iload_n hX (pc := 34) dX10_maybe_34 rfl ?_
        refine ww_istore hX (pc := 35) (lv' := [some (kR (some 0)), some (kI a), some (kI b), some (kI 0), some (kI x_29), some (kI a)]) dX10_maybe_35 (by decide) rfl rfl ?_
        have hl_37 : ∀ (n_37 : Nat) (g : Int) (to : Int), (x_29 + 1 - to).toNat = n_37 → (0 ≤ to ∧ to < 2147483648) → WW X 37 [some (kR (some 0)), some (kI a), some (kI b), some (kI g), some (kI x_29), some (kI to)] [] Ia Ja Ra Sa 0 0 := by
          intro n_37
          induction n_37 using Nat.strongRecOn with
          | ind n_37 ih_37 =>
            intro g to hm_37 hv_37
            have hq_37 := Sh0_i hm_37
            clear hm_37
            obtain ⟨hto0, hto1⟩ := hv_37
            refine ww_iload hX (pc := 37) dX10_maybe_37 rfl ?_
            refine ww_iload hX (pc := 39) dX10_maybe_39 rfl ?_
            refine ww_icmp_gt hX (pc := 41) (tgt := 78) dX10_maybe_41 (by decide) (fun h_41 => ?_) (fun h_41 => ?_)
            · simp only [w32_mod] at h_41
              refine ww_iload_n hX (pc := 78) dX10_maybe_78 rfl ?_
              refine rI hX (pc := 79) hT (Nat.le_refl 0) (Nat.le_refl 0) dX10_maybe_79 ?_
              exact ⟨(Kp_rf (a := 0) (b := 49)), (Kp_rf (a := 0) (b := 49)), hC, Fw_rf, trivial⟩
            · simp only [w32_mod] at h_41
              refine ww_iload hX (pc := 44) dX10_maybe_44 rfl ?_
              refine ww_iload_n hX (pc := 46) dX10_maybe_46 rfl ?_
              refine ww_ixor hX (pc := 47) dX10_maybe_47 ?_
              refine sI1 hX (pc := 48) sX10_242 (c_J6_bitCount_0f7a4 l0) (by decide) (Nat.le_refl 0) (Nat.le_refl 0) (Nat.le_of_ble_eq_true rfl) dX10_maybe_48 (fun x_48 I_48 J_48 h_48 => ?_)
              obtain ⟨rfl, rfl, h_48⟩ := h_48
              refine ww_iload_n hX (pc := 51) dX10_maybe_51 rfl ?_
              refine ww_icmp_gt hX (pc := 52) (tgt := 67) dX10_maybe_52 (by decide) (fun h_52 => ?_) (fun h_52 => ?_)
              · simp only [w32_mod] at h_52
                refine ww_iload hX (pc := 67) dX10_maybe_67 rfl ?_
                refine ww_iconst hX (pc := 69) (x := 1) dX10_maybe_69 rfl ?_
                refine ww_iadd hX (pc := 70) dX10_maybe_70 ?_
                refine ww_iload_n hX (pc := 71) dX10_maybe_71 rfl ?_
                refine ww_ior hX (pc := 72) dX10_maybe_72 ?_
                refine ww_nmI (fun v_73 hv_73 => ?_)
                refine ww_istore hX (pc := 73) (lv' := [some (kR (some 0)), some (kI a), some (kI b), some (kI g), some (kI x_29), some (kI v_73)]) dX10_maybe_73 (by decide) rfl rfl ?_
                refine ww_goto hX (pc := 75) (tgt := 37) dX10_maybe_75 (by decide) ?_
                have hor := i_or_ge (a := to + 1) (b := a) (by omega) (by omega) (by omega) (by omega)
                exact ih_37 _ (by have hm9 := Sh0_e hq_37; omega) g v_73 rfl ⟨by omega, by omega⟩
              · simp only [w32_mod] at h_52
                refine ww_iload_n hX (pc := 55) dX10_maybe_55 rfl ?_
                refine ww_aload_n hX (pc := 56) dX10_maybe_56 rfl ?_
                refine ww_getR hX (pc := 57) fX10_10 (by decide) (xs_0 hL) (xr_0_0 hL) dX10_maybe_57 ?_
                refine ww_iload hX (pc := 60) dX10_maybe_60 rfl ?_
                refine vI1 hX (pc := 62) sX10_269 (xs_1 hL) (c_X1_newsBit l0 hL hC.1 (by omega) (by omega)) (by decide) (Nat.le_refl 0) (Nat.le_refl 0) (Nat.le_of_ble_eq_true rfl) dX10_maybe_62 (fun x_62 I_62 J_62 h_62 => ?_)
                obtain ⟨rfl, rfl, h_62⟩ := h_62
                refine ww_ior hX (pc := 65) dX10_maybe_65 ?_
                refine ww_nmI (fun v_66 hv_66 => ?_)
                refine ww_istore_n hX (pc := 66) (lv' := [some (kR (some 0)), some (kI a), some (kI b), some (kI v_66), some (kI x_29), some (kI to)]) dX10_maybe_66 (by decide) rfl rfl ?_
                refine ww_iload hX (pc := 67) dX10_maybe_67 rfl ?_
                refine ww_iconst hX (pc := 69) (x := 1) dX10_maybe_69 rfl ?_
                refine ww_iadd hX (pc := 70) dX10_maybe_70 ?_
                refine ww_iload_n hX (pc := 71) dX10_maybe_71 rfl ?_
                refine ww_ior hX (pc := 72) dX10_maybe_72 ?_
                refine ww_nmI (fun v_73 hv_73 => ?_)
                refine ww_istore hX (pc := 73) (lv' := [some (kR (some 0)), some (kI a), some (kI b), some (kI v_66), some (kI x_29), some (kI v_73)]) dX10_maybe_73 (by decide) rfl rfl ?_
                refine ww_goto hX (pc := 75) (tgt := 37) dX10_maybe_75 (by decide) ?_
                have hor := i_or_ge (a := to + 1) (b := a) (by omega) (by omega) (by omega) (by omega)
                exact ih_37 _ (by have hm9 := Sh0_e hq_37; omega) v_66 v_73 rfl ⟨by omega, by omega⟩
        exact hl_37 _ 0 a rfl ⟨by omega, by omega⟩
      · simp only [w32_mod] at h_18
        refine ww_iconst hX (pc := 21) (x := (-1)) dX10_maybe_21 rfl ?_
        refine rI hX (pc := 22) hT (Nat.le_refl 0) (Nat.le_refl 0) dX10_maybe_22 ?_
        exact ⟨(Kp_rf (a := 0) (b := 49)), (Kp_rf (a := 0) (b := 49)), hC, Fw_rf, trivial⟩
set_option maxHeartbeats 4000000 in
set_option maxRecDepth 20000 in
theorem c5_X10_drawNight (l0 : Launch) {Ia Ja : aI1} {Ra : aR1} {Sa : aS1} (hL : LY Ra Sa) (hC : CX Ia) {a b c : Int} (ha0 : 0 ≤ a) (ha1 : a ≤ 2147483647) (hb0 : 0 ≤ b) (hb1 : b ≤ 24)  : CT l0 10 0 0 mX10_drawNight [kR (some 0), kI a, kI b, kI c] Ia Ja Ra Sa (cV (fun I' J' => Kp 0 49 Ia I' ∧ Kp 0 49 Ja J' ∧ CX I' ∧ Fw [18, 19, 20, 21, 22, 23, 24, 25, 26, 27, 28, 29, 30, 31, 32, 33, 34, 35, 36, 47] [(0, 13), (0, 14)] Ia I' ∧ True) Ra Sa) := by
  refine ct_in pn_X10 (Nat.le_of_ble_eq_true rfl) (fun X hX hT hIn => ?_)
  have hX : aK l0 X cX10_drawNight 10 RX10 none 10 0 0 := hX
  change WW X 0 [some (kR (some 0)), some (kI a), some (kI b), some (kI c), none, none, none, none, none, none] [] Ia Ja Ra Sa 0 0
  have hI := hC.1
  have hq := XI_o hI
  refine ww_aload_n hX (pc := 0) dX10_drawNight_0 rfl ?_
  refine ww_getR hX (pc := 1) fX10_48 (by decide) (xs_0 hL) (xr_0_5 hL) dX10_drawNight_1 ?_
  refine ww_iload_n hX (pc := 4) dX10_drawNight_4 rfl ?_
  refine vV1 hX (pc := 5) sX10_191 (xs_18 hL) (c_X4_prepare l0 hL hC.1) (by decide) (Nat.le_refl 0) (Nat.le_refl 0) (Nat.le_of_ble_eq_true rfl) dX10_drawNight_5 (fun I_5 J_5 h_5 => ?_)
  have kI_5 : Kp 0 49 Ia I_5 := Kp_tr (Kp_rf (a := 0) (b := 49)) (Kp_wd h_5.1 (by decide) (by decide))
  have kJ_5 : Kp 0 49 Ja J_5 := Kp_tr (Kp_rf (a := 0) (b := 49)) (Kp_wd h_5.2.1 (by decide) (by decide))
  have cI_5 : CX I_5 := CX_kp hC h_5.1 (by decide) (by decide)
  have qI_5 := XI_o cI_5.1
  have r5_I_5 : I_5 1 5 = Ia 1 5 := by rw [h_5.1 1 (by decide)]
  have r6_I_5 : I_5 1 6 = Ia 1 6 := by rw [h_5.1 1 (by decide)]
  have r8_I_5 : I_5 1 8 = Ia 1 8 := by rw [h_5.1 1 (by decide)]
  have r9_I_5 : I_5 1 9 = Ia 1 9 := by rw [h_5.1 1 (by decide)]
  have r10_I_5 : I_5 1 10 = Ia 1 10 := by rw [h_5.1 1 (by decide)]
  have r11_I_5 : I_5 1 11 = Ia 1 11 := by rw [h_5.1 1 (by decide)]
  have rf_I_5 : FU (I_5 1 5) = FU (Ia 1 5) := by rw [r5_I_5]
  have wI_5 : Fw [18, 19, 20, 21, 22, 23, 24, 25, 26, 27, 28, 29, 30, 31, 32, 33, 34, 35, 36, 47] [(0, 13), (0, 14)] Ia I_5 := Fw_kp Fw_rf h_5.1 (by decide)
  have r7_I_5 : I_5 1 7 = Ia 1 7 := by rw [h_5.1 1 (by decide)]
  refine ww_iload_n hX (pc := 8) dX10_drawNight_8 rfl ?_
  refine ww_i2l hX (pc := 9) dX10_drawNight_9 ?_
  refine ww_toL (b := a) (w32_id (by omega) (by omega)) ?_
  refine ww_nmL (fun v_10 hv_10 => ?_)
  refine ww_lstore hX (pc := 10) (lv' := [some (kR (some 0)), some (kI a), some (kI b), some (kI c), some (kL v_10), none, none, none, none, none]) dX10_drawNight_10 (by decide) rfl rfl ?_
  refine ww_iconst hX (pc := 12) (x := 0) dX10_drawNight_12 rfl ?_
  refine ww_istore hX (pc := 13) (lv' := [some (kR (some 0)), some (kI a), some (kI b), some (kI c), some (kL v_10), none, some (kI 0), none, none, none]) dX10_drawNight_13 (by decide) rfl rfl ?_
  refine ww_aload_n hX (pc := 15) dX10_drawNight_15 rfl ?_
  refine ww_iconst hX (pc := 16) (x := 0) dX10_drawNight_16 rfl ?_
  refine ww_putI hX (pc := 17) (fun h9 => absurd h9 (by decide)) gX10_298 rfl (xs_0 hL) dX10_drawNight_17 ?_
  refine ww_nmH (fun I_17 eI_17 => ?_)
  have kI_17 : Kp 0 49 Ia I_17 := by rw [eI_17]; exact Kp_up kI_5 _ _ (by decide)
  have cI_17 : CX I_17 := by rw [eI_17]; exact CX_x cI_5 (XI_0_13 cI_5.1 (by omega) (by omega)) (by decide)
  have qI_17 := XI_o cI_17.1
  have r5_I_17 : I_17 1 5 = I_5 1 5 := by rw [eI_17, up2_off _ _ _ (by decide)]
  have r6_I_17 : I_17 1 6 = I_5 1 6 := by rw [eI_17, up2_off _ _ _ (by decide)]
  have r8_I_17 : I_17 1 8 = I_5 1 8 := by rw [eI_17, up2_off _ _ _ (by decide)]
  have r9_I_17 : I_17 1 9 = I_5 1 9 := by rw [eI_17, up2_off _ _ _ (by decide)]
  have r10_I_17 : I_17 1 10 = I_5 1 10 := by rw [eI_17, up2_off _ _ _ (by decide)]
  have r11_I_17 : I_17 1 11 = I_5 1 11 := by rw [eI_17, up2_off _ _ _ (by decide)]
  have rf_I_17 : FU (I_17 1 5) = FU (I_5 1 5) := by rw [r5_I_17]
  have wI_17 : Fw [18, 19, 20, 21, 22, 23, 24, 25, 26, 27, 28, 29, 30, 31, 32, 33, 34, 35, 36, 47] [(0, 13), (0, 14)] Ia I_17 := by rw [eI_17]; exact Fw_up wI_5 (Or.inr (by decide))
  have r7_I_17 : I_17 1 7 = I_5 1 7 := by rw [eI_17, up2_n _ _ (Or.inl (by decide))]
  refine ww_aload_n hX (pc := 20) dX10_drawNight_20 rfl ?_
  refine ww_iconst hX (pc := 21) (x := (-1)) dX10_drawNight_21 rfl ?_
  refine ww_putI hX (pc := 22) (fun h9 => absurd h9 (by decide)) gX10_85 rfl (xs_0 hL) dX10_drawNight_22 ?_
  refine ww_nmH (fun I_22 eI_22 => ?_)
  have kI_22 : Kp 0 49 Ia I_22 := by rw [eI_22]; exact Kp_up kI_17 _ _ (by decide)
  have cI_22 : CX I_22 := by rw [eI_22]; exact CX_x cI_17 (XI_0 cI_17.1 (by decide)) (by decide)
  have qI_22 := XI_o cI_22.1
  have r5_I_22 : I_22 1 5 = I_17 1 5 := by rw [eI_22, up2_off _ _ _ (by decide)]
  have r6_I_22 : I_22 1 6 = I_17 1 6 := by rw [eI_22, up2_off _ _ _ (by decide)]
  have r8_I_22 : I_22 1 8 = I_17 1 8 := by rw [eI_22, up2_off _ _ _ (by decide)]
  have r9_I_22 : I_22 1 9 = I_17 1 9 := by rw [eI_22, up2_off _ _ _ (by decide)]
  have r10_I_22 : I_22 1 10 = I_17 1 10 := by rw [eI_22, up2_off _ _ _ (by decide)]
  have r11_I_22 : I_22 1 11 = I_17 1 11 := by rw [eI_22, up2_off _ _ _ (by decide)]
  have rf_I_22 : FU (I_22 1 5) = FU (I_17 1 5) := by rw [r5_I_22]
  have wI_22 : Fw [18, 19, 20, 21, 22, 23, 24, 25, 26, 27, 28, 29, 30, 31, 32, 33, 34, 35, 36, 47] [(0, 13), (0, 14)] Ia I_22 := by rw [eI_22]; exact Fw_up wI_17 (Or.inr (by decide))
  have r7_I_22 : I_22 1 7 = I_17 1 7 := by rw [eI_22, up2_n _ _ (Or.inl (by decide))]
  refine ww_iconst hX (pc := 25) (x := 0) dX10_drawNight_25 rfl ?_
  refine ww_istore hX (pc := 26) (lv' := [some (kR (some 0)), some (kI a), some (kI b), some (kI c), some (kL v_10), none, some (kI 0), some (kI 0), none, none]) dX10_drawNight_26 (by decide) rfl rfl ?_
  have hl_28 : ∀ (n_28 : Nat) (rr : Int) (sn : Int) (i : Int) (I2 : aI1) (J2 : aI1), (b - i).toNat = n_28 → (Kp 0 49 Ia I2 ∧ Kp 0 49 Ja J2 ∧ CX I2 ∧ Fw [18, 19, 20, 21, 22, 23, 24, 25, 26, 27, 28, 29, 30, 31, 32, 33, 34, 35, 36, 47] [(0, 13), (0, 14)] Ia I2 ∧ (I2 1 5 = I_22 1 5 ∧ I2 1 6 = I_22 1 6) ∧ ((0 ≤ i ∧ i ≤ b) ∧ (0 ≤ sn ∧ sn ≤ FU (I2 1 5)) ∧ (0 ≤ rr ∧ rr ≤ 2147483647))) → WW X 28 [some (kR (some 0)), some (kI a), some (kI b), some (kI c), some (kL rr), none, some (kI sn), some (kI i), none, none] [] I2 J2 Ra Sa 0 0 := by
    intro n_28
    induction n_28 using Nat.strongRecOn with
    | ind n_28 ih_28 =>
      intro rr sn i I2 J2 hm_28 hv_28
      have hq_28 := Sh0_i hm_28
      clear hm_28
      obtain ⟨kI2, kJ2, cI2, wI2, hI20, ⟨hi, hsn, hrr⟩⟩ := hv_28
      have qI2 := XI_o cI2.1
      have rfI2 := congrArg FU hI20.1
      refine ww_iload hX (pc := 28) dX10_drawNight_28 rfl ?_
      refine ww_iload_n hX (pc := 30) dX10_drawNight_30 rfl ?_
      refine ww_icmp_ge hX (pc := 31) (tgt := 132) dX10_drawNight_31 (by decide) (fun h_31 => ?_) (fun h_31 => ?_)
      · simp only [w32_mod] at h_31
        refine rV hX (pc := 132) hT (Nat.le_refl 0) (Nat.le_refl 0) dX10_drawNight_132 ?_
        exact ⟨kI2, kJ2, cI2, (Fw_wd wI2 (by decide) (by decide)), trivial⟩
      · simp only [w32_mod] at h_31
        refine ww_aload_n hX (pc := 34) dX10_drawNight_34 rfl ?_
        refine ww_getI hX (pc := 35) fX10_85 (by decide) (xs_0 hL) dX10_drawNight_35 ?_
        refine ww_iconst hX (pc := 38) (x := (-1)) dX10_drawNight_38 rfl ?_
        refine ww_icmp_ne hX (pc := 39) (tgt := 132) dX10_drawNight_39 (by decide) (fun h_39 => ?_) (fun h_39 => ?_)
        · simp only [w32_mod] at h_39
          refine rV hX (pc := 132) hT (Nat.le_refl 0) (Nat.le_refl 0) dX10_drawNight_132 ?_
          exact ⟨kI2, kJ2, cI2, (Fw_wd wI2 (by decide) (by decide)), trivial⟩
        · simp only [w32_mod] at h_39
          refine ww_lload hX (pc := 42) dX10_drawNight_42 rfl ?_
          refine ww_ldc2 hX (pc := 44) (x := 1103) dX10_drawNight_44 tb_1054 ?_
          refine ww_lmul hX (pc := 47) dX10_drawNight_47 ?_
          refine ww_ldc2 hX (pc := 48) (x := 12345) dX10_drawNight_48 tb_1055 ?_
          refine ww_ladd hX (pc := 51) dX10_drawNight_51 ?_
          refine ww_ldc2 hX (pc := 52) (x := 1000003) dX10_drawNight_52 tb_1056 ?_
          refine ww_lrem hX (pc := 55) dX10_drawNight_55 (by decide) ?_
          refine ww_toL (b := (rr * 1103 + 12345) % 1000003) (l_rem_v (by omega) (by omega) (by decide) (by decide)) ?_
          refine ww_nmL (fun v_56 hv_56 => ?_)
          refine ww_lstore hX (pc := 56) (lv' := [some (kR (some 0)), some (kI a), some (kI b), some (kI c), some (kL v_56), none, some (kI sn), some (kI i), none, none]) dX10_drawNight_56 (by decide) rfl rfl ?_
          refine ww_lload hX (pc := 58) dX10_drawNight_58 rfl ?_
          refine ww_iconst hX (pc := 60) (x := 1) dX10_drawNight_60 rfl ?_
          refine ww_aload_n hX (pc := 61) dX10_drawNight_61 rfl ?_
          refine ww_getR hX (pc := 62) fX10_10 (by decide) (xs_0 hL) (xr_0_0 hL) dX10_drawNight_62 ?_
          refine ww_getI hX (pc := 65) fX10_117 (by decide) (xs_1 hL) dX10_drawNight_65 ?_
          refine ww_mmax hX (pc := 68) tb_459 tb_460 tb_13 tb_461 (by decide) (Nat.le_refl 0) (Nat.le_refl 0) (Nat.le_of_ble_eq_true rfl) dX10_drawNight_68 ?_
          refine ww_toI (b := max 1 (I2 1 6)) (by rw [i_max_r (by decide) (by decide) (by omega) (by omega)]) ?_
          refine ww_i2l hX (pc := 71) dX10_drawNight_71 ?_
          refine ww_lrem hX (pc := 72) dX10_drawNight_72 (by rw [w32_id (by omega) (by omega)]; unfold w64; rw [Int64.toInt_ofInt_of_le (by omega) (by omega)]; omega) ?_
          refine ww_toL (b := v_56 % max 1 (I2 1 6)) (by rw [w32_id (by omega) (by omega)]; exact l_rem_v (by omega) (by omega) (by omega) (by omega)) ?_
          have htl0 := Int.emod_nonneg v_56 (show max 1 (I2 1 6) ≠ 0 by omega)
          have htl1 := Int.emod_lt_of_pos v_56 (show 0 < max 1 (I2 1 6) by omega)
          refine ww_l2i hX (pc := 73) dX10_drawNight_73 ?_
          refine ww_nmI (fun v_74 hv_74 => ?_)
          refine ww_istore hX (pc := 74) (lv' := [some (kR (some 0)), some (kI a), some (kI b), some (kI c), some (kL v_56), none, some (kI sn), some (kI i), some (kI v_74), none]) dX10_drawNight_74 (by decide) rfl rfl ?_
          refine ww_aload_n hX (pc := 76) dX10_drawNight_76 rfl ?_
          refine ww_getR hX (pc := 77) fX10_48 (by decide) (xs_0 hL) (xr_0_5 hL) dX10_drawNight_77 ?_
          refine ww_iload hX (pc := 80) dX10_drawNight_80 rfl ?_
          refine ww_iload hX (pc := 82) dX10_drawNight_82 rfl ?_
          refine ww_iload_n hX (pc := 84) dX10_drawNight_84 rfl ?_
          refine vI3 hX (pc := 85) sX10_194 (xs_18 hL) (c_X4_choose l0 hL cI2.1 (by omega) (by omega) (by omega) (by omega)) (by decide) (Nat.le_refl 0) (Nat.le_refl 0) (Nat.le_of_ble_eq_true rfl) dX10_drawNight_85 (fun x_85 I_85 J_85 h_85 => ?_)
          have kI_85 : Kp 0 49 Ia I_85 := Kp_tr kI2 (Kp_wd h_85.1 (by decide) (by decide))
          have kJ_85 : Kp 0 49 Ja J_85 := Kp_tr kJ2 (Kp_wd h_85.2.1 (by decide) (by decide))
          have cI_85 : CX I_85 := CX_kp cI2 h_85.1 (by decide) (by decide)
          have qI_85 := XI_o cI_85.1
          have r5_I_85 : I_85 1 5 = I2 1 5 := by rw [h_85.1 1 (by decide)]
          have r6_I_85 : I_85 1 6 = I2 1 6 := by rw [h_85.1 1 (by decide)]
          have r8_I_85 : I_85 1 8 = I2 1 8 := by rw [h_85.1 1 (by decide)]
          have r9_I_85 : I_85 1 9 = I2 1 9 := by rw [h_85.1 1 (by decide)]
          have r10_I_85 : I_85 1 10 = I2 1 10 := by rw [h_85.1 1 (by decide)]
          have r11_I_85 : I_85 1 11 = I2 1 11 := by rw [h_85.1 1 (by decide)]
          have rf_I_85 : FU (I_85 1 5) = FU (I2 1 5) := by rw [r5_I_85]
          have wI_85 : Fw [18, 19, 20, 21, 22, 23, 24, 25, 26, 27, 28, 29, 30, 31, 32, 33, 34, 35, 36, 47] [(0, 13), (0, 14)] Ia I_85 := Fw_kp wI2 h_85.1 (by decide)
          have r7_I_85 : I_85 1 7 = I2 1 7 := by rw [h_85.1 1 (by decide)]
          refine ww_istore hX (pc := 88) (lv' := [some (kR (some 0)), some (kI a), some (kI b), some (kI c), some (kL v_56), none, some (kI sn), some (kI i), some (kI v_74), some (kI x_85)]) dX10_drawNight_88 (by decide) rfl rfl ?_
          refine ww_iload hX (pc := 90) dX10_drawNight_90 rfl ?_
          refine ww_iconst hX (pc := 92) (x := (-1)) dX10_drawNight_92 rfl ?_
          refine ww_icmp_ne hX (pc := 93) (tgt := 105) dX10_drawNight_93 (by decide) (fun h_93 => ?_) (fun h_93 => ?_)
          · simp only [w32_mod] at h_93
            refine ww_aload_n hX (pc := 105) dX10_drawNight_105 rfl ?_
            refine ww_getR hX (pc := 106) fX10_79 (by decide) (xs_0 hL) (xr_0_10 hL) dX10_drawNight_106 ?_
            refine ww_iload hX (pc := 109) dX10_drawNight_109 rfl ?_
            refine ww_iload hX (pc := 111) dX10_drawNight_111 rfl ?_
            refine ww_iast hX (pc := 113) (xs_47 hL) (by decide) (by omega) (by omega) dX10_drawNight_113 ?_
            refine ww_nmH (fun I_113 eI_113 => ?_)
            have kI_113 : Kp 0 49 Ia I_113 := by rw [eI_113]; exact Kp_up kI_85 _ _ (by decide)
            have cI_113 : CX I_113 := by rw [eI_113]; exact CX_up cI_85 (by decide)
            have qI_113 := XI_o cI_113.1
            have r5_I_113 : I_113 1 5 = I_85 1 5 := by rw [eI_113, up2_off _ _ _ (by decide)]
            have r6_I_113 : I_113 1 6 = I_85 1 6 := by rw [eI_113, up2_off _ _ _ (by decide)]
            have r8_I_113 : I_113 1 8 = I_85 1 8 := by rw [eI_113, up2_off _ _ _ (by decide)]
            have r9_I_113 : I_113 1 9 = I_85 1 9 := by rw [eI_113, up2_off _ _ _ (by decide)]
            have r10_I_113 : I_113 1 10 = I_85 1 10 := by rw [eI_113, up2_off _ _ _ (by decide)]
            have r11_I_113 : I_113 1 11 = I_85 1 11 := by rw [eI_113, up2_off _ _ _ (by decide)]
            have rf_I_113 : FU (I_113 1 5) = FU (I_85 1 5) := by rw [r5_I_113]
            have wI_113 : Fw [18, 19, 20, 21, 22, 23, 24, 25, 26, 27, 28, 29, 30, 31, 32, 33, 34, 35, 36, 47] [(0, 13), (0, 14)] Ia I_113 := by rw [eI_113]; exact Fw_up wI_85 (Or.inl (by decide))
            have r7_I_113 : I_113 1 7 = I_85 1 7 := by rw [eI_113, up2_n _ _ (Or.inl (by decide))]
            refine ww_aload_n hX (pc := 114) dX10_drawNight_114 rfl ?_
            refine ww_iload hX (pc := 115) dX10_drawNight_115 rfl ?_
            refine ww_iconst hX (pc := 117) (x := 1) dX10_drawNight_117 rfl ?_
            refine ww_iadd hX (pc := 118) dX10_drawNight_118 ?_
            refine ww_putI hX (pc := 119) (fun h9 => absurd h9 (by decide)) gX10_298 rfl (xs_0 hL) dX10_drawNight_119 ?_
            refine ww_nmH (fun I_119 eI_119 => ?_)
            have kI_119 : Kp 0 49 Ia I_119 := by rw [eI_119]; exact Kp_up kI_113 _ _ (by decide)
            have cI_119 : CX I_119 := by rw [eI_119]; exact CX_x cI_113 (XI_0_13 cI_113.1 (by omega) (by omega)) (by decide)
            have qI_119 := XI_o cI_119.1
            have r5_I_119 : I_119 1 5 = I_113 1 5 := by rw [eI_119, up2_off _ _ _ (by decide)]
            have r6_I_119 : I_119 1 6 = I_113 1 6 := by rw [eI_119, up2_off _ _ _ (by decide)]
            have r8_I_119 : I_119 1 8 = I_113 1 8 := by rw [eI_119, up2_off _ _ _ (by decide)]
            have r9_I_119 : I_119 1 9 = I_113 1 9 := by rw [eI_119, up2_off _ _ _ (by decide)]
            have r10_I_119 : I_119 1 10 = I_113 1 10 := by rw [eI_119, up2_off _ _ _ (by decide)]
            have r11_I_119 : I_119 1 11 = I_113 1 11 := by rw [eI_119, up2_off _ _ _ (by decide)]
            have rf_I_119 : FU (I_119 1 5) = FU (I_113 1 5) := by rw [r5_I_119]
            have wI_119 : Fw [18, 19, 20, 21, 22, 23, 24, 25, 26, 27, 28, 29, 30, 31, 32, 33, 34, 35, 36, 47] [(0, 13), (0, 14)] Ia I_119 := by rw [eI_119]; exact Fw_up wI_113 (Or.inr (by decide))
            have r7_I_119 : I_119 1 7 = I_113 1 7 := by rw [eI_119, up2_n _ _ (Or.inl (by decide))]
            refine ww_iload hX (pc := 122) dX10_drawNight_122 rfl ?_
            refine ww_istore hX (pc := 124) (lv' := [some (kR (some 0)), some (kI a), some (kI b), some (kI c), some (kL v_56), none, some (kI x_85), some (kI i), some (kI v_74), some (kI x_85)]) dX10_drawNight_124 (by decide) rfl rfl ?_
            refine ww_iinc hX (pc := 126) (lv' := [some (kR (some 0)), some (kI a), some (kI b), some (kI c), some (kL v_56), none, some (kI x_85), some (kI (i + 1)), some (kI v_74), some (kI x_85)]) dX10_drawNight_126 rfl (by decide) rfl rfl ?_
            refine ww_goto hX (pc := 129) (tgt := 28) dX10_drawNight_129 (by decide) ?_
            refine ww_sub [some (kR (some 0)), some (kI a), some (kI b), some (kI c), some (kL v_56), none, some (kI x_85), some (kI (i + 1)), none, none] (aLe_s (aLe_s (aLe_s (aLe_s (aLe_s (aLe_n (aLe_s (aLe_s (aLe_n (aLe_n aLe_0)))))))))) ?_
            exact ih_28 _ (by have hm9 := Sh0_e hq_28; omega) v_56 x_85 (i + 1) I_119 J_85 rfl ⟨kI_119, kJ_85, cI_119, wI_119, ⟨by omega, by omega⟩, ⟨⟨by omega, by omega⟩, ⟨by omega, by omega⟩, ⟨by omega, by omega⟩⟩⟩
          · simp only [w32_mod] at h_93
            refine ww_aload_n hX (pc := 96) dX10_drawNight_96 rfl ?_
            refine ww_iload hX (pc := 97) dX10_drawNight_97 rfl ?_
            refine ww_putI hX (pc := 99) (fun h9 => absurd h9 (by decide)) gX10_85 rfl (xs_0 hL) dX10_drawNight_99 ?_
            refine ww_nmH (fun I_99 eI_99 => ?_)
            have kI_99 : Kp 0 49 Ia I_99 := by rw [eI_99]; exact Kp_up kI_85 _ _ (by decide)
            have cI_99 : CX I_99 := by rw [eI_99]; exact CX_x cI_85 (XI_0 cI_85.1 (by decide)) (by decide)
            have qI_99 := XI_o cI_99.1
            have r5_I_99 : I_99 1 5 = I_85 1 5 := by rw [eI_99, up2_off _ _ _ (by decide)]
            have r6_I_99 : I_99 1 6 = I_85 1 6 := by rw [eI_99, up2_off _ _ _ (by decide)]
            have r8_I_99 : I_99 1 8 = I_85 1 8 := by rw [eI_99, up2_off _ _ _ (by decide)]
            have r9_I_99 : I_99 1 9 = I_85 1 9 := by rw [eI_99, up2_off _ _ _ (by decide)]
            have r10_I_99 : I_99 1 10 = I_85 1 10 := by rw [eI_99, up2_off _ _ _ (by decide)]
            have r11_I_99 : I_99 1 11 = I_85 1 11 := by rw [eI_99, up2_off _ _ _ (by decide)]
            have rf_I_99 : FU (I_99 1 5) = FU (I_85 1 5) := by rw [r5_I_99]
            have wI_99 : Fw [18, 19, 20, 21, 22, 23, 24, 25, 26, 27, 28, 29, 30, 31, 32, 33, 34, 35, 36, 47] [(0, 13), (0, 14)] Ia I_99 := by rw [eI_99]; exact Fw_up wI_85 (Or.inr (by decide))
            have r7_I_99 : I_99 1 7 = I_85 1 7 := by rw [eI_99, up2_n _ _ (Or.inl (by decide))]
            refine ww_goto hX (pc := 102) (tgt := 126) dX10_drawNight_102 (by decide) ?_
            refine ww_iinc hX (pc := 126) (lv' := [some (kR (some 0)), some (kI a), some (kI b), some (kI c), some (kL v_56), none, some (kI sn), some (kI (i + 1)), some (kI v_74), some (kI x_85)]) dX10_drawNight_126 rfl (by decide) rfl rfl ?_
            refine ww_goto hX (pc := 129) (tgt := 28) dX10_drawNight_129 (by decide) ?_
            refine ww_sub [some (kR (some 0)), some (kI a), some (kI b), some (kI c), some (kL v_56), none, some (kI sn), some (kI (i + 1)), none, none] (aLe_s (aLe_s (aLe_s (aLe_s (aLe_s (aLe_n (aLe_s (aLe_s (aLe_n (aLe_n aLe_0)))))))))) ?_
            exact ih_28 _ (by have hm9 := Sh0_e hq_28; omega) v_56 sn (i + 1) I_99 J_85 rfl ⟨kI_99, kJ_85, cI_99, wI_99, ⟨by omega, by omega⟩, ⟨⟨by omega, by omega⟩, ⟨by omega, by omega⟩, ⟨by omega, by omega⟩⟩⟩
  exact hl_28 _ v_10 0 0 I_22 J_5 rfl ⟨kI_22, kJ_5, cI_22, wI_22, ⟨by omega, by omega⟩, ⟨⟨by omega, by omega⟩, ⟨by omega, by omega⟩, ⟨by omega, by omega⟩⟩⟩
set_option maxHeartbeats 4000000 in
set_option maxRecDepth 20000 in
theorem c5_X10_night (l0 : Launch) {Ia Ja : aI1} {Ra : aR1} {Sa : aS1} (hL : LY Ra Sa) (hC : CX Ia) {a b c : Int} (ha0 : -2147483648 ≤ a) (ha1 : a < 2147483648) (hb0 : -2147483648 ≤ b) (hb1 : b < 2147483648) (hc0 : -2147483648 ≤ c) (hc1 : c < 2147483648)  : CT l0 12 0 0 mX10_night [kR (some 0), kI a, kI b, kI c] Ia Ja Ra Sa (cI (fun x I' J' => Kp 0 49 Ia I' ∧ Kp 0 49 Ja J' ∧ CX I' ∧ Fw [18, 19, 20, 21, 22, 23, 24, 25, 26, 27, 28, 29, 30, 31, 32, 33, 34, 35, 36, 47, 48] [(0, 13), (0, 14), (0, 16)] Ia I' ∧ True) Ra Sa) := by
  refine ct_in pn_X10 (Nat.le_of_ble_eq_true rfl) (fun X hX hT hIn => ?_)
  have hX : aK l0 X cX10_night 4 RX10 (some .int) 12 0 0 := hX
  change WW X 0 [some (kR (some 0)), some (kI a), some (kI b), some (kI c)] [] Ia Ja Ra Sa 0 0
  have hI := hC.1
  have hq := XI_o hI
  refine ww_iload_n hX (pc := 0) dX10_night_0 rfl ?_
  refine ww_if_lt hX (pc := 1) (tgt := 28) dX10_night_1 (by decide) (fun h_1 => ?_) (fun h_1 => ?_)
  · simp only [w32_mod] at h_1
    refine ww_aload_n hX (pc := 28) dX10_night_28 rfl ?_
    refine ww_iconst hX (pc := 29) (x := (-1)) dX10_night_29 rfl ?_
    refine vI1 hX (pc := 30) sX10_89 (xs_0 hL) (c5_X10_refuse l0 hL hC (by omega) (by omega)) (by decide) (Nat.le_refl 0) (Nat.le_refl 0) (Nat.le_of_ble_eq_true rfl) dX10_night_30 (fun x_30 I_30 J_30 h_30 => ?_)
    have kI_30 : Kp 0 49 Ia I_30 := Kp_tr (Kp_rf (a := 0) (b := 49)) (Kp_wd h_30.1 (by decide) (by decide))
    have kJ_30 : Kp 0 49 Ja J_30 := Kp_tr (Kp_rf (a := 0) (b := 49)) (Kp_wd h_30.2.1 (by decide) (by decide))
    have cI_30 : CX I_30 := h_30.2.2.1
    have qI_30 := XI_o cI_30.1
    have wI_30 : Fw [18, 19, 20, 21, 22, 23, 24, 25, 26, 27, 28, 29, 30, 31, 32, 33, 34, 35, 36, 47, 48] [(0, 13), (0, 14), (0, 16)] Ia I_30 := Fw_tr Fw_rf (Fw_wd h_30.2.2.2.1 (by decide) (by decide))
    have r5_I_30 : I_30 1 5 = Ia 1 5 := h_30.2.2.2.1 1 5 (by decide) (by decide) (by decide)
    have r6_I_30 : I_30 1 6 = Ia 1 6 := h_30.2.2.2.1 1 6 (by decide) (by decide) (by decide)
    have r7_I_30 : I_30 1 7 = Ia 1 7 := h_30.2.2.2.1 1 7 (by decide) (by decide) (by decide)
    have r8_I_30 : I_30 1 8 = Ia 1 8 := h_30.2.2.2.1 1 8 (by decide) (by decide) (by decide)
    have r9_I_30 : I_30 1 9 = Ia 1 9 := h_30.2.2.2.1 1 9 (by decide) (by decide) (by decide)
    have r10_I_30 : I_30 1 10 = Ia 1 10 := h_30.2.2.2.1 1 10 (by decide) (by decide) (by decide)
    have r11_I_30 : I_30 1 11 = Ia 1 11 := h_30.2.2.2.1 1 11 (by decide) (by decide) (by decide)
    have r81_I_30 : I_30 8 1 = Ia 8 1 := h_30.2.2.2.1 8 1 (by decide) (by decide) (by decide)
    have rf_I_30 : FU (I_30 1 5) = FU (Ia 1 5) := by rw [r5_I_30]
    have xv_I_30 := h_30.2.2.2.2
    refine rI hX (pc := 33) hT (Nat.le_refl 0) (Nat.le_refl 0) dX10_night_33 ?_
    exact ⟨kI_30, kJ_30, cI_30, (Fw_wd wI_30 (by decide) (by decide)), trivial⟩
  · simp only [w32_mod] at h_1
    refine ww_iload_n hX (pc := 4) dX10_night_4 rfl ?_
    refine ww_ldcw hX (pc := 5) (x := 1000000) dX10_night_5 tb_1049 ?_
    refine ww_icmp_gt hX (pc := 8) (tgt := 28) dX10_night_8 (by decide) (fun h_8 => ?_) (fun h_8 => ?_)
    · simp only [w32_mod] at h_8
      refine ww_aload_n hX (pc := 28) dX10_night_28 rfl ?_
      refine ww_iconst hX (pc := 29) (x := (-1)) dX10_night_29 rfl ?_
      refine vI1 hX (pc := 30) sX10_89 (xs_0 hL) (c5_X10_refuse l0 hL hC (by omega) (by omega)) (by decide) (Nat.le_refl 0) (Nat.le_refl 0) (Nat.le_of_ble_eq_true rfl) dX10_night_30 (fun x_30 I_30 J_30 h_30 => ?_)
      have kI_30 : Kp 0 49 Ia I_30 := Kp_tr (Kp_rf (a := 0) (b := 49)) (Kp_wd h_30.1 (by decide) (by decide))
      have kJ_30 : Kp 0 49 Ja J_30 := Kp_tr (Kp_rf (a := 0) (b := 49)) (Kp_wd h_30.2.1 (by decide) (by decide))
      have cI_30 : CX I_30 := h_30.2.2.1
      have qI_30 := XI_o cI_30.1
      have wI_30 : Fw [18, 19, 20, 21, 22, 23, 24, 25, 26, 27, 28, 29, 30, 31, 32, 33, 34, 35, 36, 47, 48] [(0, 13), (0, 14), (0, 16)] Ia I_30 := Fw_tr Fw_rf (Fw_wd h_30.2.2.2.1 (by decide) (by decide))
      have r5_I_30 : I_30 1 5 = Ia 1 5 := h_30.2.2.2.1 1 5 (by decide) (by decide) (by decide)
      have r6_I_30 : I_30 1 6 = Ia 1 6 := h_30.2.2.2.1 1 6 (by decide) (by decide) (by decide)
      have r7_I_30 : I_30 1 7 = Ia 1 7 := h_30.2.2.2.1 1 7 (by decide) (by decide) (by decide)
      have r8_I_30 : I_30 1 8 = Ia 1 8 := h_30.2.2.2.1 1 8 (by decide) (by decide) (by decide)
      have r9_I_30 : I_30 1 9 = Ia 1 9 := h_30.2.2.2.1 1 9 (by decide) (by decide) (by decide)
      have r10_I_30 : I_30 1 10 = Ia 1 10 := h_30.2.2.2.1 1 10 (by decide) (by decide) (by decide)
      have r11_I_30 : I_30 1 11 = Ia 1 11 := h_30.2.2.2.1 1 11 (by decide) (by decide) (by decide)
      have r81_I_30 : I_30 8 1 = Ia 8 1 := h_30.2.2.2.1 8 1 (by decide) (by decide) (by decide)
      have rf_I_30 : FU (I_30 1 5) = FU (Ia 1 5) := by rw [r5_I_30]
      have xv_I_30 := h_30.2.2.2.2
      refine rI hX (pc := 33) hT (Nat.le_refl 0) (Nat.le_refl 0) dX10_night_33 ?_
      exact ⟨kI_30, kJ_30, cI_30, (Fw_wd wI_30 (by decide) (by decide)), trivial⟩
    · simp only [w32_mod] at h_8
      refine ww_iload_n hX (pc := 11) dX10_night_11 rfl ?_
      refine ww_if_lt hX (pc := 12) (tgt := 28) dX10_night_12 (by decide) (fun h_12 => ?_) (fun h_12 => ?_)
      · simp only [w32_mod] at h_12
        refine ww_aload_n hX (pc := 28) dX10_night_28 rfl ?_
        refine ww_iconst hX (pc := 29) (x := (-1)) dX10_night_29 rfl ?_
        refine vI1 hX (pc := 30) sX10_89 (xs_0 hL) (c5_X10_refuse l0 hL hC (by omega) (by omega)) (by decide) (Nat.le_refl 0) (Nat.le_refl 0) (Nat.le_of_ble_eq_true rfl) dX10_night_30 (fun x_30 I_30 J_30 h_30 => ?_)
        have kI_30 : Kp 0 49 Ia I_30 := Kp_tr (Kp_rf (a := 0) (b := 49)) (Kp_wd h_30.1 (by decide) (by decide))
        have kJ_30 : Kp 0 49 Ja J_30 := Kp_tr (Kp_rf (a := 0) (b := 49)) (Kp_wd h_30.2.1 (by decide) (by decide))
        have cI_30 : CX I_30 := h_30.2.2.1
        have qI_30 := XI_o cI_30.1
        have wI_30 : Fw [18, 19, 20, 21, 22, 23, 24, 25, 26, 27, 28, 29, 30, 31, 32, 33, 34, 35, 36, 47, 48] [(0, 13), (0, 14), (0, 16)] Ia I_30 := Fw_tr Fw_rf (Fw_wd h_30.2.2.2.1 (by decide) (by decide))
        have r5_I_30 : I_30 1 5 = Ia 1 5 := h_30.2.2.2.1 1 5 (by decide) (by decide) (by decide)
        have r6_I_30 : I_30 1 6 = Ia 1 6 := h_30.2.2.2.1 1 6 (by decide) (by decide) (by decide)
        have r7_I_30 : I_30 1 7 = Ia 1 7 := h_30.2.2.2.1 1 7 (by decide) (by decide) (by decide)
        have r8_I_30 : I_30 1 8 = Ia 1 8 := h_30.2.2.2.1 1 8 (by decide) (by decide) (by decide)
        have r9_I_30 : I_30 1 9 = Ia 1 9 := h_30.2.2.2.1 1 9 (by decide) (by decide) (by decide)
        have r10_I_30 : I_30 1 10 = Ia 1 10 := h_30.2.2.2.1 1 10 (by decide) (by decide) (by decide)
        have r11_I_30 : I_30 1 11 = Ia 1 11 := h_30.2.2.2.1 1 11 (by decide) (by decide) (by decide)
        have r81_I_30 : I_30 8 1 = Ia 8 1 := h_30.2.2.2.1 8 1 (by decide) (by decide) (by decide)
        have rf_I_30 : FU (I_30 1 5) = FU (Ia 1 5) := by rw [r5_I_30]
        have xv_I_30 := h_30.2.2.2.2
        refine rI hX (pc := 33) hT (Nat.le_refl 0) (Nat.le_refl 0) dX10_night_33 ?_
        exact ⟨kI_30, kJ_30, cI_30, (Fw_wd wI_30 (by decide) (by decide)), trivial⟩
      · simp only [w32_mod] at h_12
        refine ww_iload_n hX (pc := 15) dX10_night_15 rfl ?_
        refine ww_bipush hX (pc := 16) (x := 24) dX10_night_16 (by decide) ?_
        refine ww_icmp_gt hX (pc := 18) (tgt := 28) dX10_night_18 (by decide) (fun h_18 => ?_) (fun h_18 => ?_)
        · simp only [w32_mod] at h_18
          refine ww_aload_n hX (pc := 28) dX10_night_28 rfl ?_
          refine ww_iconst hX (pc := 29) (x := (-1)) dX10_night_29 rfl ?_
          refine vI1 hX (pc := 30) sX10_89 (xs_0 hL) (c5_X10_refuse l0 hL hC (by omega) (by omega)) (by decide) (Nat.le_refl 0) (Nat.le_refl 0) (Nat.le_of_ble_eq_true rfl) dX10_night_30 (fun x_30 I_30 J_30 h_30 => ?_)
          have kI_30 : Kp 0 49 Ia I_30 := Kp_tr (Kp_rf (a := 0) (b := 49)) (Kp_wd h_30.1 (by decide) (by decide))
          have kJ_30 : Kp 0 49 Ja J_30 := Kp_tr (Kp_rf (a := 0) (b := 49)) (Kp_wd h_30.2.1 (by decide) (by decide))
          have cI_30 : CX I_30 := h_30.2.2.1
          have qI_30 := XI_o cI_30.1
          have wI_30 : Fw [18, 19, 20, 21, 22, 23, 24, 25, 26, 27, 28, 29, 30, 31, 32, 33, 34, 35, 36, 47, 48] [(0, 13), (0, 14), (0, 16)] Ia I_30 := Fw_tr Fw_rf (Fw_wd h_30.2.2.2.1 (by decide) (by decide))
          have r5_I_30 : I_30 1 5 = Ia 1 5 := h_30.2.2.2.1 1 5 (by decide) (by decide) (by decide)
          have r6_I_30 : I_30 1 6 = Ia 1 6 := h_30.2.2.2.1 1 6 (by decide) (by decide) (by decide)
          have r7_I_30 : I_30 1 7 = Ia 1 7 := h_30.2.2.2.1 1 7 (by decide) (by decide) (by decide)
          have r8_I_30 : I_30 1 8 = Ia 1 8 := h_30.2.2.2.1 1 8 (by decide) (by decide) (by decide)
          have r9_I_30 : I_30 1 9 = Ia 1 9 := h_30.2.2.2.1 1 9 (by decide) (by decide) (by decide)
          have r10_I_30 : I_30 1 10 = Ia 1 10 := h_30.2.2.2.1 1 10 (by decide) (by decide) (by decide)
          have r11_I_30 : I_30 1 11 = Ia 1 11 := h_30.2.2.2.1 1 11 (by decide) (by decide) (by decide)
          have r81_I_30 : I_30 8 1 = Ia 8 1 := h_30.2.2.2.1 8 1 (by decide) (by decide) (by decide)
          have rf_I_30 : FU (I_30 1 5) = FU (Ia 1 5) := by rw [r5_I_30]
          have xv_I_30 := h_30.2.2.2.2
          refine rI hX (pc := 33) hT (Nat.le_refl 0) (Nat.le_refl 0) dX10_night_33 ?_
          exact ⟨kI_30, kJ_30, cI_30, (Fw_wd wI_30 (by decide) (by decide)), trivial⟩
        · simp only [w32_mod] at h_18
          refine ww_iload_n hX (pc := 21) dX10_night_21 rfl ?_
          refine sI1 hX (pc := 22) sX10_188 (c_X10_isManner l0 (by omega) (by omega)) (by decide) (Nat.le_refl 0) (Nat.le_refl 0) (Nat.le_of_ble_eq_true rfl) dX10_night_22 (fun x_22 I_22 J_22 h_22 => ?_)
          obtain ⟨rfl, rfl, h_22⟩ := h_22
          refine ww_if_ne hX (pc := 25) (tgt := 34) dX10_night_25 (by decide) (fun h_25 => ?_) (fun h_25 => ?_)
          · simp only [w32_mod] at h_25
            have k_22 := h_22.2.mp (by omega)
            clear h_22
            refine ww_aload_n hX (pc := 34) dX10_night_34 rfl ?_
            refine ww_iload_n hX (pc := 35) dX10_night_35 rfl ?_
            refine ww_iload_n hX (pc := 36) dX10_night_36 rfl ?_
            refine ww_iload_n hX (pc := 37) dX10_night_37 rfl ?_
            refine vV3 hX (pc := 38) sX10_294 (xs_0 hL) (c5_X10_drawNight l0 hL hC (by omega) (by omega) (by omega) (by omega)) (by decide) (Nat.le_refl 0) (Nat.le_refl 0) (Nat.le_of_ble_eq_true rfl) dX10_night_38 (fun I_38 J_38 h_38 => ?_)
            have kI_38 : Kp 0 49 Ia I_38 := Kp_tr (Kp_rf (a := 0) (b := 49)) (Kp_wd h_38.1 (by decide) (by decide))
            have kJ_38 : Kp 0 49 Ja J_38 := Kp_tr (Kp_rf (a := 0) (b := 49)) (Kp_wd h_38.2.1 (by decide) (by decide))
            have cI_38 : CX I_38 := h_38.2.2.1
            have qI_38 := XI_o cI_38.1
            have wI_38 : Fw [18, 19, 20, 21, 22, 23, 24, 25, 26, 27, 28, 29, 30, 31, 32, 33, 34, 35, 36, 47] [(0, 13), (0, 14), (0, 16)] Ia I_38 := Fw_tr Fw_rf (Fw_wd h_38.2.2.2.1 (by decide) (by decide))
            have r5_I_38 : I_38 1 5 = Ia 1 5 := h_38.2.2.2.1 1 5 (by decide) (by decide) (by decide)
            have r6_I_38 : I_38 1 6 = Ia 1 6 := h_38.2.2.2.1 1 6 (by decide) (by decide) (by decide)
            have r7_I_38 : I_38 1 7 = Ia 1 7 := h_38.2.2.2.1 1 7 (by decide) (by decide) (by decide)
            have r8_I_38 : I_38 1 8 = Ia 1 8 := h_38.2.2.2.1 1 8 (by decide) (by decide) (by decide)
            have r9_I_38 : I_38 1 9 = Ia 1 9 := h_38.2.2.2.1 1 9 (by decide) (by decide) (by decide)
            have r10_I_38 : I_38 1 10 = Ia 1 10 := h_38.2.2.2.1 1 10 (by decide) (by decide) (by decide)
            have r11_I_38 : I_38 1 11 = Ia 1 11 := h_38.2.2.2.1 1 11 (by decide) (by decide) (by decide)
            have r81_I_38 : I_38 8 1 = Ia 8 1 := h_38.2.2.2.1 8 1 (by decide) (by decide) (by decide)
            have rf_I_38 : FU (I_38 1 5) = FU (Ia 1 5) := by rw [r5_I_38]
            refine ww_aload_n hX (pc := 41) dX10_night_41 rfl ?_
            refine ww_aload_n hX (pc := 42) dX10_night_42 rfl ?_
            refine ww_getI hX (pc := 43) fX10_298 (by decide) (xs_0 hL) dX10_night_43 ?_
            refine vI1 hX (pc := 46) sX10_114 (xs_0 hL) (c5_X10_accept l0 hL cI_38) (by decide) (Nat.le_refl 0) (Nat.le_refl 0) (Nat.le_of_ble_eq_true rfl) dX10_night_46 (fun x_46 I_46 J_46 h_46 => ?_)
            have kI_46 : Kp 0 49 Ia I_46 := Kp_tr kI_38 (Kp_wd h_46.1 (by decide) (by decide))
            have kJ_46 : Kp 0 49 Ja J_46 := Kp_tr kJ_38 (Kp_wd h_46.2.1 (by decide) (by decide))
            have cI_46 : CX I_46 := h_46.2.2.1
            have qI_46 := XI_o cI_46.1
            have wI_46 : Fw [18, 19, 20, 21, 22, 23, 24, 25, 26, 27, 28, 29, 30, 31, 32, 33, 34, 35, 36, 47] [(0, 13), (0, 14), (0, 16)] Ia I_46 := Fw_tr wI_38 (Fw_wd h_46.2.2.2.1 (by decide) (by decide))
            have r5_I_46 : I_46 1 5 = I_38 1 5 := h_46.2.2.2.1 1 5 (by decide) (by decide) (by decide)
            have r6_I_46 : I_46 1 6 = I_38 1 6 := h_46.2.2.2.1 1 6 (by decide) (by decide) (by decide)
            have r7_I_46 : I_46 1 7 = I_38 1 7 := h_46.2.2.2.1 1 7 (by decide) (by decide) (by decide)
            have r8_I_46 : I_46 1 8 = I_38 1 8 := h_46.2.2.2.1 1 8 (by decide) (by decide) (by decide)
            have r9_I_46 : I_46 1 9 = I_38 1 9 := h_46.2.2.2.1 1 9 (by decide) (by decide) (by decide)
            have r10_I_46 : I_46 1 10 = I_38 1 10 := h_46.2.2.2.1 1 10 (by decide) (by decide) (by decide)
            have r11_I_46 : I_46 1 11 = I_38 1 11 := h_46.2.2.2.1 1 11 (by decide) (by decide) (by decide)
            have r81_I_46 : I_46 8 1 = I_38 8 1 := h_46.2.2.2.1 8 1 (by decide) (by decide) (by decide)
            have rf_I_46 : FU (I_46 1 5) = FU (I_38 1 5) := by rw [r5_I_46]
            have xv_I_46 := h_46.2.2.2.2
            refine rI hX (pc := 49) hT (Nat.le_refl 0) (Nat.le_refl 0) dX10_night_49 ?_
            exact ⟨kI_46, kJ_46, cI_46, (Fw_wd wI_46 (by decide) (by decide)), trivial⟩
          · simp only [w32_mod] at h_25
            refine ww_aload_n hX (pc := 28) dX10_night_28 rfl ?_
            refine ww_iconst hX (pc := 29) (x := (-1)) dX10_night_29 rfl ?_
            refine vI1 hX (pc := 30) sX10_89 (xs_0 hL) (c5_X10_refuse l0 hL hC (by omega) (by omega)) (by decide) (Nat.le_refl 0) (Nat.le_refl 0) (Nat.le_of_ble_eq_true rfl) dX10_night_30 (fun x_30 I_30 J_30 h_30 => ?_)
            have kI_30 : Kp 0 49 Ia I_30 := Kp_tr (Kp_rf (a := 0) (b := 49)) (Kp_wd h_30.1 (by decide) (by decide))
            have kJ_30 : Kp 0 49 Ja J_30 := Kp_tr (Kp_rf (a := 0) (b := 49)) (Kp_wd h_30.2.1 (by decide) (by decide))
            have cI_30 : CX I_30 := h_30.2.2.1
            have qI_30 := XI_o cI_30.1
            have wI_30 : Fw [18, 19, 20, 21, 22, 23, 24, 25, 26, 27, 28, 29, 30, 31, 32, 33, 34, 35, 36, 47, 48] [(0, 13), (0, 14), (0, 16)] Ia I_30 := Fw_tr Fw_rf (Fw_wd h_30.2.2.2.1 (by decide) (by decide))
            have r5_I_30 : I_30 1 5 = Ia 1 5 := h_30.2.2.2.1 1 5 (by decide) (by decide) (by decide)
            have r6_I_30 : I_30 1 6 = Ia 1 6 := h_30.2.2.2.1 1 6 (by decide) (by decide) (by decide)
            have r7_I_30 : I_30 1 7 = Ia 1 7 := h_30.2.2.2.1 1 7 (by decide) (by decide) (by decide)
            have r8_I_30 : I_30 1 8 = Ia 1 8 := h_30.2.2.2.1 1 8 (by decide) (by decide) (by decide)
            have r9_I_30 : I_30 1 9 = Ia 1 9 := h_30.2.2.2.1 1 9 (by decide) (by decide) (by decide)
            have r10_I_30 : I_30 1 10 = Ia 1 10 := h_30.2.2.2.1 1 10 (by decide) (by decide) (by decide)
            have r11_I_30 : I_30 1 11 = Ia 1 11 := h_30.2.2.2.1 1 11 (by decide) (by decide) (by decide)
            have r81_I_30 : I_30 8 1 = Ia 8 1 := h_30.2.2.2.1 8 1 (by decide) (by decide) (by decide)
            have rf_I_30 : FU (I_30 1 5) = FU (Ia 1 5) := by rw [r5_I_30]
            have xv_I_30 := h_30.2.2.2.2
            refine rI hX (pc := 33) hT (Nat.le_refl 0) (Nat.le_refl 0) dX10_night_33 ?_
            exact ⟨kI_30, kJ_30, cI_30, (Fw_wd wI_30 (by decide) (by decide)), trivial⟩
set_option maxHeartbeats 4000000 in
set_option maxRecDepth 20000 in
theorem c5_X10_learn (l0 : Launch) {Ia Ja : aI1} {Ra : aR1} {Sa : aS1} (hL : LY Ra Sa) (hC : CX Ia) {a : Int} (ha0 : -2147483648 ≤ a) (ha1 : a < 2147483648) (hW : ∀ i, i < 6 → ∀ w, Ra 4 i = some w → LawOK Ia Ra Sa w)  : CT l0 10 0 0 mX10_learn [kR (some 0), kI a] Ia Ja Ra Sa (cI (fun x I' J' => Kp 0 49 Ia I' ∧ Kp 0 49 Ja J' ∧ CX I' ∧ Fw [3, 15, 16, 17, 18, 19, 20, 21, 22, 23, 24, 25, 26, 27, 28, 29, 30, 31, 32, 33, 34, 35, 36, 48] [(0, 16)] Ia I' ∧ True) Ra Sa) := by
  refine ct_in pn_X10 (Nat.le_of_ble_eq_true rfl) (fun X hX hT hIn => ?_)
  have hX : aK l0 X cX10_learn 5 RX10 (some .int) 10 0 0 := hX
  change WW X 0 [some (kR (some 0)), some (kI a), none, none, none] [] Ia Ja Ra Sa 0 0
  have hI := hC.1
  have hq := XI_o hI
  refine ww_iload_n hX (pc := 0) dX10_learn_0 rfl ?_
  refine ww_if_lt hX (pc := 1) (tgt := 15) dX10_learn_1 (by decide) (fun h_1 => ?_) (fun h_1 => ?_)
  · simp only [w32_mod] at h_1
    refine ww_aload_n hX (pc := 15) dX10_learn_15 rfl ?_
    refine ww_bipush hX (pc := 16) (x := (-2)) dX10_learn_16 (by decide) ?_
    refine vI1 hX (pc := 18) sX10_89 (xs_0 hL) (c5_X10_refuse l0 hL hC (by omega) (by omega)) (by decide) (Nat.le_refl 0) (Nat.le_refl 0) (Nat.le_of_ble_eq_true rfl) dX10_learn_18 (fun x_18 I_18 J_18 h_18 => ?_)
    have kI_18 : Kp 0 49 Ia I_18 := Kp_tr (Kp_rf (a := 0) (b := 49)) (Kp_wd h_18.1 (by decide) (by decide))
    have kJ_18 : Kp 0 49 Ja J_18 := Kp_tr (Kp_rf (a := 0) (b := 49)) (Kp_wd h_18.2.1 (by decide) (by decide))
    have cI_18 : CX I_18 := h_18.2.2.1
    have qI_18 := XI_o cI_18.1
    have wI_18 : Fw [3, 15, 16, 17, 18, 19, 20, 21, 22, 23, 24, 25, 26, 27, 28, 29, 30, 31, 32, 33, 34, 35, 36, 48] [(0, 16)] Ia I_18 := Fw_tr Fw_rf (Fw_wd h_18.2.2.2.1 (by decide) (by decide))
    have r5_I_18 : I_18 1 5 = Ia 1 5 := h_18.2.2.2.1 1 5 (by decide) (by decide) (by decide)
    have r6_I_18 : I_18 1 6 = Ia 1 6 := h_18.2.2.2.1 1 6 (by decide) (by decide) (by decide)
    have r7_I_18 : I_18 1 7 = Ia 1 7 := h_18.2.2.2.1 1 7 (by decide) (by decide) (by decide)
    have r8_I_18 : I_18 1 8 = Ia 1 8 := h_18.2.2.2.1 1 8 (by decide) (by decide) (by decide)
    have r9_I_18 : I_18 1 9 = Ia 1 9 := h_18.2.2.2.1 1 9 (by decide) (by decide) (by decide)
    have r10_I_18 : I_18 1 10 = Ia 1 10 := h_18.2.2.2.1 1 10 (by decide) (by decide) (by decide)
    have r11_I_18 : I_18 1 11 = Ia 1 11 := h_18.2.2.2.1 1 11 (by decide) (by decide) (by decide)
    have r81_I_18 : I_18 8 1 = Ia 8 1 := h_18.2.2.2.1 8 1 (by decide) (by decide) (by decide)
    have rf_I_18 : FU (I_18 1 5) = FU (Ia 1 5) := by rw [r5_I_18]
    have xv_I_18 := h_18.2.2.2.2
    refine rI hX (pc := 21) hT (Nat.le_refl 0) (Nat.le_refl 0) dX10_learn_21 ?_
    exact ⟨kI_18, kJ_18, cI_18, (Fw_wd wI_18 (by decide) (by decide)), trivial⟩
  · simp only [w32_mod] at h_1
    refine ww_iload_n hX (pc := 4) dX10_learn_4 rfl ?_
    refine ww_aload_n hX (pc := 5) dX10_learn_5 rfl ?_
    refine ww_getR hX (pc := 6) fX10_10 (by decide) (xs_0 hL) (xr_0_0 hL) dX10_learn_6 ?_
    refine ww_getI hX (pc := 9) fX10_170 (by decide) (xs_1 hL) dX10_learn_9 ?_
    refine ww_icmp_lt hX (pc := 12) (tgt := 22) dX10_learn_12 (by decide) (fun h_12 => ?_) (fun h_12 => ?_)
    · simp only [w32_mod] at h_12
      refine ww_aload_n hX (pc := 22) dX10_learn_22 rfl ?_
      refine ww_getR hX (pc := 23) fX10_10 (by decide) (xs_0 hL) (xr_0_0 hL) dX10_learn_23 ?_
      refine ww_getR hX (pc := 26) fX10_177 (by decide) (xs_1 hL) (xr_1_2 hL) dX10_learn_26 ?_
      refine ww_iload_n hX (pc := 29) dX10_learn_29 rfl ?_
      refine ww_aald hX (pc := 30) (Or.inl rfl) (xs_4 hL) (by decide) (by omega) (by omega) dX10_learn_30 ?_
      cases hlw : Ra 4 a.toNat with
      | none =>
        refine ww_astore_nN hX (pc := 31) (lv' := [some (kR (some 0)), some (kI a), some (kR none), none, none]) dX10_learn_31 (by decide) rfl rfl ?_
        refine ww_aload_nN hX (pc := 32) dX10_learn_32 rfl ?_
        refine ww_ifnonnullN hX (pc := 33) dX10_learn_33 ?_
        refine ww_aload_n hX (pc := 36) dX10_learn_36 rfl ?_
        refine ww_bipush hX (pc := 37) (x := (-2)) dX10_learn_37 (by decide) ?_
        refine vI1 hX (pc := 39) sX10_89 (xs_0 hL) (c5_X10_refuse l0 hL hC (by omega) (by omega)) (by decide) (Nat.le_refl 0) (Nat.le_refl 0) (Nat.le_of_ble_eq_true rfl) dX10_learn_39 (fun x_39 I_39 J_39 h_39 => ?_)
        have kI_39 : Kp 0 49 Ia I_39 := Kp_tr (Kp_rf (a := 0) (b := 49)) (Kp_wd h_39.1 (by decide) (by decide))
        have kJ_39 : Kp 0 49 Ja J_39 := Kp_tr (Kp_rf (a := 0) (b := 49)) (Kp_wd h_39.2.1 (by decide) (by decide))
        have cI_39 : CX I_39 := h_39.2.2.1
        have qI_39 := XI_o cI_39.1
        have wI_39 : Fw [3, 15, 16, 17, 18, 19, 20, 21, 22, 23, 24, 25, 26, 27, 28, 29, 30, 31, 32, 33, 34, 35, 36, 48] [(0, 16)] Ia I_39 := Fw_tr Fw_rf (Fw_wd h_39.2.2.2.1 (by decide) (by decide))
        have r5_I_39 : I_39 1 5 = Ia 1 5 := h_39.2.2.2.1 1 5 (by decide) (by decide) (by decide)
        have r6_I_39 : I_39 1 6 = Ia 1 6 := h_39.2.2.2.1 1 6 (by decide) (by decide) (by decide)
        have r7_I_39 : I_39 1 7 = Ia 1 7 := h_39.2.2.2.1 1 7 (by decide) (by decide) (by decide)
        have r8_I_39 : I_39 1 8 = Ia 1 8 := h_39.2.2.2.1 1 8 (by decide) (by decide) (by decide)
        have r9_I_39 : I_39 1 9 = Ia 1 9 := h_39.2.2.2.1 1 9 (by decide) (by decide) (by decide)
        have r10_I_39 : I_39 1 10 = Ia 1 10 := h_39.2.2.2.1 1 10 (by decide) (by decide) (by decide)
        have r11_I_39 : I_39 1 11 = Ia 1 11 := h_39.2.2.2.1 1 11 (by decide) (by decide) (by decide)
        have r81_I_39 : I_39 8 1 = Ia 8 1 := h_39.2.2.2.1 8 1 (by decide) (by decide) (by decide)
        have rf_I_39 : FU (I_39 1 5) = FU (Ia 1 5) := by rw [r5_I_39]
        have xv_I_39 := h_39.2.2.2.2
        refine rI hX (pc := 42) hT (Nat.le_refl 0) (Nat.le_refl 0) dX10_learn_42 ?_
        exact ⟨kI_39, kJ_39, cI_39, (Fw_wd wI_39 (by decide) (by decide)), trivial⟩
      | some w =>
        obtain ⟨hw73, hws, hwr0, hwr1, hwc, ⟨n1, hn1, hs1, hst1⟩, ⟨n2, hn2, hs2, hst2⟩⟩ := hW a.toNat (by omega) w hlw
        refine ww_astore_n hX (pc := 31) (lv' := [some (kR (some 0)), some (kI a), some (kR (some w)), none, none]) dX10_learn_31 (by decide) rfl rfl ?_
        refine ww_aload_n hX (pc := 32) dX10_learn_32 rfl ?_
        refine ww_ifnonnullS hX (pc := 33) (tgt := 43) dX10_learn_33 (by decide) ?_
        refine ww_aload_n hX (pc := 43) dX10_learn_43 rfl ?_
        refine ww_getR hX (pc := 44) fX10_10 (by decide) (xs_0 hL) (xr_0_0 hL) dX10_learn_44 ?_
        refine vI0 hX (pc := 47) sX10_151 (xs_1 hL) (c_X1_full l0 hL hC.1) (by decide) (Nat.le_refl 0) (Nat.le_refl 0) (Nat.le_of_ble_eq_true rfl) dX10_learn_47 (fun x_47 I_47 J_47 h_47 => ?_)
        obtain ⟨rfl, rfl, h_47⟩ := h_47
        refine ww_istore_n hX (pc := 50) (lv' := [some (kR (some 0)), some (kI a), some (kR (some w)), some (kI x_47), none]) dX10_learn_50 (by decide) rfl rfl ?_
        refine ww_iconst hX (pc := 51) (x := 0) dX10_learn_51 rfl ?_
        refine ww_istore hX (pc := 52) (lv' := [some (kR (some 0)), some (kI a), some (kR (some w)), some (kI x_47), some (kI 0)]) dX10_learn_52 (by decide) rfl rfl ?_
        have hl_54 : ∀ (n_54 : Nat) (i : Int) (I2 : aI1) (J2 : aI1), (256 - i).toNat = n_54 → (Kp 0 49 Ia I2 ∧ Kp 0 49 Ja J2 ∧ CX I2 ∧ Fw [3, 15, 16, 17, 18, 19, 20, 21, 22, 23, 24, 25, 26, 27, 28, 29, 30, 31, 32, 33, 34, 35, 36] [(0, 16)] Ia I2 ∧ (I2 1 5 = Ia 1 5 ∧ I2 1 6 = Ia 1 6) ∧ (0 ≤ i ∧ i ≤ 256)) → WW X 54 [some (kR (some 0)), some (kI a), some (kR (some w)), some (kI x_47), some (kI i)] [] I2 J2 Ra Sa 0 0 := by
          intro n_54
          induction n_54 using Nat.strongRecOn with
          | ind n_54 ih_54 =>
            intro i I2 J2 hm_54 hv_54
            have hq_54 := Sh0_i hm_54
            clear hm_54
            obtain ⟨kI2, kJ2, cI2, wI2, hI20, hi⟩ := hv_54
            have qI2 := XI_o cI2.1
            have rfI2 := congrArg FU hI20.1
            refine ww_iload hX (pc := 54) dX10_learn_54 rfl ?_
            refine ww_iload_n hX (pc := 56) dX10_learn_56 rfl ?_
            refine ww_icmp_gt hX (pc := 57) (tgt := 90) dX10_learn_57 (by decide) (fun h_57 => ?_) (fun h_57 => ?_)
            · simp only [w32_mod] at h_57
              refine ww_aload_n hX (pc := 90) dX10_learn_90 rfl ?_
              refine vV0 hX (pc := 91) sX10_111 (xs_0 hL) (c5_X10_codeChanged l0 hL cI2) (by decide) (Nat.le_refl 0) (Nat.le_refl 0) (Nat.le_of_ble_eq_true rfl) dX10_learn_91 (fun I_91 J_91 h_91 => ?_)
              have kI_91 : Kp 0 49 Ia I_91 := Kp_tr kI2 (Kp_wd h_91.1 (by decide) (by decide))
              have kJ_91 : Kp 0 49 Ja J_91 := Kp_tr kJ2 (Kp_wd h_91.2.1 (by decide) (by decide))
              have cI_91 : CX I_91 := h_91.2.2.1
              have qI_91 := XI_o cI_91.1
              have wI_91 : Fw [3, 15, 16, 17, 18, 19, 20, 21, 22, 23, 24, 25, 26, 27, 28, 29, 30, 31, 32, 33, 34, 35, 36] [(0, 16)] Ia I_91 := Fw_tr wI2 (Fw_wd h_91.2.2.2.1 (by decide) (by decide))
              have r5_I_91 : I_91 1 5 = I2 1 5 := h_91.2.2.2.1 1 5 (by decide) (by decide) (by decide)
              have r6_I_91 : I_91 1 6 = I2 1 6 := h_91.2.2.2.1 1 6 (by decide) (by decide) (by decide)
              have r7_I_91 : I_91 1 7 = I2 1 7 := h_91.2.2.2.1 1 7 (by decide) (by decide) (by decide)
              have r8_I_91 : I_91 1 8 = I2 1 8 := h_91.2.2.2.1 1 8 (by decide) (by decide) (by decide)
              have r9_I_91 : I_91 1 9 = I2 1 9 := h_91.2.2.2.1 1 9 (by decide) (by decide) (by decide)
              have r10_I_91 : I_91 1 10 = I2 1 10 := h_91.2.2.2.1 1 10 (by decide) (by decide) (by decide)
              have r11_I_91 : I_91 1 11 = I2 1 11 := h_91.2.2.2.1 1 11 (by decide) (by decide) (by decide)
              have r81_I_91 : I_91 8 1 = I2 8 1 := h_91.2.2.2.1 8 1 (by decide) (by decide) (by decide)
              have rf_I_91 : FU (I_91 1 5) = FU (I2 1 5) := by rw [r5_I_91]
              refine ww_aload_n hX (pc := 94) dX10_learn_94 rfl ?_
              refine ww_aload_n hX (pc := 95) dX10_learn_95 rfl ?_
              refine ww_getR hX (pc := 96) fX10_10 (by decide) (xs_0 hL) (xr_0_0 hL) dX10_learn_96 ?_
              refine vI0 hX (pc := 99) sX10_167 (xs_1 hL) (c5_X1_readCount l0 hL cI_91.1) (by decide) (Nat.le_refl 0) (Nat.le_refl 0) (Nat.le_of_ble_eq_true rfl) dX10_learn_99 (fun x_99 I_99 J_99 h_99 => ?_)
              obtain ⟨rfl, rfl, h_99⟩ := h_99
              refine vI1 hX (pc := 102) sX10_114 (xs_0 hL) (c5_X10_accept l0 hL cI_91) (by decide) (Nat.le_refl 0) (Nat.le_refl 0) (Nat.le_of_ble_eq_true rfl) dX10_learn_102 (fun x_102 I_102 J_102 h_102 => ?_)
              have kI_102 : Kp 0 49 Ia I_102 := Kp_tr kI_91 (Kp_wd h_102.1 (by decide) (by decide))
              have kJ_102 : Kp 0 49 Ja J_102 := Kp_tr kJ_91 (Kp_wd h_102.2.1 (by decide) (by decide))
              have cI_102 : CX I_102 := h_102.2.2.1
              have qI_102 := XI_o cI_102.1
              have wI_102 : Fw [3, 15, 16, 17, 18, 19, 20, 21, 22, 23, 24, 25, 26, 27, 28, 29, 30, 31, 32, 33, 34, 35, 36] [(0, 16)] Ia I_102 := Fw_tr wI_91 (Fw_wd h_102.2.2.2.1 (by decide) (by decide))
              have r5_I_102 : I_102 1 5 = I_91 1 5 := h_102.2.2.2.1 1 5 (by decide) (by decide) (by decide)
              have r6_I_102 : I_102 1 6 = I_91 1 6 := h_102.2.2.2.1 1 6 (by decide) (by decide) (by decide)
              have r7_I_102 : I_102 1 7 = I_91 1 7 := h_102.2.2.2.1 1 7 (by decide) (by decide) (by decide)
              have r8_I_102 : I_102 1 8 = I_91 1 8 := h_102.2.2.2.1 1 8 (by decide) (by decide) (by decide)
              have r9_I_102 : I_102 1 9 = I_91 1 9 := h_102.2.2.2.1 1 9 (by decide) (by decide) (by decide)
              have r10_I_102 : I_102 1 10 = I_91 1 10 := h_102.2.2.2.1 1 10 (by decide) (by decide) (by decide)
              have r11_I_102 : I_102 1 11 = I_91 1 11 := h_102.2.2.2.1 1 11 (by decide) (by decide) (by decide)
              have r81_I_102 : I_102 8 1 = I_91 8 1 := h_102.2.2.2.1 8 1 (by decide) (by decide) (by decide)
              have rf_I_102 : FU (I_102 1 5) = FU (I_91 1 5) := by rw [r5_I_102]
              have xv_I_102 := h_102.2.2.2.2
              refine rI hX (pc := 105) hT (Nat.le_refl 0) (Nat.le_refl 0) dX10_learn_105 ?_
              exact ⟨kI_102, kJ_102, cI_102, (Fw_wd wI_102 (by decide) (by decide)), trivial⟩
            · simp only [w32_mod] at h_57
              refine ww_aload_n hX (pc := 60) dX10_learn_60 rfl ?_
              refine ww_getR hX (pc := 61) fX10_10 (by decide) (xs_0 hL) (xr_0_0 hL) dX10_learn_61 ?_
              refine ww_getR hX (pc := 64) fX10_137 (by decide) (xs_1 hL) (xr_1_1 hL) dX10_learn_64 ?_
              refine ww_iload hX (pc := 67) dX10_learn_67 rfl ?_
              refine ww_aload_n hX (pc := 69) dX10_learn_69 rfl ?_
              refine ww_getR hX (pc := 70) fX10_39 (by decide) (xs_0 hL) (xr_0_4 hL) dX10_learn_70 ?_
              refine ww_aload_n hX (pc := 73) dX10_learn_73 rfl ?_
              refine ww_aload_n hX (pc := 74) dX10_learn_74 rfl ?_
              refine ww_getR hX (pc := 75) fX10_10 (by decide) (xs_0 hL) (xr_0_0 hL) dX10_learn_75 ?_
              refine ww_iload hX (pc := 78) dX10_learn_78 rfl ?_
              refine vI3 hX (pc := 80) sX10_184 (xs_15 hL) (c_X0_ask l0 hL cI2.1 hws hwr0 hwr1 hs1 hs2 (by omega) (by omega) (by omega) (by omega) (by omega) (fun j hj => by rw [kI2 (w + 1) (by omega)]; exact hst1 j hj) (fun j hj => by rw [kI2 (w + 2) (by omega)]; exact hst2 j hj) (by rw [kI2 w (by omega)]; exact hwc)) (by decide) (Nat.le_refl 0) (Nat.le_refl 0) (Nat.le_of_ble_eq_true rfl) dX10_learn_80 (fun x_80 I_80 J_80 h_80 => ?_)
              have kI_80 : Kp 0 49 Ia I_80 := Kp_tr kI2 (Kp_wd h_80.1 (by decide) (by decide))
              have kJ_80 : Kp 0 49 Ja J_80 := Kp_tr kJ2 (Kp_wd h_80.2.1 (by decide) (by decide))
              have cI_80 : CX I_80 := CX_kp cI2 h_80.1 (by decide) (by decide)
              have qI_80 := XI_o cI_80.1
              have r5_I_80 : I_80 1 5 = I2 1 5 := by rw [h_80.1 1 (by decide)]
              have r6_I_80 : I_80 1 6 = I2 1 6 := by rw [h_80.1 1 (by decide)]
              have r8_I_80 : I_80 1 8 = I2 1 8 := by rw [h_80.1 1 (by decide)]
              have r9_I_80 : I_80 1 9 = I2 1 9 := by rw [h_80.1 1 (by decide)]
              have r10_I_80 : I_80 1 10 = I2 1 10 := by rw [h_80.1 1 (by decide)]
              have r11_I_80 : I_80 1 11 = I2 1 11 := by rw [h_80.1 1 (by decide)]
              have rf_I_80 : FU (I_80 1 5) = FU (I2 1 5) := by rw [r5_I_80]
              have wI_80 : Fw [3, 15, 16, 17, 18, 19, 20, 21, 22, 23, 24, 25, 26, 27, 28, 29, 30, 31, 32, 33, 34, 35, 36] [(0, 16)] Ia I_80 := Fw_kp wI2 h_80.1 (by decide)
              have r7_I_80 : I_80 1 7 = I2 1 7 := by rw [h_80.1 1 (by decide)]
              refine ww_iast hX (pc := 83) (xs_3 hL) (by decide) (by omega) (by omega) dX10_learn_83 ?_
              refine ww_nmH (fun I_83 eI_83 => ?_)
              have kI_83 : Kp 0 49 Ia I_83 := by rw [eI_83]; exact Kp_up kI_80 _ _ (by decide)
              have cI_83 : CX I_83 := by rw [eI_83]; exact CX_x cI_80 (XI_3 cI_80.1 (by omega) (by omega)) (by decide)
              have qI_83 := XI_o cI_83.1
              have r5_I_83 : I_83 1 5 = I_80 1 5 := by rw [eI_83, up2_off _ _ _ (by decide)]
              have r6_I_83 : I_83 1 6 = I_80 1 6 := by rw [eI_83, up2_off _ _ _ (by decide)]
              have r8_I_83 : I_83 1 8 = I_80 1 8 := by rw [eI_83, up2_off _ _ _ (by decide)]
              have r9_I_83 : I_83 1 9 = I_80 1 9 := by rw [eI_83, up2_off _ _ _ (by decide)]
              have r10_I_83 : I_83 1 10 = I_80 1 10 := by rw [eI_83, up2_off _ _ _ (by decide)]
              have r11_I_83 : I_83 1 11 = I_80 1 11 := by rw [eI_83, up2_off _ _ _ (by decide)]
              have rf_I_83 : FU (I_83 1 5) = FU (I_80 1 5) := by rw [r5_I_83]
              have wI_83 : Fw [3, 15, 16, 17, 18, 19, 20, 21, 22, 23, 24, 25, 26, 27, 28, 29, 30, 31, 32, 33, 34, 35, 36] [(0, 16)] Ia I_83 := by rw [eI_83]; exact Fw_up wI_80 (Or.inl (by decide))
              have r7_I_83 : I_83 1 7 = I_80 1 7 := by rw [eI_83, up2_n _ _ (Or.inl (by decide))]
              refine ww_iinc hX (pc := 84) (lv' := [some (kR (some 0)), some (kI a), some (kR (some w)), some (kI x_47), some (kI (i + 1))]) dX10_learn_84 rfl (by decide) rfl rfl ?_
              refine ww_goto hX (pc := 87) (tgt := 54) dX10_learn_87 (by decide) ?_
              exact ih_54 _ (by have hm9 := Sh0_e hq_54; omega) (i + 1) I_83 J_80 rfl ⟨kI_83, kJ_80, cI_83, wI_83, ⟨by omega, by omega⟩, ⟨by omega, by omega⟩⟩
        exact hl_54 _ 0 Ia Ja rfl ⟨(Kp_rf (a := 0) (b := 49)), (Kp_rf (a := 0) (b := 49)), hC, Fw_rf, ⟨by omega, by omega⟩, ⟨by omega, by omega⟩⟩
    · simp only [w32_mod] at h_12
      refine ww_aload_n hX (pc := 15) dX10_learn_15 rfl ?_
      refine ww_bipush hX (pc := 16) (x := (-2)) dX10_learn_16 (by decide) ?_
      refine vI1 hX (pc := 18) sX10_89 (xs_0 hL) (c5_X10_refuse l0 hL hC (by omega) (by omega)) (by decide) (Nat.le_refl 0) (Nat.le_refl 0) (Nat.le_of_ble_eq_true rfl) dX10_learn_18 (fun x_18 I_18 J_18 h_18 => ?_)
      have kI_18 : Kp 0 49 Ia I_18 := Kp_tr (Kp_rf (a := 0) (b := 49)) (Kp_wd h_18.1 (by decide) (by decide))
      have kJ_18 : Kp 0 49 Ja J_18 := Kp_tr (Kp_rf (a := 0) (b := 49)) (Kp_wd h_18.2.1 (by decide) (by decide))
      have cI_18 : CX I_18 := h_18.2.2.1
      have qI_18 := XI_o cI_18.1
      have wI_18 : Fw [3, 15, 16, 17, 18, 19, 20, 21, 22, 23, 24, 25, 26, 27, 28, 29, 30, 31, 32, 33, 34, 35, 36, 48] [(0, 16)] Ia I_18 := Fw_tr Fw_rf (Fw_wd h_18.2.2.2.1 (by decide) (by decide))
      have r5_I_18 : I_18 1 5 = Ia 1 5 := h_18.2.2.2.1 1 5 (by decide) (by decide) (by decide)
      have r6_I_18 : I_18 1 6 = Ia 1 6 := h_18.2.2.2.1 1 6 (by decide) (by decide) (by decide)
      have r7_I_18 : I_18 1 7 = Ia 1 7 := h_18.2.2.2.1 1 7 (by decide) (by decide) (by decide)
      have r8_I_18 : I_18 1 8 = Ia 1 8 := h_18.2.2.2.1 1 8 (by decide) (by decide) (by decide)
      have r9_I_18 : I_18 1 9 = Ia 1 9 := h_18.2.2.2.1 1 9 (by decide) (by decide) (by decide)
      have r10_I_18 : I_18 1 10 = Ia 1 10 := h_18.2.2.2.1 1 10 (by decide) (by decide) (by decide)
      have r11_I_18 : I_18 1 11 = Ia 1 11 := h_18.2.2.2.1 1 11 (by decide) (by decide) (by decide)
      have r81_I_18 : I_18 8 1 = Ia 8 1 := h_18.2.2.2.1 8 1 (by decide) (by decide) (by decide)
      have rf_I_18 : FU (I_18 1 5) = FU (Ia 1 5) := by rw [r5_I_18]
      have xv_I_18 := h_18.2.2.2.2
      refine rI hX (pc := 21) hT (Nat.le_refl 0) (Nat.le_refl 0) dX10_learn_21 ?_
      exact ⟨kI_18, kJ_18, cI_18, (Fw_wd wI_18 (by decide) (by decide)), trivial⟩
