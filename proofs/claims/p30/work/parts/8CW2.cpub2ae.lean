set_option maxHeartbeats 4000000 in
set_option maxRecDepth 20000 in
theorem c8_X10_send (l0 : Launch) {Ia Ja : aI1} {Ra : aR1} {Sa : aS1} (hL : LY Ra Sa) (hC : CX Ia) (hF : FRk Ia Ja) {a b : Int} (ha0 : -2147483648 ≤ a) (ha1 : a < 2147483648) (hb0 : -2147483648 ≤ b) (hb1 : b < 2147483648) (hO : ∀ j, j < 8 → 0 ≤ Ia 2 j ∧ Ia 2 j ≤ 99) (hK : ∀ s : Nat, (s : Int) ≤ FU (Ia 1 5) → Ia 3 s < Ia 1 6)  : CT l0 10 0 0 mX10_send [kR (some 0), kI a, kI b] Ia Ja Ra Sa (cI (fun x I' J' => (Kp 0 49 Ia I' ∧ Kp 0 49 Ja J' ∧ CX I' ∧ Fw [5, 18, 19, 20, 21, 22, 23, 24, 25, 26, 27, 28, 29, 30, 48] [(0, 16), (1, 8), (1, 10)] Ia I' ∧ (¬ (0 ≤ a ∧ a < Ia 1 6 ∧ 0 ≤ b ∧ b ≤ 3) → x = -1 ∧ RFc Ia I' (-1)) ∧ ((0 ≤ a ∧ a < Ia 1 6 ∧ 0 ≤ b ∧ b ≤ 3) → ∃ o L T, KT b Ia o L T ∧ SNd (NX (bC b o L T) (Ia 3) (Ia 1 7) (Ia 1 8) (FU (Ia 1 5) + 1) a) Ia I' x)) ∧ FRk I' J') Ra Sa) := by
  refine ct_in pn_X10 (Nat.le_of_ble_eq_true rfl) (fun X hX hT hIn => ?_)
  have hX : aK l0 X cX10_send 5 RX10 (some .int) 10 0 0 := hX
  change WW X 0 [some (kR (some 0)), some (kI a), some (kI b), none, none] [] Ia Ja Ra Sa 0 0
  have hI := hC.1
  have hq := XI_o hI
  refine ww_aload_n hX (pc := 0) dX10_send_0 rfl ?_
  refine ww_getR hX (pc := 1) fX10_10 (by decide) (xs_0 hL) (xr_0_0 hL) dX10_send_1 ?_
  refine ww_iload_n hX (pc := 4) dX10_send_4 rfl ?_
  refine vI1 hX (pc := 5) sX10_134 (xs_1 hL) (c_X1_isNews l0 hL hC.1 (by omega)) (by decide) (Nat.le_refl 0) (Nat.le_refl 0) (Nat.le_of_ble_eq_true rfl) dX10_send_5 (fun x_5 I_5 J_5 h_5 => ?_)
  obtain ⟨rfl, rfl, h_5⟩ := h_5
  refine ww_if_eq hX (pc := 8) (tgt := 18) dX10_send_8 (by decide) (fun h_8 => ?_) (fun h_8 => ?_)
  · simp only [w32_mod] at h_8
    refine ww_aload_n hX (pc := 18) dX10_send_18 rfl ?_
    refine ww_iconst hX (pc := 19) (x := (-1)) dX10_send_19 rfl ?_
    refine vI1 hX (pc := 20) sX10_89 (xs_0 hL) (c8_X10_refuse l0 hL hC hF (by omega) (by omega)) (by decide) (Nat.le_refl 0) (Nat.le_refl 0) (Nat.le_of_ble_eq_true rfl) dX10_send_20 (fun x_20 I_20 J_20 h_20 => ?_)
    obtain ⟨h_20, frI_20⟩ := h_20
    have kI_20 : Kp 0 49 Ia I_20 := Kp_tr (Kp_rf (a := 0) (b := 49)) (Kp_wd h_20.1 (by decide) (by decide))
    have kJ_20 : Kp 0 49 Ja J_20 := Kp_tr (Kp_rf (a := 0) (b := 49)) (Kp_wd h_20.2.1 (by decide) (by decide))
    have cI_20 : CX I_20 := h_20.2.2.1
    have qI_20 := XI_o cI_20.1
    have wI_20 : Fw [5, 18, 19, 20, 21, 22, 23, 24, 25, 26, 27, 28, 29, 30, 48] [(0, 16), (1, 8), (1, 10)] Ia I_20 := Fw_tr Fw_rf (Fw_wd h_20.2.2.2.1 (by decide) (by decide))
    have r5_I_20 : I_20 1 5 = Ia 1 5 := h_20.2.2.2.1 1 5 (by decide) (by decide) (by decide)
    have r6_I_20 : I_20 1 6 = Ia 1 6 := h_20.2.2.2.1 1 6 (by decide) (by decide) (by decide)
    have r7_I_20 : I_20 1 7 = Ia 1 7 := h_20.2.2.2.1 1 7 (by decide) (by decide) (by decide)
    have r8_I_20 : I_20 1 8 = Ia 1 8 := h_20.2.2.2.1 1 8 (by decide) (by decide) (by decide)
    have r9_I_20 : I_20 1 9 = Ia 1 9 := h_20.2.2.2.1 1 9 (by decide) (by decide) (by decide)
    have r10_I_20 : I_20 1 10 = Ia 1 10 := h_20.2.2.2.1 1 10 (by decide) (by decide) (by decide)
    have r11_I_20 : I_20 1 11 = Ia 1 11 := h_20.2.2.2.1 1 11 (by decide) (by decide) (by decide)
    have r81_I_20 : I_20 8 1 = Ia 8 1 := h_20.2.2.2.1 8 1 (by decide) (by decide) (by decide)
    have rf_I_20 : FU (I_20 1 5) = FU (Ia 1 5) := by rw [r5_I_20]
    have y5_I_20 : I_20 5 = Ia 5 := Fw_row h_20.2.2.2.1 5 (by decide) (by decide) (by decide)
    have xv_I_20 := h_20.2.2.2.2
    refine rI hX (pc := 23) hT (Nat.le_refl 0) (Nat.le_refl 0) dX10_send_23 ?_
    exact ⟨⟨kI_20, kJ_20, cI_20, (Fw_wd wI_20 (by decide) (by decide)), (fun _ => ⟨xv_I_20.1, h_20.2.2.2.1, xv_I_20.2⟩), (fun h9 => absurd h9 (by omega))⟩, frI_20⟩
  · simp only [w32_mod] at h_8
    have k_5 := h_5.2.mp (by omega)
    clear h_5
    refine ww_iload_n hX (pc := 11) dX10_send_11 rfl ?_
    refine sI1 hX (pc := 12) sX10_188 (c_X10_isManner l0 (by omega) (by omega)) (by decide) (Nat.le_refl 0) (Nat.le_refl 0) (Nat.le_of_ble_eq_true rfl) dX10_send_12 (fun x_12 I_12 J_12 h_12 => ?_)
    obtain ⟨rfl, rfl, h_12⟩ := h_12
    refine ww_if_ne hX (pc := 15) (tgt := 24) dX10_send_15 (by decide) (fun h_15 => ?_) (fun h_15 => ?_)
    · simp only [w32_mod] at h_15
      have k_12 := h_12.2.mp (by omega)
      clear h_12
      refine ww_aload_n hX (pc := 24) dX10_send_24 rfl ?_
      refine ww_getR hX (pc := 25) fX10_48 (by decide) (xs_0 hL) (xr_0_5 hL) dX10_send_25 ?_
      refine ww_iload_n hX (pc := 28) dX10_send_28 rfl ?_
      refine vV1 hX (pc := 29) sX10_191 (xs_18 hL) (c8_X4_prepare l0 hL hC.1 hF hK (by omega) (by omega)) (by decide) (Nat.le_refl 0) (Nat.le_refl 0) (Nat.le_of_ble_eq_true rfl) dX10_send_29 (fun I_29 J_29 h_29 => ?_)
      have kI_29 : Kp 0 49 Ia I_29 := Kp_tr (Kp_rf (a := 0) (b := 49)) (Kp_wd h_29.1 (by decide) (by decide))
      have kJ_29 : Kp 0 49 Ja J_29 := Kp_tr (Kp_rf (a := 0) (b := 49)) (Kp_wd h_29.2.1 (by decide) (by decide))
      have cI_29 : CX I_29 := CX_kp hC h_29.1 (by decide) (by decide)
      have qI_29 := XI_o cI_29.1
      have r5_I_29 : I_29 1 5 = Ia 1 5 := by rw [h_29.1 1 (by decide)]
      have r6_I_29 : I_29 1 6 = Ia 1 6 := by rw [h_29.1 1 (by decide)]
      have r8_I_29 : I_29 1 8 = Ia 1 8 := by rw [h_29.1 1 (by decide)]
      have r9_I_29 : I_29 1 9 = Ia 1 9 := by rw [h_29.1 1 (by decide)]
      have r10_I_29 : I_29 1 10 = Ia 1 10 := by rw [h_29.1 1 (by decide)]
      have r11_I_29 : I_29 1 11 = Ia 1 11 := by rw [h_29.1 1 (by decide)]
      have rf_I_29 : FU (I_29 1 5) = FU (Ia 1 5) := by rw [r5_I_29]
      have wI_29 : Fw [5, 18, 19, 20, 21, 22, 23, 24, 25, 26, 27, 28, 29, 30] [(0, 16), (1, 8), (1, 10)] Ia I_29 := Fw_kp Fw_rf h_29.1 (by decide)
      have r7_I_29 : I_29 1 7 = Ia 1 7 := by rw [h_29.1 1 (by decide)]
      have y5_I_29 : I_29 5 = Ia 5 := h_29.1 5 (by decide)
      have y48_I_29 : I_29 48 = Ia 48 := h_29.1 48 (by decide)
      have frI_29 : FRk I_29 J_29 := h_29.2.2.1
      have e1_29 : I_29 1 = Ia 1 := h_29.1 1 (by decide)
      have e2_29 : I_29 2 = Ia 2 := h_29.1 2 (by decide)
      have e3_29 : I_29 3 = Ia 3 := h_29.1 3 (by decide)
      have htrp : ∀ t : Nat, (t : Int) ≤ FU (I_29 1 5) → TR b I_29 J_29 t := TR_p cI_29.1 (by rw [e2_29]; exact hO) h_29.2.2.2.1 h_29.2.2.2.2.1 h_29.2.2.2.2.2
      have hkt : KT b Ia (I_29 19) (I_29 24) (J_29 28) := KT_p h_29.2.2.2.1 h_29.2.2.2.2.1 h_29.2.2.2.2.2 e1_29 e2_29 e3_29
      refine ww_aload_n hX (pc := 32) dX10_send_32 rfl ?_
      refine ww_getR hX (pc := 33) fX10_48 (by decide) (xs_0 hL) (xr_0_5 hL) dX10_send_33 ?_
      refine ww_aload_n hX (pc := 36) dX10_send_36 rfl ?_
      refine ww_getR hX (pc := 37) fX10_10 (by decide) (xs_0 hL) (xr_0_0 hL) dX10_send_37 ?_
      refine ww_getI hX (pc := 40) fX10_236 (by decide) (xs_1 hL) dX10_send_40 ?_
      refine ww_iload_n hX (pc := 43) dX10_send_43 rfl ?_
      refine ww_iload_n hX (pc := 44) dX10_send_44 rfl ?_
      refine vI3 hX (pc := 45) sX10_194 (xs_18 hL) (n8_X4_choose l0 hL cI_29.1 frI_29 (by omega) (by omega) (by omega) (by omega) (by omega) (by omega) htrp) (by decide) (Nat.le_refl 0) (Nat.le_refl 0) (Nat.le_of_ble_eq_true rfl) dX10_send_45 (fun x_45 I_45 J_45 h_45 => ?_)
      have kI_45 : Kp 0 49 Ia I_45 := Kp_tr kI_29 (Kp_wd h_45.1 (by decide) (by decide))
      have kJ_45 : Kp 0 49 Ja J_45 := Kp_tr kJ_29 (Kp_wd h_45.2.1 (by decide) (by decide))
      have cI_45 : CX I_45 := CX_kp cI_29 h_45.1 (by decide) (by decide)
      have qI_45 := XI_o cI_45.1
      have r5_I_45 : I_45 1 5 = I_29 1 5 := by rw [h_45.1 1 (by decide)]
      have r6_I_45 : I_45 1 6 = I_29 1 6 := by rw [h_45.1 1 (by decide)]
      have r8_I_45 : I_45 1 8 = I_29 1 8 := by rw [h_45.1 1 (by decide)]
      have r9_I_45 : I_45 1 9 = I_29 1 9 := by rw [h_45.1 1 (by decide)]
      have r10_I_45 : I_45 1 10 = I_29 1 10 := by rw [h_45.1 1 (by decide)]
      have r11_I_45 : I_45 1 11 = I_29 1 11 := by rw [h_45.1 1 (by decide)]
      have rf_I_45 : FU (I_45 1 5) = FU (I_29 1 5) := by rw [r5_I_45]
      have wI_45 : Fw [5, 18, 19, 20, 21, 22, 23, 24, 25, 26, 27, 28, 29, 30] [(0, 16), (1, 8), (1, 10)] Ia I_45 := Fw_kp wI_29 h_45.1 (by decide)
      have r7_I_45 : I_45 1 7 = I_29 1 7 := by rw [h_45.1 1 (by decide)]
      have y5_I_45 : I_45 5 = I_29 5 := h_45.1 5 (by decide)
      have y48_I_45 : I_45 48 = I_29 48 := h_45.1 48 (by decide)
      have frI_45 : FRk I_45 J_45 := h_45.2.2.1
      have hz : x_45 = NX (bC b (I_29 19) (I_29 24) (J_29 28)) (Ia 3) (Ia 1 7) (Ia 1 8) (FU (Ia 1 5) + 1) a := by
        have h9 := h_45.2.2.2.1
        rw [e3_29, e1_29] at h9
        exact h9
      have hnr := NX_r (bt := bC b (I_29 19) (I_29 24) (J_29 28)) (code := Ia 3) (g := Ia 1 7) (s := Ia 1 8) (N := (FU (Ia 1 5) + 1)) (x := a) (by omega)
      rw [← hz] at hnr
      have hnr2 : -1 ≤ x_45 ∧ x_45 ≤ FU (Ia 1 5) := by
        rcases hnr with h9 | h9
        · omega
        · omega
      clear hnr
      have e1_45 : I_45 1 = Ia 1 := (h_45.1 1 (by decide)).trans e1_29
      have f8_45 : I_45 1 8 = Ia 1 8 := congrFun e1_45 8
      have f10_45 : I_45 1 10 = Ia 1 10 := congrFun e1_45 10
      have f5_45 : I_45 5 = Ia 5 := (h_45.1 5 (by decide)).trans (h_29.1 5 (by decide))
      have f48_45 : I_45 48 = Ia 48 := (h_45.1 48 (by decide)).trans (h_29.1 48 (by decide))
      refine ww_istore_n hX (pc := 48) (lv' := [some (kR (some 0)), some (kI a), some (kI b), some (kI x_45), none]) dX10_send_48 (by decide) rfl rfl ?_
      refine ww_iload_n hX (pc := 49) dX10_send_49 rfl ?_
      refine ww_iconst hX (pc := 50) (x := (-1)) dX10_send_50 rfl ?_
      refine ww_icmp_ne hX (pc := 51) (tgt := 61) dX10_send_51 (by decide) (fun h_51 => ?_) (fun h_51 => ?_)
      · simp only [w32_mod] at h_51
        refine ww_aload_n hX (pc := 61) dX10_send_61 rfl ?_
        refine ww_getR hX (pc := 62) fX10_10 (by decide) (xs_0 hL) (xr_0_0 hL) dX10_send_62 ?_
        refine ww_getI hX (pc := 65) fX10_239 (by decide) (xs_1 hL) dX10_send_65 ?_
        refine ww_bipush hX (pc := 68) (x := 24) dX10_send_68 (by decide) ?_
        refine ww_icmp_lt hX (pc := 70) (tgt := 80) dX10_send_70 (by decide) (fun h_70 => ?_) (fun h_70 => ?_)
        · simp only [w32_mod] at h_70
          refine ww_iload_n hX (pc := 80) dX10_send_80 rfl ?_
          refine ww_aload_n hX (pc := 81) dX10_send_81 rfl ?_
          refine ww_getR hX (pc := 82) fX10_10 (by decide) (xs_0 hL) (xr_0_0 hL) dX10_send_82 ?_
          refine ww_getI hX (pc := 85) fX10_236 (by decide) (xs_1 hL) dX10_send_85 ?_
          refine ww_ixor hX (pc := 88) dX10_send_88 ?_
          refine sI1 hX (pc := 89) sX10_242 (c_J6_bitCount_0f7a4 l0) (by decide) (Nat.le_refl 0) (Nat.le_refl 0) (Nat.le_of_ble_eq_true rfl) dX10_send_89 (fun x_89 I_89 J_89 h_89 => ?_)
          obtain ⟨rfl, rfl, h_89⟩ := h_89
          refine ww_istore hX (pc := 92) (lv' := [some (kR (some 0)), some (kI a), some (kI b), some (kI x_45), some (kI x_89)]) dX10_send_92 (by decide) rfl rfl ?_
          refine ww_aload_n hX (pc := 94) dX10_send_94 rfl ?_
          refine ww_getR hX (pc := 95) fX10_10 (by decide) (xs_0 hL) (xr_0_0 hL) dX10_send_95 ?_
          refine ww_getR hX (pc := 98) fX10_247 (by decide) (xs_1 hL) (xr_1_3 hL) dX10_send_98 ?_
          refine ww_aload_n hX (pc := 101) dX10_send_101 rfl ?_
          refine ww_getR hX (pc := 102) fX10_10 (by decide) (xs_0 hL) (xr_0_0 hL) dX10_send_102 ?_
          refine ww_getI hX (pc := 105) fX10_239 (by decide) (xs_1 hL) dX10_send_105 ?_
          refine ww_iload_n hX (pc := 108) dX10_send_108 rfl ?_
          refine ww_iast hX (pc := 109) (xs_5 hL) (by decide) (by omega) (by omega) dX10_send_109 ?_
          refine ww_nmH (fun I_109 eI_109 => ?_)
          have kI_109 : Kp 0 49 Ia I_109 := by rw [eI_109]; exact Kp_up kI_45 _ _ (by decide)
          have cI_109 : CX I_109 := by rw [eI_109]; exact CX_up cI_45 (by decide)
          have qI_109 := XI_o cI_109.1
          have r5_I_109 : I_109 1 5 = I_45 1 5 := by rw [eI_109, up2_off _ _ _ (by decide)]
          have r6_I_109 : I_109 1 6 = I_45 1 6 := by rw [eI_109, up2_off _ _ _ (by decide)]
          have r8_I_109 : I_109 1 8 = I_45 1 8 := by rw [eI_109, up2_off _ _ _ (by decide)]
          have r9_I_109 : I_109 1 9 = I_45 1 9 := by rw [eI_109, up2_off _ _ _ (by decide)]
          have r10_I_109 : I_109 1 10 = I_45 1 10 := by rw [eI_109, up2_off _ _ _ (by decide)]
          have r11_I_109 : I_109 1 11 = I_45 1 11 := by rw [eI_109, up2_off _ _ _ (by decide)]
          have rf_I_109 : FU (I_109 1 5) = FU (I_45 1 5) := by rw [r5_I_109]
          have wI_109 : Fw [5, 18, 19, 20, 21, 22, 23, 24, 25, 26, 27, 28, 29, 30] [(0, 16), (1, 8), (1, 10)] Ia I_109 := by rw [eI_109]; exact Fw_up wI_45 (Or.inl (by decide))
          have r7_I_109 : I_109 1 7 = I_45 1 7 := by rw [eI_109, up2_n _ _ (Or.inl (by decide))]
          have y48_I_109 : I_109 48 = I_45 48 := by rw [eI_109, up2_off _ _ _ (by decide)]
          have frI_109 : FRk I_109 J_45 := by rw [eI_109]; exact FRk_up frI_45 (by decide)
          refine ww_aload_n hX (pc := 110) dX10_send_110 rfl ?_
          refine ww_getR hX (pc := 111) fX10_10 (by decide) (xs_0 hL) (xr_0_0 hL) dX10_send_111 ?_
          refine ww_dupR hX (pc := 114) dX10_send_114 ?_
          refine ww_getI hX (pc := 115) fX10_239 (by decide) (xs_1 hL) dX10_send_115 ?_
          refine ww_iconst hX (pc := 118) (x := 1) dX10_send_118 rfl ?_
          refine ww_iadd hX (pc := 119) dX10_send_119 ?_
          refine ww_putI hX (pc := 120) (fun h9 => absurd h9 (by decide)) gX10_239 rfl (xs_1 hL) dX10_send_120 ?_
          refine ww_nmH (fun I_120 eI_120 => ?_)
          have kI_120 : Kp 0 49 Ia I_120 := by rw [eI_120]; exact Kp_up kI_109 _ _ (by decide)
          have cI_120 : CX I_120 := by rw [eI_120]; exact CX_x cI_109 (XI_1_10 cI_109.1 (by omega) (by omega)) (by decide)
          have qI_120 := XI_o cI_120.1
          have r5_I_120 : I_120 1 5 = I_109 1 5 := by rw [eI_120, up2_n _ _ (Or.inr (by decide))]
          have r6_I_120 : I_120 1 6 = I_109 1 6 := by rw [eI_120, up2_n _ _ (Or.inr (by decide))]
          have r8_I_120 : I_120 1 8 = I_109 1 8 := by rw [eI_120, up2_n _ _ (Or.inr (by decide))]
          have r9_I_120 : I_120 1 9 = I_109 1 9 := by rw [eI_120, up2_n _ _ (Or.inr (by decide))]
          skip
          have r11_I_120 : I_120 1 11 = I_109 1 11 := by rw [eI_120, up2_n _ _ (Or.inr (by decide))]
          have rf_I_120 : FU (I_120 1 5) = FU (I_109 1 5) := by rw [r5_I_120]
          have wI_120 : Fw [5, 18, 19, 20, 21, 22, 23, 24, 25, 26, 27, 28, 29, 30] [(0, 16), (1, 8), (1, 10)] Ia I_120 := by rw [eI_120]; exact Fw_up wI_109 (Or.inr (by decide))
          have r7_I_120 : I_120 1 7 = I_109 1 7 := by rw [eI_120, up2_n _ _ (Or.inr (by decide))]
          have y5_I_120 : I_120 5 = I_109 5 := by rw [eI_120, up2_off _ _ _ (by decide)]
          have y48_I_120 : I_120 48 = I_109 48 := by rw [eI_120, up2_off _ _ _ (by decide)]
          have frI_120 : FRk I_120 J_45 := by rw [eI_120]; exact FRk_u1 frI_109 (by decide)
          refine ww_aload_n hX (pc := 123) dX10_send_123 rfl ?_
          refine ww_getR hX (pc := 124) fX10_10 (by decide) (xs_0 hL) (xr_0_0 hL) dX10_send_124 ?_
          refine ww_iload_n hX (pc := 127) dX10_send_127 rfl ?_
          refine ww_putI hX (pc := 128) (fun h9 => absurd h9 (by decide)) gX10_236 rfl (xs_1 hL) dX10_send_128 ?_
          refine ww_nmH (fun I_128 eI_128 => ?_)
          have kI_128 : Kp 0 49 Ia I_128 := by rw [eI_128]; exact Kp_up kI_120 _ _ (by decide)
          have cI_128 : CX I_128 := by rw [eI_128]; exact CX_x cI_120 (XI_1_8 cI_120.1 (by omega) (by omega)) (by decide)
          have qI_128 := XI_o cI_128.1
          have r5_I_128 : I_128 1 5 = I_120 1 5 := by rw [eI_128, up2_n _ _ (Or.inr (by decide))]
          have r6_I_128 : I_128 1 6 = I_120 1 6 := by rw [eI_128, up2_n _ _ (Or.inr (by decide))]
          skip
          have r9_I_128 : I_128 1 9 = I_120 1 9 := by rw [eI_128, up2_n _ _ (Or.inr (by decide))]
          have r10_I_128 : I_128 1 10 = I_120 1 10 := by rw [eI_128, up2_n _ _ (Or.inr (by decide))]
          have r11_I_128 : I_128 1 11 = I_120 1 11 := by rw [eI_128, up2_n _ _ (Or.inr (by decide))]
          have rf_I_128 : FU (I_128 1 5) = FU (I_120 1 5) := by rw [r5_I_128]
          have wI_128 : Fw [5, 18, 19, 20, 21, 22, 23, 24, 25, 26, 27, 28, 29, 30] [(0, 16), (1, 8), (1, 10)] Ia I_128 := by rw [eI_128]; exact Fw_up wI_120 (Or.inr (by decide))
          have r7_I_128 : I_128 1 7 = I_120 1 7 := by rw [eI_128, up2_n _ _ (Or.inr (by decide))]
          have y5_I_128 : I_128 5 = I_120 5 := by rw [eI_128, up2_off _ _ _ (by decide)]
          have y48_I_128 : I_128 48 = I_120 48 := by rw [eI_128, up2_off _ _ _ (by decide)]
          have frI_128 : FRk I_128 J_45 := by rw [eI_128]; exact FRk_u1 frI_120 (by decide)
          refine ww_aload_n hX (pc := 131) dX10_send_131 rfl ?_
          refine ww_iload hX (pc := 132) dX10_send_132 rfl ?_
          refine vI1 hX (pc := 134) sX10_114 (xs_0 hL) (c8_X10_accept l0 hL cI_128 frI_128) (by decide) (Nat.le_refl 0) (Nat.le_refl 0) (Nat.le_of_ble_eq_true rfl) dX10_send_134 (fun x_134 I_134 J_134 h_134 => ?_)
          obtain ⟨h_134, frI_134⟩ := h_134
          have kI_134 : Kp 0 49 Ia I_134 := Kp_tr kI_128 (Kp_wd h_134.1 (by decide) (by decide))
          have kJ_134 : Kp 0 49 Ja J_134 := Kp_tr kJ_45 (Kp_wd h_134.2.1 (by decide) (by decide))
          have cI_134 : CX I_134 := h_134.2.2.1
          have qI_134 := XI_o cI_134.1
          have wI_134 : Fw [5, 18, 19, 20, 21, 22, 23, 24, 25, 26, 27, 28, 29, 30] [(0, 16), (1, 8), (1, 10)] Ia I_134 := Fw_tr wI_128 (Fw_wd h_134.2.2.2.1 (by decide) (by decide))
          have r5_I_134 : I_134 1 5 = I_128 1 5 := h_134.2.2.2.1 1 5 (by decide) (by decide) (by decide)
          have r6_I_134 : I_134 1 6 = I_128 1 6 := h_134.2.2.2.1 1 6 (by decide) (by decide) (by decide)
          have r7_I_134 : I_134 1 7 = I_128 1 7 := h_134.2.2.2.1 1 7 (by decide) (by decide) (by decide)
          have r8_I_134 : I_134 1 8 = I_128 1 8 := h_134.2.2.2.1 1 8 (by decide) (by decide) (by decide)
          have r9_I_134 : I_134 1 9 = I_128 1 9 := h_134.2.2.2.1 1 9 (by decide) (by decide) (by decide)
          have r10_I_134 : I_134 1 10 = I_128 1 10 := h_134.2.2.2.1 1 10 (by decide) (by decide) (by decide)
          have r11_I_134 : I_134 1 11 = I_128 1 11 := h_134.2.2.2.1 1 11 (by decide) (by decide) (by decide)
          have r81_I_134 : I_134 8 1 = I_128 8 1 := h_134.2.2.2.1 8 1 (by decide) (by decide) (by decide)
          have rf_I_134 : FU (I_134 1 5) = FU (I_128 1 5) := by rw [r5_I_134]
          have y5_I_134 : I_134 5 = I_128 5 := Fw_row h_134.2.2.2.1 5 (by decide) (by decide) (by decide)
          have y48_I_134 : I_134 48 = I_128 48 := Fw_row h_134.2.2.2.1 48 (by decide) (by decide) (by decide)
          have xv_I_134 := h_134.2.2.2.2
          refine rI hX (pc := 137) hT (Nat.le_refl 0) (Nat.le_refl 0) dX10_send_137 ?_
          exact ⟨⟨kI_134, kJ_134, cI_134, (Fw_wd wI_134 (by decide) (by decide)), (fun h9 => absurd (by omega) h9), (fun _ => ⟨_, _, _, hkt, by
                rw [← hz]
                exact ⟨fun h9 => absurd h9 (by omega), fun _ h9 => absurd h9 (by omega), fun _ _ => ⟨by rw [xv_I_134.1, h_89, f8_45], xv_I_134.2, by rw [y48_I_134, y48_I_128, y48_I_120, y48_I_109]; exact f48_45, by rw [r8_I_134, eI_128, up2_s], by rw [r10_I_134, r10_I_128, eI_120, up2_s, eI_109, up2_off _ _ _ (by decide), f10_45], by rw [y5_I_134, y5_I_128, y5_I_120, eI_109, up2_row, f5_45, f10_45]⟩⟩⟩)⟩, frI_134⟩
        · simp only [w32_mod] at h_70
          refine ww_aload_n hX (pc := 73) dX10_send_73 rfl ?_
          refine ww_bipush hX (pc := 74) (x := (-5)) dX10_send_74 (by decide) ?_
          refine vI1 hX (pc := 76) sX10_89 (xs_0 hL) (c8_X10_refuse l0 hL cI_45 frI_45 (by omega) (by omega)) (by decide) (Nat.le_refl 0) (Nat.le_refl 0) (Nat.le_of_ble_eq_true rfl) dX10_send_76 (fun x_76 I_76 J_76 h_76 => ?_)
          obtain ⟨h_76, frI_76⟩ := h_76
          have kI_76 : Kp 0 49 Ia I_76 := Kp_tr kI_45 (Kp_wd h_76.1 (by decide) (by decide))
          have kJ_76 : Kp 0 49 Ja J_76 := Kp_tr kJ_45 (Kp_wd h_76.2.1 (by decide) (by decide))
          have cI_76 : CX I_76 := h_76.2.2.1
          have qI_76 := XI_o cI_76.1
          have wI_76 : Fw [5, 18, 19, 20, 21, 22, 23, 24, 25, 26, 27, 28, 29, 30, 48] [(0, 16), (1, 8), (1, 10)] Ia I_76 := Fw_tr (Fw_wd wI_45 (by decide) (by decide)) (Fw_wd h_76.2.2.2.1 (by decide) (by decide))
          have r5_I_76 : I_76 1 5 = I_45 1 5 := h_76.2.2.2.1 1 5 (by decide) (by decide) (by decide)
          have r6_I_76 : I_76 1 6 = I_45 1 6 := h_76.2.2.2.1 1 6 (by decide) (by decide) (by decide)
          have r7_I_76 : I_76 1 7 = I_45 1 7 := h_76.2.2.2.1 1 7 (by decide) (by decide) (by decide)
          have r8_I_76 : I_76 1 8 = I_45 1 8 := h_76.2.2.2.1 1 8 (by decide) (by decide) (by decide)
          have r9_I_76 : I_76 1 9 = I_45 1 9 := h_76.2.2.2.1 1 9 (by decide) (by decide) (by decide)
          have r10_I_76 : I_76 1 10 = I_45 1 10 := h_76.2.2.2.1 1 10 (by decide) (by decide) (by decide)
          have r11_I_76 : I_76 1 11 = I_45 1 11 := h_76.2.2.2.1 1 11 (by decide) (by decide) (by decide)
          have r81_I_76 : I_76 8 1 = I_45 8 1 := h_76.2.2.2.1 8 1 (by decide) (by decide) (by decide)
          have rf_I_76 : FU (I_76 1 5) = FU (I_45 1 5) := by rw [r5_I_76]
          have y5_I_76 : I_76 5 = I_45 5 := Fw_row h_76.2.2.2.1 5 (by decide) (by decide) (by decide)
          have xv_I_76 := h_76.2.2.2.2
          refine rI hX (pc := 79) hT (Nat.le_refl 0) (Nat.le_refl 0) dX10_send_79 ?_
          exact ⟨⟨kI_76, kJ_76, cI_76, (Fw_wd wI_76 (by decide) (by decide)), (fun h9 => absurd (by omega) h9), (fun _ => ⟨_, _, _, hkt, by
                rw [← hz]
                exact ⟨fun h9 => absurd h9 (by omega), fun _ _ => ⟨xv_I_76.1, xv_I_76.2.1, by rw [xv_I_76.2.2, f48_45]; rfl, r8_I_76.trans f8_45, r10_I_76.trans f10_45, y5_I_76.trans f5_45⟩, fun _ h9 => absurd h9 (by omega)⟩⟩)⟩, frI_76⟩
      · simp only [w32_mod] at h_51
        refine ww_aload_n hX (pc := 54) dX10_send_54 rfl ?_
        refine ww_bipush hX (pc := 55) (x := (-3)) dX10_send_55 (by decide) ?_
        refine vI1 hX (pc := 57) sX10_89 (xs_0 hL) (c8_X10_refuse l0 hL cI_45 frI_45 (by omega) (by omega)) (by decide) (Nat.le_refl 0) (Nat.le_refl 0) (Nat.le_of_ble_eq_true rfl) dX10_send_57 (fun x_57 I_57 J_57 h_57 => ?_)
        obtain ⟨h_57, frI_57⟩ := h_57
        have kI_57 : Kp 0 49 Ia I_57 := Kp_tr kI_45 (Kp_wd h_57.1 (by decide) (by decide))
        have kJ_57 : Kp 0 49 Ja J_57 := Kp_tr kJ_45 (Kp_wd h_57.2.1 (by decide) (by decide))
        have cI_57 : CX I_57 := h_57.2.2.1
        have qI_57 := XI_o cI_57.1
        have wI_57 : Fw [5, 18, 19, 20, 21, 22, 23, 24, 25, 26, 27, 28, 29, 30, 48] [(0, 16), (1, 8), (1, 10)] Ia I_57 := Fw_tr (Fw_wd wI_45 (by decide) (by decide)) (Fw_wd h_57.2.2.2.1 (by decide) (by decide))
        have r5_I_57 : I_57 1 5 = I_45 1 5 := h_57.2.2.2.1 1 5 (by decide) (by decide) (by decide)
        have r6_I_57 : I_57 1 6 = I_45 1 6 := h_57.2.2.2.1 1 6 (by decide) (by decide) (by decide)
        have r7_I_57 : I_57 1 7 = I_45 1 7 := h_57.2.2.2.1 1 7 (by decide) (by decide) (by decide)
        have r8_I_57 : I_57 1 8 = I_45 1 8 := h_57.2.2.2.1 1 8 (by decide) (by decide) (by decide)
        have r9_I_57 : I_57 1 9 = I_45 1 9 := h_57.2.2.2.1 1 9 (by decide) (by decide) (by decide)
        have r10_I_57 : I_57 1 10 = I_45 1 10 := h_57.2.2.2.1 1 10 (by decide) (by decide) (by decide)
        have r11_I_57 : I_57 1 11 = I_45 1 11 := h_57.2.2.2.1 1 11 (by decide) (by decide) (by decide)
        have r81_I_57 : I_57 8 1 = I_45 8 1 := h_57.2.2.2.1 8 1 (by decide) (by decide) (by decide)
        have rf_I_57 : FU (I_57 1 5) = FU (I_45 1 5) := by rw [r5_I_57]
        have y5_I_57 : I_57 5 = I_45 5 := Fw_row h_57.2.2.2.1 5 (by decide) (by decide) (by decide)
        have xv_I_57 := h_57.2.2.2.2
        refine rI hX (pc := 60) hT (Nat.le_refl 0) (Nat.le_refl 0) dX10_send_60 ?_
        exact ⟨⟨kI_57, kJ_57, cI_57, (Fw_wd wI_57 (by decide) (by decide)), (fun h9 => absurd (by omega) h9), (fun _ => ⟨_, _, _, hkt, by
              rw [← hz]
              exact ⟨fun _ => ⟨xv_I_57.1, xv_I_57.2.1, by rw [xv_I_57.2.2, f48_45]; rfl, r8_I_57.trans f8_45, r10_I_57.trans f10_45, y5_I_57.trans f5_45⟩, fun h9 => absurd (by omega) h9, fun h9 => absurd (by omega) h9⟩⟩)⟩, frI_57⟩
    · simp only [w32_mod] at h_15
      refine ww_aload_n hX (pc := 18) dX10_send_18 rfl ?_
      refine ww_iconst hX (pc := 19) (x := (-1)) dX10_send_19 rfl ?_
      refine vI1 hX (pc := 20) sX10_89 (xs_0 hL) (c8_X10_refuse l0 hL hC hF (by omega) (by omega)) (by decide) (Nat.le_refl 0) (Nat.le_refl 0) (Nat.le_of_ble_eq_true rfl) dX10_send_20 (fun x_20 I_20 J_20 h_20 => ?_)
      obtain ⟨h_20, frI_20⟩ := h_20
      have kI_20 : Kp 0 49 Ia I_20 := Kp_tr (Kp_rf (a := 0) (b := 49)) (Kp_wd h_20.1 (by decide) (by decide))
      have kJ_20 : Kp 0 49 Ja J_20 := Kp_tr (Kp_rf (a := 0) (b := 49)) (Kp_wd h_20.2.1 (by decide) (by decide))
      have cI_20 : CX I_20 := h_20.2.2.1
      have qI_20 := XI_o cI_20.1
      have wI_20 : Fw [5, 18, 19, 20, 21, 22, 23, 24, 25, 26, 27, 28, 29, 30, 48] [(0, 16), (1, 8), (1, 10)] Ia I_20 := Fw_tr Fw_rf (Fw_wd h_20.2.2.2.1 (by decide) (by decide))
      have r5_I_20 : I_20 1 5 = Ia 1 5 := h_20.2.2.2.1 1 5 (by decide) (by decide) (by decide)
      have r6_I_20 : I_20 1 6 = Ia 1 6 := h_20.2.2.2.1 1 6 (by decide) (by decide) (by decide)
      have r7_I_20 : I_20 1 7 = Ia 1 7 := h_20.2.2.2.1 1 7 (by decide) (by decide) (by decide)
      have r8_I_20 : I_20 1 8 = Ia 1 8 := h_20.2.2.2.1 1 8 (by decide) (by decide) (by decide)
      have r9_I_20 : I_20 1 9 = Ia 1 9 := h_20.2.2.2.1 1 9 (by decide) (by decide) (by decide)
      have r10_I_20 : I_20 1 10 = Ia 1 10 := h_20.2.2.2.1 1 10 (by decide) (by decide) (by decide)
      have r11_I_20 : I_20 1 11 = Ia 1 11 := h_20.2.2.2.1 1 11 (by decide) (by decide) (by decide)
      have r81_I_20 : I_20 8 1 = Ia 8 1 := h_20.2.2.2.1 8 1 (by decide) (by decide) (by decide)
      have rf_I_20 : FU (I_20 1 5) = FU (Ia 1 5) := by rw [r5_I_20]
      have y5_I_20 : I_20 5 = Ia 5 := Fw_row h_20.2.2.2.1 5 (by decide) (by decide) (by decide)
      have xv_I_20 := h_20.2.2.2.2
      refine rI hX (pc := 23) hT (Nat.le_refl 0) (Nat.le_refl 0) dX10_send_23 ?_
      exact ⟨⟨kI_20, kJ_20, cI_20, (Fw_wd wI_20 (by decide) (by decide)), (fun _ => ⟨xv_I_20.1, h_20.2.2.2.1, xv_I_20.2⟩), (fun h9 => absurd h9 (by omega))⟩, frI_20⟩
