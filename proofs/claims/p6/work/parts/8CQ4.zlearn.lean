set_option maxHeartbeats 4000000 in
set_option maxRecDepth 20000 in
theorem c6_X10_learn (l0 : Launch) {Ia Ja : aI1} {Ra : aR1} {Sa : aS1} (hL : LY Ra Sa) (hC : CX Ia) {a : Int} (ha0 : -2147483648 ≤ a) (ha1 : a < 2147483648) (hW : ∀ i, i < 6 → ∀ w, Ra 4 i = some w → LawOK Ia Ra Sa w) {qsf : Nat → List zQ} (hqf : ∀ t : Nat, (t : Int) < Ia 1 9 → ∃ w, Ra 4 t = some w ∧ zLR Ia Sa w (qsf t))  : CT l0 10 0 0 mX10_learn [kR (some 0), kI a] Ia Ja Ra Sa (cI (fun x I' J' => Kp 0 49 Ia I' ∧ Kp 0 49 Ja J' ∧ CX I' ∧ Fw [3, 15, 16, 17, 18, 19, 20, 21, 22, 23, 24, 25, 26, 27, 28, 29, 30, 31, 32, 33, 34, 35, 36, 48] [(0, 16)] Ia I' ∧ (¬ (0 ≤ a ∧ a < Ia 1 9) → x = -2 ∧ RFc Ia I' (-2)) ∧ ((0 ≤ a ∧ a < Ia 1 9) → Fw [3, 15, 16, 17, 18, 19, 20, 21, 22, 23, 24, 25, 26, 27, 28, 29, 30, 31, 32, 33, 34, 35, 36] [(0, 16)] Ia I' ∧ I' 0 16 = 0 ∧ (∀ j : Nat, I' 3 j = if (j : Int) ≤ FU (Ia 1 5) then zLd (qsf a.toNat) (Ia 1 5) (Ia 1 6) j else Ia 3 j) ∧ x = cnR (I' 3) (FU (Ia 1 5) + 1).toNat)) Ra Sa) := by
  refine ct_in pn_X10 (Nat.le_of_ble_eq_true rfl) (fun X hX hT hIn => ?_)
  have hX : aK l0 X cX10_learn 5 RX10 (some .int) 10 0 0 := hX
  change WW X 0 [some (kR (some 0)), some (kI a), none, none, none] [] Ia Ja Ra Sa 0 0
  have hI := hC.1
  have hq := XI_o hI
  refine ww_iload_n hX (pc := 0) dX10_learn_0 rfl ?_
  refine ww_if_lt hX (pc := 1) (tgt := 15) dX10_learn_1 (by decide) (fun h_1 => ?_) (fun h_1 => ?_)
  · simp only [w32_mod] at h_1
    refine ww_aload_n hX (pc := 15) dX10_learn_15 rfl ?_
    refine ww_bipush hX (pc := 16) (x := (-2)) dX10_learn_16 (by decide) ?_
    refine vI1 hX (pc := 18) sX10_89 (xs_0 hL) (c5_X10_refuse l0 hL hC (by omega) (by omega)) (by decide) (Nat.le_refl 0) (Nat.le_refl 0) (Nat.le_of_ble_eq_true rfl) dX10_learn_18 (fun x_18 I_18 J_18 h_18 => ?_)
    have kI_18 : Kp 0 49 Ia I_18 := Kp_tr (Kp_rf (a := 0) (b := 49)) (Kp_wd h_18.1 (by decide) (by decide))
    have kJ_18 : Kp 0 49 Ja J_18 := Kp_tr (Kp_rf (a := 0) (b := 49)) (Kp_wd h_18.2.1 (by decide) (by decide))
    have cI_18 : CX I_18 := h_18.2.2.1
    have qI_18 := XI_o cI_18.1
    have wI_18 : Fw [3, 15, 16, 17, 18, 19, 20, 21, 22, 23, 24, 25, 26, 27, 28, 29, 30, 31, 32, 33, 34, 35, 36, 48] [(0, 16)] Ia I_18 := Fw_tr Fw_rf (Fw_wd h_18.2.2.2.1 (by decide) (by decide))
    have r5_I_18 : I_18 1 5 = Ia 1 5 := h_18.2.2.2.1 1 5 (by decide) (by decide) (by decide)
    have r6_I_18 : I_18 1 6 = Ia 1 6 := h_18.2.2.2.1 1 6 (by decide) (by decide) (by decide)
    have r7_I_18 : I_18 1 7 = Ia 1 7 := h_18.2.2.2.1 1 7 (by decide) (by decide) (by decide)
    have r8_I_18 : I_18 1 8 = Ia 1 8 := h_18.2.2.2.1 1 8 (by decide) (by decide) (by decide)
    have r9_I_18 : I_18 1 9 = Ia 1 9 := h_18.2.2.2.1 1 9 (by decide) (by decide) (by decide)
    have r10_I_18 : I_18 1 10 = Ia 1 10 := h_18.2.2.2.1 1 10 (by decide) (by decide) (by decide)
    have r11_I_18 : I_18 1 11 = Ia 1 11 := h_18.2.2.2.1 1 11 (by decide) (by decide) (by decide)
    have r81_I_18 : I_18 8 1 = Ia 8 1 := h_18.2.2.2.1 8 1 (by decide) (by decide) (by decide)
    have rf_I_18 : FU (I_18 1 5) = FU (Ia 1 5) := by rw [r5_I_18]
    have y3_I_18 : I_18 3 = Ia 3 := Fw_row h_18.2.2.2.1 3 (by decide) (by decide) (by decide)
    have xv_I_18 := h_18.2.2.2.2
    refine rI hX (pc := 21) hT (Nat.le_refl 0) (Nat.le_refl 0) dX10_learn_21 ?_
    exact ⟨kI_18, kJ_18, cI_18, (Fw_wd wI_18 (by decide) (by decide)), (fun _ => ⟨xv_I_18.1, h_18.2.2.2.1, xv_I_18.2⟩), (fun h9 => absurd h9 (by omega))⟩
  · simp only [w32_mod] at h_1
    refine ww_iload_n hX (pc := 4) dX10_learn_4 rfl ?_
    refine ww_aload_n hX (pc := 5) dX10_learn_5 rfl ?_
    refine ww_getR hX (pc := 6) fX10_10 (by decide) (xs_0 hL) (xr_0_0 hL) dX10_learn_6 ?_
    refine ww_getI hX (pc := 9) fX10_170 (by decide) (xs_1 hL) dX10_learn_9 ?_
    refine ww_icmp_lt hX (pc := 12) (tgt := 22) dX10_learn_12 (by decide) (fun h_12 => ?_) (fun h_12 => ?_)
    · simp only [w32_mod] at h_12
      refine ww_aload_n hX (pc := 22) dX10_learn_22 rfl ?_
      refine ww_getR hX (pc := 23) fX10_10 (by decide) (xs_0 hL) (xr_0_0 hL) dX10_learn_23 ?_
      refine ww_getR hX (pc := 26) fX10_177 (by decide) (xs_1 hL) (xr_1_2 hL) dX10_learn_26 ?_
      refine ww_iload_n hX (pc := 29) dX10_learn_29 rfl ?_
      refine ww_aald hX (pc := 30) (Or.inl rfl) (xs_4 hL) (by decide) (by omega) (by omega) dX10_learn_30 ?_
      cases hlw : Ra 4 a.toNat with
      | none =>
        refine ww_astore_nN hX (pc := 31) (lv' := [some (kR (some 0)), some (kI a), some (kR none), none, none]) dX10_learn_31 (by decide) rfl rfl ?_
        refine ww_aload_nN hX (pc := 32) dX10_learn_32 rfl ?_
        refine ww_ifnonnullN hX (pc := 33) dX10_learn_33 ?_
        refine ww_aload_n hX (pc := 36) dX10_learn_36 rfl ?_
        refine ww_bipush hX (pc := 37) (x := (-2)) dX10_learn_37 (by decide) ?_
        refine vI1 hX (pc := 39) sX10_89 (xs_0 hL) (c5_X10_refuse l0 hL hC (by omega) (by omega)) (by decide) (Nat.le_refl 0) (Nat.le_refl 0) (Nat.le_of_ble_eq_true rfl) dX10_learn_39 (fun x_39 I_39 J_39 h_39 => ?_)
        have kI_39 : Kp 0 49 Ia I_39 := Kp_tr (Kp_rf (a := 0) (b := 49)) (Kp_wd h_39.1 (by decide) (by decide))
        have kJ_39 : Kp 0 49 Ja J_39 := Kp_tr (Kp_rf (a := 0) (b := 49)) (Kp_wd h_39.2.1 (by decide) (by decide))
        have cI_39 : CX I_39 := h_39.2.2.1
        have qI_39 := XI_o cI_39.1
        have wI_39 : Fw [3, 15, 16, 17, 18, 19, 20, 21, 22, 23, 24, 25, 26, 27, 28, 29, 30, 31, 32, 33, 34, 35, 36, 48] [(0, 16)] Ia I_39 := Fw_tr Fw_rf (Fw_wd h_39.2.2.2.1 (by decide) (by decide))
        have r5_I_39 : I_39 1 5 = Ia 1 5 := h_39.2.2.2.1 1 5 (by decide) (by decide) (by decide)
        have r6_I_39 : I_39 1 6 = Ia 1 6 := h_39.2.2.2.1 1 6 (by decide) (by decide) (by decide)
        have r7_I_39 : I_39 1 7 = Ia 1 7 := h_39.2.2.2.1 1 7 (by decide) (by decide) (by decide)
        have r8_I_39 : I_39 1 8 = Ia 1 8 := h_39.2.2.2.1 1 8 (by decide) (by decide) (by decide)
        have r9_I_39 : I_39 1 9 = Ia 1 9 := h_39.2.2.2.1 1 9 (by decide) (by decide) (by decide)
        have r10_I_39 : I_39 1 10 = Ia 1 10 := h_39.2.2.2.1 1 10 (by decide) (by decide) (by decide)
        have r11_I_39 : I_39 1 11 = Ia 1 11 := h_39.2.2.2.1 1 11 (by decide) (by decide) (by decide)
        have r81_I_39 : I_39 8 1 = Ia 8 1 := h_39.2.2.2.1 8 1 (by decide) (by decide) (by decide)
        have rf_I_39 : FU (I_39 1 5) = FU (Ia 1 5) := by rw [r5_I_39]
        have y3_I_39 : I_39 3 = Ia 3 := Fw_row h_39.2.2.2.1 3 (by decide) (by decide) (by decide)
        have xv_I_39 := h_39.2.2.2.2
        refine rI hX (pc := 42) hT (Nat.le_refl 0) (Nat.le_refl 0) dX10_learn_42 ?_
        exact ⟨kI_39, kJ_39, cI_39, (Fw_wd wI_39 (by decide) (by decide)), (fun _ => (by
              obtain ⟨w9, hw9, -⟩ := hqf a.toNat (by omega)
              rw [hlw] at hw9
              cases hw9)), (fun _ => (by
              obtain ⟨w9, hw9, -⟩ := hqf a.toNat (by omega)
              rw [hlw] at hw9
              cases hw9))⟩
      | some w =>
        obtain ⟨hw73, hws, hwr0, hwr1, hwc, ⟨n1, hn1, hs1, hst1⟩, ⟨n2, hn2, hs2, hst2⟩⟩ := hW a.toNat (by omega) w hlw
        refine ww_astore_n hX (pc := 31) (lv' := [some (kR (some 0)), some (kI a), some (kR (some w)), none, none]) dX10_learn_31 (by decide) rfl rfl ?_
        refine ww_aload_n hX (pc := 32) dX10_learn_32 rfl ?_
        refine ww_ifnonnullS hX (pc := 33) (tgt := 43) dX10_learn_33 (by decide) ?_
        obtain ⟨w9, hw9, hlr⟩ := hqf a.toNat (by omega)
        have hw90 : w9 = w := by
          rw [hlw] at hw9
          cases hw9
          rfl
        rw [hw90] at hlr
        obtain ⟨hz2, hz12, hzc, n9, hzs1, hn9, hzm, hzs2⟩ := hlr
        have hzn1 : n9 = n1 := by
          rw [hs1] at hzs1
          cases hzs1
          rfl
        have hzn : n2 = 2 * (qsf a.toNat).length + 1 := by
          rw [hs2] at hzs2
          cases hzs2
          rfl
        refine ww_aload_n hX (pc := 43) dX10_learn_43 rfl ?_
        refine ww_getR hX (pc := 44) fX10_10 (by decide) (xs_0 hL) (xr_0_0 hL) dX10_learn_44 ?_
        refine vI0 hX (pc := 47) sX10_151 (xs_1 hL) (c_X1_full l0 hL hC.1) (by decide) (Nat.le_refl 0) (Nat.le_refl 0) (Nat.le_of_ble_eq_true rfl) dX10_learn_47 (fun x_47 I_47 J_47 h_47 => ?_)
        obtain ⟨rfl, rfl, h_47⟩ := h_47
        refine ww_istore_n hX (pc := 50) (lv' := [some (kR (some 0)), some (kI a), some (kR (some w)), some (kI x_47), none]) dX10_learn_50 (by decide) rfl rfl ?_
        refine ww_iconst hX (pc := 51) (x := 0) dX10_learn_51 rfl ?_
        refine ww_istore hX (pc := 52) (lv' := [some (kR (some 0)), some (kI a), some (kR (some w)), some (kI x_47), some (kI 0)]) dX10_learn_52 (by decide) rfl rfl ?_
        have hl_54 : ∀ (n_54 : Nat) (i : Int) (I2 : aI1) (J2 : aI1), (256 - i).toNat = n_54 → (Kp 0 49 Ia I2 ∧ Kp 0 49 Ja J2 ∧ CX I2 ∧ Fw [3, 15, 16, 17, 18, 19, 20, 21, 22, 23, 24, 25, 26, 27, 28, 29, 30, 31, 32, 33, 34, 35, 36] [(0, 16)] Ia I2 ∧ (I2 1 5 = Ia 1 5 ∧ I2 1 6 = Ia 1 6) ∧ ((0 ≤ i ∧ i ≤ FU (Ia 1 5) + 1) ∧ (∀ j : Nat, I2 3 j = if (j : Int) < i then zLd (qsf a.toNat) (Ia 1 5) (Ia 1 6) j else Ia 3 j))) → WW X 54 [some (kR (some 0)), some (kI a), some (kR (some w)), some (kI x_47), some (kI i)] [] I2 J2 Ra Sa 0 0 := by
          intro n_54
          induction n_54 using Nat.strongRecOn with
          | ind n_54 ih_54 =>
            intro i I2 J2 hm_54 hv_54
            obtain ⟨kI2, kJ2, cI2, wI2, hI20, hi, h3⟩ := hv_54
            have qI2 := XI_o cI2.1
            have rfI2 := congrArg FU hI20.1
            refine ww_iload hX (pc := 54) dX10_learn_54 rfl ?_
            refine ww_iload_n hX (pc := 56) dX10_learn_56 rfl ?_
            refine ww_icmp_gt hX (pc := 57) (tgt := 90) dX10_learn_57 (by decide) (fun h_57 => ?_) (fun h_57 => ?_)
            · simp only [w32_mod] at h_57
              refine ww_aload_n hX (pc := 90) dX10_learn_90 rfl ?_
              refine vV0 hX (pc := 91) sX10_111 (xs_0 hL) (c5_X10_codeChanged l0 hL cI2) (by decide) (Nat.le_refl 0) (Nat.le_refl 0) (Nat.le_of_ble_eq_true rfl) dX10_learn_91 (fun I_91 J_91 h_91 => ?_)
              have kI_91 : Kp 0 49 Ia I_91 := Kp_tr kI2 (Kp_wd h_91.1 (by decide) (by decide))
              have kJ_91 : Kp 0 49 Ja J_91 := Kp_tr kJ2 (Kp_wd h_91.2.1 (by decide) (by decide))
              have cI_91 : CX I_91 := h_91.2.2.1
              have qI_91 := XI_o cI_91.1
              have wI_91 : Fw [3, 15, 16, 17, 18, 19, 20, 21, 22, 23, 24, 25, 26, 27, 28, 29, 30, 31, 32, 33, 34, 35, 36] [(0, 16)] Ia I_91 := Fw_tr wI2 (Fw_wd h_91.2.2.2.1 (by decide) (by decide))
              have r5_I_91 : I_91 1 5 = I2 1 5 := h_91.2.2.2.1 1 5 (by decide) (by decide) (by decide)
              have r6_I_91 : I_91 1 6 = I2 1 6 := h_91.2.2.2.1 1 6 (by decide) (by decide) (by decide)
              have r7_I_91 : I_91 1 7 = I2 1 7 := h_91.2.2.2.1 1 7 (by decide) (by decide) (by decide)
              have r8_I_91 : I_91 1 8 = I2 1 8 := h_91.2.2.2.1 1 8 (by decide) (by decide) (by decide)
              have r9_I_91 : I_91 1 9 = I2 1 9 := h_91.2.2.2.1 1 9 (by decide) (by decide) (by decide)
              have r10_I_91 : I_91 1 10 = I2 1 10 := h_91.2.2.2.1 1 10 (by decide) (by decide) (by decide)
              have r11_I_91 : I_91 1 11 = I2 1 11 := h_91.2.2.2.1 1 11 (by decide) (by decide) (by decide)
              have r81_I_91 : I_91 8 1 = I2 8 1 := h_91.2.2.2.1 8 1 (by decide) (by decide) (by decide)
              have rf_I_91 : FU (I_91 1 5) = FU (I2 1 5) := by rw [r5_I_91]
              have y3_I_91 : I_91 3 = I2 3 := Fw_row h_91.2.2.2.1 3 (by decide) (by decide) (by decide)
              refine ww_aload_n hX (pc := 94) dX10_learn_94 rfl ?_
              refine ww_aload_n hX (pc := 95) dX10_learn_95 rfl ?_
              refine ww_getR hX (pc := 96) fX10_10 (by decide) (xs_0 hL) (xr_0_0 hL) dX10_learn_96 ?_
              refine vI0 hX (pc := 99) sX10_167 (xs_1 hL) (c5_X1_readCount l0 hL cI_91.1) (by decide) (Nat.le_refl 0) (Nat.le_refl 0) (Nat.le_of_ble_eq_true rfl) dX10_learn_99 (fun x_99 I_99 J_99 h_99 => ?_)
              obtain ⟨rfl, rfl, h_99⟩ := h_99
              refine vI1 hX (pc := 102) sX10_114 (xs_0 hL) (c5_X10_accept l0 hL cI_91) (by decide) (Nat.le_refl 0) (Nat.le_refl 0) (Nat.le_of_ble_eq_true rfl) dX10_learn_102 (fun x_102 I_102 J_102 h_102 => ?_)
              have kI_102 : Kp 0 49 Ia I_102 := Kp_tr kI_91 (Kp_wd h_102.1 (by decide) (by decide))
              have kJ_102 : Kp 0 49 Ja J_102 := Kp_tr kJ_91 (Kp_wd h_102.2.1 (by decide) (by decide))
              have cI_102 : CX I_102 := h_102.2.2.1
              have qI_102 := XI_o cI_102.1
              have wI_102 : Fw [3, 15, 16, 17, 18, 19, 20, 21, 22, 23, 24, 25, 26, 27, 28, 29, 30, 31, 32, 33, 34, 35, 36] [(0, 16)] Ia I_102 := Fw_tr wI_91 (Fw_wd h_102.2.2.2.1 (by decide) (by decide))
              have r5_I_102 : I_102 1 5 = I_91 1 5 := h_102.2.2.2.1 1 5 (by decide) (by decide) (by decide)
              have r6_I_102 : I_102 1 6 = I_91 1 6 := h_102.2.2.2.1 1 6 (by decide) (by decide) (by decide)
              have r7_I_102 : I_102 1 7 = I_91 1 7 := h_102.2.2.2.1 1 7 (by decide) (by decide) (by decide)
              have r8_I_102 : I_102 1 8 = I_91 1 8 := h_102.2.2.2.1 1 8 (by decide) (by decide) (by decide)
              have r9_I_102 : I_102 1 9 = I_91 1 9 := h_102.2.2.2.1 1 9 (by decide) (by decide) (by decide)
              have r10_I_102 : I_102 1 10 = I_91 1 10 := h_102.2.2.2.1 1 10 (by decide) (by decide) (by decide)
              have r11_I_102 : I_102 1 11 = I_91 1 11 := h_102.2.2.2.1 1 11 (by decide) (by decide) (by decide)
              have r81_I_102 : I_102 8 1 = I_91 8 1 := h_102.2.2.2.1 8 1 (by decide) (by decide) (by decide)
              have rf_I_102 : FU (I_102 1 5) = FU (I_91 1 5) := by rw [r5_I_102]
              have y3_I_102 : I_102 3 = I_91 3 := Fw_row h_102.2.2.2.1 3 (by decide) (by decide) (by decide)
              have xv_I_102 := h_102.2.2.2.2
              refine rI hX (pc := 105) hT (Nat.le_refl 0) (Nat.le_refl 0) dX10_learn_105 ?_
              exact ⟨kI_102, kJ_102, cI_102, (Fw_wd wI_102 (by decide) (by decide)), (fun h9 => absurd (by omega) h9), (fun _ => ⟨wI_102, xv_I_102.2, (fun j => by
                    rw [y3_I_102, y3_I_91, h3 j]
                    by_cases g : (j : Int) < i
                    · rw [if_pos g, if_pos (by omega)]
                    · rw [if_neg g, if_neg (by omega)]), by rw [xv_I_102.1, h_99, y3_I_102, rf_I_91]; exact congrArg (fun z : Int => cnR (I_91 3) (z + 1).toNat) (by omega)⟩)⟩
            · simp only [w32_mod] at h_57
              refine ww_aload_n hX (pc := 60) dX10_learn_60 rfl ?_
              refine ww_getR hX (pc := 61) fX10_10 (by decide) (xs_0 hL) (xr_0_0 hL) dX10_learn_61 ?_
              refine ww_getR hX (pc := 64) fX10_137 (by decide) (xs_1 hL) (xr_1_1 hL) dX10_learn_64 ?_
              refine ww_iload hX (pc := 67) dX10_learn_67 rfl ?_
              refine ww_aload_n hX (pc := 69) dX10_learn_69 rfl ?_
              refine ww_getR hX (pc := 70) fX10_39 (by decide) (xs_0 hL) (xr_0_4 hL) dX10_learn_70 ?_
              refine ww_aload_n hX (pc := 73) dX10_learn_73 rfl ?_
              refine ww_aload_n hX (pc := 74) dX10_learn_74 rfl ?_
              refine ww_getR hX (pc := 75) fX10_10 (by decide) (xs_0 hL) (xr_0_0 hL) dX10_learn_75 ?_
              refine ww_iload hX (pc := 78) dX10_learn_78 rfl ?_
              refine vI3 hX (pc := 80) sX10_184 (xs_15 hL) (c6_X0_ask l0 hL cI2.1 hws hwr0 hwr1 hs1 hs2 (by omega) (by omega) (by omega) (by omega) (by omega) (fun j hj => by rw [kI2 (w + 1) (by omega)]; exact hst1 j hj) (fun j hj => by rw [kI2 (w + 2) (by omega)]; exact hst2 j hj) (qs := qsf a.toNat) (by rw [kI2 w (by omega)]; exact hz2) hz12 (by rw [kI2 (w + 1) (by omega), kI2 (w + 2) (by omega)]; exact hzc) (fun j g1 g2 => by rw [kI2 (w + 2) (by omega)]; have h9 := hzm j g1 g2; omega) hzn (by omega) (by omega)) (by decide) (Nat.le_refl 0) (Nat.le_refl 0) (Nat.le_of_ble_eq_true rfl) dX10_learn_80 (fun x_80 I_80 J_80 h_80 => ?_)
              have kI_80 : Kp 0 49 Ia I_80 := Kp_tr kI2 (Kp_wd h_80.1 (by decide) (by decide))
              have kJ_80 : Kp 0 49 Ja J_80 := Kp_tr kJ2 (Kp_wd h_80.2.1 (by decide) (by decide))
              have cI_80 : CX I_80 := CX_kp cI2 h_80.1 (by decide) (by decide)
              have qI_80 := XI_o cI_80.1
              have r5_I_80 : I_80 1 5 = I2 1 5 := by rw [h_80.1 1 (by decide)]
              have r6_I_80 : I_80 1 6 = I2 1 6 := by rw [h_80.1 1 (by decide)]
              have r8_I_80 : I_80 1 8 = I2 1 8 := by rw [h_80.1 1 (by decide)]
              have r9_I_80 : I_80 1 9 = I2 1 9 := by rw [h_80.1 1 (by decide)]
              have r10_I_80 : I_80 1 10 = I2 1 10 := by rw [h_80.1 1 (by decide)]
              have r11_I_80 : I_80 1 11 = I2 1 11 := by rw [h_80.1 1 (by decide)]
              have rf_I_80 : FU (I_80 1 5) = FU (I2 1 5) := by rw [r5_I_80]
              have wI_80 : Fw [3, 15, 16, 17, 18, 19, 20, 21, 22, 23, 24, 25, 26, 27, 28, 29, 30, 31, 32, 33, 34, 35, 36] [(0, 16)] Ia I_80 := Fw_kp wI2 h_80.1 (by decide)
              have r7_I_80 : I_80 1 7 = I2 1 7 := by rw [h_80.1 1 (by decide)]
              have y3_I_80 : I_80 3 = I2 3 := h_80.1 3 (by decide)
              have hgb := zGv_b (K := I2 1 6) (r := zTl (qsf a.toNat) (zEn i (I2 1 5) (I2 1 6))) (by omega) (by omega)
              have hgx := h_80.2.2
              refine ww_iast hX (pc := 83) (xs_3 hL) (by decide) (by omega) (by omega) dX10_learn_83 ?_
              refine ww_nmH (fun I_83 eI_83 => ?_)
              have kI_83 : Kp 0 49 Ia I_83 := by rw [eI_83]; exact Kp_up kI_80 _ _ (by decide)
              have cI_83 : CX I_83 := by rw [eI_83]; exact CX_x cI_80 (XI_3 cI_80.1 (by omega) (by omega)) (by decide)
              have qI_83 := XI_o cI_83.1
              have r5_I_83 : I_83 1 5 = I_80 1 5 := by rw [eI_83, up2_off _ _ _ (by decide)]
              have r6_I_83 : I_83 1 6 = I_80 1 6 := by rw [eI_83, up2_off _ _ _ (by decide)]
              have r8_I_83 : I_83 1 8 = I_80 1 8 := by rw [eI_83, up2_off _ _ _ (by decide)]
              have r9_I_83 : I_83 1 9 = I_80 1 9 := by rw [eI_83, up2_off _ _ _ (by decide)]
              have r10_I_83 : I_83 1 10 = I_80 1 10 := by rw [eI_83, up2_off _ _ _ (by decide)]
              have r11_I_83 : I_83 1 11 = I_80 1 11 := by rw [eI_83, up2_off _ _ _ (by decide)]
              have rf_I_83 : FU (I_83 1 5) = FU (I_80 1 5) := by rw [r5_I_83]
              have wI_83 : Fw [3, 15, 16, 17, 18, 19, 20, 21, 22, 23, 24, 25, 26, 27, 28, 29, 30, 31, 32, 33, 34, 35, 36] [(0, 16)] Ia I_83 := by rw [eI_83]; exact Fw_up wI_80 (Or.inl (by decide))
              have r7_I_83 : I_83 1 7 = I_80 1 7 := by rw [eI_83, up2_n _ _ (Or.inl (by decide))]
              have t3 : ∀ j : Nat, I_83 3 j = if (j : Int) < i + 1 then zLd (qsf a.toNat) (Ia 1 5) (Ia 1 6) j else Ia 3 j := fun j => by
                rw [eI_83, up2_row]
                by_cases e9 : j = i.toNat
                · rw [e9, up1_s, if_pos (by omega), show ((i.toNat : Nat) : Int) = i by omega, h_80.2.2, hI20.1, hI20.2]
                  rfl
                · rw [up1_n _ _ e9, y3_I_80, h3 j]
                  by_cases e8 : (j : Int) < i
                  · rw [if_pos e8, if_pos (by omega)]
                  · rw [if_neg e8, if_neg (by omega)]
              refine ww_iinc hX (pc := 84) (lv' := [some (kR (some 0)), some (kI a), some (kR (some w)), some (kI x_47), some (kI (i + 1))]) dX10_learn_84 rfl (by decide) rfl rfl ?_
              refine ww_goto hX (pc := 87) (tgt := 54) dX10_learn_87 (by decide) ?_
              exact ih_54 _ (by omega) (i + 1) I_83 J_80 rfl ⟨kI_83, kJ_80, cI_83, wI_83, ⟨by omega, by omega⟩, by omega, t3⟩
        exact hl_54 _ 0 Ia Ja rfl ⟨(Kp_rf (a := 0) (b := 49)), (Kp_rf (a := 0) (b := 49)), hC, Fw_rf, ⟨by omega, by omega⟩, by omega, (fun j => by rw [if_neg (by omega)])⟩
    · simp only [w32_mod] at h_12
      refine ww_aload_n hX (pc := 15) dX10_learn_15 rfl ?_
      refine ww_bipush hX (pc := 16) (x := (-2)) dX10_learn_16 (by decide) ?_
      refine vI1 hX (pc := 18) sX10_89 (xs_0 hL) (c5_X10_refuse l0 hL hC (by omega) (by omega)) (by decide) (Nat.le_refl 0) (Nat.le_refl 0) (Nat.le_of_ble_eq_true rfl) dX10_learn_18 (fun x_18 I_18 J_18 h_18 => ?_)
      have kI_18 : Kp 0 49 Ia I_18 := Kp_tr (Kp_rf (a := 0) (b := 49)) (Kp_wd h_18.1 (by decide) (by decide))
      have kJ_18 : Kp 0 49 Ja J_18 := Kp_tr (Kp_rf (a := 0) (b := 49)) (Kp_wd h_18.2.1 (by decide) (by decide))
      have cI_18 : CX I_18 := h_18.2.2.1
      have qI_18 := XI_o cI_18.1
      have wI_18 : Fw [3, 15, 16, 17, 18, 19, 20, 21, 22, 23, 24, 25, 26, 27, 28, 29, 30, 31, 32, 33, 34, 35, 36, 48] [(0, 16)] Ia I_18 := Fw_tr Fw_rf (Fw_wd h_18.2.2.2.1 (by decide) (by decide))
      have r5_I_18 : I_18 1 5 = Ia 1 5 := h_18.2.2.2.1 1 5 (by decide) (by decide) (by decide)
      have r6_I_18 : I_18 1 6 = Ia 1 6 := h_18.2.2.2.1 1 6 (by decide) (by decide) (by decide)
      have r7_I_18 : I_18 1 7 = Ia 1 7 := h_18.2.2.2.1 1 7 (by decide) (by decide) (by decide)
      have r8_I_18 : I_18 1 8 = Ia 1 8 := h_18.2.2.2.1 1 8 (by decide) (by decide) (by decide)
      have r9_I_18 : I_18 1 9 = Ia 1 9 := h_18.2.2.2.1 1 9 (by decide) (by decide) (by decide)
      have r10_I_18 : I_18 1 10 = Ia 1 10 := h_18.2.2.2.1 1 10 (by decide) (by decide) (by decide)
      have r11_I_18 : I_18 1 11 = Ia 1 11 := h_18.2.2.2.1 1 11 (by decide) (by decide) (by decide)
      have r81_I_18 : I_18 8 1 = Ia 8 1 := h_18.2.2.2.1 8 1 (by decide) (by decide) (by decide)
      have rf_I_18 : FU (I_18 1 5) = FU (Ia 1 5) := by rw [r5_I_18]
      have y3_I_18 : I_18 3 = Ia 3 := Fw_row h_18.2.2.2.1 3 (by decide) (by decide) (by decide)
      have xv_I_18 := h_18.2.2.2.2
      refine rI hX (pc := 21) hT (Nat.le_refl 0) (Nat.le_refl 0) dX10_learn_21 ?_
      exact ⟨kI_18, kJ_18, cI_18, (Fw_wd wI_18 (by decide) (by decide)), (fun _ => ⟨xv_I_18.1, h_18.2.2.2.1, xv_I_18.2⟩), (fun h9 => absurd h9 (by omega))⟩
