set_option maxHeartbeats 4000000 in
set_option maxRecDepth 20000 in
theorem c_X10_learn (l0 : Launch) {Ia Ja : aI1} {Ra : aR1} {Sa : aS1} (hL : LY Ra Sa) (hC : CX Ia) {a : Int} (ha0 : -2147483648 ≤ a) (ha1 : a < 2147483648) (hW : ∀ i, i < 6 → ∀ w, Ra 4 i = some w → LawOK Ia Ra Sa w)  : CT l0 10 0 0 mX10_learn [kR (some 0), kI a] Ia Ja Ra Sa (cI (fun x I' J' => Kp 0 49 Ia I' ∧ Kp 0 49 Ja J' ∧ CX I') Ra Sa) := by
  refine ct_in pn_X10 (Nat.le_of_ble_eq_true rfl) (fun X hX hT hIn => ?_)
  have hX : aK l0 X cX10_learn 5 RX10 (some .int) 10 0 0 := hX
  change WW X 0 [some (kR (some 0)), some (kI a), none, none, none] [] Ia Ja Ra Sa 0 0
  have hI := hC.1
  have hq := XI_o hI
  refine ww_iload_n hX (pc := 0) dX10_learn_0 rfl ?_
  refine ww_if_lt hX (pc := 1) (tgt := 15) dX10_learn_1 (by decide) (fun h_1 => ?_) (fun h_1 => ?_)
  · simp only [w32_mod] at h_1
    refine ww_aload_n hX (pc := 15) dX10_learn_15 rfl ?_
    refine ww_bipush hX (pc := 16) (x := (-2)) dX10_learn_16 (by decide) ?_
    refine vI1 hX (pc := 18) sX10_89 (xs_0 hL) (c_X10_refuse l0 hL hC (by omega) (by omega)) (by decide) (Nat.le_refl 0) (Nat.le_refl 0) (Nat.le_of_ble_eq_true rfl) dX10_learn_18 (fun x_18 I_18 J_18 h_18 => ?_)
    have kI_18 : Kp 0 49 Ia I_18 := Kp_tr (Kp_rf (a := 0) (b := 49)) (Kp_wd h_18.1 (by decide) (by decide))
    have kJ_18 : Kp 0 49 Ja J_18 := Kp_tr (Kp_rf (a := 0) (b := 49)) (Kp_wd h_18.2.1 (by decide) (by decide))
    have cI_18 : CX I_18 := h_18.2.2.1
    have qI_18 := XI_o cI_18.1
    refine rI hX (pc := 21) hT (Nat.le_refl 0) (Nat.le_refl 0) dX10_learn_21 ?_
    exact ⟨kI_18, kJ_18, cI_18⟩
  · simp only [w32_mod] at h_1
    refine ww_iload_n hX (pc := 4) dX10_learn_4 rfl ?_
    refine ww_aload_n hX (pc := 5) dX10_learn_5 rfl ?_
    refine ww_getR hX (pc := 6) fX10_10 (by decide) (xs_0 hL) (xr_0_0 hL) dX10_learn_6 ?_
    refine ww_getI hX (pc := 9) fX10_170 (by decide) (xs_1 hL) dX10_learn_9 ?_
    refine ww_icmp_lt hX (pc := 12) (tgt := 22) dX10_learn_12 (by decide) (fun h_12 => ?_) (fun h_12 => ?_)
    · simp only [w32_mod] at h_12
      refine ww_aload_n hX (pc := 22) dX10_learn_22 rfl ?_
      refine ww_getR hX (pc := 23) fX10_10 (by decide) (xs_0 hL) (xr_0_0 hL) dX10_learn_23 ?_
      refine ww_getR hX (pc := 26) fX10_177 (by decide) (xs_1 hL) (xr_1_2 hL) dX10_learn_26 ?_
      refine ww_iload_n hX (pc := 29) dX10_learn_29 rfl ?_
      refine ww_aald hX (pc := 30) (Or.inl rfl) (xs_4 hL) (by decide) (by omega) (by omega) dX10_learn_30 ?_
      cases hlw : Ra 4 a.toNat with
      | none =>
        refine ww_astore_nN hX (pc := 31) (lv' := [some (kR (some 0)), some (kI a), some (kR none), none, none]) dX10_learn_31 (by decide) rfl rfl ?_
        refine ww_aload_nN hX (pc := 32) dX10_learn_32 rfl ?_
        refine ww_ifnonnullN hX (pc := 33) dX10_learn_33 ?_
        refine ww_aload_n hX (pc := 36) dX10_learn_36 rfl ?_
        refine ww_bipush hX (pc := 37) (x := (-2)) dX10_learn_37 (by decide) ?_
        refine vI1 hX (pc := 39) sX10_89 (xs_0 hL) (c_X10_refuse l0 hL hC (by omega) (by omega)) (by decide) (Nat.le_refl 0) (Nat.le_refl 0) (Nat.le_of_ble_eq_true rfl) dX10_learn_39 (fun x_39 I_39 J_39 h_39 => ?_)
        have kI_39 : Kp 0 49 Ia I_39 := Kp_tr (Kp_rf (a := 0) (b := 49)) (Kp_wd h_39.1 (by decide) (by decide))
        have kJ_39 : Kp 0 49 Ja J_39 := Kp_tr (Kp_rf (a := 0) (b := 49)) (Kp_wd h_39.2.1 (by decide) (by decide))
        have cI_39 : CX I_39 := h_39.2.2.1
        have qI_39 := XI_o cI_39.1
        refine rI hX (pc := 42) hT (Nat.le_refl 0) (Nat.le_refl 0) dX10_learn_42 ?_
        exact ⟨kI_39, kJ_39, cI_39⟩
      | some w =>
        obtain ⟨hw73, hws, hwr0, hwr1, hwc, ⟨n1, hn1, hs1, hst1⟩, ⟨n2, hn2, hs2, hst2⟩⟩ := hW a.toNat (by omega) w hlw
        refine ww_astore_n hX (pc := 31) (lv' := [some (kR (some 0)), some (kI a), some (kR (some w)), none, none]) dX10_learn_31 (by decide) rfl rfl ?_
        refine ww_aload_n hX (pc := 32) dX10_learn_32 rfl ?_
        refine ww_ifnonnullS hX (pc := 33) (tgt := 43) dX10_learn_33 (by decide) ?_
        refine ww_aload_n hX (pc := 43) dX10_learn_43 rfl ?_
        refine ww_getR hX (pc := 44) fX10_10 (by decide) (xs_0 hL) (xr_0_0 hL) dX10_learn_44 ?_
        refine vI0 hX (pc := 47) sX10_151 (xs_1 hL) (c_X1_full l0 hL hC.1) (by decide) (Nat.le_refl 0) (Nat.le_refl 0) (Nat.le_of_ble_eq_true rfl) dX10_learn_47 (fun x_47 I_47 J_47 h_47 => ?_)
        obtain ⟨rfl, rfl, h_47⟩ := h_47
        refine ww_istore_n hX (pc := 50) (lv' := [some (kR (some 0)), some (kI a), some (kR (some w)), some (kI x_47), none]) dX10_learn_50 (by decide) rfl rfl ?_
        refine ww_iconst hX (pc := 51) (x := 0) dX10_learn_51 rfl ?_
        refine ww_istore hX (pc := 52) (lv' := [some (kR (some 0)), some (kI a), some (kR (some w)), some (kI x_47), some (kI 0)]) dX10_learn_52 (by decide) rfl rfl ?_
        have hl_54 : ∀ (n_54 : Nat) (i : Int) (I2 : aI1) (J2 : aI1), (256 - i).toNat = n_54 → (Kp 0 49 Ia I2 ∧ Kp 0 49 Ja J2 ∧ CX I2 ∧ (I2 1 5 = Ia 1 5 ∧ I2 1 6 = Ia 1 6) ∧ (0 ≤ i ∧ i ≤ 256)) → WW X 54 [some (kR (some 0)), some (kI a), some (kR (some w)), some (kI x_47), some (kI i)] [] I2 J2 Ra Sa 0 0 := by
          intro n_54
          induction n_54 using Nat.strongRecOn with
          | ind n_54 ih_54 =>
            intro i I2 J2 hm_54 hv_54
            obtain ⟨kI2, kJ2, cI2, hI20, hi⟩ := hv_54
            have qI2 := XI_o cI2.1
            have rfI2 := congrArg FU hI20.1
            refine ww_iload hX (pc := 54) dX10_learn_54 rfl ?_
            refine ww_iload_n hX (pc := 56) dX10_learn_56 rfl ?_
            refine ww_icmp_gt hX (pc := 57) (tgt := 90) dX10_learn_57 (by decide) (fun h_57 => ?_) (fun h_57 => ?_)
            · simp only [w32_mod] at h_57
              refine ww_aload_n hX (pc := 90) dX10_learn_90 rfl ?_
              refine vV0 hX (pc := 91) sX10_111 (xs_0 hL) (c_X10_codeChanged l0 hL cI2) (by decide) (Nat.le_refl 0) (Nat.le_refl 0) (Nat.le_of_ble_eq_true rfl) dX10_learn_91 (fun I_91 J_91 h_91 => ?_)
              have kI_91 : Kp 0 49 Ia I_91 := Kp_tr kI2 (Kp_wd h_91.1 (by decide) (by decide))
              have kJ_91 : Kp 0 49 Ja J_91 := Kp_tr kJ2 (Kp_wd h_91.2.1 (by decide) (by decide))
              have cI_91 : CX I_91 := h_91.2.2
              have qI_91 := XI_o cI_91.1
              refine ww_aload_n hX (pc := 94) dX10_learn_94 rfl ?_
              refine ww_aload_n hX (pc := 95) dX10_learn_95 rfl ?_
              refine ww_getR hX (pc := 96) fX10_10 (by decide) (xs_0 hL) (xr_0_0 hL) dX10_learn_96 ?_
              refine vI0 hX (pc := 99) sX10_167 (xs_1 hL) (c_X1_readCount l0 hL cI_91.1) (by decide) (Nat.le_refl 0) (Nat.le_refl 0) (Nat.le_of_ble_eq_true rfl) dX10_learn_99 (fun x_99 I_99 J_99 h_99 => ?_)
              obtain ⟨rfl, rfl, h_99⟩ := h_99
              refine vI1 hX (pc := 102) sX10_114 (xs_0 hL) (c_X10_accept l0 hL cI_91) (by decide) (Nat.le_refl 0) (Nat.le_refl 0) (Nat.le_of_ble_eq_true rfl) dX10_learn_102 (fun x_102 I_102 J_102 h_102 => ?_)
              have kI_102 : Kp 0 49 Ia I_102 := Kp_tr kI_91 (Kp_wd h_102.1 (by decide) (by decide))
              have kJ_102 : Kp 0 49 Ja J_102 := Kp_tr kJ_91 (Kp_wd h_102.2.1 (by decide) (by decide))
              have cI_102 : CX I_102 := h_102.2.2.1
              have qI_102 := XI_o cI_102.1
              refine rI hX (pc := 105) hT (Nat.le_refl 0) (Nat.le_refl 0) dX10_learn_105 ?_
              exact ⟨kI_102, kJ_102, cI_102⟩
            · simp only [w32_mod] at h_57
              refine ww_aload_n hX (pc := 60) dX10_learn_60 rfl ?_
              refine ww_getR hX (pc := 61) fX10_10 (by decide) (xs_0 hL) (xr_0_0 hL) dX10_learn_61 ?_
              refine ww_getR hX (pc := 64) fX10_137 (by decide) (xs_1 hL) (xr_1_1 hL) dX10_learn_64 ?_
              refine ww_iload hX (pc := 67) dX10_learn_67 rfl ?_
              refine ww_aload_n hX (pc := 69) dX10_learn_69 rfl ?_
              refine ww_getR hX (pc := 70) fX10_39 (by decide) (xs_0 hL) (xr_0_4 hL) dX10_learn_70 ?_
              refine ww_aload_n hX (pc := 73) dX10_learn_73 rfl ?_
              refine ww_aload_n hX (pc := 74) dX10_learn_74 rfl ?_
              refine ww_getR hX (pc := 75) fX10_10 (by decide) (xs_0 hL) (xr_0_0 hL) dX10_learn_75 ?_
              refine ww_iload hX (pc := 78) dX10_learn_78 rfl ?_
              refine vI3 hX (pc := 80) sX10_184 (xs_15 hL) (c_X0_ask l0 hL cI2.1 hws hwr0 hwr1 hs1 hs2 (by omega) (by omega) (by omega) (by omega) (by omega) (fun j hj => by rw [kI2 (w + 1) (by omega)]; exact hst1 j hj) (fun j hj => by rw [kI2 (w + 2) (by omega)]; exact hst2 j hj) (by rw [kI2 w (by omega)]; exact hwc)) (by decide) (Nat.le_refl 0) (Nat.le_refl 0) (Nat.le_of_ble_eq_true rfl) dX10_learn_80 (fun x_80 I_80 J_80 h_80 => ?_)
              have kI_80 : Kp 0 49 Ia I_80 := Kp_tr kI2 (Kp_wd h_80.1 (by decide) (by decide))
              have kJ_80 : Kp 0 49 Ja J_80 := Kp_tr kJ2 (Kp_wd h_80.2.1 (by decide) (by decide))
              have cI_80 : CX I_80 := CX_kp cI2 h_80.1 (by decide) (by decide)
              have qI_80 := XI_o cI_80.1
              have r5_I_80 : I_80 1 5 = I2 1 5 := by rw [h_80.1 1 (by decide)]
              have r6_I_80 : I_80 1 6 = I2 1 6 := by rw [h_80.1 1 (by decide)]
              have r8_I_80 : I_80 1 8 = I2 1 8 := by rw [h_80.1 1 (by decide)]
              have r9_I_80 : I_80 1 9 = I2 1 9 := by rw [h_80.1 1 (by decide)]
              have r10_I_80 : I_80 1 10 = I2 1 10 := by rw [h_80.1 1 (by decide)]
              have r11_I_80 : I_80 1 11 = I2 1 11 := by rw [h_80.1 1 (by decide)]
              have rf_I_80 : FU (I_80 1 5) = FU (I2 1 5) := by rw [r5_I_80]
              refine ww_iast hX (pc := 83) (xs_3 hL) (by decide) (by omega) (by omega) dX10_learn_83 ?_
              refine ww_nmH (fun I_83 eI_83 => ?_)
              have kI_83 : Kp 0 49 Ia I_83 := by rw [eI_83]; exact Kp_up kI_80 _ _ (by decide)
              have cI_83 : CX I_83 := by rw [eI_83]; exact CX_x cI_80 (XI_3 cI_80.1 (by omega) (by omega)) (by decide)
              have qI_83 := XI_o cI_83.1
              have r5_I_83 : I_83 1 5 = I_80 1 5 := by rw [eI_83, up2_off _ _ _ (by decide)]
              have r6_I_83 : I_83 1 6 = I_80 1 6 := by rw [eI_83, up2_off _ _ _ (by decide)]
              have r8_I_83 : I_83 1 8 = I_80 1 8 := by rw [eI_83, up2_off _ _ _ (by decide)]
              have r9_I_83 : I_83 1 9 = I_80 1 9 := by rw [eI_83, up2_off _ _ _ (by decide)]
              have r10_I_83 : I_83 1 10 = I_80 1 10 := by rw [eI_83, up2_off _ _ _ (by decide)]
              have r11_I_83 : I_83 1 11 = I_80 1 11 := by rw [eI_83, up2_off _ _ _ (by decide)]
              have rf_I_83 : FU (I_83 1 5) = FU (I_80 1 5) := by rw [r5_I_83]
              refine ww_iinc hX (pc := 84) (lv' := [some (kR (some 0)), some (kI a), some (kR (some w)), some (kI x_47), some (kI (i + 1))]) dX10_learn_84 rfl (by decide) rfl rfl ?_
              refine ww_goto hX (pc := 87) (tgt := 54) dX10_learn_87 (by decide) ?_
              exact ih_54 _ (by omega) (i + 1) I_83 J_80 rfl ⟨kI_83, kJ_80, cI_83, ⟨by omega, by omega⟩, ⟨by omega, by omega⟩⟩
        exact hl_54 _ 0 Ia Ja rfl ⟨(Kp_rf (a := 0) (b := 49)), (Kp_rf (a := 0) (b := 49)), hC, ⟨by omega, by omega⟩, ⟨by omega, by omega⟩⟩
    · simp only [w32_mod] at h_12
      refine ww_aload_n hX (pc := 15) dX10_learn_15 rfl ?_
      refine ww_bipush hX (pc := 16) (x := (-2)) dX10_learn_16 (by decide) ?_
      refine vI1 hX (pc := 18) sX10_89 (xs_0 hL) (c_X10_refuse l0 hL hC (by omega) (by omega)) (by decide) (Nat.le_refl 0) (Nat.le_refl 0) (Nat.le_of_ble_eq_true rfl) dX10_learn_18 (fun x_18 I_18 J_18 h_18 => ?_)
      have kI_18 : Kp 0 49 Ia I_18 := Kp_tr (Kp_rf (a := 0) (b := 49)) (Kp_wd h_18.1 (by decide) (by decide))
      have kJ_18 : Kp 0 49 Ja J_18 := Kp_tr (Kp_rf (a := 0) (b := 49)) (Kp_wd h_18.2.1 (by decide) (by decide))
      have cI_18 : CX I_18 := h_18.2.2.1
      have qI_18 := XI_o cI_18.1
      refine rI hX (pc := 21) hT (Nat.le_refl 0) (Nat.le_refl 0) dX10_learn_21 ?_
      exact ⟨kI_18, kJ_18, cI_18⟩
