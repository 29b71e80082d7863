set_option maxHeartbeats 4000000 in
set_option maxRecDepth 20000 in
theorem c_X10_spy (l0 : Launch) {Ia Ja : aI1} {Ra : aR1} {Sa : aS1} (hL : LY Ra Sa) (hC : CX Ia) {a : Int} (ha0 : -2147483648 ≤ a) (ha1 : a < 2147483648)  : CT l0 10 0 0 mX10_spy [kR (some 0), kI a] Ia Ja Ra Sa (cI (fun x I' J' => Kp 0 49 Ia I' ∧ Kp 0 49 Ja J' ∧ CX I') Ra Sa) := by
  refine ct_in pn_X10 (Nat.le_of_ble_eq_true rfl) (fun X hX hT hIn => ?_)
  have hX : aK l0 X cX10_spy 5 RX10 (some .int) 10 0 0 := hX
  change WW X 0 [some (kR (some 0)), some (kI a), none, none, none] [] Ia Ja Ra Sa 0 0
  have hI := hC.1
  have hq := XI_o hI
  refine ww_iload_n hX (pc := 0) dX10_spy_0 rfl ?_
  refine ww_if_lt hX (pc := 1) (tgt := 15) dX10_spy_1 (by decide) (fun h_1 => ?_) (fun h_1 => ?_)
  · simp only [w32_mod] at h_1
    refine ww_iconst hX (pc := 15) (x := (-1)) dX10_spy_15 rfl ?_
    refine rI hX (pc := 16) hT (Nat.le_refl 0) (Nat.le_refl 0) dX10_spy_16 ?_
    exact ⟨(Kp_rf (a := 0) (b := 49)), (Kp_rf (a := 0) (b := 49)), hC⟩
  · simp only [w32_mod] at h_1
    refine ww_iload_n hX (pc := 4) dX10_spy_4 rfl ?_
    refine ww_aload_n hX (pc := 5) dX10_spy_5 rfl ?_
    refine ww_getR hX (pc := 6) fX10_10 (by decide) (xs_0 hL) (xr_0_0 hL) dX10_spy_6 ?_
    refine ww_getI hX (pc := 9) fX10_93 (by decide) (xs_1 hL) dX10_spy_9 ?_
    refine ww_icmp_le hX (pc := 12) (tgt := 17) dX10_spy_12 (by decide) (fun h_12 => ?_) (fun h_12 => ?_)
    · simp only [w32_mod] at h_12
      refine ww_iconst hX (pc := 17) (x := 0) dX10_spy_17 rfl ?_
      refine ww_istore_n hX (pc := 18) (lv' := [some (kR (some 0)), some (kI a), some (kI 0), none, none]) dX10_spy_18 (by decide) rfl rfl ?_
      refine ww_aload_n hX (pc := 19) dX10_spy_19 rfl ?_
      refine ww_getR hX (pc := 20) fX10_10 (by decide) (xs_0 hL) (xr_0_0 hL) dX10_spy_20 ?_
      refine vI0 hX (pc := 23) sX10_151 (xs_1 hL) (c_X1_full l0 hL hC.1) (by decide) (Nat.le_refl 0) (Nat.le_refl 0) (Nat.le_of_ble_eq_true rfl) dX10_spy_23 (fun x_23 I_23 J_23 h_23 => ?_)
      obtain ⟨rfl, rfl, h_23⟩ := h_23
      refine ww_istore_n hX (pc := 26) (lv' := [some (kR (some 0)), some (kI a), some (kI 0), some (kI x_23), none]) dX10_spy_26 (by decide) rfl rfl ?_
      refine ww_iconst hX (pc := 27) (x := 0) dX10_spy_27 rfl ?_
      refine ww_istore hX (pc := 28) (lv' := [some (kR (some 0)), some (kI a), some (kI 0), some (kI x_23), some (kI 0)]) dX10_spy_28 (by decide) rfl rfl ?_
      have hl_30 : ∀ (n_30 : Nat) (g : Int) (i : Int), (256 - i).toNat = n_30 → (0 ≤ i ∧ i ≤ 256) → WW X 30 [some (kR (some 0)), some (kI a), some (kI g), some (kI x_23), some (kI i)] [] Ia Ja Ra Sa 0 0 := by
        intro n_30
        induction n_30 using Nat.strongRecOn with
        | ind n_30 ih_30 =>
          intro g i hm_30 hv_30
          obtain ⟨hi0, hi1⟩ := hv_30
          refine ww_iload hX (pc := 30) dX10_spy_30 rfl ?_
          refine ww_iload_n hX (pc := 32) dX10_spy_32 rfl ?_
          refine ww_icmp_gt hX (pc := 33) (tgt := 63) dX10_spy_33 (by decide) (fun h_33 => ?_) (fun h_33 => ?_)
          · simp only [w32_mod] at h_33
            refine ww_iload_n hX (pc := 63) dX10_spy_63 rfl ?_
            refine rI hX (pc := 64) hT (Nat.le_refl 0) (Nat.le_refl 0) dX10_spy_64 ?_
            exact ⟨(Kp_rf (a := 0) (b := 49)), (Kp_rf (a := 0) (b := 49)), hC⟩
          · simp only [w32_mod] at h_33
            refine ww_iload hX (pc := 36) dX10_spy_36 rfl ?_
            refine sI1 hX (pc := 38) sX10_242 (c_J6_bitCount_0f7a4 l0) (by decide) (Nat.le_refl 0) (Nat.le_refl 0) (Nat.le_of_ble_eq_true rfl) dX10_spy_38 (fun x_38 I_38 J_38 h_38 => ?_)
            obtain ⟨rfl, rfl, h_38⟩ := h_38
            refine ww_iload_n hX (pc := 41) dX10_spy_41 rfl ?_
            refine ww_icmp_ne hX (pc := 42) (tgt := 57) dX10_spy_42 (by decide) (fun h_42 => ?_) (fun h_42 => ?_)
            · simp only [w32_mod] at h_42
              refine ww_iinc hX (pc := 57) (lv' := [some (kR (some 0)), some (kI a), some (kI g), some (kI x_23), some (kI (i + 1))]) dX10_spy_57 rfl (by decide) rfl rfl ?_
              refine ww_goto hX (pc := 60) (tgt := 30) dX10_spy_60 (by decide) ?_
              exact ih_30 _ (by omega) g (i + 1) rfl ⟨by omega, by omega⟩
            · simp only [w32_mod] at h_42
              refine ww_iload_n hX (pc := 45) dX10_spy_45 rfl ?_
              refine ww_aload_n hX (pc := 46) dX10_spy_46 rfl ?_
              refine ww_getR hX (pc := 47) fX10_10 (by decide) (xs_0 hL) (xr_0_0 hL) dX10_spy_47 ?_
              refine ww_iload hX (pc := 50) dX10_spy_50 rfl ?_
              refine vI1 hX (pc := 52) sX10_269 (xs_1 hL) (c_X1_newsBit l0 hL hC.1 (by omega) (by omega)) (by decide) (Nat.le_refl 0) (Nat.le_refl 0) (Nat.le_of_ble_eq_true rfl) dX10_spy_52 (fun x_52 I_52 J_52 h_52 => ?_)
              obtain ⟨rfl, rfl, h_52⟩ := h_52
              refine ww_ior hX (pc := 55) dX10_spy_55 ?_
              refine ww_nmI (fun v_56 hv_56 => ?_)
              refine ww_istore_n hX (pc := 56) (lv' := [some (kR (some 0)), some (kI a), some (kI v_56), some (kI x_23), some (kI i)]) dX10_spy_56 (by decide) rfl rfl ?_
              refine ww_iinc hX (pc := 57) (lv' := [some (kR (some 0)), some (kI a), some (kI v_56), some (kI x_23), some (kI (i + 1))]) dX10_spy_57 rfl (by decide) rfl rfl ?_
              refine ww_goto hX (pc := 60) (tgt := 30) dX10_spy_60 (by decide) ?_
              exact ih_30 _ (by omega) v_56 (i + 1) rfl ⟨by omega, by omega⟩
      exact hl_30 _ 0 0 rfl ⟨by omega, by omega⟩
    · simp only [w32_mod] at h_12
      refine ww_iconst hX (pc := 15) (x := (-1)) dX10_spy_15 rfl ?_
      refine rI hX (pc := 16) hT (Nat.le_refl 0) (Nat.le_refl 0) dX10_spy_16 ?_
      exact ⟨(Kp_rf (a := 0) (b := 49)), (Kp_rf (a := 0) (b := 49)), hC⟩
set_option maxHeartbeats 4000000 in
set_option maxRecDepth 20000 in
theorem c_X10_judge (l0 : Launch) {Ia Ja : aI1} {Ra : aR1} {Sa : aS1} (hL : LY Ra Sa) (hC : CX Ia) {a : Int} (ha0 : -2147483648 ≤ a) (ha1 : a < 2147483648)  : CT l0 10 0 0 mX10_judge [kR (some 0), kI a] Ia Ja Ra Sa (cI (fun x I' J' => Kp 0 49 Ia I' ∧ Kp 0 49 Ja J' ∧ CX I') Ra Sa) := by
  refine ct_in pn_X10 (Nat.le_of_ble_eq_true rfl) (fun X hX hT hIn => ?_)
  have hX : aK l0 X cX10_judge 5 RX10 (some .int) 10 0 0 := hX
  change WW X 0 [some (kR (some 0)), some (kI a), none, none, none] [] Ia Ja Ra Sa 0 0
  have hI := hC.1
  have hq := XI_o hI
  refine ww_iload_n hX (pc := 0) dX10_judge_0 rfl ?_
  refine sI1 hX (pc := 1) sX10_188 (c_X10_isManner l0 (by omega) (by omega)) (by decide) (Nat.le_refl 0) (Nat.le_refl 0) (Nat.le_of_ble_eq_true rfl) dX10_judge_1 (fun x_1 I_1 J_1 h_1 => ?_)
  obtain ⟨rfl, rfl, h_1⟩ := h_1
  refine ww_if_ne hX (pc := 4) (tgt := 9) dX10_judge_4 (by decide) (fun h_4 => ?_) (fun h_4 => ?_)
  · simp only [w32_mod] at h_4
    refine ww_aload_n hX (pc := 9) dX10_judge_9 rfl ?_
    refine ww_getR hX (pc := 10) fX10_48 (by decide) (xs_0 hL) (xr_0_5 hL) dX10_judge_10 ?_
    refine ww_iload_n hX (pc := 13) dX10_judge_13 rfl ?_
    refine vV1 hX (pc := 14) sX10_191 (xs_18 hL) (c_X4_prepare l0 hL hC.1) (by decide) (Nat.le_refl 0) (Nat.le_refl 0) (Nat.le_of_ble_eq_true rfl) dX10_judge_14 (fun I_14 J_14 h_14 => ?_)
    have kI_14 : Kp 0 49 Ia I_14 := Kp_tr (Kp_rf (a := 0) (b := 49)) (Kp_wd h_14.1 (by decide) (by decide))
    have kJ_14 : Kp 0 49 Ja J_14 := Kp_tr (Kp_rf (a := 0) (b := 49)) (Kp_wd h_14.2.1 (by decide) (by decide))
    have cI_14 : CX I_14 := CX_kp hC h_14.1 (by decide) (by decide)
    have qI_14 := XI_o cI_14.1
    have r5_I_14 : I_14 1 5 = Ia 1 5 := by rw [h_14.1 1 (by decide)]
    have r6_I_14 : I_14 1 6 = Ia 1 6 := by rw [h_14.1 1 (by decide)]
    have r8_I_14 : I_14 1 8 = Ia 1 8 := by rw [h_14.1 1 (by decide)]
    have r9_I_14 : I_14 1 9 = Ia 1 9 := by rw [h_14.1 1 (by decide)]
    have r10_I_14 : I_14 1 10 = Ia 1 10 := by rw [h_14.1 1 (by decide)]
    have r11_I_14 : I_14 1 11 = Ia 1 11 := by rw [h_14.1 1 (by decide)]
    have rf_I_14 : FU (I_14 1 5) = FU (Ia 1 5) := by rw [r5_I_14]
    refine ww_iconst hX (pc := 17) (x := 0) dX10_judge_17 rfl ?_
    refine ww_istore_n hX (pc := 18) (lv' := [some (kR (some 0)), some (kI a), some (kI 0), none, none]) dX10_judge_18 (by decide) rfl rfl ?_
    refine ww_iconst hX (pc := 19) (x := 0) dX10_judge_19 rfl ?_
    refine ww_istore_n hX (pc := 20) (lv' := [some (kR (some 0)), some (kI a), some (kI 0), some (kI 0), none]) dX10_judge_20 (by decide) rfl rfl ?_
    have hl_21 : ∀ (n_21 : Nat) (pv : Int) (i : Int) (I2 : aI1) (J2 : aI1), (30 - i).toNat = n_21 → (Kp 0 49 Ia I2 ∧ Kp 0 49 Ja J2 ∧ CX I2 ∧ (I2 1 5 = I_14 1 5 ∧ I2 1 6 = I_14 1 6) ∧ ((0 ≤ i ∧ i ≤ 30) ∧ (-2147483648 ≤ pv ∧ pv < 2147483648) ∧ I2 0 12 = I_14 0 12)) → WW X 21 [some (kR (some 0)), some (kI a), some (kI pv), some (kI i), none] [] I2 J2 Ra Sa 0 0 := by
      intro n_21
      induction n_21 using Nat.strongRecOn with
      | ind n_21 ih_21 =>
        intro pv i I2 J2 hm_21 hv_21
        obtain ⟨kI2, kJ2, cI2, hI20, ⟨hi, hpv, h012⟩⟩ := hv_21
        have qI2 := XI_o cI2.1
        have rfI2 := congrArg FU hI20.1
        refine ww_iload_n hX (pc := 21) dX10_judge_21 rfl ?_
        refine ww_aload_n hX (pc := 22) dX10_judge_22 rfl ?_
        refine ww_getI hX (pc := 23) fX10_256 (by decide) (xs_0 hL) dX10_judge_23 ?_
        refine ww_icmp_ge hX (pc := 26) (tgt := 62) dX10_judge_26 (by decide) (fun h_26 => ?_) (fun h_26 => ?_)
        · simp only [w32_mod] at h_26
          refine ww_iconst hX (pc := 62) (x := (-1)) dX10_judge_62 rfl ?_
          refine rI hX (pc := 63) hT (Nat.le_refl 0) (Nat.le_refl 0) dX10_judge_63 ?_
          exact ⟨kI2, kJ2, cI2⟩
        · simp only [w32_mod] at h_26
          refine ww_aload_n hX (pc := 29) dX10_judge_29 rfl ?_
          refine ww_getR hX (pc := 30) fX10_75 (by decide) (xs_0 hL) (xr_0_9 hL) dX10_judge_30 ?_
          refine ww_iload_n hX (pc := 33) dX10_judge_33 rfl ?_
          refine ww_iald hX (pc := 34) (xs_46 hL) (by decide) (by omega) (by omega) dX10_judge_34 ?_
          refine ww_w32 ?_
          refine ww_nmI (fun tv htv => ?_)
          have htv2 := w32_r (I2 46 i.toNat)
          refine ww_nmI (fun v_35 hv_35 => ?_)
          refine ww_istore hX (pc := 35) (lv' := [some (kR (some 0)), some (kI a), some (kI pv), some (kI i), some (kI v_35)]) dX10_judge_35 (by decide) rfl rfl ?_
          refine ww_aload_n hX (pc := 37) dX10_judge_37 rfl ?_
          refine ww_getR hX (pc := 38) fX10_48 (by decide) (xs_0 hL) (xr_0_5 hL) dX10_judge_38 ?_
          refine ww_iload_n hX (pc := 41) dX10_judge_41 rfl ?_
          refine ww_iload hX (pc := 42) dX10_judge_42 rfl ?_
          refine ww_iload_n hX (pc := 44) dX10_judge_44 rfl ?_
          refine vI3 hX (pc := 45) sX10_259 (xs_18 hL) (c_X4_wouldLight l0 hL cI2.1 (by omega) (by omega) (by omega) (by omega)) (by decide) (Nat.le_refl 0) (Nat.le_refl 0) (Nat.le_of_ble_eq_true rfl) dX10_judge_45 (fun x_45 I_45 J_45 h_45 => ?_)
          have kI_45 : Kp 0 49 Ia I_45 := Kp_tr kI2 (Kp_wd h_45.1 (by decide) (by decide))
          have kJ_45 : Kp 0 49 Ja J_45 := Kp_tr kJ2 (Kp_wd h_45.2.1 (by decide) (by decide))
          have cI_45 : CX I_45 := CX_kp cI2 h_45.1 (by decide) (by decide)
          have qI_45 := XI_o cI_45.1
          have r5_I_45 : I_45 1 5 = I2 1 5 := by rw [h_45.1 1 (by decide)]
          have r6_I_45 : I_45 1 6 = I2 1 6 := by rw [h_45.1 1 (by decide)]
          have r8_I_45 : I_45 1 8 = I2 1 8 := by rw [h_45.1 1 (by decide)]
          have r9_I_45 : I_45 1 9 = I2 1 9 := by rw [h_45.1 1 (by decide)]
          have r10_I_45 : I_45 1 10 = I2 1 10 := by rw [h_45.1 1 (by decide)]
          have r11_I_45 : I_45 1 11 = I2 1 11 := by rw [h_45.1 1 (by decide)]
          have rf_I_45 : FU (I_45 1 5) = FU (I2 1 5) := by rw [r5_I_45]
          refine ww_if_ne hX (pc := 48) (tgt := 53) dX10_judge_48 (by decide) (fun h_48 => ?_) (fun h_48 => ?_)
          · simp only [w32_mod] at h_48
            refine ww_iload hX (pc := 53) dX10_judge_53 rfl ?_
            refine ww_istore_n hX (pc := 55) (lv' := [some (kR (some 0)), some (kI a), some (kI v_35), some (kI i), some (kI v_35)]) dX10_judge_55 (by decide) rfl rfl ?_
            refine ww_iinc hX (pc := 56) (lv' := [some (kR (some 0)), some (kI a), some (kI v_35), some (kI (i + 1)), some (kI v_35)]) dX10_judge_56 rfl (by decide) rfl rfl ?_
            refine ww_goto hX (pc := 59) (tgt := 21) dX10_judge_59 (by decide) ?_
            refine ww_sub [some (kR (some 0)), some (kI a), some (kI v_35), some (kI (i + 1)), none] (aLe_s (aLe_s (aLe_s (aLe_s (aLe_n aLe_0))))) ?_
            exact ih_21 _ (by omega) v_35 (i + 1) I_45 J_45 rfl ⟨kI_45, kJ_45, cI_45, ⟨by omega, by omega⟩, ⟨⟨by omega, by omega⟩, ⟨by omega, by omega⟩, by first | rfl | (rw [h_45.1 0 (by decide)]; exact h012)⟩⟩
          · simp only [w32_mod] at h_48
            refine ww_iload_n hX (pc := 51) dX10_judge_51 rfl ?_
            refine rI hX (pc := 52) hT (Nat.le_refl 0) (Nat.le_refl 0) dX10_judge_52 ?_
            exact ⟨kI_45, kJ_45, cI_45⟩
    exact hl_21 _ 0 0 I_14 J_14 rfl ⟨kI_14, kJ_14, cI_14, ⟨by omega, by omega⟩, ⟨⟨by omega, by omega⟩, ⟨by omega, by omega⟩, by first | rfl | (rw [h_45.1 0 (by decide)]; exact h012)⟩⟩
  · simp only [w32_mod] at h_4
    refine ww_iconst hX (pc := 7) (x := (-1)) dX10_judge_7 rfl ?_
    refine rI hX (pc := 8) hT (Nat.le_refl 0) (Nat.le_refl 0) dX10_judge_8 ?_
    exact ⟨(Kp_rf (a := 0) (b := 49)), (Kp_rf (a := 0) (b := 49)), hC⟩
