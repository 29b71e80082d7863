set_option maxHeartbeats 4000000 in
set_option maxRecDepth 20000 in
theorem c8_X10_lasts (l0 : Launch) {Ia Ja : aI1} {Ra : aR1} {Sa : aS1} (hL : LY Ra Sa) (hC : CX Ia) (hF : FRk Ia Ja) {a : Int} (ha0 : -2147483648 ≤ a) (ha1 : a < 2147483648)  : CT l0 10 0 0 mX10_lasts [kR (some 0), kI a] Ia Ja Ra Sa (cI (fun x I' J' => (Kp 0 49 Ia I' ∧ Kp 0 49 Ja J' ∧ CX I' ∧ Fw [18, 19, 20, 21, 22, 23, 24, 25, 26, 27, 28, 29, 30] [] Ia I' ∧ ((0 ≤ a ∧ a ≤ FU (Ia 1 5)) → ∃ L, zLV (Ia 3) (Ia 1 7) (FU (Ia 1 5) + 1) (Ia 1 6) (-1) L ∧ x = L a.toNat) ∧ (¬ (0 ≤ a ∧ a ≤ FU (Ia 1 5)) → x = -1)) ∧ FRk I' J') Ra Sa) := by
  refine ct_in pn_X10 (Nat.le_of_ble_eq_true rfl) (fun X hX hT hIn => ?_)
  have hX : aK l0 X cX10_lasts 2 RX10 (some .int) 10 0 0 := hX
  change WW X 0 [some (kR (some 0)), some (kI a)] [] Ia Ja Ra Sa 0 0
  have hI := hC.1
  have hq := XI_o hI
  refine ww_aload_n hX (pc := 0) dX10_lasts_0 rfl ?_
  refine ww_getR hX (pc := 1) fX10_10 (by decide) (xs_0 hL) (xr_0_0 hL) dX10_lasts_1 ?_
  refine ww_iload_n hX (pc := 4) dX10_lasts_4 rfl ?_
  refine vI1 hX (pc := 5) sX10_131 (xs_1 hL) (c_X1_isState l0 hL hC.1 (by omega)) (by decide) (Nat.le_refl 0) (Nat.le_refl 0) (Nat.le_of_ble_eq_true rfl) dX10_lasts_5 (fun x_5 I_5 J_5 h_5 => ?_)
  obtain ⟨rfl, rfl, h_5⟩ := h_5
  refine ww_if_eq hX (pc := 8) (tgt := 22) dX10_lasts_8 (by decide) (fun h_8 => ?_) (fun h_8 => ?_)
  · simp only [w32_mod] at h_8
    refine ww_iconst hX (pc := 22) (x := (-1)) dX10_lasts_22 rfl ?_
    refine rI hX (pc := 23) hT (Nat.le_refl 0) (Nat.le_refl 0) dX10_lasts_23 ?_
    exact ⟨⟨(Kp_rf (a := 0) (b := 49)), (Kp_rf (a := 0) (b := 49)), hC, Fw_rf, (fun h9 => absurd h9 (by omega)), (fun _ => rfl)⟩, hF⟩
  · simp only [w32_mod] at h_8
    have k_5 := h_5.2.mp (by omega)
    clear h_5
    refine ww_aload_n hX (pc := 11) dX10_lasts_11 rfl ?_
    refine ww_getR hX (pc := 12) fX10_48 (by decide) (xs_0 hL) (xr_0_5 hL) dX10_lasts_12 ?_
    refine ww_iload_n hX (pc := 15) dX10_lasts_15 rfl ?_
    refine vI1 hX (pc := 16) sX10_201 (xs_18 hL) (n8_X4_lastingOf l0 hL hC.1 hF (by omega) (by omega)) (by decide) (Nat.le_refl 0) (Nat.le_refl 0) (Nat.le_of_ble_eq_true rfl) dX10_lasts_16 (fun x_16 I_16 J_16 h_16 => ?_)
    have kI_16 : Kp 0 49 Ia I_16 := Kp_tr (Kp_rf (a := 0) (b := 49)) (Kp_wd h_16.1 (by decide) (by decide))
    have kJ_16 : Kp 0 49 Ja J_16 := Kp_tr (Kp_rf (a := 0) (b := 49)) (Kp_wd h_16.2.1 (by decide) (by decide))
    have cI_16 : CX I_16 := CX_kp hC h_16.1 (by decide) (by decide)
    have qI_16 := XI_o cI_16.1
    have r5_I_16 : I_16 1 5 = Ia 1 5 := by rw [h_16.1 1 (by decide)]
    have r6_I_16 : I_16 1 6 = Ia 1 6 := by rw [h_16.1 1 (by decide)]
    have r8_I_16 : I_16 1 8 = Ia 1 8 := by rw [h_16.1 1 (by decide)]
    have r9_I_16 : I_16 1 9 = Ia 1 9 := by rw [h_16.1 1 (by decide)]
    have r10_I_16 : I_16 1 10 = Ia 1 10 := by rw [h_16.1 1 (by decide)]
    have r11_I_16 : I_16 1 11 = Ia 1 11 := by rw [h_16.1 1 (by decide)]
    have rf_I_16 : FU (I_16 1 5) = FU (Ia 1 5) := by rw [r5_I_16]
    have wI_16 : Fw [18, 19, 20, 21, 22, 23, 24, 25, 26, 27, 28, 29, 30] [] Ia I_16 := Fw_kp Fw_rf h_16.1 (by decide)
    have r7_I_16 : I_16 1 7 = Ia 1 7 := by rw [h_16.1 1 (by decide)]
    have frI_16 : FRk I_16 J_16 := h_16.2.2.1
    refine ww_goto hX (pc := 19) (tgt := 23) dX10_lasts_19 (by decide) ?_
    refine rI hX (pc := 23) hT (Nat.le_refl 0) (Nat.le_refl 0) dX10_lasts_23 ?_
    exact ⟨⟨kI_16, kJ_16, cI_16, (Fw_wd wI_16 (by decide) (by decide)), (fun _ => h_16.2.2.2), (fun h9 => absurd (by omega) h9)⟩, frI_16⟩
set_option maxHeartbeats 4000000 in
set_option maxRecDepth 20000 in
theorem c8_X10_mean (l0 : Launch) {Ia Ja : aI1} {Ra : aR1} {Sa : aS1} (hL : LY Ra Sa) (hC : CX Ia) (hF : FRk Ia Ja) {a b : Int} (ha0 : -2147483648 ≤ a) (ha1 : a < 2147483648) (hb0 : -2147483648 ≤ b) (hb1 : b < 2147483648) (hK : ∀ s : Nat, (s : Int) ≤ FU (Ia 1 5) → Ia 3 s < Ia 1 6)  : CT l0 10 0 0 mX10_mean [kR (some 0), kI a, kI b] Ia Ja Ra Sa (cJ (fun x I' J' => (Kp 0 49 Ia I' ∧ Kp 0 49 Ja J' ∧ CX I' ∧ Fw [18, 19, 20, 21, 22, 23, 24, 25, 26, 27, 28, 29, 30] [] Ia I' ∧ ((0 ≤ a ∧ a ≤ FU (Ia 1 5) ∧ 0 ≤ b ∧ b ≤ 1) → ∃ T, MTc (Ia 3) (Ia 1 7) (Ia 1 5) (Ia 1 6) T ∧ x = mPt (T a.toNat) (blw (Ia 3) (Ia 1 6) a.toNat) (if b = 0 then 1 else 0)) ∧ (¬ (0 ≤ a ∧ a ≤ FU (Ia 1 5) ∧ 0 ≤ b ∧ b ≤ 1) → x = -1)) ∧ FRk I' J') Ra Sa) := by
  refine ct_in pn_X10 (Nat.le_of_ble_eq_true rfl) (fun X hX hT hIn => ?_)
  have hX : aK l0 X cX10_mean 3 RX10 (some .long) 10 0 0 := hX
  change WW X 0 [some (kR (some 0)), some (kI a), some (kI b)] [] Ia Ja Ra Sa 0 0
  have hI := hC.1
  have hq := XI_o hI
  refine ww_aload_n hX (pc := 0) dX10_mean_0 rfl ?_
  refine ww_getR hX (pc := 1) fX10_10 (by decide) (xs_0 hL) (xr_0_0 hL) dX10_mean_1 ?_
  refine ww_iload_n hX (pc := 4) dX10_mean_4 rfl ?_
  refine vI1 hX (pc := 5) sX10_131 (xs_1 hL) (c_X1_isState l0 hL hC.1 (by omega)) (by decide) (Nat.le_refl 0) (Nat.le_refl 0) (Nat.le_of_ble_eq_true rfl) dX10_mean_5 (fun x_5 I_5 J_5 h_5 => ?_)
  obtain ⟨rfl, rfl, h_5⟩ := h_5
  refine ww_if_eq hX (pc := 8) (tgt := 20) dX10_mean_8 (by decide) (fun h_8 => ?_) (fun h_8 => ?_)
  · simp only [w32_mod] at h_8
    refine ww_ldc2 hX (pc := 20) (x := (-1)) dX10_mean_20 tb_810 ?_
    refine rJ hX (pc := 23) hT (Nat.le_refl 0) (Nat.le_refl 0) dX10_mean_23 ?_
    exact ⟨⟨(Kp_rf (a := 0) (b := 49)), (Kp_rf (a := 0) (b := 49)), hC, Fw_rf, (fun h9 => absurd h9 (by omega)), (fun _ => rfl)⟩, hF⟩
  · simp only [w32_mod] at h_8
    have k_5 := h_5.2.mp (by omega)
    clear h_5
    refine ww_iload_n hX (pc := 11) dX10_mean_11 rfl ?_
    refine ww_if_lt hX (pc := 12) (tgt := 20) dX10_mean_12 (by decide) (fun h_12 => ?_) (fun h_12 => ?_)
    · simp only [w32_mod] at h_12
      refine ww_ldc2 hX (pc := 20) (x := (-1)) dX10_mean_20 tb_810 ?_
      refine rJ hX (pc := 23) hT (Nat.le_refl 0) (Nat.le_refl 0) dX10_mean_23 ?_
      exact ⟨⟨(Kp_rf (a := 0) (b := 49)), (Kp_rf (a := 0) (b := 49)), hC, Fw_rf, (fun h9 => absurd h9 (by omega)), (fun _ => rfl)⟩, hF⟩
    · simp only [w32_mod] at h_12
      refine ww_iload_n hX (pc := 15) dX10_mean_15 rfl ?_
      refine ww_iconst hX (pc := 16) (x := 1) dX10_mean_16 rfl ?_
      refine ww_icmp_le hX (pc := 17) (tgt := 24) dX10_mean_17 (by decide) (fun h_17 => ?_) (fun h_17 => ?_)
      · simp only [w32_mod] at h_17
        refine ww_aload_n hX (pc := 24) dX10_mean_24 rfl ?_
        refine ww_getR hX (pc := 25) fX10_48 (by decide) (xs_0 hL) (xr_0_5 hL) dX10_mean_25 ?_
        refine ww_iload_n hX (pc := 28) dX10_mean_28 rfl ?_
        refine ww_iload_n hX (pc := 29) dX10_mean_29 rfl ?_
        refine ww_if_ne hX (pc := 30) (tgt := 37) dX10_mean_30 (by decide) (fun h_30 => ?_) (fun h_30 => ?_)
        · simp only [w32_mod] at h_30
          refine ww_iconst hX (pc := 37) (x := 0) dX10_mean_37 rfl ?_
          refine vJ2 hX (pc := 38) sX10_206 (xs_18 hL) (n8_X4_meanPart l0 hL hC.1 hF hK (by omega) (by omega) (by omega) (by omega)) (by decide) (Nat.le_refl 0) (Nat.le_refl 0) (Nat.le_of_ble_eq_true rfl) dX10_mean_38 (fun x_38 I_38 J_38 h_38 => ?_)
          have kI_38 : Kp 0 49 Ia I_38 := Kp_tr (Kp_rf (a := 0) (b := 49)) (Kp_wd h_38.1 (by decide) (by decide))
          have kJ_38 : Kp 0 49 Ja J_38 := Kp_tr (Kp_rf (a := 0) (b := 49)) (Kp_wd h_38.2.1 (by decide) (by decide))
          have cI_38 : CX I_38 := CX_kp hC h_38.1 (by decide) (by decide)
          have qI_38 := XI_o cI_38.1
          have r5_I_38 : I_38 1 5 = Ia 1 5 := by rw [h_38.1 1 (by decide)]
          have r6_I_38 : I_38 1 6 = Ia 1 6 := by rw [h_38.1 1 (by decide)]
          have r8_I_38 : I_38 1 8 = Ia 1 8 := by rw [h_38.1 1 (by decide)]
          have r9_I_38 : I_38 1 9 = Ia 1 9 := by rw [h_38.1 1 (by decide)]
          have r10_I_38 : I_38 1 10 = Ia 1 10 := by rw [h_38.1 1 (by decide)]
          have r11_I_38 : I_38 1 11 = Ia 1 11 := by rw [h_38.1 1 (by decide)]
          have rf_I_38 : FU (I_38 1 5) = FU (Ia 1 5) := by rw [r5_I_38]
          have wI_38 : Fw [18, 19, 20, 21, 22, 23, 24, 25, 26, 27, 28, 29, 30] [] Ia I_38 := Fw_kp Fw_rf h_38.1 (by decide)
          have r7_I_38 : I_38 1 7 = Ia 1 7 := by rw [h_38.1 1 (by decide)]
          have frI_38 : FRk I_38 J_38 := h_38.2.2.1
          refine rJ hX (pc := 41) hT (Nat.le_refl 0) (Nat.le_refl 0) dX10_mean_41 ?_
          exact ⟨⟨kI_38, kJ_38, cI_38, (Fw_wd wI_38 (by decide) (by decide)), (fun _ => by
                obtain ⟨T, g1, g2⟩ := h_38.2.2.2
                refine ⟨T, g1, ?_⟩
                first
                | rw [if_pos (by omega)]; exact g2
                | rw [if_neg (by omega)]; exact g2), (fun h9 => absurd (by omega) h9)⟩, frI_38⟩
        · simp only [w32_mod] at h_30
          refine ww_iconst hX (pc := 33) (x := 1) dX10_mean_33 rfl ?_
          refine ww_goto hX (pc := 34) (tgt := 38) dX10_mean_34 (by decide) ?_
          refine vJ2 hX (pc := 38) sX10_206 (xs_18 hL) (n8_X4_meanPart l0 hL hC.1 hF hK (by omega) (by omega) (by omega) (by omega)) (by decide) (Nat.le_refl 0) (Nat.le_refl 0) (Nat.le_of_ble_eq_true rfl) dX10_mean_38 (fun x_38 I_38 J_38 h_38 => ?_)
          have kI_38 : Kp 0 49 Ia I_38 := Kp_tr (Kp_rf (a := 0) (b := 49)) (Kp_wd h_38.1 (by decide) (by decide))
          have kJ_38 : Kp 0 49 Ja J_38 := Kp_tr (Kp_rf (a := 0) (b := 49)) (Kp_wd h_38.2.1 (by decide) (by decide))
          have cI_38 : CX I_38 := CX_kp hC h_38.1 (by decide) (by decide)
          have qI_38 := XI_o cI_38.1
          have r5_I_38 : I_38 1 5 = Ia 1 5 := by rw [h_38.1 1 (by decide)]
          have r6_I_38 : I_38 1 6 = Ia 1 6 := by rw [h_38.1 1 (by decide)]
          have r8_I_38 : I_38 1 8 = Ia 1 8 := by rw [h_38.1 1 (by decide)]
          have r9_I_38 : I_38 1 9 = Ia 1 9 := by rw [h_38.1 1 (by decide)]
          have r10_I_38 : I_38 1 10 = Ia 1 10 := by rw [h_38.1 1 (by decide)]
          have r11_I_38 : I_38 1 11 = Ia 1 11 := by rw [h_38.1 1 (by decide)]
          have rf_I_38 : FU (I_38 1 5) = FU (Ia 1 5) := by rw [r5_I_38]
          have wI_38 : Fw [18, 19, 20, 21, 22, 23, 24, 25, 26, 27, 28, 29, 30] [] Ia I_38 := Fw_kp Fw_rf h_38.1 (by decide)
          have r7_I_38 : I_38 1 7 = Ia 1 7 := by rw [h_38.1 1 (by decide)]
          have frI_38 : FRk I_38 J_38 := h_38.2.2.1
          refine rJ hX (pc := 41) hT (Nat.le_refl 0) (Nat.le_refl 0) dX10_mean_41 ?_
          exact ⟨⟨kI_38, kJ_38, cI_38, (Fw_wd wI_38 (by decide) (by decide)), (fun _ => by
                obtain ⟨T, g1, g2⟩ := h_38.2.2.2
                refine ⟨T, g1, ?_⟩
                first
                | rw [if_pos (by omega)]; exact g2
                | rw [if_neg (by omega)]; exact g2), (fun h9 => absurd (by omega) h9)⟩, frI_38⟩
      · simp only [w32_mod] at h_17
        refine ww_ldc2 hX (pc := 20) (x := (-1)) dX10_mean_20 tb_810 ?_
        refine rJ hX (pc := 23) hT (Nat.le_refl 0) (Nat.le_refl 0) dX10_mean_23 ?_
        exact ⟨⟨(Kp_rf (a := 0) (b := 49)), (Kp_rf (a := 0) (b := 49)), hC, Fw_rf, (fun h9 => absurd h9 (by omega)), (fun _ => rfl)⟩, hF⟩
