set_option maxHeartbeats 4000000 in
set_option maxRecDepth 20000 in
theorem c5_X10_torn (l0 : Launch) {Ia Ja : aI1} {Ra : aR1} {Sa : aS1} (hL : LY Ra Sa) (hC : CX Ia)  : CT l0 10 0 0 mX10_torn [kR (some 0)] Ia Ja Ra Sa (cI (fun x I' J' => Kp 0 49 Ia I' ∧ Kp 0 49 Ja J' ∧ CX I' ∧ Fw [] [] Ia I' ∧ x = Ia 0 15) Ra Sa) := by
  refine ct_in pn_X10 (Nat.le_of_ble_eq_true rfl) (fun X hX hT hIn => ?_)
  have hX : aK l0 X cX10_torn 1 RX10 (some .int) 10 0 0 := hX
  change WW X 0 [some (kR (some 0))] [] Ia Ja Ra Sa 0 0
  have hI := hC.1
  have hq := XI_o hI
  refine ww_aload_n hX (pc := 0) dX10_torn_0 rfl ?_
  refine ww_getI hX (pc := 1) fX10_164 (by decide) (xs_0 hL) dX10_torn_1 ?_
  refine rI hX (pc := 4) hT (Nat.le_refl 0) (Nat.le_refl 0) dX10_torn_4 ?_
  exact ⟨(Kp_rf (a := 0) (b := 49)), (Kp_rf (a := 0) (b := 49)), hC, Fw_rf, rfl⟩
set_option maxHeartbeats 4000000 in
set_option maxRecDepth 20000 in
theorem c5_X10_fault (l0 : Launch) {Ia Ja : aI1} {Ra : aR1} {Sa : aS1} (hL : LY Ra Sa) (hC : CX Ia)  : CT l0 10 0 0 mX10_fault [kR (some 0)] Ia Ja Ra Sa (cI (fun x I' J' => Kp 0 49 Ia I' ∧ Kp 0 49 Ja J' ∧ CX I' ∧ Fw [] [] Ia I' ∧ True) Ra Sa) := by
  refine ct_in pn_X10 (Nat.le_of_ble_eq_true rfl) (fun X hX hT hIn => ?_)
  have hX : aK l0 X cX10_fault 1 RX10 (some .int) 10 0 0 := hX
  change WW X 0 [some (kR (some 0))] [] Ia Ja Ra Sa 0 0
  have hI := hC.1
  have hq := XI_o hI
  refine ww_aload_n hX (pc := 0) dX10_fault_0 rfl ?_
  refine ww_getR hX (pc := 1) fX10_32 (by decide) (xs_0 hL) (xr_0_3 hL) dX10_fault_1 ?_
  refine ww_getI hX (pc := 4) fX10_181 (by decide) (xs_10 hL) dX10_fault_4 ?_
  refine rI hX (pc := 7) hT (Nat.le_refl 0) (Nat.le_refl 0) dX10_fault_7 ?_
  exact ⟨(Kp_rf (a := 0) (b := 49)), (Kp_rf (a := 0) (b := 49)), hC, Fw_rf, trivial⟩
set_option maxHeartbeats 4000000 in
set_option maxRecDepth 20000 in
theorem c5_X10_status (l0 : Launch) {Ia Ja : aI1} {Ra : aR1} {Sa : aS1} (hL : LY Ra Sa) (hC : CX Ia)  : CT l0 10 0 0 mX10_status [kR (some 0)] Ia Ja Ra Sa (cI (fun x I' J' => Kp 0 49 Ia I' ∧ Kp 0 49 Ja J' ∧ CX I' ∧ Fw [] [] Ia I' ∧ True) Ra Sa) := by
  refine ct_in pn_X10 (Nat.le_of_ble_eq_true rfl) (fun X hX hT hIn => ?_)
  have hX : aK l0 X cX10_status 1 RX10 (some .int) 10 0 0 := hX
  change WW X 0 [some (kR (some 0))] [] Ia Ja Ra Sa 0 0
  have hI := hC.1
  have hq := XI_o hI
  refine ww_aload_n hX (pc := 0) dX10_status_0 rfl ?_
  refine ww_getI hX (pc := 1) fX10_304 (by decide) (xs_0 hL) dX10_status_1 ?_
  refine rI hX (pc := 4) hT (Nat.le_refl 0) (Nat.le_refl 0) dX10_status_4 ?_
  exact ⟨(Kp_rf (a := 0) (b := 49)), (Kp_rf (a := 0) (b := 49)), hC, Fw_rf, trivial⟩
set_option maxHeartbeats 4000000 in
set_option maxRecDepth 20000 in
theorem c5_X10_of (l0 : Launch) {Ia Ja : aI1} {Ra : aR1} {Sa : aS1} (hL : LY Ra Sa) (hC : CX Ia) {a : Int} (ha0 : -2147483648 ≤ a) (ha1 : a < 2147483648)  : CT l0 10 0 0 mX10_of [kR (some 0), kI a] Ia Ja Ra Sa (cI (fun x I' J' => Kp 0 49 Ia I' ∧ Kp 0 49 Ja J' ∧ CX I' ∧ Fw [] [] Ia I' ∧ True) Ra Sa) := by
  refine ct_in pn_X10 (Nat.le_of_ble_eq_true rfl) (fun X hX hT hIn => ?_)
  have hX : aK l0 X cX10_of 2 RX10 (some .int) 10 0 0 := hX
  change WW X 0 [some (kR (some 0)), some (kI a)] [] Ia Ja Ra Sa 0 0
  have hI := hC.1
  have hq := XI_o hI
  refine ww_aload_n hX (pc := 0) dX10_of_0 rfl ?_
  refine ww_getR hX (pc := 1) fX10_10 (by decide) (xs_0 hL) (xr_0_0 hL) dX10_of_1 ?_
  refine ww_iload_n hX (pc := 4) dX10_of_4 rfl ?_
  refine vI1 hX (pc := 5) sX10_131 (xs_1 hL) (c_X1_isState l0 hL hC.1 (by omega)) (by decide) (Nat.le_refl 0) (Nat.le_refl 0) (Nat.le_of_ble_eq_true rfl) dX10_of_5 (fun x_5 I_5 J_5 h_5 => ?_)
  obtain ⟨rfl, rfl, h_5⟩ := h_5
  refine ww_if_eq hX (pc := 8) (tgt := 23) dX10_of_8 (by decide) (fun h_8 => ?_) (fun h_8 => ?_)
  · simp only [w32_mod] at h_8
    refine ww_iconst hX (pc := 23) (x := (-1)) dX10_of_23 rfl ?_
    refine rI hX (pc := 24) hT (Nat.le_refl 0) (Nat.le_refl 0) dX10_of_24 ?_
    exact ⟨(Kp_rf (a := 0) (b := 49)), (Kp_rf (a := 0) (b := 49)), hC, Fw_rf, trivial⟩
  · simp only [w32_mod] at h_8
    have k_5 := h_5.2.mp (by omega)
    clear h_5
    refine ww_aload_n hX (pc := 11) dX10_of_11 rfl ?_
    refine ww_getR hX (pc := 12) fX10_10 (by decide) (xs_0 hL) (xr_0_0 hL) dX10_of_12 ?_
    refine ww_getR hX (pc := 15) fX10_137 (by decide) (xs_1 hL) (xr_1_1 hL) dX10_of_15 ?_
    refine ww_iload_n hX (pc := 18) dX10_of_18 rfl ?_
    refine ww_iald hX (pc := 19) (xs_3 hL) (by decide) (by omega) (by omega) dX10_of_19 ?_
    refine ww_goto hX (pc := 20) (tgt := 24) dX10_of_20 (by decide) ?_
    refine rI hX (pc := 24) hT (Nat.le_refl 0) (Nat.le_refl 0) dX10_of_24 ?_
    exact ⟨(Kp_rf (a := 0) (b := 49)), (Kp_rf (a := 0) (b := 49)), hC, Fw_rf, trivial⟩
set_option maxHeartbeats 4000000 in
set_option maxRecDepth 20000 in
theorem c5_X10_next (l0 : Launch) {Ia Ja : aI1} {Ra : aR1} {Sa : aS1} (hL : LY Ra Sa) (hC : CX Ia) {a b c : Int} (ha0 : -2147483648 ≤ a) (ha1 : a < 2147483648) (hb0 : -2147483648 ≤ b) (hb1 : b < 2147483648) (hc0 : -2147483648 ≤ c) (hc1 : c < 2147483648)  : CT l0 10 0 0 mX10_next [kR (some 0), kI a, kI b, kI c] Ia Ja Ra Sa (cI (fun x I' J' => Kp 0 49 Ia I' ∧ Kp 0 49 Ja J' ∧ CX I' ∧ Fw [18, 19, 20, 21, 22, 23, 24, 25, 26, 27, 28, 29, 30, 31, 32, 33, 34, 35, 36] [] Ia I' ∧ True) Ra Sa) := by
  refine ct_in pn_X10 (Nat.le_of_ble_eq_true rfl) (fun X hX hT hIn => ?_)
  have hX : aK l0 X cX10_next 4 RX10 (some .int) 10 0 0 := hX
  change WW X 0 [some (kR (some 0)), some (kI a), some (kI b), some (kI c)] [] Ia Ja Ra Sa 0 0
  have hI := hC.1
  have hq := XI_o hI
  refine ww_aload_n hX (pc := 0) dX10_next_0 rfl ?_
  refine ww_getR hX (pc := 1) fX10_10 (by decide) (xs_0 hL) (xr_0_0 hL) dX10_next_1 ?_
  refine ww_iload_n hX (pc := 4) dX10_next_4 rfl ?_
  refine vI1 hX (pc := 5) sX10_131 (xs_1 hL) (c_X1_isState l0 hL hC.1 (by omega)) (by decide) (Nat.le_refl 0) (Nat.le_refl 0) (Nat.le_of_ble_eq_true rfl) dX10_next_5 (fun x_5 I_5 J_5 h_5 => ?_)
  obtain ⟨rfl, rfl, h_5⟩ := h_5
  refine ww_if_eq hX (pc := 8) (tgt := 29) dX10_next_8 (by decide) (fun h_8 => ?_) (fun h_8 => ?_)
  · simp only [w32_mod] at h_8
    refine ww_iconst hX (pc := 29) (x := (-1)) dX10_next_29 rfl ?_
    refine rI hX (pc := 30) hT (Nat.le_refl 0) (Nat.le_refl 0) dX10_next_30 ?_
    exact ⟨(Kp_rf (a := 0) (b := 49)), (Kp_rf (a := 0) (b := 49)), hC, Fw_rf, trivial⟩
  · simp only [w32_mod] at h_8
    have k_5 := h_5.2.mp (by omega)
    clear h_5
    refine ww_aload_n hX (pc := 11) dX10_next_11 rfl ?_
    refine ww_getR hX (pc := 12) fX10_10 (by decide) (xs_0 hL) (xr_0_0 hL) dX10_next_12 ?_
    refine ww_iload_n hX (pc := 15) dX10_next_15 rfl ?_
    refine vI1 hX (pc := 16) sX10_134 (xs_1 hL) (c_X1_isNews l0 hL hC.1 (by omega)) (by decide) (Nat.le_refl 0) (Nat.le_refl 0) (Nat.le_of_ble_eq_true rfl) dX10_next_16 (fun x_16 I_16 J_16 h_16 => ?_)
    obtain ⟨rfl, rfl, h_16⟩ := h_16
    refine ww_if_eq hX (pc := 19) (tgt := 29) dX10_next_19 (by decide) (fun h_19 => ?_) (fun h_19 => ?_)
    · simp only [w32_mod] at h_19
      refine ww_iconst hX (pc := 29) (x := (-1)) dX10_next_29 rfl ?_
      refine rI hX (pc := 30) hT (Nat.le_refl 0) (Nat.le_refl 0) dX10_next_30 ?_
      exact ⟨(Kp_rf (a := 0) (b := 49)), (Kp_rf (a := 0) (b := 49)), hC, Fw_rf, trivial⟩
    · simp only [w32_mod] at h_19
      have k_16 := h_16.2.mp (by omega)
      clear h_16
      refine ww_iload_n hX (pc := 22) dX10_next_22 rfl ?_
      refine sI1 hX (pc := 23) sX10_188 (c_X10_isManner l0 (by omega) (by omega)) (by decide) (Nat.le_refl 0) (Nat.le_refl 0) (Nat.le_of_ble_eq_true rfl) dX10_next_23 (fun x_23 I_23 J_23 h_23 => ?_)
      obtain ⟨rfl, rfl, h_23⟩ := h_23
      refine ww_if_ne hX (pc := 26) (tgt := 31) dX10_next_26 (by decide) (fun h_26 => ?_) (fun h_26 => ?_)
      · simp only [w32_mod] at h_26
        have k_23 := h_23.2.mp (by omega)
        clear h_23
        refine ww_aload_n hX (pc := 31) dX10_next_31 rfl ?_
        refine ww_getR hX (pc := 32) fX10_48 (by decide) (xs_0 hL) (xr_0_5 hL) dX10_next_32 ?_
        refine ww_iload_n hX (pc := 35) dX10_next_35 rfl ?_
        refine vV1 hX (pc := 36) sX10_191 (xs_18 hL) (c_X4_prepare l0 hL hC.1) (by decide) (Nat.le_refl 0) (Nat.le_refl 0) (Nat.le_of_ble_eq_true rfl) dX10_next_36 (fun I_36 J_36 h_36 => ?_)
        have kI_36 : Kp 0 49 Ia I_36 := Kp_tr (Kp_rf (a := 0) (b := 49)) (Kp_wd h_36.1 (by decide) (by decide))
        have kJ_36 : Kp 0 49 Ja J_36 := Kp_tr (Kp_rf (a := 0) (b := 49)) (Kp_wd h_36.2.1 (by decide) (by decide))
        have cI_36 : CX I_36 := CX_kp hC h_36.1 (by decide) (by decide)
        have qI_36 := XI_o cI_36.1
        have r5_I_36 : I_36 1 5 = Ia 1 5 := by rw [h_36.1 1 (by decide)]
        have r6_I_36 : I_36 1 6 = Ia 1 6 := by rw [h_36.1 1 (by decide)]
        have r8_I_36 : I_36 1 8 = Ia 1 8 := by rw [h_36.1 1 (by decide)]
        have r9_I_36 : I_36 1 9 = Ia 1 9 := by rw [h_36.1 1 (by decide)]
        have r10_I_36 : I_36 1 10 = Ia 1 10 := by rw [h_36.1 1 (by decide)]
        have r11_I_36 : I_36 1 11 = Ia 1 11 := by rw [h_36.1 1 (by decide)]
        have rf_I_36 : FU (I_36 1 5) = FU (Ia 1 5) := by rw [r5_I_36]
        have wI_36 : Fw [18, 19, 20, 21, 22, 23, 24, 25, 26, 27, 28, 29, 30, 31, 32, 33, 34, 35, 36] [] Ia I_36 := Fw_kp Fw_rf h_36.1 (by decide)
        have r7_I_36 : I_36 1 7 = Ia 1 7 := by rw [h_36.1 1 (by decide)]
        refine ww_aload_n hX (pc := 39) dX10_next_39 rfl ?_
        refine ww_getR hX (pc := 40) fX10_48 (by decide) (xs_0 hL) (xr_0_5 hL) dX10_next_40 ?_
        refine ww_iload_n hX (pc := 43) dX10_next_43 rfl ?_
        refine ww_iload_n hX (pc := 44) dX10_next_44 rfl ?_
        refine ww_iload_n hX (pc := 45) dX10_next_45 rfl ?_
        refine vI3 hX (pc := 46) sX10_194 (xs_18 hL) (c_X4_choose l0 hL cI_36.1 (by omega) (by omega) (by omega) (by omega)) (by decide) (Nat.le_refl 0) (Nat.le_refl 0) (Nat.le_of_ble_eq_true rfl) dX10_next_46 (fun x_46 I_46 J_46 h_46 => ?_)
        have kI_46 : Kp 0 49 Ia I_46 := Kp_tr kI_36 (Kp_wd h_46.1 (by decide) (by decide))
        have kJ_46 : Kp 0 49 Ja J_46 := Kp_tr kJ_36 (Kp_wd h_46.2.1 (by decide) (by decide))
        have cI_46 : CX I_46 := CX_kp cI_36 h_46.1 (by decide) (by decide)
        have qI_46 := XI_o cI_46.1
        have r5_I_46 : I_46 1 5 = I_36 1 5 := by rw [h_46.1 1 (by decide)]
        have r6_I_46 : I_46 1 6 = I_36 1 6 := by rw [h_46.1 1 (by decide)]
        have r8_I_46 : I_46 1 8 = I_36 1 8 := by rw [h_46.1 1 (by decide)]
        have r9_I_46 : I_46 1 9 = I_36 1 9 := by rw [h_46.1 1 (by decide)]
        have r10_I_46 : I_46 1 10 = I_36 1 10 := by rw [h_46.1 1 (by decide)]
        have r11_I_46 : I_46 1 11 = I_36 1 11 := by rw [h_46.1 1 (by decide)]
        have rf_I_46 : FU (I_46 1 5) = FU (I_36 1 5) := by rw [r5_I_46]
        have wI_46 : Fw [18, 19, 20, 21, 22, 23, 24, 25, 26, 27, 28, 29, 30, 31, 32, 33, 34, 35, 36] [] Ia I_46 := Fw_kp wI_36 h_46.1 (by decide)
        have r7_I_46 : I_46 1 7 = I_36 1 7 := by rw [h_46.1 1 (by decide)]
        refine rI hX (pc := 49) hT (Nat.le_refl 0) (Nat.le_refl 0) dX10_next_49 ?_
        exact ⟨kI_46, kJ_46, cI_46, (Fw_wd wI_46 (by decide) (by decide)), trivial⟩
      · simp only [w32_mod] at h_26
        refine ww_iconst hX (pc := 29) (x := (-1)) dX10_next_29 rfl ?_
        refine rI hX (pc := 30) hT (Nat.le_refl 0) (Nat.le_refl 0) dX10_next_30 ?_
        exact ⟨(Kp_rf (a := 0) (b := 49)), (Kp_rf (a := 0) (b := 49)), hC, Fw_rf, trivial⟩
set_option maxHeartbeats 4000000 in
set_option maxRecDepth 20000 in
theorem c5_X10_ways (l0 : Launch) {Ia Ja : aI1} {Ra : aR1} {Sa : aS1} (hL : LY Ra Sa) (hC : CX Ia) {a b : Int} (ha0 : -2147483648 ≤ a) (ha1 : a < 2147483648) (hb0 : -2147483648 ≤ b) (hb1 : b < 2147483648)  : CT l0 10 0 0 mX10_ways [kR (some 0), kI a, kI b] Ia Ja Ra Sa (cI (fun x I' J' => Kp 0 49 Ia I' ∧ Kp 0 49 Ja J' ∧ CX I' ∧ Fw [] [] Ia I' ∧ True) Ra Sa) := by
  refine ct_in pn_X10 (Nat.le_of_ble_eq_true rfl) (fun X hX hT hIn => ?_)
  have hX : aK l0 X cX10_ways 3 RX10 (some .int) 10 0 0 := hX
  change WW X 0 [some (kR (some 0)), some (kI a), some (kI b)] [] Ia Ja Ra Sa 0 0
  have hI := hC.1
  have hq := XI_o hI
  refine ww_aload_n hX (pc := 0) dX10_ways_0 rfl ?_
  refine ww_getR hX (pc := 1) fX10_10 (by decide) (xs_0 hL) (xr_0_0 hL) dX10_ways_1 ?_
  refine ww_iload_n hX (pc := 4) dX10_ways_4 rfl ?_
  refine vI1 hX (pc := 5) sX10_131 (xs_1 hL) (c_X1_isState l0 hL hC.1 (by omega)) (by decide) (Nat.le_refl 0) (Nat.le_refl 0) (Nat.le_of_ble_eq_true rfl) dX10_ways_5 (fun x_5 I_5 J_5 h_5 => ?_)
  obtain ⟨rfl, rfl, h_5⟩ := h_5
  refine ww_if_eq hX (pc := 8) (tgt := 22) dX10_ways_8 (by decide) (fun h_8 => ?_) (fun h_8 => ?_)
  · simp only [w32_mod] at h_8
    refine ww_iconst hX (pc := 22) (x := (-1)) dX10_ways_22 rfl ?_
    refine rI hX (pc := 23) hT (Nat.le_refl 0) (Nat.le_refl 0) dX10_ways_23 ?_
    exact ⟨(Kp_rf (a := 0) (b := 49)), (Kp_rf (a := 0) (b := 49)), hC, Fw_rf, trivial⟩
  · simp only [w32_mod] at h_8
    have k_5 := h_5.2.mp (by omega)
    clear h_5
    refine ww_aload_n hX (pc := 11) dX10_ways_11 rfl ?_
    refine ww_getR hX (pc := 12) fX10_10 (by decide) (xs_0 hL) (xr_0_0 hL) dX10_ways_12 ?_
    refine ww_iload_n hX (pc := 15) dX10_ways_15 rfl ?_
    refine vI1 hX (pc := 16) sX10_134 (xs_1 hL) (c_X1_isNews l0 hL hC.1 (by omega)) (by decide) (Nat.le_refl 0) (Nat.le_refl 0) (Nat.le_of_ble_eq_true rfl) dX10_ways_16 (fun x_16 I_16 J_16 h_16 => ?_)
    obtain ⟨rfl, rfl, h_16⟩ := h_16
    refine ww_if_ne hX (pc := 19) (tgt := 24) dX10_ways_19 (by decide) (fun h_19 => ?_) (fun h_19 => ?_)
    · simp only [w32_mod] at h_19
      have k_16 := h_16.2.mp (by omega)
      clear h_16
      refine ww_aload_n hX (pc := 24) dX10_ways_24 rfl ?_
      refine ww_getR hX (pc := 25) fX10_10 (by decide) (xs_0 hL) (xr_0_0 hL) dX10_ways_25 ?_
      refine ww_iload_n hX (pc := 28) dX10_ways_28 rfl ?_
      refine ww_iload_n hX (pc := 29) dX10_ways_29 rfl ?_
      refine vI2 hX (pc := 30) sX10_198 (xs_1 hL) (c_X1_countWays l0 hL hC.1 (by omega) (by omega)) (by decide) (Nat.le_refl 0) (Nat.le_refl 0) (Nat.le_of_ble_eq_true rfl) dX10_ways_30 (fun x_30 I_30 J_30 h_30 => ?_)
      obtain ⟨rfl, rfl, h_30⟩ := h_30
      refine rI hX (pc := 33) hT (Nat.le_refl 0) (Nat.le_refl 0) dX10_ways_33 ?_
      exact ⟨(Kp_rf (a := 0) (b := 49)), (Kp_rf (a := 0) (b := 49)), hC, Fw_rf, trivial⟩
    · simp only [w32_mod] at h_19
      refine ww_iconst hX (pc := 22) (x := (-1)) dX10_ways_22 rfl ?_
      refine rI hX (pc := 23) hT (Nat.le_refl 0) (Nat.le_refl 0) dX10_ways_23 ?_
      exact ⟨(Kp_rf (a := 0) (b := 49)), (Kp_rf (a := 0) (b := 49)), hC, Fw_rf, trivial⟩
set_option maxHeartbeats 4000000 in
set_option maxRecDepth 20000 in
theorem c5_X10_lasts (l0 : Launch) {Ia Ja : aI1} {Ra : aR1} {Sa : aS1} (hL : LY Ra Sa) (hC : CX Ia) {a : Int} (ha0 : -2147483648 ≤ a) (ha1 : a < 2147483648)  : CT l0 10 0 0 mX10_lasts [kR (some 0), kI a] Ia Ja Ra Sa (cI (fun x I' J' => Kp 0 49 Ia I' ∧ Kp 0 49 Ja J' ∧ CX I' ∧ Fw [18, 19, 20, 21, 22, 23, 24, 25, 26, 27, 28, 29, 30, 31, 32, 33, 34, 35, 36] [] Ia I' ∧ True) Ra Sa) := by
  refine ct_in pn_X10 (Nat.le_of_ble_eq_true rfl) (fun X hX hT hIn => ?_)
  have hX : aK l0 X cX10_lasts 2 RX10 (some .int) 10 0 0 := hX
  change WW X 0 [some (kR (some 0)), some (kI a)] [] Ia Ja Ra Sa 0 0
  have hI := hC.1
  have hq := XI_o hI
  refine ww_aload_n hX (pc := 0) dX10_lasts_0 rfl ?_
  refine ww_getR hX (pc := 1) fX10_10 (by decide) (xs_0 hL) (xr_0_0 hL) dX10_lasts_1 ?_
  refine ww_iload_n hX (pc := 4) dX10_lasts_4 rfl ?_
  refine vI1 hX (pc := 5) sX10_131 (xs_1 hL) (c_X1_isState l0 hL hC.1 (by omega)) (by decide) (Nat.le_refl 0) (Nat.le_refl 0) (Nat.le_of_ble_eq_true rfl) dX10_lasts_5 (fun x_5 I_5 J_5 h_5 => ?_)
  obtain ⟨rfl, rfl, h_5⟩ := h_5
  refine ww_if_eq hX (pc := 8) (tgt := 22) dX10_lasts_8 (by decide) (fun h_8 => ?_) (fun h_8 => ?_)
  · simp only [w32_mod] at h_8
    refine ww_iconst hX (pc := 22) (x := (-1)) dX10_lasts_22 rfl ?_
    refine rI hX (pc := 23) hT (Nat.le_refl 0) (Nat.le_refl 0) dX10_lasts_23 ?_
    exact ⟨(Kp_rf (a := 0) (b := 49)), (Kp_rf (a := 0) (b := 49)), hC, Fw_rf, trivial⟩
  · simp only [w32_mod] at h_8
    have k_5 := h_5.2.mp (by omega)
    clear h_5
    refine ww_aload_n hX (pc := 11) dX10_lasts_11 rfl ?_
    refine ww_getR hX (pc := 12) fX10_48 (by decide) (xs_0 hL) (xr_0_5 hL) dX10_lasts_12 ?_
    refine ww_iload_n hX (pc := 15) dX10_lasts_15 rfl ?_
    refine vI1 hX (pc := 16) sX10_201 (xs_18 hL) (c_X4_lastingOf l0 hL hC.1 (by omega) (by omega)) (by decide) (Nat.le_refl 0) (Nat.le_refl 0) (Nat.le_of_ble_eq_true rfl) dX10_lasts_16 (fun x_16 I_16 J_16 h_16 => ?_)
    have kI_16 : Kp 0 49 Ia I_16 := Kp_tr (Kp_rf (a := 0) (b := 49)) (Kp_wd h_16.1 (by decide) (by decide))
    have kJ_16 : Kp 0 49 Ja J_16 := Kp_tr (Kp_rf (a := 0) (b := 49)) (Kp_wd h_16.2.1 (by decide) (by decide))
    have cI_16 : CX I_16 := CX_kp hC h_16.1 (by decide) (by decide)
    have qI_16 := XI_o cI_16.1
    have r5_I_16 : I_16 1 5 = Ia 1 5 := by rw [h_16.1 1 (by decide)]
    have r6_I_16 : I_16 1 6 = Ia 1 6 := by rw [h_16.1 1 (by decide)]
    have r8_I_16 : I_16 1 8 = Ia 1 8 := by rw [h_16.1 1 (by decide)]
    have r9_I_16 : I_16 1 9 = Ia 1 9 := by rw [h_16.1 1 (by decide)]
    have r10_I_16 : I_16 1 10 = Ia 1 10 := by rw [h_16.1 1 (by decide)]
    have r11_I_16 : I_16 1 11 = Ia 1 11 := by rw [h_16.1 1 (by decide)]
    have rf_I_16 : FU (I_16 1 5) = FU (Ia 1 5) := by rw [r5_I_16]
    have wI_16 : Fw [18, 19, 20, 21, 22, 23, 24, 25, 26, 27, 28, 29, 30, 31, 32, 33, 34, 35, 36] [] Ia I_16 := Fw_kp Fw_rf h_16.1 (by decide)
    have r7_I_16 : I_16 1 7 = Ia 1 7 := by rw [h_16.1 1 (by decide)]
    refine ww_goto hX (pc := 19) (tgt := 23) dX10_lasts_19 (by decide) ?_
    refine rI hX (pc := 23) hT (Nat.le_refl 0) (Nat.le_refl 0) dX10_lasts_23 ?_
    exact ⟨kI_16, kJ_16, cI_16, (Fw_wd wI_16 (by decide) (by decide)), trivial⟩
set_option maxHeartbeats 4000000 in
set_option maxRecDepth 20000 in
theorem c5_X10_reached (l0 : Launch) {Ia Ja : aI1} {Ra : aR1} {Sa : aS1} (hL : LY Ra Sa) (hC : CX Ia) {a : Int} (ha0 : -2147483648 ≤ a) (ha1 : a < 2147483648)  : CT l0 10 0 0 mX10_reached [kR (some 0), kI a] Ia Ja Ra Sa (cI (fun x I' J' => Kp 0 49 Ia I' ∧ Kp 0 49 Ja J' ∧ CX I' ∧ Fw [] [] Ia I' ∧ True) Ra Sa) := by
  refine ct_in pn_X10 (Nat.le_of_ble_eq_true rfl) (fun X hX hT hIn => ?_)
  have hX : aK l0 X cX10_reached 2 RX10 (some .int) 10 0 0 := hX
  change WW X 0 [some (kR (some 0)), some (kI a)] [] Ia Ja Ra Sa 0 0
  have hI := hC.1
  have hq := XI_o hI
  refine ww_iload_n hX (pc := 0) dX10_reached_0 rfl ?_
  refine ww_iconst hX (pc := 1) (x := (-1)) dX10_reached_1 rfl ?_
  refine ww_icmp_ne hX (pc := 2) (tgt := 13) dX10_reached_2 (by decide) (fun h_2 => ?_) (fun h_2 => ?_)
  · simp only [w32_mod] at h_2
    refine ww_aload_n hX (pc := 13) dX10_reached_13 rfl ?_
    refine ww_getR hX (pc := 14) fX10_10 (by decide) (xs_0 hL) (xr_0_0 hL) dX10_reached_14 ?_
    refine ww_iload_n hX (pc := 17) dX10_reached_17 rfl ?_
    refine vI1 hX (pc := 18) sX10_131 (xs_1 hL) (c_X1_isState l0 hL hC.1 (by omega)) (by decide) (Nat.le_refl 0) (Nat.le_refl 0) (Nat.le_of_ble_eq_true rfl) dX10_reached_18 (fun x_18 I_18 J_18 h_18 => ?_)
    obtain ⟨rfl, rfl, h_18⟩ := h_18
    refine ww_if_ne hX (pc := 21) (tgt := 26) dX10_reached_21 (by decide) (fun h_21 => ?_) (fun h_21 => ?_)
    · simp only [w32_mod] at h_21
      have k_18 := h_18.2.mp (by omega)
      clear h_18
      refine ww_aload_n hX (pc := 26) dX10_reached_26 rfl ?_
      refine ww_getR hX (pc := 27) fX10_10 (by decide) (xs_0 hL) (xr_0_0 hL) dX10_reached_27 ?_
      refine ww_iload_n hX (pc := 30) dX10_reached_30 rfl ?_
      refine vI1 hX (pc := 31) sX10_213 (xs_1 hL) (c_X1_isReached l0 hL hC.1 (by omega) (by omega)) (by decide) (Nat.le_refl 0) (Nat.le_refl 0) (Nat.le_of_ble_eq_true rfl) dX10_reached_31 (fun x_31 I_31 J_31 h_31 => ?_)
      obtain ⟨rfl, rfl, h_31⟩ := h_31
      refine ww_if_eq hX (pc := 34) (tgt := 41) dX10_reached_34 (by decide) (fun h_34 => ?_) (fun h_34 => ?_)
      · simp only [w32_mod] at h_34
        refine ww_iconst hX (pc := 41) (x := 0) dX10_reached_41 rfl ?_
        refine rI hX (pc := 42) hT (Nat.le_refl 0) (Nat.le_refl 0) dX10_reached_42 ?_
        exact ⟨(Kp_rf (a := 0) (b := 49)), (Kp_rf (a := 0) (b := 49)), hC, Fw_rf, trivial⟩
      · simp only [w32_mod] at h_34
        refine ww_iconst hX (pc := 37) (x := 1) dX10_reached_37 rfl ?_
        refine ww_goto hX (pc := 38) (tgt := 42) dX10_reached_38 (by decide) ?_
        refine rI hX (pc := 42) hT (Nat.le_refl 0) (Nat.le_refl 0) dX10_reached_42 ?_
        exact ⟨(Kp_rf (a := 0) (b := 49)), (Kp_rf (a := 0) (b := 49)), hC, Fw_rf, trivial⟩
    · simp only [w32_mod] at h_21
      refine ww_iconst hX (pc := 24) (x := (-1)) dX10_reached_24 rfl ?_
      refine rI hX (pc := 25) hT (Nat.le_refl 0) (Nat.le_refl 0) dX10_reached_25 ?_
      exact ⟨(Kp_rf (a := 0) (b := 49)), (Kp_rf (a := 0) (b := 49)), hC, Fw_rf, trivial⟩
  · simp only [w32_mod] at h_2
    refine ww_aload_n hX (pc := 5) dX10_reached_5 rfl ?_
    refine ww_getR hX (pc := 6) fX10_10 (by decide) (xs_0 hL) (xr_0_0 hL) dX10_reached_6 ?_
    refine vI0 hX (pc := 9) sX10_210 (xs_1 hL) (c_X1_countReached l0 hL hC.1) (by decide) (Nat.le_refl 0) (Nat.le_refl 0) (Nat.le_of_ble_eq_true rfl) dX10_reached_9 (fun x_9 I_9 J_9 h_9 => ?_)
    obtain ⟨rfl, rfl, h_9⟩ := h_9
    refine rI hX (pc := 12) hT (Nat.le_refl 0) (Nat.le_refl 0) dX10_reached_12 ?_
    exact ⟨(Kp_rf (a := 0) (b := 49)), (Kp_rf (a := 0) (b := 49)), hC, Fw_rf, trivial⟩
set_option maxHeartbeats 4000000 in
set_option maxRecDepth 20000 in
theorem c5_X10_hurts (l0 : Launch) {Ia Ja : aI1} {Ra : aR1} {Sa : aS1} (hL : LY Ra Sa) (hC : CX Ia) {a : Int} (ha0 : -2147483648 ≤ a) (ha1 : a < 2147483648)  : CT l0 10 0 0 mX10_hurts [kR (some 0), kI a] Ia Ja Ra Sa (cI (fun x I' J' => Kp 0 49 Ia I' ∧ Kp 0 49 Ja J' ∧ CX I' ∧ Fw [18, 19, 20, 21, 22, 23, 24, 25, 26, 27, 28, 29, 30, 31, 32, 33, 34, 35, 36] [] Ia I' ∧ True) Ra Sa) := by
  refine ct_in pn_X10 (Nat.le_of_ble_eq_true rfl) (fun X hX hT hIn => ?_)
  have hX : aK l0 X cX10_hurts 2 RX10 (some .int) 10 0 0 := hX
  change WW X 0 [some (kR (some 0)), some (kI a)] [] Ia Ja Ra Sa 0 0
  have hI := hC.1
  have hq := XI_o hI
  refine ww_aload_n hX (pc := 0) dX10_hurts_0 rfl ?_
  refine ww_getR hX (pc := 1) fX10_10 (by decide) (xs_0 hL) (xr_0_0 hL) dX10_hurts_1 ?_
  refine ww_iload_n hX (pc := 4) dX10_hurts_4 rfl ?_
  refine vI1 hX (pc := 5) sX10_120 (xs_1 hL) (c_X1_isLamp l0 hL hC.1 (by omega)) (by decide) (Nat.le_refl 0) (Nat.le_refl 0) (Nat.le_of_ble_eq_true rfl) dX10_hurts_5 (fun x_5 I_5 J_5 h_5 => ?_)
  obtain ⟨rfl, rfl, h_5⟩ := h_5
  refine ww_if_eq hX (pc := 8) (tgt := 22) dX10_hurts_8 (by decide) (fun h_8 => ?_) (fun h_8 => ?_)
  · simp only [w32_mod] at h_8
    refine ww_iconst hX (pc := 22) (x := (-1)) dX10_hurts_22 rfl ?_
    refine rI hX (pc := 23) hT (Nat.le_refl 0) (Nat.le_refl 0) dX10_hurts_23 ?_
    exact ⟨(Kp_rf (a := 0) (b := 49)), (Kp_rf (a := 0) (b := 49)), hC, Fw_rf, trivial⟩
  · simp only [w32_mod] at h_8
    have k_5 := h_5.2.mp (by omega)
    clear h_5
    refine ww_aload_n hX (pc := 11) dX10_hurts_11 rfl ?_
    refine ww_getR hX (pc := 12) fX10_48 (by decide) (xs_0 hL) (xr_0_5 hL) dX10_hurts_12 ?_
    refine ww_iload_n hX (pc := 15) dX10_hurts_15 rfl ?_
    refine vI1 hX (pc := 16) sX10_222 (xs_18 hL) (c_X4_lastingWithout l0 hL hC.1) (by decide) (Nat.le_refl 0) (Nat.le_refl 0) (Nat.le_of_ble_eq_true rfl) dX10_hurts_16 (fun x_16 I_16 J_16 h_16 => ?_)
    have kI_16 : Kp 0 49 Ia I_16 := Kp_tr (Kp_rf (a := 0) (b := 49)) (Kp_wd h_16.1 (by decide) (by decide))
    have kJ_16 : Kp 0 49 Ja J_16 := Kp_tr (Kp_rf (a := 0) (b := 49)) (Kp_wd h_16.2.1 (by decide) (by decide))
    have cI_16 : CX I_16 := CX_kp hC h_16.1 (by decide) (by decide)
    have qI_16 := XI_o cI_16.1
    have r5_I_16 : I_16 1 5 = Ia 1 5 := by rw [h_16.1 1 (by decide)]
    have r6_I_16 : I_16 1 6 = Ia 1 6 := by rw [h_16.1 1 (by decide)]
    have r8_I_16 : I_16 1 8 = Ia 1 8 := by rw [h_16.1 1 (by decide)]
    have r9_I_16 : I_16 1 9 = Ia 1 9 := by rw [h_16.1 1 (by decide)]
    have r10_I_16 : I_16 1 10 = Ia 1 10 := by rw [h_16.1 1 (by decide)]
    have r11_I_16 : I_16 1 11 = Ia 1 11 := by rw [h_16.1 1 (by decide)]
    have rf_I_16 : FU (I_16 1 5) = FU (Ia 1 5) := by rw [r5_I_16]
    have wI_16 : Fw [18, 19, 20, 21, 22, 23, 24, 25, 26, 27, 28, 29, 30, 31, 32, 33, 34, 35, 36] [] Ia I_16 := Fw_kp Fw_rf h_16.1 (by decide)
    have r7_I_16 : I_16 1 7 = Ia 1 7 := by rw [h_16.1 1 (by decide)]
    refine ww_goto hX (pc := 19) (tgt := 23) dX10_hurts_19 (by decide) ?_
    refine rI hX (pc := 23) hT (Nat.le_refl 0) (Nat.le_refl 0) dX10_hurts_23 ?_
    exact ⟨kI_16, kJ_16, cI_16, (Fw_wd wI_16 (by decide) (by decide)), trivial⟩
set_option maxHeartbeats 4000000 in
set_option maxRecDepth 20000 in
theorem c5_X10_failing (l0 : Launch) {Ia Ja : aI1} {Ra : aR1} {Sa : aS1} (hL : LY Ra Sa) (hC : CX Ia) {a : Int} (ha0 : -2147483648 ≤ a) (ha1 : a < 2147483648)  : CT l0 10 0 0 mX10_failing [kR (some 0), kI a] Ia Ja Ra Sa (cI (fun x I' J' => Kp 0 49 Ia I' ∧ Kp 0 49 Ja J' ∧ CX I' ∧ Fw [18, 19, 20, 21, 22, 23, 24, 25, 26, 27, 28, 29, 30, 31, 32, 33, 34, 35, 36] [] Ia I' ∧ True) Ra Sa) := by
  refine ct_in pn_X10 (Nat.le_of_ble_eq_true rfl) (fun X hX hT hIn => ?_)
  have hX : aK l0 X cX10_failing 3 RX10 (some .int) 10 0 0 := hX
  change WW X 0 [some (kR (some 0)), some (kI a), none] [] Ia Ja Ra Sa 0 0
  have hI := hC.1
  have hq := XI_o hI
  refine ww_iload_n hX (pc := 0) dX10_failing_0 rfl ?_
  refine ww_iconst hX (pc := 1) (x := (-1)) dX10_failing_1 rfl ?_
  refine ww_icmp_ge hX (pc := 2) (tgt := 7) dX10_failing_2 (by decide) (fun h_2 => ?_) (fun h_2 => ?_)
  · simp only [w32_mod] at h_2
    refine ww_aload_n hX (pc := 7) dX10_failing_7 rfl ?_
    refine ww_getR hX (pc := 8) fX10_48 (by decide) (xs_0 hL) (xr_0_5 hL) dX10_failing_8 ?_
    refine ww_iconst hX (pc := 11) (x := 2) dX10_failing_11 rfl ?_
    refine vV1 hX (pc := 12) sX10_191 (xs_18 hL) (c_X4_prepare l0 hL hC.1) (by decide) (Nat.le_refl 0) (Nat.le_refl 0) (Nat.le_of_ble_eq_true rfl) dX10_failing_12 (fun I_12 J_12 h_12 => ?_)
    have kI_12 : Kp 0 49 Ia I_12 := Kp_tr (Kp_rf (a := 0) (b := 49)) (Kp_wd h_12.1 (by decide) (by decide))
    have kJ_12 : Kp 0 49 Ja J_12 := Kp_tr (Kp_rf (a := 0) (b := 49)) (Kp_wd h_12.2.1 (by decide) (by decide))
    have cI_12 : CX I_12 := CX_kp hC h_12.1 (by decide) (by decide)
    have qI_12 := XI_o cI_12.1
    have r5_I_12 : I_12 1 5 = Ia 1 5 := by rw [h_12.1 1 (by decide)]
    have r6_I_12 : I_12 1 6 = Ia 1 6 := by rw [h_12.1 1 (by decide)]
    have r8_I_12 : I_12 1 8 = Ia 1 8 := by rw [h_12.1 1 (by decide)]
    have r9_I_12 : I_12 1 9 = Ia 1 9 := by rw [h_12.1 1 (by decide)]
    have r10_I_12 : I_12 1 10 = Ia 1 10 := by rw [h_12.1 1 (by decide)]
    have r11_I_12 : I_12 1 11 = Ia 1 11 := by rw [h_12.1 1 (by decide)]
    have rf_I_12 : FU (I_12 1 5) = FU (Ia 1 5) := by rw [r5_I_12]
    have wI_12 : Fw [18, 19, 20, 21, 22, 23, 24, 25, 26, 27, 28, 29, 30, 31, 32, 33, 34, 35, 36] [] Ia I_12 := Fw_kp Fw_rf h_12.1 (by decide)
    have r7_I_12 : I_12 1 7 = Ia 1 7 := by rw [h_12.1 1 (by decide)]
    refine ww_aload_n hX (pc := 15) dX10_failing_15 rfl ?_
    refine ww_getR hX (pc := 16) fX10_48 (by decide) (xs_0 hL) (xr_0_5 hL) dX10_failing_16 ?_
    refine vI0 hX (pc := 19) sX10_216 (xs_18 hL) (c_X4_findFailing l0 hL cI_12.1) (by decide) (Nat.le_refl 0) (Nat.le_refl 0) (Nat.le_of_ble_eq_true rfl) dX10_failing_19 (fun x_19 I_19 J_19 h_19 => ?_)
    have kI_19 : Kp 0 49 Ia I_19 := Kp_tr kI_12 (Kp_wd h_19.1 (by decide) (by decide))
    have kJ_19 : Kp 0 49 Ja J_19 := Kp_tr kJ_12 (Kp_wd h_19.2.1 (by decide) (by decide))
    have cI_19 : CX I_19 := CX_kp cI_12 h_19.1 (by decide) (by decide)
    have qI_19 := XI_o cI_19.1
    have r5_I_19 : I_19 1 5 = I_12 1 5 := by rw [h_19.1 1 (by decide)]
    have r6_I_19 : I_19 1 6 = I_12 1 6 := by rw [h_19.1 1 (by decide)]
    have r8_I_19 : I_19 1 8 = I_12 1 8 := by rw [h_19.1 1 (by decide)]
    have r9_I_19 : I_19 1 9 = I_12 1 9 := by rw [h_19.1 1 (by decide)]
    have r10_I_19 : I_19 1 10 = I_12 1 10 := by rw [h_19.1 1 (by decide)]
    have r11_I_19 : I_19 1 11 = I_12 1 11 := by rw [h_19.1 1 (by decide)]
    have rf_I_19 : FU (I_19 1 5) = FU (I_12 1 5) := by rw [r5_I_19]
    have wI_19 : Fw [18, 19, 20, 21, 22, 23, 24, 25, 26, 27, 28, 29, 30, 31, 32, 33, 34, 35, 36] [] Ia I_19 := Fw_kp wI_12 h_19.1 (by decide)
    have r7_I_19 : I_19 1 7 = I_12 1 7 := by rw [h_19.1 1 (by decide)]
    refine ww_istore_n hX (pc := 22) (lv' := [some (kR (some 0)), some (kI a), some (kI x_19)]) dX10_failing_22 (by decide) rfl rfl ?_
    refine ww_iload_n hX (pc := 23) dX10_failing_23 rfl ?_
    refine ww_iconst hX (pc := 24) (x := (-1)) dX10_failing_24 rfl ?_
    refine ww_icmp_ne hX (pc := 25) (tgt := 30) dX10_failing_25 (by decide) (fun h_25 => ?_) (fun h_25 => ?_)
    · simp only [w32_mod] at h_25
      refine ww_iload_n hX (pc := 30) dX10_failing_30 rfl ?_
      refine ww_iload_n hX (pc := 31) dX10_failing_31 rfl ?_
      refine ww_icmp_ge hX (pc := 32) (tgt := 47) dX10_failing_32 (by decide) (fun h_32 => ?_) (fun h_32 => ?_)
      · simp only [w32_mod] at h_32
        refine ww_iconst hX (pc := 47) (x := (-1)) dX10_failing_47 rfl ?_
        refine rI hX (pc := 48) hT (Nat.le_refl 0) (Nat.le_refl 0) dX10_failing_48 ?_
        exact ⟨kI_19, kJ_19, cI_19, (Fw_wd wI_19 (by decide) (by decide)), trivial⟩
      · simp only [w32_mod] at h_32
        refine ww_aload_n hX (pc := 35) dX10_failing_35 rfl ?_
        refine ww_getR hX (pc := 36) fX10_48 (by decide) (xs_0 hL) (xr_0_5 hL) dX10_failing_36 ?_
        refine ww_getR hX (pc := 39) fX10_219 (by decide) (xs_18 hL) (xr_18_2 hL) dX10_failing_39 ?_
        refine ww_iload_n hX (pc := 42) dX10_failing_42 rfl ?_
        refine ww_iald hX (pc := 43) (xs_20 hL) (by decide) (by omega) (by omega) dX10_failing_43 ?_
        refine ww_goto hX (pc := 44) (tgt := 48) dX10_failing_44 (by decide) ?_
        refine rI hX (pc := 48) hT (Nat.le_refl 0) (Nat.le_refl 0) dX10_failing_48 ?_
        exact ⟨kI_19, kJ_19, cI_19, (Fw_wd wI_19 (by decide) (by decide)), trivial⟩
    · simp only [w32_mod] at h_25
      refine ww_iload_n hX (pc := 28) dX10_failing_28 rfl ?_
      refine rI hX (pc := 29) hT (Nat.le_refl 0) (Nat.le_refl 0) dX10_failing_29 ?_
      exact ⟨kI_19, kJ_19, cI_19, (Fw_wd wI_19 (by decide) (by decide)), trivial⟩
  · simp only [w32_mod] at h_2
    refine ww_iconst hX (pc := 5) (x := (-1)) dX10_failing_5 rfl ?_
    refine rI hX (pc := 6) hT (Nat.le_refl 0) (Nat.le_refl 0) dX10_failing_6 ?_
    exact ⟨(Kp_rf (a := 0) (b := 49)), (Kp_rf (a := 0) (b := 49)), hC, Fw_rf, trivial⟩
set_option maxHeartbeats 4000000 in
set_option maxRecDepth 20000 in
theorem c5_X10_accept (l0 : Launch) {Ia Ja : aI1} {Ra : aR1} {Sa : aS1} (hL : LY Ra Sa) (hC : CX Ia) {a : Int}   : CT l0 0 0 0 mX10_accept [kR (some 0), kI a] Ia Ja Ra Sa (cI (fun x I' J' => Kp 0 49 Ia I' ∧ Kp 0 49 Ja J' ∧ CX I' ∧ Fw [] [(0, 16)] Ia I' ∧ x = a ∧ I' 0 16 = 0) Ra Sa) := by
  refine ct_in pn_X10 (Nat.le_of_ble_eq_true rfl) (fun X hX hT hIn => ?_)
  have hX : aK l0 X cX10_accept 2 RX10 (some .int) 0 0 0 := hX
  change WW X 0 [some (kR (some 0)), some (kI a)] [] Ia Ja Ra Sa 0 0
  have hI := hC.1
  have hq := XI_o hI
  refine ww_aload_n hX (pc := 0) dX10_accept_0 rfl ?_
  refine ww_iconst hX (pc := 1) (x := 0) dX10_accept_1 rfl ?_
  refine ww_putI hX (pc := 2) (fun h9 => absurd h9 (by decide)) gX10_304 rfl (xs_0 hL) dX10_accept_2 ?_
  refine ww_nmH (fun I_2 eI_2 => ?_)
  have kI_2 : Kp 0 49 Ia I_2 := by rw [eI_2]; exact Kp_up (Kp_rf (a := 0) (b := 49)) _ _ (by decide)
  have cI_2 : CX I_2 := by rw [eI_2]; exact CX_x hC (XI_0 hC.1 (by decide)) (by decide)
  have qI_2 := XI_o cI_2.1
  have r5_I_2 : I_2 1 5 = Ia 1 5 := by rw [eI_2, up2_off _ _ _ (by decide)]
  have r6_I_2 : I_2 1 6 = Ia 1 6 := by rw [eI_2, up2_off _ _ _ (by decide)]
  have r8_I_2 : I_2 1 8 = Ia 1 8 := by rw [eI_2, up2_off _ _ _ (by decide)]
  have r9_I_2 : I_2 1 9 = Ia 1 9 := by rw [eI_2, up2_off _ _ _ (by decide)]
  have r10_I_2 : I_2 1 10 = Ia 1 10 := by rw [eI_2, up2_off _ _ _ (by decide)]
  have r11_I_2 : I_2 1 11 = Ia 1 11 := by rw [eI_2, up2_off _ _ _ (by decide)]
  have rf_I_2 : FU (I_2 1 5) = FU (Ia 1 5) := by rw [r5_I_2]
  have wI_2 : Fw [] [(0, 16)] Ia I_2 := by rw [eI_2]; exact Fw_up Fw_rf (Or.inr (by decide))
  have r7_I_2 : I_2 1 7 = Ia 1 7 := by rw [eI_2, up2_n _ _ (Or.inl (by decide))]
  have z16 : I_2 0 16 = 0 := by rw [eI_2, up2_s]
  refine ww_iload_n hX (pc := 5) dX10_accept_5 rfl ?_
  refine rI hX (pc := 6) hT (Nat.le_refl 0) (Nat.le_refl 0) dX10_accept_6 ?_
  exact ⟨kI_2, (Kp_rf (a := 0) (b := 49)), cI_2, (Fw_wd wI_2 (by decide) (by decide)), rfl, z16⟩
set_option maxHeartbeats 4000000 in
set_option maxRecDepth 20000 in
theorem c5_X10_refuse (l0 : Launch) {Ia Ja : aI1} {Ra : aR1} {Sa : aS1} (hL : LY Ra Sa) (hC : CX Ia) {a : Int} (ha0 : -6 ≤ a) (ha1 : a ≤ -1)  : CT l0 0 0 0 mX10_refuse [kR (some 0), kI a] Ia Ja Ra Sa (cI (fun x I' J' => Kp 0 49 Ia I' ∧ Kp 0 49 Ja J' ∧ CX I' ∧ Fw [48] [(0, 16)] Ia I' ∧ x = a ∧ I' 0 16 = a ∧ I' 48 = up1 (Ia 48) (-a).toNat (Ia 48 (-a).toNat + 1)) Ra Sa) := by
  refine ct_in pn_X10 (Nat.le_of_ble_eq_true rfl) (fun X hX hT hIn => ?_)
  have hX : aK l0 X cX10_refuse 2 RX10 (some .int) 0 0 0 := hX
  change WW X 0 [some (kR (some 0)), some (kI a)] [] Ia Ja Ra Sa 0 0
  have hI := hC.1
  have hq := XI_o hI
  refine ww_aload_n hX (pc := 0) dX10_refuse_0 rfl ?_
  refine ww_iload_n hX (pc := 1) dX10_refuse_1 rfl ?_
  refine ww_putI hX (pc := 2) (fun h9 => absurd h9 (by decide)) gX10_304 rfl (xs_0 hL) dX10_refuse_2 ?_
  refine ww_nmH (fun I_2 eI_2 => ?_)
  have kI_2 : Kp 0 49 Ia I_2 := by rw [eI_2]; exact Kp_up (Kp_rf (a := 0) (b := 49)) _ _ (by decide)
  have cI_2 : CX I_2 := by rw [eI_2]; exact CX_x hC (XI_0 hC.1 (by decide)) (by decide)
  have qI_2 := XI_o cI_2.1
  have r5_I_2 : I_2 1 5 = Ia 1 5 := by rw [eI_2, up2_off _ _ _ (by decide)]
  have r6_I_2 : I_2 1 6 = Ia 1 6 := by rw [eI_2, up2_off _ _ _ (by decide)]
  have r8_I_2 : I_2 1 8 = Ia 1 8 := by rw [eI_2, up2_off _ _ _ (by decide)]
  have r9_I_2 : I_2 1 9 = Ia 1 9 := by rw [eI_2, up2_off _ _ _ (by decide)]
  have r10_I_2 : I_2 1 10 = Ia 1 10 := by rw [eI_2, up2_off _ _ _ (by decide)]
  have r11_I_2 : I_2 1 11 = Ia 1 11 := by rw [eI_2, up2_off _ _ _ (by decide)]
  have rf_I_2 : FU (I_2 1 5) = FU (Ia 1 5) := by rw [r5_I_2]
  have wI_2 : Fw [48] [(0, 16)] Ia I_2 := by rw [eI_2]; exact Fw_up Fw_rf (Or.inr (by decide))
  have r7_I_2 : I_2 1 7 = Ia 1 7 := by rw [eI_2, up2_n _ _ (Or.inl (by decide))]
  have z2 : I_2 0 16 = a := by rw [eI_2, up2_s]
  have y2 : I_2 48 = Ia 48 := by rw [eI_2, up2_off _ _ _ (by decide)]
  refine ww_iload_n hX (pc := 5) dX10_refuse_5 rfl ?_
  refine ww_if_ge hX (pc := 6) (tgt := 30) dX10_refuse_6 (by decide) (fun h_6 => ?_) (fun h_6 => ?_)
  · simp only [w32_mod] at h_6
    exfalso
    omega
  · simp only [w32_mod] at h_6
    refine ww_iload_n hX (pc := 9) dX10_refuse_9 rfl ?_
    refine ww_ineg hX (pc := 10) dX10_refuse_10 ?_
    refine ww_aload_n hX (pc := 11) dX10_refuse_11 rfl ?_
    refine ww_getR hX (pc := 12) fX10_82 (by decide) (xs_0 hL) (xr_0_11 hL) dX10_refuse_12 ?_
    refine ww_alen hX (pc := 15) (by decide) (xs_48 hL) dX10_refuse_15 ?_
    refine ww_icmp_ge hX (pc := 16) (tgt := 30) dX10_refuse_16 (by decide) (fun h_16 => ?_) (fun h_16 => ?_)
    · simp only [w32_mod] at h_16
      exfalso
      omega
    · simp only [w32_mod] at h_16
      refine ww_aload_n hX (pc := 19) dX10_refuse_19 rfl ?_
      refine ww_getR hX (pc := 20) fX10_82 (by decide) (xs_0 hL) (xr_0_11 hL) dX10_refuse_20 ?_
      refine ww_iload_n hX (pc := 23) dX10_refuse_23 rfl ?_
      refine ww_ineg hX (pc := 24) dX10_refuse_24 ?_
      refine ww_dup2 hX (pc := 25) dX10_refuse_25 ?_
      refine ww_iald hX (pc := 26) (xs_48 hL) (by decide) (by omega) (by omega) dX10_refuse_26 ?_
      refine ww_iconst hX (pc := 27) (x := 1) dX10_refuse_27 rfl ?_
      refine ww_iadd hX (pc := 28) dX10_refuse_28 ?_
      refine ww_iast hX (pc := 29) (xs_48 hL) (by decide) (by omega) (by omega) dX10_refuse_29 ?_
      refine ww_nmH (fun I_29 eI_29 => ?_)
      have kI_29 : Kp 0 49 Ia I_29 := by rw [eI_29]; exact Kp_up kI_2 _ _ (by decide)
      have cI_29 : CX I_29 := by rw [eI_29]; exact CX_up cI_2 (by decide)
      have qI_29 := XI_o cI_29.1
      have r5_I_29 : I_29 1 5 = I_2 1 5 := by rw [eI_29, up2_off _ _ _ (by decide)]
      have r6_I_29 : I_29 1 6 = I_2 1 6 := by rw [eI_29, up2_off _ _ _ (by decide)]
      have r8_I_29 : I_29 1 8 = I_2 1 8 := by rw [eI_29, up2_off _ _ _ (by decide)]
      have r9_I_29 : I_29 1 9 = I_2 1 9 := by rw [eI_29, up2_off _ _ _ (by decide)]
      have r10_I_29 : I_29 1 10 = I_2 1 10 := by rw [eI_29, up2_off _ _ _ (by decide)]
      have r11_I_29 : I_29 1 11 = I_2 1 11 := by rw [eI_29, up2_off _ _ _ (by decide)]
      have rf_I_29 : FU (I_29 1 5) = FU (I_2 1 5) := by rw [r5_I_29]
      have wI_29 : Fw [48] [(0, 16)] Ia I_29 := by rw [eI_29]; exact Fw_up wI_2 (Or.inl (by decide))
      have r7_I_29 : I_29 1 7 = I_2 1 7 := by rw [eI_29, up2_n _ _ (Or.inl (by decide))]
      have z29 : I_29 0 16 = a := by rw [eI_29, up2_off _ _ _ (by decide)]; exact z2
      have y29 : I_29 48 = up1 (Ia 48) (-a).toNat (Ia 48 (-a).toNat + 1) := by rw [eI_29, up2_row, y2]
      refine ww_iload_n hX (pc := 30) dX10_refuse_30 rfl ?_
      refine rI hX (pc := 31) hT (Nat.le_refl 0) (Nat.le_refl 0) dX10_refuse_31 ?_
      exact ⟨kI_29, (Kp_rf (a := 0) (b := 49)), cI_29, (Fw_wd wI_29 (by decide) (by decide)), rfl, z29, y29⟩
set_option maxHeartbeats 4000000 in
set_option maxRecDepth 20000 in
theorem c5_X10_codeChanged (l0 : Launch) {Ia Ja : aI1} {Ra : aR1} {Sa : aS1} (hL : LY Ra Sa) (hC : CX Ia)  : CT l0 1 0 0 mX10_codeChanged [kR (some 0)] Ia Ja Ra Sa (cV (fun I' J' => Kp 0 49 Ia I' ∧ Kp 0 49 Ja J' ∧ CX I' ∧ Fw [18, 19, 20, 21, 22, 23, 24, 25, 26, 27, 28, 29, 30, 31, 32, 33, 34, 35, 36] [] Ia I' ∧ True) Ra Sa) := by
  refine ct_in pn_X10 (Nat.le_of_ble_eq_true rfl) (fun X hX hT hIn => ?_)
  have hX : aK l0 X cX10_codeChanged 1 RX10 none 1 0 0 := hX
  change WW X 0 [some (kR (some 0))] [] Ia Ja Ra Sa 0 0
  have hI := hC.1
  have hq := XI_o hI
  refine ww_aload_n hX (pc := 0) dX10_codeChanged_0 rfl ?_
  refine ww_getR hX (pc := 1) fX10_48 (by decide) (xs_0 hL) (xr_0_5 hL) dX10_codeChanged_1 ?_
  refine vV0 hX (pc := 4) sX10_307 (xs_18 hL) (c_X4_forgetTables l0 hL) (by decide) (Nat.le_refl 0) (Nat.le_refl 0) (Nat.le_of_ble_eq_true rfl) dX10_codeChanged_4 (fun I_4 J_4 h_4 => ?_)
  have kI_4 : Kp 0 49 Ia I_4 := Kp_tr (Kp_rf (a := 0) (b := 49)) (Kp_wd h_4.1 (by decide) (by decide))
  have kJ_4 : Kp 0 49 Ja J_4 := Kp_tr (Kp_rf (a := 0) (b := 49)) (Kp_wd h_4.2.1 (by decide) (by decide))
  have cI_4 : CX I_4 := CX_kp hC h_4.1 (by decide) (by decide)
  have qI_4 := XI_o cI_4.1
  have r5_I_4 : I_4 1 5 = Ia 1 5 := by rw [h_4.1 1 (by decide)]
  have r6_I_4 : I_4 1 6 = Ia 1 6 := by rw [h_4.1 1 (by decide)]
  have r8_I_4 : I_4 1 8 = Ia 1 8 := by rw [h_4.1 1 (by decide)]
  have r9_I_4 : I_4 1 9 = Ia 1 9 := by rw [h_4.1 1 (by decide)]
  have r10_I_4 : I_4 1 10 = Ia 1 10 := by rw [h_4.1 1 (by decide)]
  have r11_I_4 : I_4 1 11 = Ia 1 11 := by rw [h_4.1 1 (by decide)]
  have rf_I_4 : FU (I_4 1 5) = FU (Ia 1 5) := by rw [r5_I_4]
  have wI_4 : Fw [18, 19, 20, 21, 22, 23, 24, 25, 26, 27, 28, 29, 30, 31, 32, 33, 34, 35, 36] [] Ia I_4 := Fw_kp Fw_rf h_4.1 (by decide)
  have r7_I_4 : I_4 1 7 = Ia 1 7 := by rw [h_4.1 1 (by decide)]
  refine ww_aload_n hX (pc := 7) dX10_codeChanged_7 rfl ?_
  refine ww_getR hX (pc := 8) fX10_64 (by decide) (xs_0 hL) (xr_0_7 hL) dX10_codeChanged_8 ?_
  refine ww_iconst hX (pc := 11) (x := 0) dX10_codeChanged_11 rfl ?_
  refine ww_putZ hX (pc := 12) (fun h9 => absurd h9 (by decide)) gX10_128 rfl (by decide) (xs_33 hL) dX10_codeChanged_12 ?_
  refine ww_nmH (fun I_12 eI_12 => ?_)
  have kI_12 : Kp 0 49 Ia I_12 := by rw [eI_12]; exact Kp_up kI_4 _ _ (by decide)
  have cI_12 : CX I_12 := by rw [eI_12]; exact CX_up cI_4 (by decide)
  have qI_12 := XI_o cI_12.1
  have r5_I_12 : I_12 1 5 = I_4 1 5 := by rw [eI_12, up2_off _ _ _ (by decide)]
  have r6_I_12 : I_12 1 6 = I_4 1 6 := by rw [eI_12, up2_off _ _ _ (by decide)]
  have r8_I_12 : I_12 1 8 = I_4 1 8 := by rw [eI_12, up2_off _ _ _ (by decide)]
  have r9_I_12 : I_12 1 9 = I_4 1 9 := by rw [eI_12, up2_off _ _ _ (by decide)]
  have r10_I_12 : I_12 1 10 = I_4 1 10 := by rw [eI_12, up2_off _ _ _ (by decide)]
  have r11_I_12 : I_12 1 11 = I_4 1 11 := by rw [eI_12, up2_off _ _ _ (by decide)]
  have rf_I_12 : FU (I_12 1 5) = FU (I_4 1 5) := by rw [r5_I_12]
  have wI_12 : Fw [18, 19, 20, 21, 22, 23, 24, 25, 26, 27, 28, 29, 30, 31, 32, 33, 34, 35, 36] [] Ia I_12 := by rw [eI_12]; exact Fw_up wI_4 (Or.inl (by decide))
  have r7_I_12 : I_12 1 7 = I_4 1 7 := by rw [eI_12, up2_n _ _ (Or.inl (by decide))]
  refine rV hX (pc := 15) hT (Nat.le_refl 0) (Nat.le_refl 0) dX10_codeChanged_15 ?_
  exact ⟨kI_12, kJ_4, cI_12, (Fw_wd wI_12 (by decide) (by decide)), trivial⟩
set_option maxHeartbeats 4000000 in
set_option maxRecDepth 20000 in
theorem c5_X10_mean (l0 : Launch) {Ia Ja : aI1} {Ra : aR1} {Sa : aS1} (hL : LY Ra Sa) (hC : CX Ia) {a b : Int} (ha0 : -2147483648 ≤ a) (ha1 : a < 2147483648) (hb0 : -2147483648 ≤ b) (hb1 : b < 2147483648)  : CT l0 10 0 0 mX10_mean [kR (some 0), kI a, kI b] Ia Ja Ra Sa (cJ (fun x I' J' => Kp 0 49 Ia I' ∧ Kp 0 49 Ja J' ∧ CX I' ∧ Fw [18, 19, 20, 21, 22, 23, 24, 25, 26, 27, 28, 29, 30, 31, 32, 33, 34, 35, 36] [] Ia I' ∧ True) Ra Sa) := by
  refine ct_in pn_X10 (Nat.le_of_ble_eq_true rfl) (fun X hX hT hIn => ?_)
  have hX : aK l0 X cX10_mean 3 RX10 (some .long) 10 0 0 := hX
  change WW X 0 [some (kR (some 0)), some (kI a), some (kI b)] [] Ia Ja Ra Sa 0 0
  have hI := hC.1
  have hq := XI_o hI
  refine ww_aload_n hX (pc := 0) dX10_mean_0 rfl ?_
  refine ww_getR hX (pc := 1) fX10_10 (by decide) (xs_0 hL) (xr_0_0 hL) dX10_mean_1 ?_
  refine ww_iload_n hX (pc := 4) dX10_mean_4 rfl ?_
  refine vI1 hX (pc := 5) sX10_131 (xs_1 hL) (c_X1_isState l0 hL hC.1 (by omega)) (by decide) (Nat.le_refl 0) (Nat.le_refl 0) (Nat.le_of_ble_eq_true rfl) dX10_mean_5 (fun x_5 I_5 J_5 h_5 => ?_)
  obtain ⟨rfl, rfl, h_5⟩ := h_5
  refine ww_if_eq hX (pc := 8) (tgt := 20) dX10_mean_8 (by decide) (fun h_8 => ?_) (fun h_8 => ?_)
  · simp only [w32_mod] at h_8
    refine ww_ldc2 hX (pc := 20) (x := (-1)) dX10_mean_20 tb_810 ?_
    refine rJ hX (pc := 23) hT (Nat.le_refl 0) (Nat.le_refl 0) dX10_mean_23 ?_
    exact ⟨(Kp_rf (a := 0) (b := 49)), (Kp_rf (a := 0) (b := 49)), hC, Fw_rf, trivial⟩
  · simp only [w32_mod] at h_8
    have k_5 := h_5.2.mp (by omega)
    clear h_5
    refine ww_iload_n hX (pc := 11) dX10_mean_11 rfl ?_
    refine ww_if_lt hX (pc := 12) (tgt := 20) dX10_mean_12 (by decide) (fun h_12 => ?_) (fun h_12 => ?_)
    · simp only [w32_mod] at h_12
      refine ww_ldc2 hX (pc := 20) (x := (-1)) dX10_mean_20 tb_810 ?_
      refine rJ hX (pc := 23) hT (Nat.le_refl 0) (Nat.le_refl 0) dX10_mean_23 ?_
      exact ⟨(Kp_rf (a := 0) (b := 49)), (Kp_rf (a := 0) (b := 49)), hC, Fw_rf, trivial⟩
    · simp only [w32_mod] at h_12
      refine ww_iload_n hX (pc := 15) dX10_mean_15 rfl ?_
      refine ww_iconst hX (pc := 16) (x := 1) dX10_mean_16 rfl ?_
      refine ww_icmp_le hX (pc := 17) (tgt := 24) dX10_mean_17 (by decide) (fun h_17 => ?_) (fun h_17 => ?_)
      · simp only [w32_mod] at h_17
        refine ww_aload_n hX (pc := 24) dX10_mean_24 rfl ?_
        refine ww_getR hX (pc := 25) fX10_48 (by decide) (xs_0 hL) (xr_0_5 hL) dX10_mean_25 ?_
        refine ww_iload_n hX (pc := 28) dX10_mean_28 rfl ?_
        refine ww_iload_n hX (pc := 29) dX10_mean_29 rfl ?_
        refine ww_if_ne hX (pc := 30) (tgt := 37) dX10_mean_30 (by decide) (fun h_30 => ?_) (fun h_30 => ?_)
        · simp only [w32_mod] at h_30
          refine ww_iconst hX (pc := 37) (x := 0) dX10_mean_37 rfl ?_
          refine vJ2 hX (pc := 38) sX10_206 (xs_18 hL) (c_X4_meanPart l0 hL hC.1 (by omega) (by omega)) (by decide) (Nat.le_refl 0) (Nat.le_refl 0) (Nat.le_of_ble_eq_true rfl) dX10_mean_38 (fun x_38 I_38 J_38 h_38 => ?_)
          have kI_38 : Kp 0 49 Ia I_38 := Kp_tr (Kp_rf (a := 0) (b := 49)) (Kp_wd h_38.1 (by decide) (by decide))
          have kJ_38 : Kp 0 49 Ja J_38 := Kp_tr (Kp_rf (a := 0) (b := 49)) (Kp_wd h_38.2.1 (by decide) (by decide))
          have cI_38 : CX I_38 := CX_kp hC h_38.1 (by decide) (by decide)
          have qI_38 := XI_o cI_38.1
          have r5_I_38 : I_38 1 5 = Ia 1 5 := by rw [h_38.1 1 (by decide)]
          have r6_I_38 : I_38 1 6 = Ia 1 6 := by rw [h_38.1 1 (by decide)]
          have r8_I_38 : I_38 1 8 = Ia 1 8 := by rw [h_38.1 1 (by decide)]
          have r9_I_38 : I_38 1 9 = Ia 1 9 := by rw [h_38.1 1 (by decide)]
          have r10_I_38 : I_38 1 10 = Ia 1 10 := by rw [h_38.1 1 (by decide)]
          have r11_I_38 : I_38 1 11 = Ia 1 11 := by rw [h_38.1 1 (by decide)]
          have rf_I_38 : FU (I_38 1 5) = FU (Ia 1 5) := by rw [r5_I_38]
          have wI_38 : Fw [18, 19, 20, 21, 22, 23, 24, 25, 26, 27, 28, 29, 30, 31, 32, 33, 34, 35, 36] [] Ia I_38 := Fw_kp Fw_rf h_38.1 (by decide)
          have r7_I_38 : I_38 1 7 = Ia 1 7 := by rw [h_38.1 1 (by decide)]
          refine rJ hX (pc := 41) hT (Nat.le_refl 0) (Nat.le_refl 0) dX10_mean_41 ?_
          exact ⟨kI_38, kJ_38, cI_38, (Fw_wd wI_38 (by decide) (by decide)), trivial⟩
        · simp only [w32_mod] at h_30
          refine ww_iconst hX (pc := 33) (x := 1) dX10_mean_33 rfl ?_
          refine ww_goto hX (pc := 34) (tgt := 38) dX10_mean_34 (by decide) ?_
          refine vJ2 hX (pc := 38) sX10_206 (xs_18 hL) (c_X4_meanPart l0 hL hC.1 (by omega) (by omega)) (by decide) (Nat.le_refl 0) (Nat.le_refl 0) (Nat.le_of_ble_eq_true rfl) dX10_mean_38 (fun x_38 I_38 J_38 h_38 => ?_)
          have kI_38 : Kp 0 49 Ia I_38 := Kp_tr (Kp_rf (a := 0) (b := 49)) (Kp_wd h_38.1 (by decide) (by decide))
          have kJ_38 : Kp 0 49 Ja J_38 := Kp_tr (Kp_rf (a := 0) (b := 49)) (Kp_wd h_38.2.1 (by decide) (by decide))
          have cI_38 : CX I_38 := CX_kp hC h_38.1 (by decide) (by decide)
          have qI_38 := XI_o cI_38.1
          have r5_I_38 : I_38 1 5 = Ia 1 5 := by rw [h_38.1 1 (by decide)]
          have r6_I_38 : I_38 1 6 = Ia 1 6 := by rw [h_38.1 1 (by decide)]
          have r8_I_38 : I_38 1 8 = Ia 1 8 := by rw [h_38.1 1 (by decide)]
          have r9_I_38 : I_38 1 9 = Ia 1 9 := by rw [h_38.1 1 (by decide)]
          have r10_I_38 : I_38 1 10 = Ia 1 10 := by rw [h_38.1 1 (by decide)]
          have r11_I_38 : I_38 1 11 = Ia 1 11 := by rw [h_38.1 1 (by decide)]
          have rf_I_38 : FU (I_38 1 5) = FU (Ia 1 5) := by rw [r5_I_38]
          have wI_38 : Fw [18, 19, 20, 21, 22, 23, 24, 25, 26, 27, 28, 29, 30, 31, 32, 33, 34, 35, 36] [] Ia I_38 := Fw_kp Fw_rf h_38.1 (by decide)
          have r7_I_38 : I_38 1 7 = Ia 1 7 := by rw [h_38.1 1 (by decide)]
          refine rJ hX (pc := 41) hT (Nat.le_refl 0) (Nat.le_refl 0) dX10_mean_41 ?_
          exact ⟨kI_38, kJ_38, cI_38, (Fw_wd wI_38 (by decide) (by decide)), trivial⟩
      · simp only [w32_mod] at h_17
        refine ww_ldc2 hX (pc := 20) (x := (-1)) dX10_mean_20 tb_810 ?_
        refine rJ hX (pc := 23) hT (Nat.le_refl 0) (Nat.le_refl 0) dX10_mean_23 ?_
        exact ⟨(Kp_rf (a := 0) (b := 49)), (Kp_rf (a := 0) (b := 49)), hC, Fw_rf, trivial⟩
set_option maxHeartbeats 4000000 in
set_option maxRecDepth 20000 in
theorem c5_X10_safe (l0 : Launch) {Ia Ja : aI1} {Ra : aR1} {Sa : aS1} (hL : LY Ra Sa) (hC : CX Ia)  : CT l0 10 0 0 mX10_safe [kR (some 0)] Ia Ja Ra Sa (cI (fun x I' J' => Kp 0 49 Ia I' ∧ Kp 0 49 Ja J' ∧ CX I' ∧ Fw [18, 19, 20, 21, 22, 23, 24, 25, 26, 27, 28, 29, 30, 31, 32, 33, 34, 35, 36] [] Ia I' ∧ True) Ra Sa) := by
  refine ct_in pn_X10 (Nat.le_of_ble_eq_true rfl) (fun X hX hT hIn => ?_)
  have hX : aK l0 X cX10_safe 1 RX10 (some .int) 10 0 0 := hX
  change WW X 0 [some (kR (some 0))] [] Ia Ja Ra Sa 0 0
  have hI := hC.1
  have hq := XI_o hI
  refine ww_aload_n hX (pc := 0) dX10_safe_0 rfl ?_
  refine ww_getR hX (pc := 1) fX10_48 (by decide) (xs_0 hL) (xr_0_5 hL) dX10_safe_1 ?_
  refine vI0 hX (pc := 4) sX10_272 (xs_18 hL) (c_X4_findSafe l0 hL hC.1) (by decide) (Nat.le_refl 0) (Nat.le_refl 0) (Nat.le_of_ble_eq_true rfl) dX10_safe_4 (fun x_4 I_4 J_4 h_4 => ?_)
  have kI_4 : Kp 0 49 Ia I_4 := Kp_tr (Kp_rf (a := 0) (b := 49)) (Kp_wd h_4.1 (by decide) (by decide))
  have kJ_4 : Kp 0 49 Ja J_4 := Kp_tr (Kp_rf (a := 0) (b := 49)) (Kp_wd h_4.2.1 (by decide) (by decide))
  have cI_4 : CX I_4 := CX_kp hC h_4.1 (by decide) (by decide)
  have qI_4 := XI_o cI_4.1
  have r5_I_4 : I_4 1 5 = Ia 1 5 := by rw [h_4.1 1 (by decide)]
  have r6_I_4 : I_4 1 6 = Ia 1 6 := by rw [h_4.1 1 (by decide)]
  have r8_I_4 : I_4 1 8 = Ia 1 8 := by rw [h_4.1 1 (by decide)]
  have r9_I_4 : I_4 1 9 = Ia 1 9 := by rw [h_4.1 1 (by decide)]
  have r10_I_4 : I_4 1 10 = Ia 1 10 := by rw [h_4.1 1 (by decide)]
  have r11_I_4 : I_4 1 11 = Ia 1 11 := by rw [h_4.1 1 (by decide)]
  have rf_I_4 : FU (I_4 1 5) = FU (Ia 1 5) := by rw [r5_I_4]
  have wI_4 : Fw [18, 19, 20, 21, 22, 23, 24, 25, 26, 27, 28, 29, 30, 31, 32, 33, 34, 35, 36] [] Ia I_4 := Fw_kp Fw_rf h_4.1 (by decide)
  have r7_I_4 : I_4 1 7 = Ia 1 7 := by rw [h_4.1 1 (by decide)]
  refine rI hX (pc := 7) hT (Nat.le_refl 0) (Nat.le_refl 0) dX10_safe_7 ?_
  exact ⟨kI_4, kJ_4, cI_4, (Fw_wd wI_4 (by decide) (by decide)), trivial⟩
set_option maxHeartbeats 4000000 in
set_option maxRecDepth 20000 in
theorem c5_X10_log (l0 : Launch) {Ia Ja : aI1} {Ra : aR1} {Sa : aS1} (hL : LY Ra Sa) (hC : CX Ia) {a : Int} (ha0 : -2147483648 ≤ a) (ha1 : a < 2147483648)  : CT l0 10 0 0 mX10_log [kR (some 0), kI a] Ia Ja Ra Sa (cI (fun x I' J' => Kp 0 49 Ia I' ∧ Kp 0 49 Ja J' ∧ CX I' ∧ Fw [] [] Ia I' ∧ True) Ra Sa) := by
  refine ct_in pn_X10 (Nat.le_of_ble_eq_true rfl) (fun X hX hT hIn => ?_)
  have hX : aK l0 X cX10_log 2 RX10 (some .int) 10 0 0 := hX
  change WW X 0 [some (kR (some 0)), some (kI a)] [] Ia Ja Ra Sa 0 0
  have hI := hC.1
  have hq := XI_o hI
  refine ww_iload_n hX (pc := 0) dX10_log_0 rfl ?_
  refine ww_iconst hX (pc := 1) (x := (-1)) dX10_log_1 rfl ?_
  refine ww_icmp_ne hX (pc := 2) (tgt := 13) dX10_log_2 (by decide) (fun h_2 => ?_) (fun h_2 => ?_)
  · simp only [w32_mod] at h_2
    refine ww_iload_n hX (pc := 13) dX10_log_13 rfl ?_
    refine ww_if_lt hX (pc := 14) (tgt := 40) dX10_log_14 (by decide) (fun h_14 => ?_) (fun h_14 => ?_)
    · simp only [w32_mod] at h_14
      refine ww_iconst hX (pc := 40) (x := (-1)) dX10_log_40 rfl ?_
      refine rI hX (pc := 41) hT (Nat.le_refl 0) (Nat.le_refl 0) dX10_log_41 ?_
      exact ⟨(Kp_rf (a := 0) (b := 49)), (Kp_rf (a := 0) (b := 49)), hC, Fw_rf, trivial⟩
    · simp only [w32_mod] at h_14
      refine ww_iload_n hX (pc := 17) dX10_log_17 rfl ?_
      refine ww_aload_n hX (pc := 18) dX10_log_18 rfl ?_
      refine ww_getR hX (pc := 19) fX10_10 (by decide) (xs_0 hL) (xr_0_0 hL) dX10_log_19 ?_
      refine ww_getI hX (pc := 22) fX10_239 (by decide) (xs_1 hL) dX10_log_22 ?_
      refine ww_icmp_ge hX (pc := 25) (tgt := 40) dX10_log_25 (by decide) (fun h_25 => ?_) (fun h_25 => ?_)
      · simp only [w32_mod] at h_25
        refine ww_iconst hX (pc := 40) (x := (-1)) dX10_log_40 rfl ?_
        refine rI hX (pc := 41) hT (Nat.le_refl 0) (Nat.le_refl 0) dX10_log_41 ?_
        exact ⟨(Kp_rf (a := 0) (b := 49)), (Kp_rf (a := 0) (b := 49)), hC, Fw_rf, trivial⟩
      · simp only [w32_mod] at h_25
        refine ww_aload_n hX (pc := 28) dX10_log_28 rfl ?_
        refine ww_getR hX (pc := 29) fX10_10 (by decide) (xs_0 hL) (xr_0_0 hL) dX10_log_29 ?_
        refine ww_getR hX (pc := 32) fX10_247 (by decide) (xs_1 hL) (xr_1_3 hL) dX10_log_32 ?_
        refine ww_iload_n hX (pc := 35) dX10_log_35 rfl ?_
        refine ww_iald hX (pc := 36) (xs_5 hL) (by decide) (by omega) (by omega) dX10_log_36 ?_
        refine ww_goto hX (pc := 37) (tgt := 41) dX10_log_37 (by decide) ?_
        refine rI hX (pc := 41) hT (Nat.le_refl 0) (Nat.le_refl 0) dX10_log_41 ?_
        exact ⟨(Kp_rf (a := 0) (b := 49)), (Kp_rf (a := 0) (b := 49)), hC, Fw_rf, trivial⟩
  · simp only [w32_mod] at h_2
    refine ww_aload_n hX (pc := 5) dX10_log_5 rfl ?_
    refine ww_getR hX (pc := 6) fX10_10 (by decide) (xs_0 hL) (xr_0_0 hL) dX10_log_6 ?_
    refine ww_getI hX (pc := 9) fX10_236 (by decide) (xs_1 hL) dX10_log_9 ?_
    refine rI hX (pc := 12) hT (Nat.le_refl 0) (Nat.le_refl 0) dX10_log_12 ?_
    exact ⟨(Kp_rf (a := 0) (b := 49)), (Kp_rf (a := 0) (b := 49)), hC, Fw_rf, trivial⟩
set_option maxHeartbeats 4000000 in
set_option maxRecDepth 20000 in
theorem c5_X10_burnt (l0 : Launch) {Ia Ja : aI1} {Ra : aR1} {Sa : aS1} (hL : LY Ra Sa) (hC : CX Ia)  : CT l0 10 0 0 mX10_burnt [kR (some 0)] Ia Ja Ra Sa (cI (fun x I' J' => Kp 0 49 Ia I' ∧ Kp 0 49 Ja J' ∧ CX I' ∧ Fw [18, 19, 20, 21, 22, 23, 24, 25, 26, 27, 28, 29, 30, 31, 32, 33, 34, 35, 36] [] Ia I' ∧ True) Ra Sa) := by
  refine ct_in pn_X10 (Nat.le_of_ble_eq_true rfl) (fun X hX hT hIn => ?_)
  have hX : aK l0 X cX10_burnt 1 RX10 (some .int) 10 0 0 := hX
  change WW X 0 [some (kR (some 0))] [] Ia Ja Ra Sa 0 0
  have hI := hC.1
  have hq := XI_o hI
  refine ww_aload_n hX (pc := 0) dX10_burnt_0 rfl ?_
  refine ww_getR hX (pc := 1) fX10_48 (by decide) (xs_0 hL) (xr_0_5 hL) dX10_burnt_1 ?_
  refine ww_aload_n hX (pc := 4) dX10_burnt_4 rfl ?_
  refine ww_getR hX (pc := 5) fX10_10 (by decide) (xs_0 hL) (xr_0_0 hL) dX10_burnt_5 ?_
  refine ww_getI hX (pc := 8) fX10_236 (by decide) (xs_1 hL) dX10_burnt_8 ?_
  refine vI1 hX (pc := 11) sX10_250 (xs_18 hL) (c_X4_oilOf l0 hL hC.1 (by omega) (by omega)) (by decide) (Nat.le_refl 0) (Nat.le_refl 0) (Nat.le_of_ble_eq_true rfl) dX10_burnt_11 (fun x_11 I_11 J_11 h_11 => ?_)
  have kI_11 : Kp 0 49 Ia I_11 := Kp_tr (Kp_rf (a := 0) (b := 49)) (Kp_wd h_11.1 (by decide) (by decide))
  have kJ_11 : Kp 0 49 Ja J_11 := Kp_tr (Kp_rf (a := 0) (b := 49)) (Kp_wd h_11.2.1 (by decide) (by decide))
  have cI_11 : CX I_11 := CX_kp hC h_11.1 (by decide) (by decide)
  have qI_11 := XI_o cI_11.1
  have r5_I_11 : I_11 1 5 = Ia 1 5 := by rw [h_11.1 1 (by decide)]
  have r6_I_11 : I_11 1 6 = Ia 1 6 := by rw [h_11.1 1 (by decide)]
  have r8_I_11 : I_11 1 8 = Ia 1 8 := by rw [h_11.1 1 (by decide)]
  have r9_I_11 : I_11 1 9 = Ia 1 9 := by rw [h_11.1 1 (by decide)]
  have r10_I_11 : I_11 1 10 = Ia 1 10 := by rw [h_11.1 1 (by decide)]
  have r11_I_11 : I_11 1 11 = Ia 1 11 := by rw [h_11.1 1 (by decide)]
  have rf_I_11 : FU (I_11 1 5) = FU (Ia 1 5) := by rw [r5_I_11]
  have wI_11 : Fw [18, 19, 20, 21, 22, 23, 24, 25, 26, 27, 28, 29, 30, 31, 32, 33, 34, 35, 36] [] Ia I_11 := Fw_kp Fw_rf h_11.1 (by decide)
  have r7_I_11 : I_11 1 7 = Ia 1 7 := by rw [h_11.1 1 (by decide)]
  refine rI hX (pc := 14) hT (Nat.le_refl 0) (Nat.le_refl 0) dX10_burnt_14 ?_
  exact ⟨kI_11, kJ_11, cI_11, (Fw_wd wI_11 (by decide) (by decide)), trivial⟩
set_option maxHeartbeats 4000000 in
set_option maxRecDepth 20000 in
theorem c5_X10_count (l0 : Launch) {Ia Ja : aI1} {Ra : aR1} {Sa : aS1} (hL : LY Ra Sa) (hC : CX Ia) {a : Int} (ha0 : -2147483648 ≤ a) (ha1 : a < 2147483648)  : CT l0 10 0 0 mX10_count [kR (some 0), kI a] Ia Ja Ra Sa (cI (fun x I' J' => Kp 0 49 Ia I' ∧ Kp 0 49 Ja J' ∧ CX I' ∧ Fw [] [] Ia I' ∧ True) Ra Sa) := by
  refine ct_in pn_X10 (Nat.le_of_ble_eq_true rfl) (fun X hX hT hIn => ?_)
  have hX : aK l0 X cX10_count 2 RX10 (some .int) 10 0 0 := hX
  change WW X 0 [some (kR (some 0)), some (kI a)] [] Ia Ja Ra Sa 0 0
  have hI := hC.1
  have hq := XI_o hI
  refine ww_iload_n hX (pc := 0) dX10_count_0 rfl ?_
  refine ww_table hX (pc := 1) dX10_count_1 165 (by decide) (fun h_1 => ?_) (fun i_1 h_1 e_1 => ?_)
  · simp only [w32_mod] at h_1
    refine ww_iconst hX (pc := 165) (x := (-1)) dX10_count_165 rfl ?_
    refine rI hX (pc := 166) hT (Nat.le_refl 0) (Nat.le_refl 0) dX10_count_166 ?_
    exact ⟨(Kp_rf (a := 0) (b := 49)), (Kp_rf (a := 0) (b := 49)), hC, Fw_rf, trivial⟩
  · simp only [w32_mod] at e_1
    rcases (show i_1 = 0 ∨ i_1 = 1 ∨ i_1 = 2 ∨ i_1 = 3 ∨ i_1 = 4 ∨ i_1 = 5 ∨ i_1 = 6 ∨ i_1 = 7 ∨ i_1 = 8 ∨ i_1 = 9 ∨ i_1 = 10 ∨ i_1 = 11 ∨ i_1 = 12 by omega) with rfl | rfl | rfl | rfl | rfl | rfl | rfl | rfl | rfl | rfl | rfl | rfl | rfl
    · refine ⟨67, 68, rfl, by decide, ?_⟩
      refine ww_aload_n hX (pc := 68) dX10_count_68 rfl ?_
      refine ww_getR hX (pc := 69) fX10_10 (by decide) (xs_0 hL) (xr_0_0 hL) dX10_count_69 ?_
      refine ww_getI hX (pc := 72) fX10_93 (by decide) (xs_1 hL) dX10_count_72 ?_
      refine rI hX (pc := 75) hT (Nat.le_refl 0) (Nat.le_refl 0) dX10_count_75 ?_
      exact ⟨(Kp_rf (a := 0) (b := 49)), (Kp_rf (a := 0) (b := 49)), hC, Fw_rf, trivial⟩
    · refine ⟨75, 76, rfl, by decide, ?_⟩
      refine ww_aload_n hX (pc := 76) dX10_count_76 rfl ?_
      refine ww_getR hX (pc := 77) fX10_10 (by decide) (xs_0 hL) (xr_0_0 hL) dX10_count_77 ?_
      refine ww_getI hX (pc := 80) fX10_117 (by decide) (xs_1 hL) dX10_count_80 ?_
      refine rI hX (pc := 83) hT (Nat.le_refl 0) (Nat.le_refl 0) dX10_count_83 ?_
      exact ⟨(Kp_rf (a := 0) (b := 49)), (Kp_rf (a := 0) (b := 49)), hC, Fw_rf, trivial⟩
    · refine ⟨83, 84, rfl, by decide, ?_⟩
      refine ww_aload_n hX (pc := 84) dX10_count_84 rfl ?_
      refine ww_getR hX (pc := 85) fX10_10 (by decide) (xs_0 hL) (xr_0_0 hL) dX10_count_85 ?_
      refine ww_getI hX (pc := 88) fX10_170 (by decide) (xs_1 hL) dX10_count_88 ?_
      refine rI hX (pc := 91) hT (Nat.le_refl 0) (Nat.le_refl 0) dX10_count_91 ?_
      exact ⟨(Kp_rf (a := 0) (b := 49)), (Kp_rf (a := 0) (b := 49)), hC, Fw_rf, trivial⟩
    · refine ⟨91, 92, rfl, by decide, ?_⟩
      refine ww_aload_n hX (pc := 92) dX10_count_92 rfl ?_
      refine ww_getR hX (pc := 93) fX10_10 (by decide) (xs_0 hL) (xr_0_0 hL) dX10_count_93 ?_
      refine vI0 hX (pc := 96) sX10_167 (xs_1 hL) (c_X1_readCount l0 hL hC.1) (by decide) (Nat.le_refl 0) (Nat.le_refl 0) (Nat.le_of_ble_eq_true rfl) dX10_count_96 (fun x_96 I_96 J_96 h_96 => ?_)
      obtain ⟨rfl, rfl, h_96⟩ := h_96
      refine rI hX (pc := 99) hT (Nat.le_refl 0) (Nat.le_refl 0) dX10_count_99 ?_
      exact ⟨(Kp_rf (a := 0) (b := 49)), (Kp_rf (a := 0) (b := 49)), hC, Fw_rf, trivial⟩
    · refine ⟨99, 100, rfl, by decide, ?_⟩
      refine ww_aload_n hX (pc := 100) dX10_count_100 rfl ?_
      refine ww_getR hX (pc := 101) fX10_10 (by decide) (xs_0 hL) (xr_0_0 hL) dX10_count_101 ?_
      refine ww_getI hX (pc := 104) fX10_239 (by decide) (xs_1 hL) dX10_count_104 ?_
      refine rI hX (pc := 107) hT (Nat.le_refl 0) (Nat.le_refl 0) dX10_count_107 ?_
      exact ⟨(Kp_rf (a := 0) (b := 49)), (Kp_rf (a := 0) (b := 49)), hC, Fw_rf, trivial⟩
    · refine ⟨107, 108, rfl, by decide, ?_⟩
      refine ww_aload_n hX (pc := 108) dX10_count_108 rfl ?_
      refine ww_getR hX (pc := 109) fX10_10 (by decide) (xs_0 hL) (xr_0_0 hL) dX10_count_109 ?_
      refine ww_getI hX (pc := 112) fX10_275 (by decide) (xs_1 hL) dX10_count_112 ?_
      refine rI hX (pc := 115) hT (Nat.le_refl 0) (Nat.le_refl 0) dX10_count_115 ?_
      exact ⟨(Kp_rf (a := 0) (b := 49)), (Kp_rf (a := 0) (b := 49)), hC, Fw_rf, trivial⟩
    · refine ⟨115, 116, rfl, by decide, ?_⟩
      refine ww_aload_n hX (pc := 116) dX10_count_116 rfl ?_
      refine ww_getR hX (pc := 117) fX10_23 (by decide) (xs_0 hL) (xr_0_2 hL) dX10_count_117 ?_
      refine ww_getI hX (pc := 120) fX10_148 (by decide) (xs_8 hL) dX10_count_120 ?_
      refine rI hX (pc := 123) hT (Nat.le_refl 0) (Nat.le_refl 0) dX10_count_123 ?_
      exact ⟨(Kp_rf (a := 0) (b := 49)), (Kp_rf (a := 0) (b := 49)), hC, Fw_rf, trivial⟩
    · refine ⟨123, 124, rfl, by decide, ?_⟩
      refine ww_aload_n hX (pc := 124) dX10_count_124 rfl ?_
      refine ww_getR hX (pc := 125) fX10_82 (by decide) (xs_0 hL) (xr_0_11 hL) dX10_count_125 ?_
      refine ww_iconst hX (pc := 128) (x := 1) dX10_count_128 rfl ?_
      refine ww_iald hX (pc := 129) (xs_48 hL) (by decide) (by omega) (by omega) dX10_count_129 ?_
      refine rI hX (pc := 130) hT (Nat.le_refl 0) (Nat.le_refl 0) dX10_count_130 ?_
      exact ⟨(Kp_rf (a := 0) (b := 49)), (Kp_rf (a := 0) (b := 49)), hC, Fw_rf, trivial⟩
    · refine ⟨130, 131, rfl, by decide, ?_⟩
      refine ww_aload_n hX (pc := 131) dX10_count_131 rfl ?_
      refine ww_getR hX (pc := 132) fX10_82 (by decide) (xs_0 hL) (xr_0_11 hL) dX10_count_132 ?_
      refine ww_iconst hX (pc := 135) (x := 2) dX10_count_135 rfl ?_
      refine ww_iald hX (pc := 136) (xs_48 hL) (by decide) (by omega) (by omega) dX10_count_136 ?_
      refine rI hX (pc := 137) hT (Nat.le_refl 0) (Nat.le_refl 0) dX10_count_137 ?_
      exact ⟨(Kp_rf (a := 0) (b := 49)), (Kp_rf (a := 0) (b := 49)), hC, Fw_rf, trivial⟩
    · refine ⟨137, 138, rfl, by decide, ?_⟩
      refine ww_aload_n hX (pc := 138) dX10_count_138 rfl ?_
      refine ww_getR hX (pc := 139) fX10_82 (by decide) (xs_0 hL) (xr_0_11 hL) dX10_count_139 ?_
      refine ww_iconst hX (pc := 142) (x := 3) dX10_count_142 rfl ?_
      refine ww_iald hX (pc := 143) (xs_48 hL) (by decide) (by omega) (by omega) dX10_count_143 ?_
      refine rI hX (pc := 144) hT (Nat.le_refl 0) (Nat.le_refl 0) dX10_count_144 ?_
      exact ⟨(Kp_rf (a := 0) (b := 49)), (Kp_rf (a := 0) (b := 49)), hC, Fw_rf, trivial⟩
    · refine ⟨144, 145, rfl, by decide, ?_⟩
      refine ww_aload_n hX (pc := 145) dX10_count_145 rfl ?_
      refine ww_getR hX (pc := 146) fX10_82 (by decide) (xs_0 hL) (xr_0_11 hL) dX10_count_146 ?_
      refine ww_iconst hX (pc := 149) (x := 5) dX10_count_149 rfl ?_
      refine ww_iald hX (pc := 150) (xs_48 hL) (by decide) (by omega) (by omega) dX10_count_150 ?_
      refine rI hX (pc := 151) hT (Nat.le_refl 0) (Nat.le_refl 0) dX10_count_151 ?_
      exact ⟨(Kp_rf (a := 0) (b := 49)), (Kp_rf (a := 0) (b := 49)), hC, Fw_rf, trivial⟩
    · refine ⟨151, 152, rfl, by decide, ?_⟩
      refine ww_aload_n hX (pc := 152) dX10_count_152 rfl ?_
      refine ww_getR hX (pc := 153) fX10_82 (by decide) (xs_0 hL) (xr_0_11 hL) dX10_count_153 ?_
      refine ww_bipush hX (pc := 156) (x := 6) dX10_count_156 (by decide) ?_
      refine ww_iald hX (pc := 158) (xs_48 hL) (by decide) (by omega) (by omega) dX10_count_158 ?_
      refine rI hX (pc := 159) hT (Nat.le_refl 0) (Nat.le_refl 0) dX10_count_159 ?_
      exact ⟨(Kp_rf (a := 0) (b := 49)), (Kp_rf (a := 0) (b := 49)), hC, Fw_rf, trivial⟩
    · refine ⟨159, 160, rfl, by decide, ?_⟩
      refine ww_aload_n hX (pc := 160) dX10_count_160 rfl ?_
      refine ww_getI hX (pc := 161) fX10_256 (by decide) (xs_0 hL) dX10_count_161 ?_
      refine rI hX (pc := 164) hT (Nat.le_refl 0) (Nat.le_refl 0) dX10_count_164 ?_
      exact ⟨(Kp_rf (a := 0) (b := 49)), (Kp_rf (a := 0) (b := 49)), hC, Fw_rf, trivial⟩
set_option maxHeartbeats 4000000 in
set_option maxRecDepth 20000 in
theorem c5_X10_cheap (l0 : Launch) {Ia Ja : aI1} {Ra : aR1} {Sa : aS1} (hL : LY Ra Sa) (hC : CX Ia) {a : Int} (ha0 : -2147483648 ≤ a) (ha1 : a < 2147483648)  : CT l0 10 0 0 mX10_cheap [kR (some 0), kI a] Ia Ja Ra Sa (cI (fun x I' J' => Kp 0 49 Ia I' ∧ Kp 0 49 Ja J' ∧ CX I' ∧ Fw [18, 19, 20, 21, 22, 23, 24, 25, 26, 27, 28, 29, 30, 31, 32, 33, 34, 35, 36] [] Ia I' ∧ True) Ra Sa) := by
  refine ct_in pn_X10 (Nat.le_of_ble_eq_true rfl) (fun X hX hT hIn => ?_)
  have hX : aK l0 X cX10_cheap 2 RX10 (some .int) 10 0 0 := hX
  change WW X 0 [some (kR (some 0)), some (kI a)] [] Ia Ja Ra Sa 0 0
  have hI := hC.1
  have hq := XI_o hI
  refine ww_iload_n hX (pc := 0) dX10_cheap_0 rfl ?_
  refine ww_if_lt hX (pc := 1) (tgt := 9) dX10_cheap_1 (by decide) (fun h_1 => ?_) (fun h_1 => ?_)
  · simp only [w32_mod] at h_1
    refine ww_iconst hX (pc := 9) (x := (-1)) dX10_cheap_9 rfl ?_
    refine rI hX (pc := 10) hT (Nat.le_refl 0) (Nat.le_refl 0) dX10_cheap_10 ?_
    exact ⟨(Kp_rf (a := 0) (b := 49)), (Kp_rf (a := 0) (b := 49)), hC, Fw_rf, trivial⟩
  · simp only [w32_mod] at h_1
    refine ww_iload_n hX (pc := 4) dX10_cheap_4 rfl ?_
    refine ww_iconst hX (pc := 5) (x := 1) dX10_cheap_5 rfl ?_
    refine ww_icmp_le hX (pc := 6) (tgt := 11) dX10_cheap_6 (by decide) (fun h_6 => ?_) (fun h_6 => ?_)
    · simp only [w32_mod] at h_6
      refine ww_aload_n hX (pc := 11) dX10_cheap_11 rfl ?_
      refine ww_getR hX (pc := 12) fX10_64 (by decide) (xs_0 hL) (xr_0_7 hL) dX10_cheap_12 ?_
      refine vV0 hX (pc := 15) sX10_281 (xs_33 hL) (c_X3_solve l0 hL hC.1) (by decide) (Nat.le_refl 0) (Nat.le_refl 0) (Nat.le_of_ble_eq_true rfl) dX10_cheap_15 (fun I_15 J_15 h_15 => ?_)
      have kI_15 : Kp 0 49 Ia I_15 := Kp_tr (Kp_rf (a := 0) (b := 49)) (Kp_wd h_15.1 (by decide) (by decide))
      have kJ_15 : Kp 0 49 Ja J_15 := Kp_tr (Kp_rf (a := 0) (b := 49)) (Kp_wd h_15.2.1 (by decide) (by decide))
      have cI_15 : CX I_15 := CX_kp hC h_15.1 (by decide) (by decide)
      have qI_15 := XI_o cI_15.1
      have r5_I_15 : I_15 1 5 = Ia 1 5 := by rw [h_15.1 1 (by decide)]
      have r6_I_15 : I_15 1 6 = Ia 1 6 := by rw [h_15.1 1 (by decide)]
      have r8_I_15 : I_15 1 8 = Ia 1 8 := by rw [h_15.1 1 (by decide)]
      have r9_I_15 : I_15 1 9 = Ia 1 9 := by rw [h_15.1 1 (by decide)]
      have r10_I_15 : I_15 1 10 = Ia 1 10 := by rw [h_15.1 1 (by decide)]
      have r11_I_15 : I_15 1 11 = Ia 1 11 := by rw [h_15.1 1 (by decide)]
      have rf_I_15 : FU (I_15 1 5) = FU (Ia 1 5) := by rw [r5_I_15]
      have wI_15 : Fw [18, 19, 20, 21, 22, 23, 24, 25, 26, 27, 28, 29, 30, 31, 32, 33, 34, 35, 36] [] Ia I_15 := Fw_kp Fw_rf h_15.1 (by decide)
      have r7_I_15 : I_15 1 7 = Ia 1 7 := by rw [h_15.1 1 (by decide)]
      refine ww_iload_n hX (pc := 18) dX10_cheap_18 rfl ?_
      refine ww_if_ne hX (pc := 19) (tgt := 32) dX10_cheap_19 (by decide) (fun h_19 => ?_) (fun h_19 => ?_)
      · simp only [w32_mod] at h_19
        refine ww_aload_n hX (pc := 32) dX10_cheap_32 rfl ?_
        refine ww_getR hX (pc := 33) fX10_64 (by decide) (xs_0 hL) (xr_0_7 hL) dX10_cheap_33 ?_
        refine ww_getI hX (pc := 36) fX10_287 (by decide) (xs_33 hL) dX10_cheap_36 ?_
        refine rI hX (pc := 39) hT (Nat.le_refl 0) (Nat.le_refl 0) dX10_cheap_39 ?_
        exact ⟨kI_15, kJ_15, cI_15, (Fw_wd wI_15 (by decide) (by decide)), trivial⟩
      · simp only [w32_mod] at h_19
        refine ww_aload_n hX (pc := 22) dX10_cheap_22 rfl ?_
        refine ww_getR hX (pc := 23) fX10_64 (by decide) (xs_0 hL) (xr_0_7 hL) dX10_cheap_23 ?_
        refine ww_getI hX (pc := 26) fX10_284 (by decide) (xs_33 hL) dX10_cheap_26 ?_
        refine ww_goto hX (pc := 29) (tgt := 39) dX10_cheap_29 (by decide) ?_
        refine rI hX (pc := 39) hT (Nat.le_refl 0) (Nat.le_refl 0) dX10_cheap_39 ?_
        exact ⟨kI_15, kJ_15, cI_15, (Fw_wd wI_15 (by decide) (by decide)), trivial⟩
    · simp only [w32_mod] at h_6
      refine ww_iconst hX (pc := 9) (x := (-1)) dX10_cheap_9 rfl ?_
      refine rI hX (pc := 10) hT (Nat.le_refl 0) (Nat.le_refl 0) dX10_cheap_10 ?_
      exact ⟨(Kp_rf (a := 0) (b := 49)), (Kp_rf (a := 0) (b := 49)), hC, Fw_rf, trivial⟩
set_option maxHeartbeats 4000000 in
set_option maxRecDepth 20000 in
theorem c5_X10_plan (l0 : Launch) {Ia Ja : aI1} {Ra : aR1} {Sa : aS1} (hL : LY Ra Sa) (hC : CX Ia) {a : Int} (ha0 : -2147483648 ≤ a) (ha1 : a < 2147483648)  : CT l0 10 0 0 mX10_plan [kR (some 0), kI a] Ia Ja Ra Sa (cI (fun x I' J' => Kp 0 49 Ia I' ∧ Kp 0 49 Ja J' ∧ CX I' ∧ Fw [18, 19, 20, 21, 22, 23, 24, 25, 26, 27, 28, 29, 30, 31, 32, 33, 34, 35, 36] [] Ia I' ∧ True) Ra Sa) := by
  refine ct_in pn_X10 (Nat.le_of_ble_eq_true rfl) (fun X hX hT hIn => ?_)
  have hX : aK l0 X cX10_plan 2 RX10 (some .int) 10 0 0 := hX
  change WW X 0 [some (kR (some 0)), some (kI a)] [] Ia Ja Ra Sa 0 0
  have hI := hC.1
  have hq := XI_o hI
  refine ww_iload_n hX (pc := 0) dX10_plan_0 rfl ?_
  refine ww_if_lt hX (pc := 1) (tgt := 15) dX10_plan_1 (by decide) (fun h_1 => ?_) (fun h_1 => ?_)
  · simp only [w32_mod] at h_1
    refine ww_iconst hX (pc := 15) (x := (-1)) dX10_plan_15 rfl ?_
    refine rI hX (pc := 16) hT (Nat.le_refl 0) (Nat.le_refl 0) dX10_plan_16 ?_
    exact ⟨(Kp_rf (a := 0) (b := 49)), (Kp_rf (a := 0) (b := 49)), hC, Fw_rf, trivial⟩
  · simp only [w32_mod] at h_1
    refine ww_iload_n hX (pc := 4) dX10_plan_4 rfl ?_
    refine ww_aload_n hX (pc := 5) dX10_plan_5 rfl ?_
    refine ww_getR hX (pc := 6) fX10_10 (by decide) (xs_0 hL) (xr_0_0 hL) dX10_plan_6 ?_
    refine ww_getI hX (pc := 9) fX10_275 (by decide) (xs_1 hL) dX10_plan_9 ?_
    refine ww_icmp_lt hX (pc := 12) (tgt := 17) dX10_plan_12 (by decide) (fun h_12 => ?_) (fun h_12 => ?_)
    · simp only [w32_mod] at h_12
      refine ww_aload_n hX (pc := 17) dX10_plan_17 rfl ?_
      refine ww_getR hX (pc := 18) fX10_64 (by decide) (xs_0 hL) (xr_0_7 hL) dX10_plan_18 ?_
      refine vV0 hX (pc := 21) sX10_281 (xs_33 hL) (c_X3_solve l0 hL hC.1) (by decide) (Nat.le_refl 0) (Nat.le_refl 0) (Nat.le_of_ble_eq_true rfl) dX10_plan_21 (fun I_21 J_21 h_21 => ?_)
      have kI_21 : Kp 0 49 Ia I_21 := Kp_tr (Kp_rf (a := 0) (b := 49)) (Kp_wd h_21.1 (by decide) (by decide))
      have kJ_21 : Kp 0 49 Ja J_21 := Kp_tr (Kp_rf (a := 0) (b := 49)) (Kp_wd h_21.2.1 (by decide) (by decide))
      have cI_21 : CX I_21 := CX_kp hC h_21.1 (by decide) (by decide)
      have qI_21 := XI_o cI_21.1
      have r5_I_21 : I_21 1 5 = Ia 1 5 := by rw [h_21.1 1 (by decide)]
      have r6_I_21 : I_21 1 6 = Ia 1 6 := by rw [h_21.1 1 (by decide)]
      have r8_I_21 : I_21 1 8 = Ia 1 8 := by rw [h_21.1 1 (by decide)]
      have r9_I_21 : I_21 1 9 = Ia 1 9 := by rw [h_21.1 1 (by decide)]
      have r10_I_21 : I_21 1 10 = Ia 1 10 := by rw [h_21.1 1 (by decide)]
      have r11_I_21 : I_21 1 11 = Ia 1 11 := by rw [h_21.1 1 (by decide)]
      have rf_I_21 : FU (I_21 1 5) = FU (Ia 1 5) := by rw [r5_I_21]
      have wI_21 : Fw [18, 19, 20, 21, 22, 23, 24, 25, 26, 27, 28, 29, 30, 31, 32, 33, 34, 35, 36] [] Ia I_21 := Fw_kp Fw_rf h_21.1 (by decide)
      have r7_I_21 : I_21 1 7 = Ia 1 7 := by rw [h_21.1 1 (by decide)]
      refine ww_aload_n hX (pc := 24) dX10_plan_24 rfl ?_
      refine ww_getR hX (pc := 25) fX10_64 (by decide) (xs_0 hL) (xr_0_7 hL) dX10_plan_25 ?_
      refine ww_getI hX (pc := 28) fX10_284 (by decide) (xs_33 hL) dX10_plan_28 ?_
      refine ww_iconst hX (pc := 31) (x := (-1)) dX10_plan_31 rfl ?_
      refine ww_icmp_ne hX (pc := 32) (tgt := 39) dX10_plan_32 (by decide) (fun h_32 => ?_) (fun h_32 => ?_)
      · simp only [w32_mod] at h_32
        refine ww_aload_n hX (pc := 39) dX10_plan_39 rfl ?_
        refine ww_getR hX (pc := 40) fX10_64 (by decide) (xs_0 hL) (xr_0_7 hL) dX10_plan_40 ?_
        refine ww_getR hX (pc := 43) fX10_290 (by decide) (xs_33 hL) (xr_33_0 hL) dX10_plan_43 ?_
        refine ww_iload_n hX (pc := 46) dX10_plan_46 rfl ?_
        refine ww_iald hX (pc := 47) (xs_34 hL) (by decide) (by omega) (by omega) dX10_plan_47 ?_
        refine rI hX (pc := 48) hT (Nat.le_refl 0) (Nat.le_refl 0) dX10_plan_48 ?_
        exact ⟨kI_21, kJ_21, cI_21, (Fw_wd wI_21 (by decide) (by decide)), trivial⟩
      · simp only [w32_mod] at h_32
        refine ww_iconst hX (pc := 35) (x := (-1)) dX10_plan_35 rfl ?_
        refine ww_goto hX (pc := 36) (tgt := 48) dX10_plan_36 (by decide) ?_
        refine rI hX (pc := 48) hT (Nat.le_refl 0) (Nat.le_refl 0) dX10_plan_48 ?_
        exact ⟨kI_21, kJ_21, cI_21, (Fw_wd wI_21 (by decide) (by decide)), trivial⟩
    · simp only [w32_mod] at h_12
      refine ww_iconst hX (pc := 15) (x := (-1)) dX10_plan_15 rfl ?_
      refine rI hX (pc := 16) hT (Nat.le_refl 0) (Nat.le_refl 0) dX10_plan_16 ?_
      exact ⟨(Kp_rf (a := 0) (b := 49)), (Kp_rf (a := 0) (b := 49)), hC, Fw_rf, trivial⟩
set_option maxHeartbeats 4000000 in
set_option maxRecDepth 20000 in
theorem c5_X10_rows (l0 : Launch) {Ia Ja : aI1} {Ra : aR1} {Sa : aS1} (hL : LY Ra Sa) (hC : CX Ia) {a b c : Int} (ha0 : -2147483648 ≤ a) (ha1 : a < 2147483648) (hb0 : -2147483648 ≤ b) (hb1 : b < 2147483648) (hc0 : -2147483648 ≤ c) (hc1 : c < 2147483648)  : CT l0 10 0 0 mX10_rows [kR (some 0), kI a, kI b, kI c] Ia Ja Ra Sa (cJ (fun x I' J' => Kp 0 49 Ia I' ∧ Kp 0 49 Ja J' ∧ CX I' ∧ Fw [18, 19, 20, 21, 22, 23, 24, 25, 26, 27, 28, 29, 30, 31, 32, 33, 34, 35, 36] [] Ia I' ∧ True) Ra Sa) := by
  refine ct_in pn_X10 (Nat.le_of_ble_eq_true rfl) (fun X hX hT hIn => ?_)
  have hX : aK l0 X cX10_rows 4 RX10 (some .long) 10 0 0 := hX
  change WW X 0 [some (kR (some 0)), some (kI a), some (kI b), some (kI c)] [] Ia Ja Ra Sa 0 0
  have hI := hC.1
  have hq := XI_o hI
  refine ww_aload_n hX (pc := 0) dX10_rows_0 rfl ?_
  refine ww_iload_n hX (pc := 1) dX10_rows_1 rfl ?_
  refine ww_iload_n hX (pc := 2) dX10_rows_2 rfl ?_
  refine ww_iload_n hX (pc := 3) dX10_rows_3 rfl ?_
  refine vI3 hX (pc := 4) sX10_262 (xs_0 hL) (c_X10_isRowTo l0 hL hC.1 (by omega) (by omega) (by omega) (by omega) (by omega) (by omega)) (by decide) (Nat.le_refl 0) (Nat.le_refl 0) (Nat.le_of_ble_eq_true rfl) dX10_rows_4 (fun x_4 I_4 J_4 h_4 => ?_)
  obtain ⟨rfl, rfl, h_4⟩ := h_4
  refine ww_if_ne hX (pc := 7) (tgt := 14) dX10_rows_7 (by decide) (fun h_7 => ?_) (fun h_7 => ?_)
  · simp only [w32_mod] at h_7
    have k_4 := h_4.2.mp (by omega)
    clear h_4
    refine ww_aload_n hX (pc := 14) dX10_rows_14 rfl ?_
    refine ww_getR hX (pc := 15) fX10_57 (by decide) (xs_0 hL) (xr_0_6 hL) dX10_rows_15 ?_
    refine ww_iload_n hX (pc := 18) dX10_rows_18 rfl ?_
    refine ww_iload_n hX (pc := 19) dX10_rows_19 rfl ?_
    refine ww_iload_n hX (pc := 20) dX10_rows_20 rfl ?_
    refine ww_iconst hX (pc := 21) (x := (-1)) dX10_rows_21 rfl ?_
    refine ww_iconst hX (pc := 22) (x := (-1)) dX10_rows_22 rfl ?_
    refine vJ5 hX (pc := 23) sX10_265 (xs_31 hL) (c_X8_countRows l0 hL hC.1 (by omega) (by omega) (by omega) (by omega)) (by decide) (Nat.le_refl 0) (Nat.le_refl 0) (Nat.le_of_ble_eq_true rfl) dX10_rows_23 (fun x_23 I_23 J_23 h_23 => ?_)
    have kI_23 : Kp 0 49 Ia I_23 := Kp_tr (Kp_rf (a := 0) (b := 49)) (Kp_wd h_23.1 (by decide) (by decide))
    have kJ_23 : Kp 0 49 Ja J_23 := Kp_tr (Kp_rf (a := 0) (b := 49)) (Kp_wd h_23.2.1 (by decide) (by decide))
    have cI_23 : CX I_23 := CX_kp hC h_23.1 (by decide) (by decide)
    have qI_23 := XI_o cI_23.1
    have r5_I_23 : I_23 1 5 = Ia 1 5 := by rw [h_23.1 1 (by decide)]
    have r6_I_23 : I_23 1 6 = Ia 1 6 := by rw [h_23.1 1 (by decide)]
    have r8_I_23 : I_23 1 8 = Ia 1 8 := by rw [h_23.1 1 (by decide)]
    have r9_I_23 : I_23 1 9 = Ia 1 9 := by rw [h_23.1 1 (by decide)]
    have r10_I_23 : I_23 1 10 = Ia 1 10 := by rw [h_23.1 1 (by decide)]
    have r11_I_23 : I_23 1 11 = Ia 1 11 := by rw [h_23.1 1 (by decide)]
    have rf_I_23 : FU (I_23 1 5) = FU (Ia 1 5) := by rw [r5_I_23]
    have wI_23 : Fw [18, 19, 20, 21, 22, 23, 24, 25, 26, 27, 28, 29, 30, 31, 32, 33, 34, 35, 36] [] Ia I_23 := Fw_kp Fw_rf h_23.1 (by decide)
    have r7_I_23 : I_23 1 7 = Ia 1 7 := by rw [h_23.1 1 (by decide)]
    refine rJ hX (pc := 26) hT (Nat.le_refl 0) (Nat.le_refl 0) dX10_rows_26 ?_
    exact ⟨kI_23, kJ_23, cI_23, (Fw_wd wI_23 (by decide) (by decide)), trivial⟩
  · simp only [w32_mod] at h_7
    refine ww_ldc2 hX (pc := 10) (x := (-1)) dX10_rows_10 tb_810 ?_
    refine rJ hX (pc := 13) hT (Nat.le_refl 0) (Nat.le_refl 0) dX10_rows_13 ?_
    exact ⟨(Kp_rf (a := 0) (b := 49)), (Kp_rf (a := 0) (b := 49)), hC, Fw_rf, trivial⟩
set_option maxHeartbeats 4000000 in
set_option maxRecDepth 20000 in
theorem c5_X10_could (l0 : Launch) {Ia Ja : aI1} {Ra : aR1} {Sa : aS1} (hL : LY Ra Sa) (hC : CX Ia) {a b c e f : Int} (ha0 : -2147483648 ≤ a) (ha1 : a < 2147483648) (hb0 : -2147483648 ≤ b) (hb1 : b < 2147483648) (hc0 : -2147483648 ≤ c) (hc1 : c < 2147483648) (he0 : -2147483648 ≤ e) (he1 : e < 2147483648) (hf0 : -2147483648 ≤ f) (hf1 : f < 2147483648)  : CT l0 10 0 0 mX10_could [kR (some 0), kI a, kI b, kI c, kI e, kI f] Ia Ja Ra Sa (cJ (fun x I' J' => Kp 0 49 Ia I' ∧ Kp 0 49 Ja J' ∧ CX I' ∧ Fw [18, 19, 20, 21, 22, 23, 24, 25, 26, 27, 28, 29, 30, 31, 32, 33, 34, 35, 36] [] Ia I' ∧ True) Ra Sa) := by
  refine ct_in pn_X10 (Nat.le_of_ble_eq_true rfl) (fun X hX hT hIn => ?_)
  have hX : aK l0 X cX10_could 6 RX10 (some .long) 10 0 0 := hX
  change WW X 0 [some (kR (some 0)), some (kI a), some (kI b), some (kI c), some (kI e), some (kI f)] [] Ia Ja Ra Sa 0 0
  have hI := hC.1
  have hq := XI_o hI
  refine ww_aload_n hX (pc := 0) dX10_could_0 rfl ?_
  refine ww_iload_n hX (pc := 1) dX10_could_1 rfl ?_
  refine ww_iload_n hX (pc := 2) dX10_could_2 rfl ?_
  refine ww_iload_n hX (pc := 3) dX10_could_3 rfl ?_
  refine vI3 hX (pc := 4) sX10_262 (xs_0 hL) (c_X10_isRowTo l0 hL hC.1 (by omega) (by omega) (by omega) (by omega) (by omega) (by omega)) (by decide) (Nat.le_refl 0) (Nat.le_refl 0) (Nat.le_of_ble_eq_true rfl) dX10_could_4 (fun x_4 I_4 J_4 h_4 => ?_)
  obtain ⟨rfl, rfl, h_4⟩ := h_4
  refine ww_if_eq hX (pc := 7) (tgt := 33) dX10_could_7 (by decide) (fun h_7 => ?_) (fun h_7 => ?_)
  · simp only [w32_mod] at h_7
    refine ww_ldc2 hX (pc := 33) (x := (-1)) dX10_could_33 tb_810 ?_
    refine rJ hX (pc := 36) hT (Nat.le_refl 0) (Nat.le_refl 0) dX10_could_36 ?_
    exact ⟨(Kp_rf (a := 0) (b := 49)), (Kp_rf (a := 0) (b := 49)), hC, Fw_rf, trivial⟩
  · simp only [w32_mod] at h_7
    have k_4 := h_4.2.mp (by omega)
    clear h_4
    refine ww_iload hX (pc := 10) dX10_could_10 rfl ?_
    refine ww_if_lt hX (pc := 12) (tgt := 33) dX10_could_12 (by decide) (fun h_12 => ?_) (fun h_12 => ?_)
    · simp only [w32_mod] at h_12
      refine ww_ldc2 hX (pc := 33) (x := (-1)) dX10_could_33 tb_810 ?_
      refine rJ hX (pc := 36) hT (Nat.le_refl 0) (Nat.le_refl 0) dX10_could_36 ?_
      exact ⟨(Kp_rf (a := 0) (b := 49)), (Kp_rf (a := 0) (b := 49)), hC, Fw_rf, trivial⟩
    · simp only [w32_mod] at h_12
      refine ww_iload hX (pc := 15) dX10_could_15 rfl ?_
      refine ww_iload_n hX (pc := 17) dX10_could_17 rfl ?_
      refine ww_icmp_ge hX (pc := 18) (tgt := 33) dX10_could_18 (by decide) (fun h_18 => ?_) (fun h_18 => ?_)
      · simp only [w32_mod] at h_18
        refine ww_ldc2 hX (pc := 33) (x := (-1)) dX10_could_33 tb_810 ?_
        refine rJ hX (pc := 36) hT (Nat.le_refl 0) (Nat.le_refl 0) dX10_could_36 ?_
        exact ⟨(Kp_rf (a := 0) (b := 49)), (Kp_rf (a := 0) (b := 49)), hC, Fw_rf, trivial⟩
      · simp only [w32_mod] at h_18
        refine ww_aload_n hX (pc := 21) dX10_could_21 rfl ?_
        refine ww_getR hX (pc := 22) fX10_10 (by decide) (xs_0 hL) (xr_0_0 hL) dX10_could_22 ?_
        refine ww_iload hX (pc := 25) dX10_could_25 rfl ?_
        refine vI1 hX (pc := 27) sX10_134 (xs_1 hL) (c_X1_isNews l0 hL hC.1 (by omega)) (by decide) (Nat.le_refl 0) (Nat.le_refl 0) (Nat.le_of_ble_eq_true rfl) dX10_could_27 (fun x_27 I_27 J_27 h_27 => ?_)
        obtain ⟨rfl, rfl, h_27⟩ := h_27
        refine ww_if_ne hX (pc := 30) (tgt := 37) dX10_could_30 (by decide) (fun h_30 => ?_) (fun h_30 => ?_)
        · simp only [w32_mod] at h_30
          have k_27 := h_27.2.mp (by omega)
          clear h_27
          refine ww_aload_n hX (pc := 37) dX10_could_37 rfl ?_
          refine ww_getR hX (pc := 38) fX10_57 (by decide) (xs_0 hL) (xr_0_6 hL) dX10_could_38 ?_
          refine ww_iload_n hX (pc := 41) dX10_could_41 rfl ?_
          refine ww_iload_n hX (pc := 42) dX10_could_42 rfl ?_
          refine ww_iload_n hX (pc := 43) dX10_could_43 rfl ?_
          refine ww_iload hX (pc := 44) dX10_could_44 rfl ?_
          refine ww_iload hX (pc := 46) dX10_could_46 rfl ?_
          refine vJ5 hX (pc := 48) sX10_265 (xs_31 hL) (c_X8_countRows l0 hL hC.1 (by omega) (by omega) (by omega) (by omega)) (by decide) (Nat.le_refl 0) (Nat.le_refl 0) (Nat.le_of_ble_eq_true rfl) dX10_could_48 (fun x_48 I_48 J_48 h_48 => ?_)
          have kI_48 : Kp 0 49 Ia I_48 := Kp_tr (Kp_rf (a := 0) (b := 49)) (Kp_wd h_48.1 (by decide) (by decide))
          have kJ_48 : Kp 0 49 Ja J_48 := Kp_tr (Kp_rf (a := 0) (b := 49)) (Kp_wd h_48.2.1 (by decide) (by decide))
          have cI_48 : CX I_48 := CX_kp hC h_48.1 (by decide) (by decide)
          have qI_48 := XI_o cI_48.1
          have r5_I_48 : I_48 1 5 = Ia 1 5 := by rw [h_48.1 1 (by decide)]
          have r6_I_48 : I_48 1 6 = Ia 1 6 := by rw [h_48.1 1 (by decide)]
          have r8_I_48 : I_48 1 8 = Ia 1 8 := by rw [h_48.1 1 (by decide)]
          have r9_I_48 : I_48 1 9 = Ia 1 9 := by rw [h_48.1 1 (by decide)]
          have r10_I_48 : I_48 1 10 = Ia 1 10 := by rw [h_48.1 1 (by decide)]
          have r11_I_48 : I_48 1 11 = Ia 1 11 := by rw [h_48.1 1 (by decide)]
          have rf_I_48 : FU (I_48 1 5) = FU (Ia 1 5) := by rw [r5_I_48]
          have wI_48 : Fw [18, 19, 20, 21, 22, 23, 24, 25, 26, 27, 28, 29, 30, 31, 32, 33, 34, 35, 36] [] Ia I_48 := Fw_kp Fw_rf h_48.1 (by decide)
          have r7_I_48 : I_48 1 7 = Ia 1 7 := by rw [h_48.1 1 (by decide)]
          refine rJ hX (pc := 51) hT (Nat.le_refl 0) (Nat.le_refl 0) dX10_could_51 ?_
          exact ⟨kI_48, kJ_48, cI_48, (Fw_wd wI_48 (by decide) (by decide)), trivial⟩
        · simp only [w32_mod] at h_30
          refine ww_ldc2 hX (pc := 33) (x := (-1)) dX10_could_33 tb_810 ?_
          refine rJ hX (pc := 36) hT (Nat.le_refl 0) (Nat.le_refl 0) dX10_could_36 ?_
          exact ⟨(Kp_rf (a := 0) (b := 49)), (Kp_rf (a := 0) (b := 49)), hC, Fw_rf, trivial⟩
set_option maxHeartbeats 4000000 in
set_option maxRecDepth 20000 in
theorem c5_X10_dawn (l0 : Launch) {Ia Ja : aI1} {Ra : aR1} {Sa : aS1} (hL : LY Ra Sa) (hC : CX Ia)  : CT l0 10 0 0 mX10_dawn [kR (some 0)] Ia Ja Ra Sa (cI (fun x I' J' => Kp 0 49 Ia I' ∧ Kp 0 49 Ja J' ∧ CX I' ∧ Fw [] [(1, 8), (1, 10)] Ia I' ∧ x = bc (Ia 1 8) ∧ I' 1 8 = 0 ∧ I' 1 10 = 0) Ra Sa) := by
  refine ct_in pn_X10 (Nat.le_of_ble_eq_true rfl) (fun X hX hT hIn => ?_)
  have hX : aK l0 X cX10_dawn 2 RX10 (some .int) 10 0 0 := hX
  change WW X 0 [some (kR (some 0)), none] [] Ia Ja Ra Sa 0 0
  have hI := hC.1
  have hq := XI_o hI
  refine ww_aload_n hX (pc := 0) dX10_dawn_0 rfl ?_
  refine ww_getR hX (pc := 1) fX10_10 (by decide) (xs_0 hL) (xr_0_0 hL) dX10_dawn_1 ?_
  refine ww_getI hX (pc := 4) fX10_236 (by decide) (xs_1 hL) dX10_dawn_4 ?_
  refine sI1 hX (pc := 7) sX10_242 (c_J6_bitCount_0f7a4 l0) (by decide) (Nat.le_refl 0) (Nat.le_refl 0) (Nat.le_of_ble_eq_true rfl) dX10_dawn_7 (fun x_7 I_7 J_7 h_7 => ?_)
  obtain ⟨rfl, rfl, h_7⟩ := h_7
  refine ww_istore_n hX (pc := 10) (lv' := [some (kR (some 0)), some (kI x_7)]) dX10_dawn_10 (by decide) rfl rfl ?_
  refine ww_aload_n hX (pc := 11) dX10_dawn_11 rfl ?_
  refine ww_getR hX (pc := 12) fX10_10 (by decide) (xs_0 hL) (xr_0_0 hL) dX10_dawn_12 ?_
  refine ww_iconst hX (pc := 15) (x := 0) dX10_dawn_15 rfl ?_
  refine ww_putI hX (pc := 16) (fun h9 => absurd h9 (by decide)) gX10_236 rfl (xs_1 hL) dX10_dawn_16 ?_
  refine ww_nmH (fun I_16 eI_16 => ?_)
  have kI_16 : Kp 0 49 Ia I_16 := by rw [eI_16]; exact Kp_up (Kp_rf (a := 0) (b := 49)) _ _ (by decide)
  have cI_16 : CX I_16 := by rw [eI_16]; exact CX_x hC (XI_1_8 hC.1 (by omega) (by omega)) (by decide)
  have qI_16 := XI_o cI_16.1
  have r5_I_16 : I_16 1 5 = Ia 1 5 := by rw [eI_16, up2_n _ _ (Or.inr (by decide))]
  have r6_I_16 : I_16 1 6 = Ia 1 6 := by rw [eI_16, up2_n _ _ (Or.inr (by decide))]
  skip
  have r9_I_16 : I_16 1 9 = Ia 1 9 := by rw [eI_16, up2_n _ _ (Or.inr (by decide))]
  have r10_I_16 : I_16 1 10 = Ia 1 10 := by rw [eI_16, up2_n _ _ (Or.inr (by decide))]
  have r11_I_16 : I_16 1 11 = Ia 1 11 := by rw [eI_16, up2_n _ _ (Or.inr (by decide))]
  have rf_I_16 : FU (I_16 1 5) = FU (Ia 1 5) := by rw [r5_I_16]
  have wI_16 : Fw [] [(1, 8), (1, 10)] Ia I_16 := by rw [eI_16]; exact Fw_up Fw_rf (Or.inr (by decide))
  have r7_I_16 : I_16 1 7 = Ia 1 7 := by rw [eI_16, up2_n _ _ (Or.inr (by decide))]
  have z8_ : I_16 1 8 = 0 := by rw [eI_16, up2_s]
  refine ww_aload_n hX (pc := 19) dX10_dawn_19 rfl ?_
  refine ww_getR hX (pc := 20) fX10_10 (by decide) (xs_0 hL) (xr_0_0 hL) dX10_dawn_20 ?_
  refine ww_iconst hX (pc := 23) (x := 0) dX10_dawn_23 rfl ?_
  refine ww_putI hX (pc := 24) (fun h9 => absurd h9 (by decide)) gX10_239 rfl (xs_1 hL) dX10_dawn_24 ?_
  refine ww_nmH (fun I_24 eI_24 => ?_)
  have kI_24 : Kp 0 49 Ia I_24 := by rw [eI_24]; exact Kp_up kI_16 _ _ (by decide)
  have cI_24 : CX I_24 := by rw [eI_24]; exact CX_x cI_16 (XI_1_10 cI_16.1 (by omega) (by omega)) (by decide)
  have qI_24 := XI_o cI_24.1
  have r5_I_24 : I_24 1 5 = I_16 1 5 := by rw [eI_24, up2_n _ _ (Or.inr (by decide))]
  have r6_I_24 : I_24 1 6 = I_16 1 6 := by rw [eI_24, up2_n _ _ (Or.inr (by decide))]
  have r8_I_24 : I_24 1 8 = I_16 1 8 := by rw [eI_24, up2_n _ _ (Or.inr (by decide))]
  have r9_I_24 : I_24 1 9 = I_16 1 9 := by rw [eI_24, up2_n _ _ (Or.inr (by decide))]
  skip
  have r11_I_24 : I_24 1 11 = I_16 1 11 := by rw [eI_24, up2_n _ _ (Or.inr (by decide))]
  have rf_I_24 : FU (I_24 1 5) = FU (I_16 1 5) := by rw [r5_I_24]
  have wI_24 : Fw [] [(1, 8), (1, 10)] Ia I_24 := by rw [eI_24]; exact Fw_up wI_16 (Or.inr (by decide))
  have r7_I_24 : I_24 1 7 = I_16 1 7 := by rw [eI_24, up2_n _ _ (Or.inr (by decide))]
  have z10 : I_24 1 10 = 0 := by rw [eI_24, up2_s]
  have z8 : I_24 1 8 = 0 := by rw [eI_24, up2_n _ _ (Or.inr (by decide))]; exact z8_
  refine ww_iload_n hX (pc := 27) dX10_dawn_27 rfl ?_
  refine rI hX (pc := 28) hT (Nat.le_refl 0) (Nat.le_refl 0) dX10_dawn_28 ?_
  exact ⟨kI_24, (Kp_rf (a := 0) (b := 49)), cI_24, (Fw_wd wI_24 (by decide) (by decide)), h_7, z8, z10⟩
set_option maxHeartbeats 4000000 in
set_option maxRecDepth 20000 in
theorem c5_X10_unwant (l0 : Launch) {Ia Ja : aI1} {Ra : aR1} {Sa : aS1} (hL : LY Ra Sa) (hC : CX Ia)  : CT l0 10 0 0 mX10_unwant [kR (some 0)] Ia Ja Ra Sa (cI (fun x I' J' => Kp 0 49 Ia I' ∧ Kp 0 49 Ja J' ∧ CX I' ∧ Fw [33] [(1, 11)] Ia I' ∧ x = Ia 1 11 ∧ I' 1 11 = 0) Ra Sa) := by
  refine ct_in pn_X10 (Nat.le_of_ble_eq_true rfl) (fun X hX hT hIn => ?_)
  have hX : aK l0 X cX10_unwant 2 RX10 (some .int) 10 0 0 := hX
  change WW X 0 [some (kR (some 0)), none] [] Ia Ja Ra Sa 0 0
  have hI := hC.1
  have hq := XI_o hI
  refine ww_aload_n hX (pc := 0) dX10_unwant_0 rfl ?_
  refine ww_getR hX (pc := 1) fX10_10 (by decide) (xs_0 hL) (xr_0_0 hL) dX10_unwant_1 ?_
  refine ww_getI hX (pc := 4) fX10_275 (by decide) (xs_1 hL) dX10_unwant_4 ?_
  refine ww_nmI (fun v_7 hv_7 => ?_)
  refine ww_istore_n hX (pc := 7) (lv' := [some (kR (some 0)), some (kI v_7)]) dX10_unwant_7 (by decide) rfl rfl ?_
  refine ww_aload_n hX (pc := 8) dX10_unwant_8 rfl ?_
  refine ww_getR hX (pc := 9) fX10_10 (by decide) (xs_0 hL) (xr_0_0 hL) dX10_unwant_9 ?_
  refine ww_iconst hX (pc := 12) (x := 0) dX10_unwant_12 rfl ?_
  refine ww_putI hX (pc := 13) (fun h9 => absurd h9 (by decide)) gX10_275 rfl (xs_1 hL) dX10_unwant_13 ?_
  refine ww_nmH (fun I_13 eI_13 => ?_)
  have kI_13 : Kp 0 49 Ia I_13 := by rw [eI_13]; exact Kp_up (Kp_rf (a := 0) (b := 49)) _ _ (by decide)
  have cI_13 : CX I_13 := by rw [eI_13]; exact CX_x hC (XI_1_11 hC.1 (by omega) (by omega)) (by decide)
  have qI_13 := XI_o cI_13.1
  have r5_I_13 : I_13 1 5 = Ia 1 5 := by rw [eI_13, up2_n _ _ (Or.inr (by decide))]
  have r6_I_13 : I_13 1 6 = Ia 1 6 := by rw [eI_13, up2_n _ _ (Or.inr (by decide))]
  have r8_I_13 : I_13 1 8 = Ia 1 8 := by rw [eI_13, up2_n _ _ (Or.inr (by decide))]
  have r9_I_13 : I_13 1 9 = Ia 1 9 := by rw [eI_13, up2_n _ _ (Or.inr (by decide))]
  have r10_I_13 : I_13 1 10 = Ia 1 10 := by rw [eI_13, up2_n _ _ (Or.inr (by decide))]
  skip
  have rf_I_13 : FU (I_13 1 5) = FU (Ia 1 5) := by rw [r5_I_13]
  have wI_13 : Fw [33] [(1, 11)] Ia I_13 := by rw [eI_13]; exact Fw_up Fw_rf (Or.inr (by decide))
  have r7_I_13 : I_13 1 7 = Ia 1 7 := by rw [eI_13, up2_n _ _ (Or.inr (by decide))]
  have z11_ : I_13 1 11 = 0 := by rw [eI_13, up2_s]
  refine ww_aload_n hX (pc := 16) dX10_unwant_16 rfl ?_
  refine ww_getR hX (pc := 17) fX10_64 (by decide) (xs_0 hL) (xr_0_7 hL) dX10_unwant_17 ?_
  refine ww_iconst hX (pc := 20) (x := 0) dX10_unwant_20 rfl ?_
  refine ww_putZ hX (pc := 21) (fun h9 => absurd h9 (by decide)) gX10_128 rfl (by decide) (xs_33 hL) dX10_unwant_21 ?_
  refine ww_nmH (fun I_21 eI_21 => ?_)
  have kI_21 : Kp 0 49 Ia I_21 := by rw [eI_21]; exact Kp_up kI_13 _ _ (by decide)
  have cI_21 : CX I_21 := by rw [eI_21]; exact CX_up cI_13 (by decide)
  have qI_21 := XI_o cI_21.1
  have r5_I_21 : I_21 1 5 = I_13 1 5 := by rw [eI_21, up2_off _ _ _ (by decide)]
  have r6_I_21 : I_21 1 6 = I_13 1 6 := by rw [eI_21, up2_off _ _ _ (by decide)]
  have r8_I_21 : I_21 1 8 = I_13 1 8 := by rw [eI_21, up2_off _ _ _ (by decide)]
  have r9_I_21 : I_21 1 9 = I_13 1 9 := by rw [eI_21, up2_off _ _ _ (by decide)]
  have r10_I_21 : I_21 1 10 = I_13 1 10 := by rw [eI_21, up2_off _ _ _ (by decide)]
  have r11_I_21 : I_21 1 11 = I_13 1 11 := by rw [eI_21, up2_off _ _ _ (by decide)]
  have rf_I_21 : FU (I_21 1 5) = FU (I_13 1 5) := by rw [r5_I_21]
  have wI_21 : Fw [33] [(1, 11)] Ia I_21 := by rw [eI_21]; exact Fw_up wI_13 (Or.inl (by decide))
  have r7_I_21 : I_21 1 7 = I_13 1 7 := by rw [eI_21, up2_n _ _ (Or.inl (by decide))]
  have z11 : I_21 1 11 = 0 := by rw [eI_21, up2_off _ _ _ (by decide)]; exact z11_
  refine ww_iload_n hX (pc := 24) dX10_unwant_24 rfl ?_
  refine rI hX (pc := 25) hT (Nat.le_refl 0) (Nat.le_refl 0) dX10_unwant_25 ?_
  exact ⟨kI_21, (Kp_rf (a := 0) (b := 49)), cI_21, (Fw_wd wI_21 (by decide) (by decide)), hv_7, z11⟩
set_option maxHeartbeats 4000000 in
set_option maxRecDepth 20000 in
theorem c5_X10_oil (l0 : Launch) {Ia Ja : aI1} {Ra : aR1} {Sa : aS1} (hL : LY Ra Sa) (hC : CX Ia) {a b : Int} (ha0 : -2147483648 ≤ a) (ha1 : a < 2147483648) (hb0 : -2147483648 ≤ b) (hb1 : b < 2147483648)  : CT l0 10 0 0 mX10_oil [kR (some 0), kI a, kI b] Ia Ja Ra Sa (cI (fun x I' J' => Kp 0 49 Ia I' ∧ Kp 0 49 Ja J' ∧ CX I' ∧ Fw [2, 18, 33, 48] [(0, 16)] Ia I' ∧ (¬ (0 ≤ a ∧ a < Ia 1 5 ∧ 0 ≤ b ∧ b ≤ 99) → x = -1 ∧ RFc Ia I' (-1)) ∧ ((0 ≤ a ∧ a < Ia 1 5 ∧ 0 ≤ b ∧ b ≤ 99) → x = Ia 2 a.toNat ∧ Fw [2, 18, 33] [(0, 16)] Ia I' ∧ I' 0 16 = 0 ∧ I' 2 = up1 (Ia 2) a.toNat b)) Ra Sa) := by
  refine ct_in pn_X10 (Nat.le_of_ble_eq_true rfl) (fun X hX hT hIn => ?_)
  have hX : aK l0 X cX10_oil 4 RX10 (some .int) 10 0 0 := hX
  change WW X 0 [some (kR (some 0)), some (kI a), some (kI b), none] [] Ia Ja Ra Sa 0 0
  have hI := hC.1
  have hq := XI_o hI
  refine ww_aload_n hX (pc := 0) dX10_oil_0 rfl ?_
  refine ww_getR hX (pc := 1) fX10_10 (by decide) (xs_0 hL) (xr_0_0 hL) dX10_oil_1 ?_
  refine ww_iload_n hX (pc := 4) dX10_oil_4 rfl ?_
  refine vI1 hX (pc := 5) sX10_120 (xs_1 hL) (c_X1_isLamp l0 hL hC.1 (by omega)) (by decide) (Nat.le_refl 0) (Nat.le_refl 0) (Nat.le_of_ble_eq_true rfl) dX10_oil_5 (fun x_5 I_5 J_5 h_5 => ?_)
  obtain ⟨rfl, rfl, h_5⟩ := h_5
  refine ww_if_eq hX (pc := 8) (tgt := 21) dX10_oil_8 (by decide) (fun h_8 => ?_) (fun h_8 => ?_)
  · simp only [w32_mod] at h_8
    refine ww_aload_n hX (pc := 21) dX10_oil_21 rfl ?_
    refine ww_iconst hX (pc := 22) (x := (-1)) dX10_oil_22 rfl ?_
    refine vI1 hX (pc := 23) sX10_89 (xs_0 hL) (c5_X10_refuse l0 hL hC (by omega) (by omega)) (by decide) (Nat.le_refl 0) (Nat.le_refl 0) (Nat.le_of_ble_eq_true rfl) dX10_oil_23 (fun x_23 I_23 J_23 h_23 => ?_)
    have kI_23 : Kp 0 49 Ia I_23 := Kp_tr (Kp_rf (a := 0) (b := 49)) (Kp_wd h_23.1 (by decide) (by decide))
    have kJ_23 : Kp 0 49 Ja J_23 := Kp_tr (Kp_rf (a := 0) (b := 49)) (Kp_wd h_23.2.1 (by decide) (by decide))
    have cI_23 : CX I_23 := h_23.2.2.1
    have qI_23 := XI_o cI_23.1
    have wI_23 : Fw [2, 18, 33, 48] [(0, 16)] Ia I_23 := Fw_tr Fw_rf (Fw_wd h_23.2.2.2.1 (by decide) (by decide))
    have r5_I_23 : I_23 1 5 = Ia 1 5 := h_23.2.2.2.1 1 5 (by decide) (by decide) (by decide)
    have r6_I_23 : I_23 1 6 = Ia 1 6 := h_23.2.2.2.1 1 6 (by decide) (by decide) (by decide)
    have r7_I_23 : I_23 1 7 = Ia 1 7 := h_23.2.2.2.1 1 7 (by decide) (by decide) (by decide)
    have r8_I_23 : I_23 1 8 = Ia 1 8 := h_23.2.2.2.1 1 8 (by decide) (by decide) (by decide)
    have r9_I_23 : I_23 1 9 = Ia 1 9 := h_23.2.2.2.1 1 9 (by decide) (by decide) (by decide)
    have r10_I_23 : I_23 1 10 = Ia 1 10 := h_23.2.2.2.1 1 10 (by decide) (by decide) (by decide)
    have r11_I_23 : I_23 1 11 = Ia 1 11 := h_23.2.2.2.1 1 11 (by decide) (by decide) (by decide)
    have r81_I_23 : I_23 8 1 = Ia 8 1 := h_23.2.2.2.1 8 1 (by decide) (by decide) (by decide)
    have rf_I_23 : FU (I_23 1 5) = FU (Ia 1 5) := by rw [r5_I_23]
    have y2_I_23 : I_23 2 = Ia 2 := Fw_row h_23.2.2.2.1 2 (by decide) (by decide) (by decide)
    have xv_I_23 := h_23.2.2.2.2
    refine rI hX (pc := 26) hT (Nat.le_refl 0) (Nat.le_refl 0) dX10_oil_26 ?_
    exact ⟨kI_23, kJ_23, cI_23, (Fw_wd wI_23 (by decide) (by decide)), (fun _ => ⟨xv_I_23.1, h_23.2.2.2.1, xv_I_23.2⟩), (fun h9 => absurd h9 (by omega))⟩
  · simp only [w32_mod] at h_8
    have k_5 := h_5.2.mp (by omega)
    clear h_5
    refine ww_iload_n hX (pc := 11) dX10_oil_11 rfl ?_
    refine ww_if_lt hX (pc := 12) (tgt := 21) dX10_oil_12 (by decide) (fun h_12 => ?_) (fun h_12 => ?_)
    · simp only [w32_mod] at h_12
      refine ww_aload_n hX (pc := 21) dX10_oil_21 rfl ?_
      refine ww_iconst hX (pc := 22) (x := (-1)) dX10_oil_22 rfl ?_
      refine vI1 hX (pc := 23) sX10_89 (xs_0 hL) (c5_X10_refuse l0 hL hC (by omega) (by omega)) (by decide) (Nat.le_refl 0) (Nat.le_refl 0) (Nat.le_of_ble_eq_true rfl) dX10_oil_23 (fun x_23 I_23 J_23 h_23 => ?_)
      have kI_23 : Kp 0 49 Ia I_23 := Kp_tr (Kp_rf (a := 0) (b := 49)) (Kp_wd h_23.1 (by decide) (by decide))
      have kJ_23 : Kp 0 49 Ja J_23 := Kp_tr (Kp_rf (a := 0) (b := 49)) (Kp_wd h_23.2.1 (by decide) (by decide))
      have cI_23 : CX I_23 := h_23.2.2.1
      have qI_23 := XI_o cI_23.1
      have wI_23 : Fw [2, 18, 33, 48] [(0, 16)] Ia I_23 := Fw_tr Fw_rf (Fw_wd h_23.2.2.2.1 (by decide) (by decide))
      have r5_I_23 : I_23 1 5 = Ia 1 5 := h_23.2.2.2.1 1 5 (by decide) (by decide) (by decide)
      have r6_I_23 : I_23 1 6 = Ia 1 6 := h_23.2.2.2.1 1 6 (by decide) (by decide) (by decide)
      have r7_I_23 : I_23 1 7 = Ia 1 7 := h_23.2.2.2.1 1 7 (by decide) (by decide) (by decide)
      have r8_I_23 : I_23 1 8 = Ia 1 8 := h_23.2.2.2.1 1 8 (by decide) (by decide) (by decide)
      have r9_I_23 : I_23 1 9 = Ia 1 9 := h_23.2.2.2.1 1 9 (by decide) (by decide) (by decide)
      have r10_I_23 : I_23 1 10 = Ia 1 10 := h_23.2.2.2.1 1 10 (by decide) (by decide) (by decide)
      have r11_I_23 : I_23 1 11 = Ia 1 11 := h_23.2.2.2.1 1 11 (by decide) (by decide) (by decide)
      have r81_I_23 : I_23 8 1 = Ia 8 1 := h_23.2.2.2.1 8 1 (by decide) (by decide) (by decide)
      have rf_I_23 : FU (I_23 1 5) = FU (Ia 1 5) := by rw [r5_I_23]
      have y2_I_23 : I_23 2 = Ia 2 := Fw_row h_23.2.2.2.1 2 (by decide) (by decide) (by decide)
      have xv_I_23 := h_23.2.2.2.2
      refine rI hX (pc := 26) hT (Nat.le_refl 0) (Nat.le_refl 0) dX10_oil_26 ?_
      exact ⟨kI_23, kJ_23, cI_23, (Fw_wd wI_23 (by decide) (by decide)), (fun _ => ⟨xv_I_23.1, h_23.2.2.2.1, xv_I_23.2⟩), (fun h9 => absurd h9 (by omega))⟩
    · simp only [w32_mod] at h_12
      refine ww_iload_n hX (pc := 15) dX10_oil_15 rfl ?_
      refine ww_bipush hX (pc := 16) (x := 99) dX10_oil_16 (by decide) ?_
      refine ww_icmp_le hX (pc := 18) (tgt := 27) dX10_oil_18 (by decide) (fun h_18 => ?_) (fun h_18 => ?_)
      · simp only [w32_mod] at h_18
        refine ww_aload_n hX (pc := 27) dX10_oil_27 rfl ?_
        refine ww_getR hX (pc := 28) fX10_10 (by decide) (xs_0 hL) (xr_0_0 hL) dX10_oil_28 ?_
        refine ww_getR hX (pc := 31) fX10_99 (by decide) (xs_1 hL) (xr_1_0 hL) dX10_oil_31 ?_
        refine ww_iload_n hX (pc := 34) dX10_oil_34 rfl ?_
        refine ww_iald hX (pc := 35) (xs_2 hL) (by decide) (by omega) (by omega) dX10_oil_35 ?_
        refine ww_nmI (fun v_36 hv_36 => ?_)
        refine ww_istore_n hX (pc := 36) (lv' := [some (kR (some 0)), some (kI a), some (kI b), some (kI v_36)]) dX10_oil_36 (by decide) rfl rfl ?_
        refine ww_aload_n hX (pc := 37) dX10_oil_37 rfl ?_
        refine ww_getR hX (pc := 38) fX10_10 (by decide) (xs_0 hL) (xr_0_0 hL) dX10_oil_38 ?_
        refine ww_getR hX (pc := 41) fX10_99 (by decide) (xs_1 hL) (xr_1_0 hL) dX10_oil_41 ?_
        refine ww_iload_n hX (pc := 44) dX10_oil_44 rfl ?_
        refine ww_iload_n hX (pc := 45) dX10_oil_45 rfl ?_
        refine ww_iast hX (pc := 46) (xs_2 hL) (by decide) (by omega) (by omega) dX10_oil_46 ?_
        refine ww_nmH (fun I_46 eI_46 => ?_)
        have kI_46 : Kp 0 49 Ia I_46 := by rw [eI_46]; exact Kp_up (Kp_rf (a := 0) (b := 49)) _ _ (by decide)
        have cI_46 : CX I_46 := by rw [eI_46]; exact CX_up hC (by decide)
        have qI_46 := XI_o cI_46.1
        have r5_I_46 : I_46 1 5 = Ia 1 5 := by rw [eI_46, up2_off _ _ _ (by decide)]
        have r6_I_46 : I_46 1 6 = Ia 1 6 := by rw [eI_46, up2_off _ _ _ (by decide)]
        have r8_I_46 : I_46 1 8 = Ia 1 8 := by rw [eI_46, up2_off _ _ _ (by decide)]
        have r9_I_46 : I_46 1 9 = Ia 1 9 := by rw [eI_46, up2_off _ _ _ (by decide)]
        have r10_I_46 : I_46 1 10 = Ia 1 10 := by rw [eI_46, up2_off _ _ _ (by decide)]
        have r11_I_46 : I_46 1 11 = Ia 1 11 := by rw [eI_46, up2_off _ _ _ (by decide)]
        have rf_I_46 : FU (I_46 1 5) = FU (Ia 1 5) := by rw [r5_I_46]
        have wI_46 : Fw [2, 18, 33] [(0, 16)] Ia I_46 := by rw [eI_46]; exact Fw_up Fw_rf (Or.inl (by decide))
        have r7_I_46 : I_46 1 7 = Ia 1 7 := by rw [eI_46, up2_n _ _ (Or.inl (by decide))]
        refine ww_aload_n hX (pc := 47) dX10_oil_47 rfl ?_
        refine ww_getR hX (pc := 48) fX10_48 (by decide) (xs_0 hL) (xr_0_5 hL) dX10_oil_48 ?_
        refine ww_iconst hX (pc := 51) (x := 0) dX10_oil_51 rfl ?_
        refine ww_putZ hX (pc := 52) (fun h9 => absurd h9 (by decide)) gX10_124 rfl (by decide) (xs_18 hL) dX10_oil_52 ?_
        refine ww_nmH (fun I_52 eI_52 => ?_)
        have kI_52 : Kp 0 49 Ia I_52 := by rw [eI_52]; exact Kp_up kI_46 _ _ (by decide)
        have cI_52 : CX I_52 := by rw [eI_52]; exact CX_up cI_46 (by decide)
        have qI_52 := XI_o cI_52.1
        have r5_I_52 : I_52 1 5 = I_46 1 5 := by rw [eI_52, up2_off _ _ _ (by decide)]
        have r6_I_52 : I_52 1 6 = I_46 1 6 := by rw [eI_52, up2_off _ _ _ (by decide)]
        have r8_I_52 : I_52 1 8 = I_46 1 8 := by rw [eI_52, up2_off _ _ _ (by decide)]
        have r9_I_52 : I_52 1 9 = I_46 1 9 := by rw [eI_52, up2_off _ _ _ (by decide)]
        have r10_I_52 : I_52 1 10 = I_46 1 10 := by rw [eI_52, up2_off _ _ _ (by decide)]
        have r11_I_52 : I_52 1 11 = I_46 1 11 := by rw [eI_52, up2_off _ _ _ (by decide)]
        have rf_I_52 : FU (I_52 1 5) = FU (I_46 1 5) := by rw [r5_I_52]
        have wI_52 : Fw [2, 18, 33] [(0, 16)] Ia I_52 := by rw [eI_52]; exact Fw_up wI_46 (Or.inl (by decide))
        have r7_I_52 : I_52 1 7 = I_46 1 7 := by rw [eI_52, up2_n _ _ (Or.inl (by decide))]
        have y2_I_52 : I_52 2 = I_46 2 := by rw [eI_52, up2_off _ _ _ (by decide)]
        refine ww_aload_n hX (pc := 55) dX10_oil_55 rfl ?_
        refine ww_getR hX (pc := 56) fX10_64 (by decide) (xs_0 hL) (xr_0_7 hL) dX10_oil_56 ?_
        refine ww_iconst hX (pc := 59) (x := 0) dX10_oil_59 rfl ?_
        refine ww_putZ hX (pc := 60) (fun h9 => absurd h9 (by decide)) gX10_128 rfl (by decide) (xs_33 hL) dX10_oil_60 ?_
        refine ww_nmH (fun I_60 eI_60 => ?_)
        have kI_60 : Kp 0 49 Ia I_60 := by rw [eI_60]; exact Kp_up kI_52 _ _ (by decide)
        have cI_60 : CX I_60 := by rw [eI_60]; exact CX_up cI_52 (by decide)
        have qI_60 := XI_o cI_60.1
        have r5_I_60 : I_60 1 5 = I_52 1 5 := by rw [eI_60, up2_off _ _ _ (by decide)]
        have r6_I_60 : I_60 1 6 = I_52 1 6 := by rw [eI_60, up2_off _ _ _ (by decide)]
        have r8_I_60 : I_60 1 8 = I_52 1 8 := by rw [eI_60, up2_off _ _ _ (by decide)]
        have r9_I_60 : I_60 1 9 = I_52 1 9 := by rw [eI_60, up2_off _ _ _ (by decide)]
        have r10_I_60 : I_60 1 10 = I_52 1 10 := by rw [eI_60, up2_off _ _ _ (by decide)]
        have r11_I_60 : I_60 1 11 = I_52 1 11 := by rw [eI_60, up2_off _ _ _ (by decide)]
        have rf_I_60 : FU (I_60 1 5) = FU (I_52 1 5) := by rw [r5_I_60]
        have wI_60 : Fw [2, 18, 33] [(0, 16)] Ia I_60 := by rw [eI_60]; exact Fw_up wI_52 (Or.inl (by decide))
        have r7_I_60 : I_60 1 7 = I_52 1 7 := by rw [eI_60, up2_n _ _ (Or.inl (by decide))]
        have y2_I_60 : I_60 2 = I_52 2 := by rw [eI_60, up2_off _ _ _ (by decide)]
        refine ww_aload_n hX (pc := 63) dX10_oil_63 rfl ?_
        refine ww_iload_n hX (pc := 64) dX10_oil_64 rfl ?_
        refine vI1 hX (pc := 65) sX10_114 (xs_0 hL) (c5_X10_accept l0 hL cI_60) (by decide) (Nat.le_refl 0) (Nat.le_refl 0) (Nat.le_of_ble_eq_true rfl) dX10_oil_65 (fun x_65 I_65 J_65 h_65 => ?_)
        have kI_65 : Kp 0 49 Ia I_65 := Kp_tr kI_60 (Kp_wd h_65.1 (by decide) (by decide))
        have kJ_65 : Kp 0 49 Ja J_65 := Kp_tr (Kp_rf (a := 0) (b := 49)) (Kp_wd h_65.2.1 (by decide) (by decide))
        have cI_65 : CX I_65 := h_65.2.2.1
        have qI_65 := XI_o cI_65.1
        have wI_65 : Fw [2, 18, 33] [(0, 16)] Ia I_65 := Fw_tr wI_60 (Fw_wd h_65.2.2.2.1 (by decide) (by decide))
        have r5_I_65 : I_65 1 5 = I_60 1 5 := h_65.2.2.2.1 1 5 (by decide) (by decide) (by decide)
        have r6_I_65 : I_65 1 6 = I_60 1 6 := h_65.2.2.2.1 1 6 (by decide) (by decide) (by decide)
        have r7_I_65 : I_65 1 7 = I_60 1 7 := h_65.2.2.2.1 1 7 (by decide) (by decide) (by decide)
        have r8_I_65 : I_65 1 8 = I_60 1 8 := h_65.2.2.2.1 1 8 (by decide) (by decide) (by decide)
        have r9_I_65 : I_65 1 9 = I_60 1 9 := h_65.2.2.2.1 1 9 (by decide) (by decide) (by decide)
        have r10_I_65 : I_65 1 10 = I_60 1 10 := h_65.2.2.2.1 1 10 (by decide) (by decide) (by decide)
        have r11_I_65 : I_65 1 11 = I_60 1 11 := h_65.2.2.2.1 1 11 (by decide) (by decide) (by decide)
        have r81_I_65 : I_65 8 1 = I_60 8 1 := h_65.2.2.2.1 8 1 (by decide) (by decide) (by decide)
        have rf_I_65 : FU (I_65 1 5) = FU (I_60 1 5) := by rw [r5_I_65]
        have y2_I_65 : I_65 2 = I_60 2 := Fw_row h_65.2.2.2.1 2 (by decide) (by decide) (by decide)
        have xv_I_65 := h_65.2.2.2.2
        refine rI hX (pc := 68) hT (Nat.le_refl 0) (Nat.le_refl 0) dX10_oil_68 ?_
        exact ⟨kI_65, kJ_65, cI_65, (Fw_wd wI_65 (by decide) (by decide)), (fun h9 => absurd (by omega) h9), (fun _ => ⟨by rw [xv_I_65.1, hv_36], wI_65, xv_I_65.2, by rw [y2_I_65, y2_I_60, y2_I_52, eI_46, up2_row]⟩)⟩
      · simp only [w32_mod] at h_18
        refine ww_aload_n hX (pc := 21) dX10_oil_21 rfl ?_
        refine ww_iconst hX (pc := 22) (x := (-1)) dX10_oil_22 rfl ?_
        refine vI1 hX (pc := 23) sX10_89 (xs_0 hL) (c5_X10_refuse l0 hL hC (by omega) (by omega)) (by decide) (Nat.le_refl 0) (Nat.le_refl 0) (Nat.le_of_ble_eq_true rfl) dX10_oil_23 (fun x_23 I_23 J_23 h_23 => ?_)
        have kI_23 : Kp 0 49 Ia I_23 := Kp_tr (Kp_rf (a := 0) (b := 49)) (Kp_wd h_23.1 (by decide) (by decide))
        have kJ_23 : Kp 0 49 Ja J_23 := Kp_tr (Kp_rf (a := 0) (b := 49)) (Kp_wd h_23.2.1 (by decide) (by decide))
        have cI_23 : CX I_23 := h_23.2.2.1
        have qI_23 := XI_o cI_23.1
        have wI_23 : Fw [2, 18, 33, 48] [(0, 16)] Ia I_23 := Fw_tr Fw_rf (Fw_wd h_23.2.2.2.1 (by decide) (by decide))
        have r5_I_23 : I_23 1 5 = Ia 1 5 := h_23.2.2.2.1 1 5 (by decide) (by decide) (by decide)
        have r6_I_23 : I_23 1 6 = Ia 1 6 := h_23.2.2.2.1 1 6 (by decide) (by decide) (by decide)
        have r7_I_23 : I_23 1 7 = Ia 1 7 := h_23.2.2.2.1 1 7 (by decide) (by decide) (by decide)
        have r8_I_23 : I_23 1 8 = Ia 1 8 := h_23.2.2.2.1 1 8 (by decide) (by decide) (by decide)
        have r9_I_23 : I_23 1 9 = Ia 1 9 := h_23.2.2.2.1 1 9 (by decide) (by decide) (by decide)
        have r10_I_23 : I_23 1 10 = Ia 1 10 := h_23.2.2.2.1 1 10 (by decide) (by decide) (by decide)
        have r11_I_23 : I_23 1 11 = Ia 1 11 := h_23.2.2.2.1 1 11 (by decide) (by decide) (by decide)
        have r81_I_23 : I_23 8 1 = Ia 8 1 := h_23.2.2.2.1 8 1 (by decide) (by decide) (by decide)
        have rf_I_23 : FU (I_23 1 5) = FU (Ia 1 5) := by rw [r5_I_23]
        have y2_I_23 : I_23 2 = Ia 2 := Fw_row h_23.2.2.2.1 2 (by decide) (by decide) (by decide)
        have xv_I_23 := h_23.2.2.2.2
        refine rI hX (pc := 26) hT (Nat.le_refl 0) (Nat.le_refl 0) dX10_oil_26 ?_
        exact ⟨kI_23, kJ_23, cI_23, (Fw_wd wI_23 (by decide) (by decide)), (fun _ => ⟨xv_I_23.1, h_23.2.2.2.1, xv_I_23.2⟩), (fun h9 => absurd h9 (by omega))⟩
set_option maxHeartbeats 4000000 in
set_option maxRecDepth 20000 in
theorem c5_X10_broken (l0 : Launch) {Ia Ja : aI1} {Ra : aR1} {Sa : aS1} (hL : LY Ra Sa) (hC : CX Ia) {a b : Int} (ha0 : -2147483648 ≤ a) (ha1 : a < 2147483648) (hb0 : -2147483648 ≤ b) (hb1 : b < 2147483648)  : CT l0 10 0 0 mX10_broken [kR (some 0), kI a, kI b] Ia Ja Ra Sa (cI (fun x I' J' => Kp 0 49 Ia I' ∧ Kp 0 49 Ja J' ∧ CX I' ∧ Fw [18, 19, 20, 21, 22, 23, 24, 25, 26, 27, 28, 29, 30, 31, 32, 33, 34, 35, 36, 48] [(0, 16), (1, 7)] Ia I' ∧ (¬ (0 ≤ a ∧ a < Ia 1 5 ∧ 0 ≤ b ∧ b ≤ 1) → x = -1 ∧ RFc Ia I' (-1)) ∧ ((0 ≤ a ∧ a < Ia 1 5 ∧ 0 ≤ b ∧ b ≤ 1) → x = i_and (i_shr (Ia 1 7) a) 1 ∧ Fw [18, 19, 20, 21, 22, 23, 24, 25, 26, 27, 28, 29, 30, 31, 32, 33, 34, 35, 36] [(0, 16), (1, 7)] Ia I' ∧ I' 0 16 = 0 ∧ I' 1 7 = i_or (i_and (Ia 1 7) (i_xor (i_shl 1 a) (-1))) (i_shl b a))) Ra Sa) := by
  refine ct_in pn_X10 (Nat.le_of_ble_eq_true rfl) (fun X hX hT hIn => ?_)
  have hX : aK l0 X cX10_broken 4 RX10 (some .int) 10 0 0 := hX
  change WW X 0 [some (kR (some 0)), some (kI a), some (kI b), none] [] Ia Ja Ra Sa 0 0
  have hI := hC.1
  have hq := XI_o hI
  refine ww_aload_n hX (pc := 0) dX10_broken_0 rfl ?_
  refine ww_getR hX (pc := 1) fX10_10 (by decide) (xs_0 hL) (xr_0_0 hL) dX10_broken_1 ?_
  refine ww_iload_n hX (pc := 4) dX10_broken_4 rfl ?_
  refine vI1 hX (pc := 5) sX10_120 (xs_1 hL) (c_X1_isLamp l0 hL hC.1 (by omega)) (by decide) (Nat.le_refl 0) (Nat.le_refl 0) (Nat.le_of_ble_eq_true rfl) dX10_broken_5 (fun x_5 I_5 J_5 h_5 => ?_)
  obtain ⟨rfl, rfl, h_5⟩ := h_5
  refine ww_if_eq hX (pc := 8) (tgt := 20) dX10_broken_8 (by decide) (fun h_8 => ?_) (fun h_8 => ?_)
  · simp only [w32_mod] at h_8
    refine ww_aload_n hX (pc := 20) dX10_broken_20 rfl ?_
    refine ww_iconst hX (pc := 21) (x := (-1)) dX10_broken_21 rfl ?_
    refine vI1 hX (pc := 22) sX10_89 (xs_0 hL) (c5_X10_refuse l0 hL hC (by omega) (by omega)) (by decide) (Nat.le_refl 0) (Nat.le_refl 0) (Nat.le_of_ble_eq_true rfl) dX10_broken_22 (fun x_22 I_22 J_22 h_22 => ?_)
    have kI_22 : Kp 0 49 Ia I_22 := Kp_tr (Kp_rf (a := 0) (b := 49)) (Kp_wd h_22.1 (by decide) (by decide))
    have kJ_22 : Kp 0 49 Ja J_22 := Kp_tr (Kp_rf (a := 0) (b := 49)) (Kp_wd h_22.2.1 (by decide) (by decide))
    have cI_22 : CX I_22 := h_22.2.2.1
    have qI_22 := XI_o cI_22.1
    have wI_22 : Fw [18, 19, 20, 21, 22, 23, 24, 25, 26, 27, 28, 29, 30, 31, 32, 33, 34, 35, 36, 48] [(0, 16), (1, 7)] Ia I_22 := Fw_tr Fw_rf (Fw_wd h_22.2.2.2.1 (by decide) (by decide))
    have r5_I_22 : I_22 1 5 = Ia 1 5 := h_22.2.2.2.1 1 5 (by decide) (by decide) (by decide)
    have r6_I_22 : I_22 1 6 = Ia 1 6 := h_22.2.2.2.1 1 6 (by decide) (by decide) (by decide)
    have r7_I_22 : I_22 1 7 = Ia 1 7 := h_22.2.2.2.1 1 7 (by decide) (by decide) (by decide)
    have r8_I_22 : I_22 1 8 = Ia 1 8 := h_22.2.2.2.1 1 8 (by decide) (by decide) (by decide)
    have r9_I_22 : I_22 1 9 = Ia 1 9 := h_22.2.2.2.1 1 9 (by decide) (by decide) (by decide)
    have r10_I_22 : I_22 1 10 = Ia 1 10 := h_22.2.2.2.1 1 10 (by decide) (by decide) (by decide)
    have r11_I_22 : I_22 1 11 = Ia 1 11 := h_22.2.2.2.1 1 11 (by decide) (by decide) (by decide)
    have r81_I_22 : I_22 8 1 = Ia 8 1 := h_22.2.2.2.1 8 1 (by decide) (by decide) (by decide)
    have rf_I_22 : FU (I_22 1 5) = FU (Ia 1 5) := by rw [r5_I_22]
    have xv_I_22 := h_22.2.2.2.2
    refine rI hX (pc := 25) hT (Nat.le_refl 0) (Nat.le_refl 0) dX10_broken_25 ?_
    exact ⟨kI_22, kJ_22, cI_22, (Fw_wd wI_22 (by decide) (by decide)), (fun _ => ⟨xv_I_22.1, h_22.2.2.2.1, xv_I_22.2⟩), (fun h9 => absurd h9 (by omega))⟩
  · simp only [w32_mod] at h_8
    have k_5 := h_5.2.mp (by omega)
    clear h_5
    refine ww_iload_n hX (pc := 11) dX10_broken_11 rfl ?_
    refine ww_if_lt hX (pc := 12) (tgt := 20) dX10_broken_12 (by decide) (fun h_12 => ?_) (fun h_12 => ?_)
    · simp only [w32_mod] at h_12
      refine ww_aload_n hX (pc := 20) dX10_broken_20 rfl ?_
      refine ww_iconst hX (pc := 21) (x := (-1)) dX10_broken_21 rfl ?_
      refine vI1 hX (pc := 22) sX10_89 (xs_0 hL) (c5_X10_refuse l0 hL hC (by omega) (by omega)) (by decide) (Nat.le_refl 0) (Nat.le_refl 0) (Nat.le_of_ble_eq_true rfl) dX10_broken_22 (fun x_22 I_22 J_22 h_22 => ?_)
      have kI_22 : Kp 0 49 Ia I_22 := Kp_tr (Kp_rf (a := 0) (b := 49)) (Kp_wd h_22.1 (by decide) (by decide))
      have kJ_22 : Kp 0 49 Ja J_22 := Kp_tr (Kp_rf (a := 0) (b := 49)) (Kp_wd h_22.2.1 (by decide) (by decide))
      have cI_22 : CX I_22 := h_22.2.2.1
      have qI_22 := XI_o cI_22.1
      have wI_22 : Fw [18, 19, 20, 21, 22, 23, 24, 25, 26, 27, 28, 29, 30, 31, 32, 33, 34, 35, 36, 48] [(0, 16), (1, 7)] Ia I_22 := Fw_tr Fw_rf (Fw_wd h_22.2.2.2.1 (by decide) (by decide))
      have r5_I_22 : I_22 1 5 = Ia 1 5 := h_22.2.2.2.1 1 5 (by decide) (by decide) (by decide)
      have r6_I_22 : I_22 1 6 = Ia 1 6 := h_22.2.2.2.1 1 6 (by decide) (by decide) (by decide)
      have r7_I_22 : I_22 1 7 = Ia 1 7 := h_22.2.2.2.1 1 7 (by decide) (by decide) (by decide)
      have r8_I_22 : I_22 1 8 = Ia 1 8 := h_22.2.2.2.1 1 8 (by decide) (by decide) (by decide)
      have r9_I_22 : I_22 1 9 = Ia 1 9 := h_22.2.2.2.1 1 9 (by decide) (by decide) (by decide)
      have r10_I_22 : I_22 1 10 = Ia 1 10 := h_22.2.2.2.1 1 10 (by decide) (by decide) (by decide)
      have r11_I_22 : I_22 1 11 = Ia 1 11 := h_22.2.2.2.1 1 11 (by decide) (by decide) (by decide)
      have r81_I_22 : I_22 8 1 = Ia 8 1 := h_22.2.2.2.1 8 1 (by decide) (by decide) (by decide)
      have rf_I_22 : FU (I_22 1 5) = FU (Ia 1 5) := by rw [r5_I_22]
      have xv_I_22 := h_22.2.2.2.2
      refine rI hX (pc := 25) hT (Nat.le_refl 0) (Nat.le_refl 0) dX10_broken_25 ?_
      exact ⟨kI_22, kJ_22, cI_22, (Fw_wd wI_22 (by decide) (by decide)), (fun _ => ⟨xv_I_22.1, h_22.2.2.2.1, xv_I_22.2⟩), (fun h9 => absurd h9 (by omega))⟩
    · simp only [w32_mod] at h_12
      refine ww_iload_n hX (pc := 15) dX10_broken_15 rfl ?_
      refine ww_iconst hX (pc := 16) (x := 1) dX10_broken_16 rfl ?_
      refine ww_icmp_le hX (pc := 17) (tgt := 26) dX10_broken_17 (by decide) (fun h_17 => ?_) (fun h_17 => ?_)
      · simp only [w32_mod] at h_17
        refine ww_aload_n hX (pc := 26) dX10_broken_26 rfl ?_
        refine ww_getR hX (pc := 27) fX10_10 (by decide) (xs_0 hL) (xr_0_0 hL) dX10_broken_27 ?_
        refine ww_getI hX (pc := 30) fX10_96 (by decide) (xs_1 hL) dX10_broken_30 ?_
        refine ww_iload_n hX (pc := 33) dX10_broken_33 rfl ?_
        refine ww_ishr hX (pc := 34) dX10_broken_34 ?_
        refine ww_iconst hX (pc := 35) (x := 1) dX10_broken_35 rfl ?_
        refine ww_iand hX (pc := 36) dX10_broken_36 ?_
        refine ww_nmI (fun v_37 hv_37 => ?_)
        refine ww_istore_n hX (pc := 37) (lv' := [some (kR (some 0)), some (kI a), some (kI b), some (kI v_37)]) dX10_broken_37 (by decide) rfl rfl ?_
        refine ww_aload_n hX (pc := 38) dX10_broken_38 rfl ?_
        refine ww_getR hX (pc := 39) fX10_10 (by decide) (xs_0 hL) (xr_0_0 hL) dX10_broken_39 ?_
        refine ww_aload_n hX (pc := 42) dX10_broken_42 rfl ?_
        refine ww_getR hX (pc := 43) fX10_10 (by decide) (xs_0 hL) (xr_0_0 hL) dX10_broken_43 ?_
        refine ww_getI hX (pc := 46) fX10_96 (by decide) (xs_1 hL) dX10_broken_46 ?_
        refine ww_iconst hX (pc := 49) (x := 1) dX10_broken_49 rfl ?_
        refine ww_iload_n hX (pc := 50) dX10_broken_50 rfl ?_
        refine ww_ishl hX (pc := 51) dX10_broken_51 ?_
        refine ww_iconst hX (pc := 52) (x := (-1)) dX10_broken_52 rfl ?_
        refine ww_ixor hX (pc := 53) dX10_broken_53 ?_
        refine ww_iand hX (pc := 54) dX10_broken_54 ?_
        refine ww_iload_n hX (pc := 55) dX10_broken_55 rfl ?_
        refine ww_iload_n hX (pc := 56) dX10_broken_56 rfl ?_
        refine ww_ishl hX (pc := 57) dX10_broken_57 ?_
        refine ww_ior hX (pc := 58) dX10_broken_58 ?_
        refine ww_putI hX (pc := 59) (fun h9 => absurd h9 (by decide)) gX10_96 rfl (xs_1 hL) dX10_broken_59 ?_
        refine ww_nmH (fun I_59 eI_59 => ?_)
        have kI_59 : Kp 0 49 Ia I_59 := by rw [eI_59]; exact Kp_up (Kp_rf (a := 0) (b := 49)) _ _ (by decide)
        have cI_59 : CX I_59 := by rw [eI_59]; exact CX_x hC (XI_1_7 hC.1) (by decide)
        have qI_59 := XI_o cI_59.1
        have r5_I_59 : I_59 1 5 = Ia 1 5 := by rw [eI_59, up2_n _ _ (Or.inr (by decide))]
        have r6_I_59 : I_59 1 6 = Ia 1 6 := by rw [eI_59, up2_n _ _ (Or.inr (by decide))]
        have r8_I_59 : I_59 1 8 = Ia 1 8 := by rw [eI_59, up2_n _ _ (Or.inr (by decide))]
        have r9_I_59 : I_59 1 9 = Ia 1 9 := by rw [eI_59, up2_n _ _ (Or.inr (by decide))]
        have r10_I_59 : I_59 1 10 = Ia 1 10 := by rw [eI_59, up2_n _ _ (Or.inr (by decide))]
        have r11_I_59 : I_59 1 11 = Ia 1 11 := by rw [eI_59, up2_n _ _ (Or.inr (by decide))]
        have rf_I_59 : FU (I_59 1 5) = FU (Ia 1 5) := by rw [r5_I_59]
        have wI_59 : Fw [18, 19, 20, 21, 22, 23, 24, 25, 26, 27, 28, 29, 30, 31, 32, 33, 34, 35, 36] [(0, 16), (1, 7)] Ia I_59 := by rw [eI_59]; exact Fw_up Fw_rf (Or.inr (by decide))
        have z7 := (congrFun (congrFun eI_59 1) 7).trans (up2_s _ _ _ _)
        refine ww_aload_n hX (pc := 62) dX10_broken_62 rfl ?_
        refine vV0 hX (pc := 63) sX10_111 (xs_0 hL) (c5_X10_codeChanged l0 hL cI_59) (by decide) (Nat.le_refl 0) (Nat.le_refl 0) (Nat.le_of_ble_eq_true rfl) dX10_broken_63 (fun I_63 J_63 h_63 => ?_)
        have kI_63 : Kp 0 49 Ia I_63 := Kp_tr kI_59 (Kp_wd h_63.1 (by decide) (by decide))
        have kJ_63 : Kp 0 49 Ja J_63 := Kp_tr (Kp_rf (a := 0) (b := 49)) (Kp_wd h_63.2.1 (by decide) (by decide))
        have cI_63 : CX I_63 := h_63.2.2.1
        have qI_63 := XI_o cI_63.1
        have wI_63 : Fw [18, 19, 20, 21, 22, 23, 24, 25, 26, 27, 28, 29, 30, 31, 32, 33, 34, 35, 36] [(0, 16), (1, 7)] Ia I_63 := Fw_tr wI_59 (Fw_wd h_63.2.2.2.1 (by decide) (by decide))
        have r5_I_63 : I_63 1 5 = I_59 1 5 := h_63.2.2.2.1 1 5 (by decide) (by decide) (by decide)
        have r6_I_63 : I_63 1 6 = I_59 1 6 := h_63.2.2.2.1 1 6 (by decide) (by decide) (by decide)
        have r7_I_63 : I_63 1 7 = I_59 1 7 := h_63.2.2.2.1 1 7 (by decide) (by decide) (by decide)
        have r8_I_63 : I_63 1 8 = I_59 1 8 := h_63.2.2.2.1 1 8 (by decide) (by decide) (by decide)
        have r9_I_63 : I_63 1 9 = I_59 1 9 := h_63.2.2.2.1 1 9 (by decide) (by decide) (by decide)
        have r10_I_63 : I_63 1 10 = I_59 1 10 := h_63.2.2.2.1 1 10 (by decide) (by decide) (by decide)
        have r11_I_63 : I_63 1 11 = I_59 1 11 := h_63.2.2.2.1 1 11 (by decide) (by decide) (by decide)
        have r81_I_63 : I_63 8 1 = I_59 8 1 := h_63.2.2.2.1 8 1 (by decide) (by decide) (by decide)
        have rf_I_63 : FU (I_63 1 5) = FU (I_59 1 5) := by rw [r5_I_63]
        refine ww_aload_n hX (pc := 66) dX10_broken_66 rfl ?_
        refine ww_iload_n hX (pc := 67) dX10_broken_67 rfl ?_
        refine vI1 hX (pc := 68) sX10_114 (xs_0 hL) (c5_X10_accept l0 hL cI_63) (by decide) (Nat.le_refl 0) (Nat.le_refl 0) (Nat.le_of_ble_eq_true rfl) dX10_broken_68 (fun x_68 I_68 J_68 h_68 => ?_)
        have kI_68 : Kp 0 49 Ia I_68 := Kp_tr kI_63 (Kp_wd h_68.1 (by decide) (by decide))
        have kJ_68 : Kp 0 49 Ja J_68 := Kp_tr kJ_63 (Kp_wd h_68.2.1 (by decide) (by decide))
        have cI_68 : CX I_68 := h_68.2.2.1
        have qI_68 := XI_o cI_68.1
        have wI_68 : Fw [18, 19, 20, 21, 22, 23, 24, 25, 26, 27, 28, 29, 30, 31, 32, 33, 34, 35, 36] [(0, 16), (1, 7)] Ia I_68 := Fw_tr wI_63 (Fw_wd h_68.2.2.2.1 (by decide) (by decide))
        have r5_I_68 : I_68 1 5 = I_63 1 5 := h_68.2.2.2.1 1 5 (by decide) (by decide) (by decide)
        have r6_I_68 : I_68 1 6 = I_63 1 6 := h_68.2.2.2.1 1 6 (by decide) (by decide) (by decide)
        have r7_I_68 : I_68 1 7 = I_63 1 7 := h_68.2.2.2.1 1 7 (by decide) (by decide) (by decide)
        have r8_I_68 : I_68 1 8 = I_63 1 8 := h_68.2.2.2.1 1 8 (by decide) (by decide) (by decide)
        have r9_I_68 : I_68 1 9 = I_63 1 9 := h_68.2.2.2.1 1 9 (by decide) (by decide) (by decide)
        have r10_I_68 : I_68 1 10 = I_63 1 10 := h_68.2.2.2.1 1 10 (by decide) (by decide) (by decide)
        have r11_I_68 : I_68 1 11 = I_63 1 11 := h_68.2.2.2.1 1 11 (by decide) (by decide) (by decide)
        have r81_I_68 : I_68 8 1 = I_63 8 1 := h_68.2.2.2.1 8 1 (by decide) (by decide) (by decide)
        have rf_I_68 : FU (I_68 1 5) = FU (I_63 1 5) := by rw [r5_I_68]
        have xv_I_68 := h_68.2.2.2.2
        refine rI hX (pc := 71) hT (Nat.le_refl 0) (Nat.le_refl 0) dX10_broken_71 ?_
        exact ⟨kI_68, kJ_68, cI_68, (Fw_wd wI_68 (by decide) (by decide)), (fun h9 => absurd (by omega) h9), (fun _ => ⟨by rw [xv_I_68.1, hv_37], wI_68, xv_I_68.2, by rw [r7_I_68, r7_I_63]; exact z7⟩)⟩
      · simp only [w32_mod] at h_17
        refine ww_aload_n hX (pc := 20) dX10_broken_20 rfl ?_
        refine ww_iconst hX (pc := 21) (x := (-1)) dX10_broken_21 rfl ?_
        refine vI1 hX (pc := 22) sX10_89 (xs_0 hL) (c5_X10_refuse l0 hL hC (by omega) (by omega)) (by decide) (Nat.le_refl 0) (Nat.le_refl 0) (Nat.le_of_ble_eq_true rfl) dX10_broken_22 (fun x_22 I_22 J_22 h_22 => ?_)
        have kI_22 : Kp 0 49 Ia I_22 := Kp_tr (Kp_rf (a := 0) (b := 49)) (Kp_wd h_22.1 (by decide) (by decide))
        have kJ_22 : Kp 0 49 Ja J_22 := Kp_tr (Kp_rf (a := 0) (b := 49)) (Kp_wd h_22.2.1 (by decide) (by decide))
        have cI_22 : CX I_22 := h_22.2.2.1
        have qI_22 := XI_o cI_22.1
        have wI_22 : Fw [18, 19, 20, 21, 22, 23, 24, 25, 26, 27, 28, 29, 30, 31, 32, 33, 34, 35, 36, 48] [(0, 16), (1, 7)] Ia I_22 := Fw_tr Fw_rf (Fw_wd h_22.2.2.2.1 (by decide) (by decide))
        have r5_I_22 : I_22 1 5 = Ia 1 5 := h_22.2.2.2.1 1 5 (by decide) (by decide) (by decide)
        have r6_I_22 : I_22 1 6 = Ia 1 6 := h_22.2.2.2.1 1 6 (by decide) (by decide) (by decide)
        have r7_I_22 : I_22 1 7 = Ia 1 7 := h_22.2.2.2.1 1 7 (by decide) (by decide) (by decide)
        have r8_I_22 : I_22 1 8 = Ia 1 8 := h_22.2.2.2.1 1 8 (by decide) (by decide) (by decide)
        have r9_I_22 : I_22 1 9 = Ia 1 9 := h_22.2.2.2.1 1 9 (by decide) (by decide) (by decide)
        have r10_I_22 : I_22 1 10 = Ia 1 10 := h_22.2.2.2.1 1 10 (by decide) (by decide) (by decide)
        have r11_I_22 : I_22 1 11 = Ia 1 11 := h_22.2.2.2.1 1 11 (by decide) (by decide) (by decide)
        have r81_I_22 : I_22 8 1 = Ia 8 1 := h_22.2.2.2.1 8 1 (by decide) (by decide) (by decide)
        have rf_I_22 : FU (I_22 1 5) = FU (Ia 1 5) := by rw [r5_I_22]
        have xv_I_22 := h_22.2.2.2.2
        refine rI hX (pc := 25) hT (Nat.le_refl 0) (Nat.le_refl 0) dX10_broken_25 ?_
        exact ⟨kI_22, kJ_22, cI_22, (Fw_wd wI_22 (by decide) (by decide)), (fun _ => ⟨xv_I_22.1, h_22.2.2.2.1, xv_I_22.2⟩), (fun h9 => absurd h9 (by omega))⟩
set_option maxHeartbeats 4000000 in
set_option maxRecDepth 20000 in
theorem c5_X10_read (l0 : Launch) {Ia Ja : aI1} {Ra : aR1} {Sa : aS1} (hL : LY Ra Sa) (hC : CX Ia) {a b : Int} (ha0 : -2147483648 ≤ a) (ha1 : a < 2147483648) (hb0 : -2147483648 ≤ b) (hb1 : b < 2147483648)  : CT l0 10 0 0 mX10_read [kR (some 0), kI a, kI b] Ia Ja Ra Sa (cI (fun x I' J' => Kp 0 49 Ia I' ∧ Kp 0 49 Ja J' ∧ CX I' ∧ Fw [3, 18, 19, 20, 21, 22, 23, 24, 25, 26, 27, 28, 29, 30, 31, 32, 33, 34, 35, 36, 48] [(0, 16)] Ia I' ∧ (¬ (0 ≤ a ∧ a ≤ FU (Ia 1 5) ∧ (b = -1 ∨ (0 ≤ b ∧ b < Ia 1 6))) → x = -1 ∧ RFc Ia I' (-1)) ∧ ((0 ≤ a ∧ a ≤ FU (Ia 1 5) ∧ (b = -1 ∨ (0 ≤ b ∧ b < Ia 1 6))) → x = Ia 3 a.toNat ∧ Fw [3, 18, 19, 20, 21, 22, 23, 24, 25, 26, 27, 28, 29, 30, 31, 32, 33, 34, 35, 36] [(0, 16)] Ia I' ∧ I' 0 16 = 0 ∧ I' 3 = up1 (Ia 3) a.toNat b)) Ra Sa) := by
  refine ct_in pn_X10 (Nat.le_of_ble_eq_true rfl) (fun X hX hT hIn => ?_)
  have hX : aK l0 X cX10_read 4 RX10 (some .int) 10 0 0 := hX
  change WW X 0 [some (kR (some 0)), some (kI a), some (kI b), none] [] Ia Ja Ra Sa 0 0
  have hI := hC.1
  have hq := XI_o hI
  refine ww_aload_n hX (pc := 0) dX10_read_0 rfl ?_
  refine ww_getR hX (pc := 1) fX10_10 (by decide) (xs_0 hL) (xr_0_0 hL) dX10_read_1 ?_
  refine ww_iload_n hX (pc := 4) dX10_read_4 rfl ?_
  refine vI1 hX (pc := 5) sX10_131 (xs_1 hL) (c_X1_isState l0 hL hC.1 (by omega)) (by decide) (Nat.le_refl 0) (Nat.le_refl 0) (Nat.le_of_ble_eq_true rfl) dX10_read_5 (fun x_5 I_5 J_5 h_5 => ?_)
  obtain ⟨rfl, rfl, h_5⟩ := h_5
  refine ww_if_eq hX (pc := 8) (tgt := 27) dX10_read_8 (by decide) (fun h_8 => ?_) (fun h_8 => ?_)
  · simp only [w32_mod] at h_8
    refine ww_aload_n hX (pc := 27) dX10_read_27 rfl ?_
    refine ww_iconst hX (pc := 28) (x := (-1)) dX10_read_28 rfl ?_
    refine vI1 hX (pc := 29) sX10_89 (xs_0 hL) (c5_X10_refuse l0 hL hC (by omega) (by omega)) (by decide) (Nat.le_refl 0) (Nat.le_refl 0) (Nat.le_of_ble_eq_true rfl) dX10_read_29 (fun x_29 I_29 J_29 h_29 => ?_)
    have kI_29 : Kp 0 49 Ia I_29 := Kp_tr (Kp_rf (a := 0) (b := 49)) (Kp_wd h_29.1 (by decide) (by decide))
    have kJ_29 : Kp 0 49 Ja J_29 := Kp_tr (Kp_rf (a := 0) (b := 49)) (Kp_wd h_29.2.1 (by decide) (by decide))
    have cI_29 : CX I_29 := h_29.2.2.1
    have qI_29 := XI_o cI_29.1
    have wI_29 : Fw [3, 18, 19, 20, 21, 22, 23, 24, 25, 26, 27, 28, 29, 30, 31, 32, 33, 34, 35, 36, 48] [(0, 16)] Ia I_29 := Fw_tr Fw_rf (Fw_wd h_29.2.2.2.1 (by decide) (by decide))
    have r5_I_29 : I_29 1 5 = Ia 1 5 := h_29.2.2.2.1 1 5 (by decide) (by decide) (by decide)
    have r6_I_29 : I_29 1 6 = Ia 1 6 := h_29.2.2.2.1 1 6 (by decide) (by decide) (by decide)
    have r7_I_29 : I_29 1 7 = Ia 1 7 := h_29.2.2.2.1 1 7 (by decide) (by decide) (by decide)
    have r8_I_29 : I_29 1 8 = Ia 1 8 := h_29.2.2.2.1 1 8 (by decide) (by decide) (by decide)
    have r9_I_29 : I_29 1 9 = Ia 1 9 := h_29.2.2.2.1 1 9 (by decide) (by decide) (by decide)
    have r10_I_29 : I_29 1 10 = Ia 1 10 := h_29.2.2.2.1 1 10 (by decide) (by decide) (by decide)
    have r11_I_29 : I_29 1 11 = Ia 1 11 := h_29.2.2.2.1 1 11 (by decide) (by decide) (by decide)
    have r81_I_29 : I_29 8 1 = Ia 8 1 := h_29.2.2.2.1 8 1 (by decide) (by decide) (by decide)
    have rf_I_29 : FU (I_29 1 5) = FU (Ia 1 5) := by rw [r5_I_29]
    have y3_I_29 : I_29 3 = Ia 3 := Fw_row h_29.2.2.2.1 3 (by decide) (by decide) (by decide)
    have xv_I_29 := h_29.2.2.2.2
    refine rI hX (pc := 32) hT (Nat.le_refl 0) (Nat.le_refl 0) dX10_read_32 ?_
    exact ⟨kI_29, kJ_29, cI_29, (Fw_wd wI_29 (by decide) (by decide)), (fun _ => ⟨xv_I_29.1, h_29.2.2.2.1, xv_I_29.2⟩), (fun h9 => absurd h9 (by omega))⟩
  · simp only [w32_mod] at h_8
    have k_5 := h_5.2.mp (by omega)
    clear h_5
    refine ww_iload_n hX (pc := 11) dX10_read_11 rfl ?_
    refine ww_iconst hX (pc := 12) (x := (-1)) dX10_read_12 rfl ?_
    refine ww_icmp_eq hX (pc := 13) (tgt := 33) dX10_read_13 (by decide) (fun h_13 => ?_) (fun h_13 => ?_)
    · simp only [w32_mod] at h_13
      refine ww_aload_n hX (pc := 33) dX10_read_33 rfl ?_
      refine ww_getR hX (pc := 34) fX10_10 (by decide) (xs_0 hL) (xr_0_0 hL) dX10_read_34 ?_
      refine ww_getR hX (pc := 37) fX10_137 (by decide) (xs_1 hL) (xr_1_1 hL) dX10_read_37 ?_
      refine ww_iload_n hX (pc := 40) dX10_read_40 rfl ?_
      refine ww_iald hX (pc := 41) (xs_3 hL) (by decide) (by omega) (by omega) dX10_read_41 ?_
      refine ww_nmI (fun v_42 hv_42 => ?_)
      refine ww_istore_n hX (pc := 42) (lv' := [some (kR (some 0)), some (kI a), some (kI b), some (kI v_42)]) dX10_read_42 (by decide) rfl rfl ?_
      refine ww_aload_n hX (pc := 43) dX10_read_43 rfl ?_
      refine ww_getR hX (pc := 44) fX10_10 (by decide) (xs_0 hL) (xr_0_0 hL) dX10_read_44 ?_
      refine ww_getR hX (pc := 47) fX10_137 (by decide) (xs_1 hL) (xr_1_1 hL) dX10_read_47 ?_
      refine ww_iload_n hX (pc := 50) dX10_read_50 rfl ?_
      refine ww_iload_n hX (pc := 51) dX10_read_51 rfl ?_
      refine ww_iast hX (pc := 52) (xs_3 hL) (by decide) (by omega) (by omega) dX10_read_52 ?_
      refine ww_nmH (fun I_52 eI_52 => ?_)
      have kI_52 : Kp 0 49 Ia I_52 := by rw [eI_52]; exact Kp_up (Kp_rf (a := 0) (b := 49)) _ _ (by decide)
      have cI_52 : CX I_52 := by rw [eI_52]; exact CX_x hC (XI_3 hC.1 (by omega) (by omega)) (by decide)
      have qI_52 := XI_o cI_52.1
      have r5_I_52 : I_52 1 5 = Ia 1 5 := by rw [eI_52, up2_off _ _ _ (by decide)]
      have r6_I_52 : I_52 1 6 = Ia 1 6 := by rw [eI_52, up2_off _ _ _ (by decide)]
      have r8_I_52 : I_52 1 8 = Ia 1 8 := by rw [eI_52, up2_off _ _ _ (by decide)]
      have r9_I_52 : I_52 1 9 = Ia 1 9 := by rw [eI_52, up2_off _ _ _ (by decide)]
      have r10_I_52 : I_52 1 10 = Ia 1 10 := by rw [eI_52, up2_off _ _ _ (by decide)]
      have r11_I_52 : I_52 1 11 = Ia 1 11 := by rw [eI_52, up2_off _ _ _ (by decide)]
      have rf_I_52 : FU (I_52 1 5) = FU (Ia 1 5) := by rw [r5_I_52]
      have wI_52 : Fw [3, 18, 19, 20, 21, 22, 23, 24, 25, 26, 27, 28, 29, 30, 31, 32, 33, 34, 35, 36] [(0, 16)] Ia I_52 := by rw [eI_52]; exact Fw_up Fw_rf (Or.inl (by decide))
      have r7_I_52 : I_52 1 7 = Ia 1 7 := by rw [eI_52, up2_n _ _ (Or.inl (by decide))]
      refine ww_aload_n hX (pc := 53) dX10_read_53 rfl ?_
      refine vV0 hX (pc := 54) sX10_111 (xs_0 hL) (c5_X10_codeChanged l0 hL cI_52) (by decide) (Nat.le_refl 0) (Nat.le_refl 0) (Nat.le_of_ble_eq_true rfl) dX10_read_54 (fun I_54 J_54 h_54 => ?_)
      have kI_54 : Kp 0 49 Ia I_54 := Kp_tr kI_52 (Kp_wd h_54.1 (by decide) (by decide))
      have kJ_54 : Kp 0 49 Ja J_54 := Kp_tr (Kp_rf (a := 0) (b := 49)) (Kp_wd h_54.2.1 (by decide) (by decide))
      have cI_54 : CX I_54 := h_54.2.2.1
      have qI_54 := XI_o cI_54.1
      have wI_54 : Fw [3, 18, 19, 20, 21, 22, 23, 24, 25, 26, 27, 28, 29, 30, 31, 32, 33, 34, 35, 36] [(0, 16)] Ia I_54 := Fw_tr wI_52 (Fw_wd h_54.2.2.2.1 (by decide) (by decide))
      have r5_I_54 : I_54 1 5 = I_52 1 5 := h_54.2.2.2.1 1 5 (by decide) (by decide) (by decide)
      have r6_I_54 : I_54 1 6 = I_52 1 6 := h_54.2.2.2.1 1 6 (by decide) (by decide) (by decide)
      have r7_I_54 : I_54 1 7 = I_52 1 7 := h_54.2.2.2.1 1 7 (by decide) (by decide) (by decide)
      have r8_I_54 : I_54 1 8 = I_52 1 8 := h_54.2.2.2.1 1 8 (by decide) (by decide) (by decide)
      have r9_I_54 : I_54 1 9 = I_52 1 9 := h_54.2.2.2.1 1 9 (by decide) (by decide) (by decide)
      have r10_I_54 : I_54 1 10 = I_52 1 10 := h_54.2.2.2.1 1 10 (by decide) (by decide) (by decide)
      have r11_I_54 : I_54 1 11 = I_52 1 11 := h_54.2.2.2.1 1 11 (by decide) (by decide) (by decide)
      have r81_I_54 : I_54 8 1 = I_52 8 1 := h_54.2.2.2.1 8 1 (by decide) (by decide) (by decide)
      have rf_I_54 : FU (I_54 1 5) = FU (I_52 1 5) := by rw [r5_I_54]
      have y3_I_54 : I_54 3 = I_52 3 := Fw_row h_54.2.2.2.1 3 (by decide) (by decide) (by decide)
      refine ww_aload_n hX (pc := 57) dX10_read_57 rfl ?_
      refine ww_iload_n hX (pc := 58) dX10_read_58 rfl ?_
      refine vI1 hX (pc := 59) sX10_114 (xs_0 hL) (c5_X10_accept l0 hL cI_54) (by decide) (Nat.le_refl 0) (Nat.le_refl 0) (Nat.le_of_ble_eq_true rfl) dX10_read_59 (fun x_59 I_59 J_59 h_59 => ?_)
      have kI_59 : Kp 0 49 Ia I_59 := Kp_tr kI_54 (Kp_wd h_59.1 (by decide) (by decide))
      have kJ_59 : Kp 0 49 Ja J_59 := Kp_tr kJ_54 (Kp_wd h_59.2.1 (by decide) (by decide))
      have cI_59 : CX I_59 := h_59.2.2.1
      have qI_59 := XI_o cI_59.1
      have wI_59 : Fw [3, 18, 19, 20, 21, 22, 23, 24, 25, 26, 27, 28, 29, 30, 31, 32, 33, 34, 35, 36] [(0, 16)] Ia I_59 := Fw_tr wI_54 (Fw_wd h_59.2.2.2.1 (by decide) (by decide))
      have r5_I_59 : I_59 1 5 = I_54 1 5 := h_59.2.2.2.1 1 5 (by decide) (by decide) (by decide)
      have r6_I_59 : I_59 1 6 = I_54 1 6 := h_59.2.2.2.1 1 6 (by decide) (by decide) (by decide)
      have r7_I_59 : I_59 1 7 = I_54 1 7 := h_59.2.2.2.1 1 7 (by decide) (by decide) (by decide)
      have r8_I_59 : I_59 1 8 = I_54 1 8 := h_59.2.2.2.1 1 8 (by decide) (by decide) (by decide)
      have r9_I_59 : I_59 1 9 = I_54 1 9 := h_59.2.2.2.1 1 9 (by decide) (by decide) (by decide)
      have r10_I_59 : I_59 1 10 = I_54 1 10 := h_59.2.2.2.1 1 10 (by decide) (by decide) (by decide)
      have r11_I_59 : I_59 1 11 = I_54 1 11 := h_59.2.2.2.1 1 11 (by decide) (by decide) (by decide)
      have r81_I_59 : I_59 8 1 = I_54 8 1 := h_59.2.2.2.1 8 1 (by decide) (by decide) (by decide)
      have rf_I_59 : FU (I_59 1 5) = FU (I_54 1 5) := by rw [r5_I_59]
      have y3_I_59 : I_59 3 = I_54 3 := Fw_row h_59.2.2.2.1 3 (by decide) (by decide) (by decide)
      have xv_I_59 := h_59.2.2.2.2
      refine rI hX (pc := 62) hT (Nat.le_refl 0) (Nat.le_refl 0) dX10_read_62 ?_
      exact ⟨kI_59, kJ_59, cI_59, (Fw_wd wI_59 (by decide) (by decide)), (fun h9 => absurd (by omega) h9), (fun _ => ⟨by rw [xv_I_59.1, hv_42], wI_59, xv_I_59.2, by rw [y3_I_59, y3_I_54, eI_52, up2_row]⟩)⟩
    · simp only [w32_mod] at h_13
      refine ww_aload_n hX (pc := 16) dX10_read_16 rfl ?_
      refine ww_getR hX (pc := 17) fX10_10 (by decide) (xs_0 hL) (xr_0_0 hL) dX10_read_17 ?_
      refine ww_iload_n hX (pc := 20) dX10_read_20 rfl ?_
      refine vI1 hX (pc := 21) sX10_134 (xs_1 hL) (c_X1_isNews l0 hL hC.1 (by omega)) (by decide) (Nat.le_refl 0) (Nat.le_refl 0) (Nat.le_of_ble_eq_true rfl) dX10_read_21 (fun x_21 I_21 J_21 h_21 => ?_)
      obtain ⟨rfl, rfl, h_21⟩ := h_21
      refine ww_if_ne hX (pc := 24) (tgt := 33) dX10_read_24 (by decide) (fun h_24 => ?_) (fun h_24 => ?_)
      · simp only [w32_mod] at h_24
        have k_21 := h_21.2.mp (by omega)
        clear h_21
        refine ww_aload_n hX (pc := 33) dX10_read_33 rfl ?_
        refine ww_getR hX (pc := 34) fX10_10 (by decide) (xs_0 hL) (xr_0_0 hL) dX10_read_34 ?_
        refine ww_getR hX (pc := 37) fX10_137 (by decide) (xs_1 hL) (xr_1_1 hL) dX10_read_37 ?_
        refine ww_iload_n hX (pc := 40) dX10_read_40 rfl ?_
        refine ww_iald hX (pc := 41) (xs_3 hL) (by decide) (by omega) (by omega) dX10_read_41 ?_
        refine ww_nmI (fun v_42 hv_42 => ?_)
        refine ww_istore_n hX (pc := 42) (lv' := [some (kR (some 0)), some (kI a), some (kI b), some (kI v_42)]) dX10_read_42 (by decide) rfl rfl ?_
        refine ww_aload_n hX (pc := 43) dX10_read_43 rfl ?_
        refine ww_getR hX (pc := 44) fX10_10 (by decide) (xs_0 hL) (xr_0_0 hL) dX10_read_44 ?_
        refine ww_getR hX (pc := 47) fX10_137 (by decide) (xs_1 hL) (xr_1_1 hL) dX10_read_47 ?_
        refine ww_iload_n hX (pc := 50) dX10_read_50 rfl ?_
        refine ww_iload_n hX (pc := 51) dX10_read_51 rfl ?_
        refine ww_iast hX (pc := 52) (xs_3 hL) (by decide) (by omega) (by omega) dX10_read_52 ?_
        refine ww_nmH (fun I_52 eI_52 => ?_)
        have kI_52 : Kp 0 49 Ia I_52 := by rw [eI_52]; exact Kp_up (Kp_rf (a := 0) (b := 49)) _ _ (by decide)
        have cI_52 : CX I_52 := by rw [eI_52]; exact CX_x hC (XI_3 hC.1 (by omega) (by omega)) (by decide)
        have qI_52 := XI_o cI_52.1
        have r5_I_52 : I_52 1 5 = Ia 1 5 := by rw [eI_52, up2_off _ _ _ (by decide)]
        have r6_I_52 : I_52 1 6 = Ia 1 6 := by rw [eI_52, up2_off _ _ _ (by decide)]
        have r8_I_52 : I_52 1 8 = Ia 1 8 := by rw [eI_52, up2_off _ _ _ (by decide)]
        have r9_I_52 : I_52 1 9 = Ia 1 9 := by rw [eI_52, up2_off _ _ _ (by decide)]
        have r10_I_52 : I_52 1 10 = Ia 1 10 := by rw [eI_52, up2_off _ _ _ (by decide)]
        have r11_I_52 : I_52 1 11 = Ia 1 11 := by rw [eI_52, up2_off _ _ _ (by decide)]
        have rf_I_52 : FU (I_52 1 5) = FU (Ia 1 5) := by rw [r5_I_52]
        have wI_52 : Fw [3, 18, 19, 20, 21, 22, 23, 24, 25, 26, 27, 28, 29, 30, 31, 32, 33, 34, 35, 36] [(0, 16)] Ia I_52 := by rw [eI_52]; exact Fw_up Fw_rf (Or.inl (by decide))
        have r7_I_52 : I_52 1 7 = Ia 1 7 := by rw [eI_52, up2_n _ _ (Or.inl (by decide))]
        refine ww_aload_n hX (pc := 53) dX10_read_53 rfl ?_
        refine vV0 hX (pc := 54) sX10_111 (xs_0 hL) (c5_X10_codeChanged l0 hL cI_52) (by decide) (Nat.le_refl 0) (Nat.le_refl 0) (Nat.le_of_ble_eq_true rfl) dX10_read_54 (fun I_54 J_54 h_54 => ?_)
        have kI_54 : Kp 0 49 Ia I_54 := Kp_tr kI_52 (Kp_wd h_54.1 (by decide) (by decide))
        have kJ_54 : Kp 0 49 Ja J_54 := Kp_tr (Kp_rf (a := 0) (b := 49)) (Kp_wd h_54.2.1 (by decide) (by decide))
        have cI_54 : CX I_54 := h_54.2.2.1
        have qI_54 := XI_o cI_54.1
        have wI_54 : Fw [3, 18, 19, 20, 21, 22, 23, 24, 25, 26, 27, 28, 29, 30, 31, 32, 33, 34, 35, 36] [(0, 16)] Ia I_54 := Fw_tr wI_52 (Fw_wd h_54.2.2.2.1 (by decide) (by decide))
        have r5_I_54 : I_54 1 5 = I_52 1 5 := h_54.2.2.2.1 1 5 (by decide) (by decide) (by decide)
        have r6_I_54 : I_54 1 6 = I_52 1 6 := h_54.2.2.2.1 1 6 (by decide) (by decide) (by decide)
        have r7_I_54 : I_54 1 7 = I_52 1 7 := h_54.2.2.2.1 1 7 (by decide) (by decide) (by decide)
        have r8_I_54 : I_54 1 8 = I_52 1 8 := h_54.2.2.2.1 1 8 (by decide) (by decide) (by decide)
        have r9_I_54 : I_54 1 9 = I_52 1 9 := h_54.2.2.2.1 1 9 (by decide) (by decide) (by decide)
        have r10_I_54 : I_54 1 10 = I_52 1 10 := h_54.2.2.2.1 1 10 (by decide) (by decide) (by decide)
        have r11_I_54 : I_54 1 11 = I_52 1 11 := h_54.2.2.2.1 1 11 (by decide) (by decide) (by decide)
        have r81_I_54 : I_54 8 1 = I_52 8 1 := h_54.2.2.2.1 8 1 (by decide) (by decide) (by decide)
        have rf_I_54 : FU (I_54 1 5) = FU (I_52 1 5) := by rw [r5_I_54]
        have y3_I_54 : I_54 3 = I_52 3 := Fw_row h_54.2.2.2.1 3 (by decide) (by decide) (by decide)
        refine ww_aload_n hX (pc := 57) dX10_read_57 rfl ?_
        refine ww_iload_n hX (pc := 58) dX10_read_58 rfl ?_
        refine vI1 hX (pc := 59) sX10_114 (xs_0 hL) (c5_X10_accept l0 hL cI_54) (by decide) (Nat.le_refl 0) (Nat.le_refl 0) (Nat.le_of_ble_eq_true rfl) dX10_read_59 (fun x_59 I_59 J_59 h_59 => ?_)
        have kI_59 : Kp 0 49 Ia I_59 := Kp_tr kI_54 (Kp_wd h_59.1 (by decide) (by decide))
        have kJ_59 : Kp 0 49 Ja J_59 := Kp_tr kJ_54 (Kp_wd h_59.2.1 (by decide) (by decide))
        have cI_59 : CX I_59 := h_59.2.2.1
        have qI_59 := XI_o cI_59.1
        have wI_59 : Fw [3, 18, 19, 20, 21, 22, 23, 24, 25, 26, 27, 28, 29, 30, 31, 32, 33, 34, 35, 36] [(0, 16)] Ia I_59 := Fw_tr wI_54 (Fw_wd h_59.2.2.2.1 (by decide) (by decide))
        have r5_I_59 : I_59 1 5 = I_54 1 5 := h_59.2.2.2.1 1 5 (by decide) (by decide) (by decide)
        have r6_I_59 : I_59 1 6 = I_54 1 6 := h_59.2.2.2.1 1 6 (by decide) (by decide) (by decide)
        have r7_I_59 : I_59 1 7 = I_54 1 7 := h_59.2.2.2.1 1 7 (by decide) (by decide) (by decide)
        have r8_I_59 : I_59 1 8 = I_54 1 8 := h_59.2.2.2.1 1 8 (by decide) (by decide) (by decide)
        have r9_I_59 : I_59 1 9 = I_54 1 9 := h_59.2.2.2.1 1 9 (by decide) (by decide) (by decide)
        have r10_I_59 : I_59 1 10 = I_54 1 10 := h_59.2.2.2.1 1 10 (by decide) (by decide) (by decide)
        have r11_I_59 : I_59 1 11 = I_54 1 11 := h_59.2.2.2.1 1 11 (by decide) (by decide) (by decide)
        have r81_I_59 : I_59 8 1 = I_54 8 1 := h_59.2.2.2.1 8 1 (by decide) (by decide) (by decide)
        have rf_I_59 : FU (I_59 1 5) = FU (I_54 1 5) := by rw [r5_I_59]
        have y3_I_59 : I_59 3 = I_54 3 := Fw_row h_59.2.2.2.1 3 (by decide) (by decide) (by decide)
        have xv_I_59 := h_59.2.2.2.2
        refine rI hX (pc := 62) hT (Nat.le_refl 0) (Nat.le_refl 0) dX10_read_62 ?_
        exact ⟨kI_59, kJ_59, cI_59, (Fw_wd wI_59 (by decide) (by decide)), (fun h9 => absurd (by omega) h9), (fun _ => ⟨by rw [xv_I_59.1, hv_42], wI_59, xv_I_59.2, by rw [y3_I_59, y3_I_54, eI_52, up2_row]⟩)⟩
      · simp only [w32_mod] at h_24
        refine ww_aload_n hX (pc := 27) dX10_read_27 rfl ?_
        refine ww_iconst hX (pc := 28) (x := (-1)) dX10_read_28 rfl ?_
        refine vI1 hX (pc := 29) sX10_89 (xs_0 hL) (c5_X10_refuse l0 hL hC (by omega) (by omega)) (by decide) (Nat.le_refl 0) (Nat.le_refl 0) (Nat.le_of_ble_eq_true rfl) dX10_read_29 (fun x_29 I_29 J_29 h_29 => ?_)
        have kI_29 : Kp 0 49 Ia I_29 := Kp_tr (Kp_rf (a := 0) (b := 49)) (Kp_wd h_29.1 (by decide) (by decide))
        have kJ_29 : Kp 0 49 Ja J_29 := Kp_tr (Kp_rf (a := 0) (b := 49)) (Kp_wd h_29.2.1 (by decide) (by decide))
        have cI_29 : CX I_29 := h_29.2.2.1
        have qI_29 := XI_o cI_29.1
        have wI_29 : Fw [3, 18, 19, 20, 21, 22, 23, 24, 25, 26, 27, 28, 29, 30, 31, 32, 33, 34, 35, 36, 48] [(0, 16)] Ia I_29 := Fw_tr Fw_rf (Fw_wd h_29.2.2.2.1 (by decide) (by decide))
        have r5_I_29 : I_29 1 5 = Ia 1 5 := h_29.2.2.2.1 1 5 (by decide) (by decide) (by decide)
        have r6_I_29 : I_29 1 6 = Ia 1 6 := h_29.2.2.2.1 1 6 (by decide) (by decide) (by decide)
        have r7_I_29 : I_29 1 7 = Ia 1 7 := h_29.2.2.2.1 1 7 (by decide) (by decide) (by decide)
        have r8_I_29 : I_29 1 8 = Ia 1 8 := h_29.2.2.2.1 1 8 (by decide) (by decide) (by decide)
        have r9_I_29 : I_29 1 9 = Ia 1 9 := h_29.2.2.2.1 1 9 (by decide) (by decide) (by decide)
        have r10_I_29 : I_29 1 10 = Ia 1 10 := h_29.2.2.2.1 1 10 (by decide) (by decide) (by decide)
        have r11_I_29 : I_29 1 11 = Ia 1 11 := h_29.2.2.2.1 1 11 (by decide) (by decide) (by decide)
        have r81_I_29 : I_29 8 1 = Ia 8 1 := h_29.2.2.2.1 8 1 (by decide) (by decide) (by decide)
        have rf_I_29 : FU (I_29 1 5) = FU (Ia 1 5) := by rw [r5_I_29]
        have y3_I_29 : I_29 3 = Ia 3 := Fw_row h_29.2.2.2.1 3 (by decide) (by decide) (by decide)
        have xv_I_29 := h_29.2.2.2.2
        refine rI hX (pc := 32) hT (Nat.le_refl 0) (Nat.le_refl 0) dX10_read_32 ?_
        exact ⟨kI_29, kJ_29, cI_29, (Fw_wd wI_29 (by decide) (by decide)), (fun _ => ⟨xv_I_29.1, h_29.2.2.2.1, xv_I_29.2⟩), (fun h9 => absurd h9 (by omega))⟩
set_option maxHeartbeats 4000000 in
set_option maxRecDepth 20000 in
theorem c5_X10_end (l0 : Launch) {Ia Ja : aI1} {Ra : aR1} {Sa : aS1} (hL : LY Ra Sa) (hC : CX Ia) {a : Int} (ha0 : -2147483648 ≤ a) (ha1 : a < 2147483648)  : CT l0 10 0 0 mX10_end [kR (some 0), kI a] Ia Ja Ra Sa (cI (fun x I' J' => Kp 0 49 Ia I' ∧ Kp 0 49 Ja J' ∧ CX I' ∧ Fw [] [(8, 1)] Ia I' ∧ ((0 ≤ a ∧ a ≤ Ia 8 1) → x = a ∧ I' 8 1 = a) ∧ (¬ (0 ≤ a ∧ a ≤ Ia 8 1) → x = -1 ∧ I' 8 1 = Ia 8 1)) Ra Sa) := by
  refine ct_in pn_X10 (Nat.le_of_ble_eq_true rfl) (fun X hX hT hIn => ?_)
  have hX : aK l0 X cX10_end 2 RX10 (some .int) 10 0 0 := hX
  change WW X 0 [some (kR (some 0)), some (kI a)] [] Ia Ja Ra Sa 0 0
  have hI := hC.1
  have hq := XI_o hI
  refine ww_iload_n hX (pc := 0) dX10_end_0 rfl ?_
  refine ww_if_lt hX (pc := 1) (tgt := 15) dX10_end_1 (by decide) (fun h_1 => ?_) (fun h_1 => ?_)
  · simp only [w32_mod] at h_1
    refine ww_iconst hX (pc := 15) (x := (-1)) dX10_end_15 rfl ?_
    refine rI hX (pc := 16) hT (Nat.le_refl 0) (Nat.le_refl 0) dX10_end_16 ?_
    exact ⟨(Kp_rf (a := 0) (b := 49)), (Kp_rf (a := 0) (b := 49)), hC, Fw_rf, by omega, by omega⟩
  · simp only [w32_mod] at h_1
    refine ww_iload_n hX (pc := 4) dX10_end_4 rfl ?_
    refine ww_aload_n hX (pc := 5) dX10_end_5 rfl ?_
    refine ww_getR hX (pc := 6) fX10_23 (by decide) (xs_0 hL) (xr_0_2 hL) dX10_end_6 ?_
    refine ww_getI hX (pc := 9) fX10_148 (by decide) (xs_8 hL) dX10_end_9 ?_
    refine ww_icmp_le hX (pc := 12) (tgt := 17) dX10_end_12 (by decide) (fun h_12 => ?_) (fun h_12 => ?_)
    · simp only [w32_mod] at h_12
      refine ww_aload_n hX (pc := 17) dX10_end_17 rfl ?_
      refine ww_getR hX (pc := 18) fX10_23 (by decide) (xs_0 hL) (xr_0_2 hL) dX10_end_18 ?_
      refine ww_iload_n hX (pc := 21) dX10_end_21 rfl ?_
      refine ww_putI hX (pc := 22) (fun h9 => absurd h9 (by decide)) gX10_148 rfl (xs_8 hL) dX10_end_22 ?_
      refine ww_nmH (fun I_22 eI_22 => ?_)
      have kI_22 : Kp 0 49 Ia I_22 := by rw [eI_22]; exact Kp_up (Kp_rf (a := 0) (b := 49)) _ _ (by decide)
      have cI_22 : CX I_22 := by rw [eI_22]; exact CX_x hC (XI_8_1 hC.1 (by omega) (by omega)) (by decide)
      have qI_22 := XI_o cI_22.1
      have r5_I_22 : I_22 1 5 = Ia 1 5 := by rw [eI_22, up2_off _ _ _ (by decide)]
      have r6_I_22 : I_22 1 6 = Ia 1 6 := by rw [eI_22, up2_off _ _ _ (by decide)]
      have r8_I_22 : I_22 1 8 = Ia 1 8 := by rw [eI_22, up2_off _ _ _ (by decide)]
      have r9_I_22 : I_22 1 9 = Ia 1 9 := by rw [eI_22, up2_off _ _ _ (by decide)]
      have r10_I_22 : I_22 1 10 = Ia 1 10 := by rw [eI_22, up2_off _ _ _ (by decide)]
      have r11_I_22 : I_22 1 11 = Ia 1 11 := by rw [eI_22, up2_off _ _ _ (by decide)]
      have rf_I_22 : FU (I_22 1 5) = FU (Ia 1 5) := by rw [r5_I_22]
      have wI_22 : Fw [] [(8, 1)] Ia I_22 := by rw [eI_22]; exact Fw_up Fw_rf (Or.inr (by decide))
      have r7_I_22 : I_22 1 7 = Ia 1 7 := by rw [eI_22, up2_n _ _ (Or.inl (by decide))]
      have z81 : I_22 8 1 = a := by rw [eI_22, up2_s]
      refine ww_iload_n hX (pc := 25) dX10_end_25 rfl ?_
      refine rI hX (pc := 26) hT (Nat.le_refl 0) (Nat.le_refl 0) dX10_end_26 ?_
      exact ⟨kI_22, (Kp_rf (a := 0) (b := 49)), cI_22, (Fw_wd wI_22 (by decide) (by decide)), by omega, by omega⟩
    · simp only [w32_mod] at h_12
      refine ww_iconst hX (pc := 15) (x := (-1)) dX10_end_15 rfl ?_
      refine rI hX (pc := 16) hT (Nat.le_refl 0) (Nat.le_refl 0) dX10_end_16 ?_
      exact ⟨(Kp_rf (a := 0) (b := 49)), (Kp_rf (a := 0) (b := 49)), hC, Fw_rf, by omega, by omega⟩
set_option maxHeartbeats 4000000 in
set_option maxRecDepth 20000 in
theorem c5_X10_feed (l0 : Launch) {Ia Ja : aI1} {Ra : aR1} {Sa : aS1} (hL : LY Ra Sa) (hC : CX Ia) {a b c e f : Int} (ha0 : -2147483648 ≤ a) (ha1 : a < 2147483648) (hb0 : -2147483648 ≤ b) (hb1 : b < 2147483648) (hc0 : -2147483648 ≤ c) (hc1 : c < 2147483648) (he0 : -2147483648 ≤ e) (he1 : e < 2147483648) (hf0 : -2147483648 ≤ f) (hf1 : f < 2147483648)  : CT l0 10 0 0 mX10_feed [kR (some 0), kI a, kI b, kI c, kI e, kI f] Ia Ja Ra Sa (cI (fun x I' J' => Kp 0 49 Ia I' ∧ Kp 0 49 Ja J' ∧ CX I' ∧ Fw [8, 9] [] Ia I' ∧ (Ia 8 1 ≤ 380 → x = Ia 8 1 + 20 ∧ I' 8 1 = Ia 8 1 + 20 ∧ FDc (Ia 9) (I' 9) (Ia 8 1) a b c e f) ∧ (¬ Ia 8 1 ≤ 380 → x = -1 ∧ I' 8 1 = Ia 8 1 ∧ I' 9 = Ia 9)) Ra Sa) := by
  refine ct_in pn_X10 (Nat.le_of_ble_eq_true rfl) (fun X hX hT hIn => ?_)
  have hX : aK l0 X cX10_feed 6 RX10 (some .int) 10 0 0 := hX
  change WW X 0 [some (kR (some 0)), some (kI a), some (kI b), some (kI c), some (kI e), some (kI f)] [] Ia Ja Ra Sa 0 0
  have hI := hC.1
  have hq := XI_o hI
  refine ww_aload_n hX (pc := 0) dX10_feed_0 rfl ?_
  refine ww_getR hX (pc := 1) fX10_23 (by decide) (xs_0 hL) (xr_0_2 hL) dX10_feed_1 ?_
  refine vI0 hX (pc := 4) sX10_140 (xs_8 hL) (c_X9_hasRoom l0 hL hC.1) (by decide) (Nat.le_refl 0) (Nat.le_refl 0) (Nat.le_of_ble_eq_true rfl) dX10_feed_4 (fun x_4 I_4 J_4 h_4 => ?_)
  obtain ⟨rfl, rfl, h_4⟩ := h_4
  refine ww_if_ne hX (pc := 7) (tgt := 12) dX10_feed_7 (by decide) (fun h_7 => ?_) (fun h_7 => ?_)
  · simp only [w32_mod] at h_7
    have k_4 := h_4.2.mp (by omega)
    clear h_4
    refine ww_aload_n hX (pc := 12) dX10_feed_12 rfl ?_
    refine ww_getR hX (pc := 13) fX10_23 (by decide) (xs_0 hL) (xr_0_2 hL) dX10_feed_13 ?_
    refine ww_iload_n hX (pc := 16) dX10_feed_16 rfl ?_
    refine vV1 hX (pc := 17) sX10_144 (xs_8 hL) (c5_X9_put l0 hL (by omega) (by omega) hC.1.2.2.2.2.2.2.2.2.2.2) (by decide) (Nat.le_refl 0) (Nat.le_refl 0) (Nat.le_of_ble_eq_true rfl) dX10_feed_17 (fun I_17 J_17 h_17 => ?_)
    have kI_17 : Kp 0 49 Ia I_17 := Kp_tr (Kp_rf (a := 0) (b := 49)) (Kp_wd h_17.1 (by decide) (by decide))
    have kJ_17 : Kp 0 49 Ja J_17 := Kp_tr (Kp_rf (a := 0) (b := 49)) (Kp_wd h_17.2.1 (by decide) (by decide))
    have l_17 := h_17.2.2.1
    have p_17 := h_17.2.2.2.2
    have cI_17 : CX I_17 := CX_put hC h_17.1 (by omega) (by omega) h_17.2.2.2.1
    have qI_17 := XI_o cI_17.1
    have r5_I_17 : I_17 1 5 = Ia 1 5 := by rw [h_17.1 1 (by decide)]
    have r6_I_17 : I_17 1 6 = Ia 1 6 := by rw [h_17.1 1 (by decide)]
    have r8_I_17 : I_17 1 8 = Ia 1 8 := by rw [h_17.1 1 (by decide)]
    have r9_I_17 : I_17 1 9 = Ia 1 9 := by rw [h_17.1 1 (by decide)]
    have r10_I_17 : I_17 1 10 = Ia 1 10 := by rw [h_17.1 1 (by decide)]
    have r11_I_17 : I_17 1 11 = Ia 1 11 := by rw [h_17.1 1 (by decide)]
    have rf_I_17 : FU (I_17 1 5) = FU (Ia 1 5) := by rw [r5_I_17]
    have wI_17 : Fw [8, 9] [] Ia I_17 := Fw_kp Fw_rf h_17.1 (by decide)
    have r7_I_17 : I_17 1 7 = Ia 1 7 := by rw [h_17.1 1 (by decide)]
    refine ww_aload_n hX (pc := 20) dX10_feed_20 rfl ?_
    refine ww_getR hX (pc := 21) fX10_23 (by decide) (xs_0 hL) (xr_0_2 hL) dX10_feed_21 ?_
    refine ww_iload_n hX (pc := 24) dX10_feed_24 rfl ?_
    refine vV1 hX (pc := 25) sX10_144 (xs_8 hL) (c5_X9_put l0 hL (by omega) (by omega) cI_17.1.2.2.2.2.2.2.2.2.2.2) (by decide) (Nat.le_refl 0) (Nat.le_refl 0) (Nat.le_of_ble_eq_true rfl) dX10_feed_25 (fun I_25 J_25 h_25 => ?_)
    have kI_25 : Kp 0 49 Ia I_25 := Kp_tr kI_17 (Kp_wd h_25.1 (by decide) (by decide))
    have kJ_25 : Kp 0 49 Ja J_25 := Kp_tr kJ_17 (Kp_wd h_25.2.1 (by decide) (by decide))
    have l_25 := h_25.2.2.1
    have p_25 := h_25.2.2.2.2
    have cI_25 : CX I_25 := CX_put cI_17 h_25.1 (by omega) (by omega) h_25.2.2.2.1
    have qI_25 := XI_o cI_25.1
    have r5_I_25 : I_25 1 5 = I_17 1 5 := by rw [h_25.1 1 (by decide)]
    have r6_I_25 : I_25 1 6 = I_17 1 6 := by rw [h_25.1 1 (by decide)]
    have r8_I_25 : I_25 1 8 = I_17 1 8 := by rw [h_25.1 1 (by decide)]
    have r9_I_25 : I_25 1 9 = I_17 1 9 := by rw [h_25.1 1 (by decide)]
    have r10_I_25 : I_25 1 10 = I_17 1 10 := by rw [h_25.1 1 (by decide)]
    have r11_I_25 : I_25 1 11 = I_17 1 11 := by rw [h_25.1 1 (by decide)]
    have rf_I_25 : FU (I_25 1 5) = FU (I_17 1 5) := by rw [r5_I_25]
    have wI_25 : Fw [8, 9] [] Ia I_25 := Fw_kp wI_17 h_25.1 (by decide)
    have r7_I_25 : I_25 1 7 = I_17 1 7 := by rw [h_25.1 1 (by decide)]
    refine ww_aload_n hX (pc := 28) dX10_feed_28 rfl ?_
    refine ww_getR hX (pc := 29) fX10_23 (by decide) (xs_0 hL) (xr_0_2 hL) dX10_feed_29 ?_
    refine ww_iload_n hX (pc := 32) dX10_feed_32 rfl ?_
    refine vV1 hX (pc := 33) sX10_144 (xs_8 hL) (c5_X9_put l0 hL (by omega) (by omega) cI_25.1.2.2.2.2.2.2.2.2.2.2) (by decide) (Nat.le_refl 0) (Nat.le_refl 0) (Nat.le_of_ble_eq_true rfl) dX10_feed_33 (fun I_33 J_33 h_33 => ?_)
    have kI_33 : Kp 0 49 Ia I_33 := Kp_tr kI_25 (Kp_wd h_33.1 (by decide) (by decide))
    have kJ_33 : Kp 0 49 Ja J_33 := Kp_tr kJ_25 (Kp_wd h_33.2.1 (by decide) (by decide))
    have l_33 := h_33.2.2.1
    have p_33 := h_33.2.2.2.2
    have cI_33 : CX I_33 := CX_put cI_25 h_33.1 (by omega) (by omega) h_33.2.2.2.1
    have qI_33 := XI_o cI_33.1
    have r5_I_33 : I_33 1 5 = I_25 1 5 := by rw [h_33.1 1 (by decide)]
    have r6_I_33 : I_33 1 6 = I_25 1 6 := by rw [h_33.1 1 (by decide)]
    have r8_I_33 : I_33 1 8 = I_25 1 8 := by rw [h_33.1 1 (by decide)]
    have r9_I_33 : I_33 1 9 = I_25 1 9 := by rw [h_33.1 1 (by decide)]
    have r10_I_33 : I_33 1 10 = I_25 1 10 := by rw [h_33.1 1 (by decide)]
    have r11_I_33 : I_33 1 11 = I_25 1 11 := by rw [h_33.1 1 (by decide)]
    have rf_I_33 : FU (I_33 1 5) = FU (I_25 1 5) := by rw [r5_I_33]
    have wI_33 : Fw [8, 9] [] Ia I_33 := Fw_kp wI_25 h_33.1 (by decide)
    have r7_I_33 : I_33 1 7 = I_25 1 7 := by rw [h_33.1 1 (by decide)]
    refine ww_aload_n hX (pc := 36) dX10_feed_36 rfl ?_
    refine ww_getR hX (pc := 37) fX10_23 (by decide) (xs_0 hL) (xr_0_2 hL) dX10_feed_37 ?_
    refine ww_iload hX (pc := 40) dX10_feed_40 rfl ?_
    refine vV1 hX (pc := 42) sX10_144 (xs_8 hL) (c5_X9_put l0 hL (by omega) (by omega) cI_33.1.2.2.2.2.2.2.2.2.2.2) (by decide) (Nat.le_refl 0) (Nat.le_refl 0) (Nat.le_of_ble_eq_true rfl) dX10_feed_42 (fun I_42 J_42 h_42 => ?_)
    have kI_42 : Kp 0 49 Ia I_42 := Kp_tr kI_33 (Kp_wd h_42.1 (by decide) (by decide))
    have kJ_42 : Kp 0 49 Ja J_42 := Kp_tr kJ_33 (Kp_wd h_42.2.1 (by decide) (by decide))
    have l_42 := h_42.2.2.1
    have p_42 := h_42.2.2.2.2
    have cI_42 : CX I_42 := CX_put cI_33 h_42.1 (by omega) (by omega) h_42.2.2.2.1
    have qI_42 := XI_o cI_42.1
    have r5_I_42 : I_42 1 5 = I_33 1 5 := by rw [h_42.1 1 (by decide)]
    have r6_I_42 : I_42 1 6 = I_33 1 6 := by rw [h_42.1 1 (by decide)]
    have r8_I_42 : I_42 1 8 = I_33 1 8 := by rw [h_42.1 1 (by decide)]
    have r9_I_42 : I_42 1 9 = I_33 1 9 := by rw [h_42.1 1 (by decide)]
    have r10_I_42 : I_42 1 10 = I_33 1 10 := by rw [h_42.1 1 (by decide)]
    have r11_I_42 : I_42 1 11 = I_33 1 11 := by rw [h_42.1 1 (by decide)]
    have rf_I_42 : FU (I_42 1 5) = FU (I_33 1 5) := by rw [r5_I_42]
    have wI_42 : Fw [8, 9] [] Ia I_42 := Fw_kp wI_33 h_42.1 (by decide)
    have r7_I_42 : I_42 1 7 = I_33 1 7 := by rw [h_42.1 1 (by decide)]
    refine ww_aload_n hX (pc := 45) dX10_feed_45 rfl ?_
    refine ww_getR hX (pc := 46) fX10_23 (by decide) (xs_0 hL) (xr_0_2 hL) dX10_feed_46 ?_
    refine ww_iload hX (pc := 49) dX10_feed_49 rfl ?_
    refine vV1 hX (pc := 51) sX10_144 (xs_8 hL) (c5_X9_put l0 hL (by omega) (by omega) cI_42.1.2.2.2.2.2.2.2.2.2.2) (by decide) (Nat.le_refl 0) (Nat.le_refl 0) (Nat.le_of_ble_eq_true rfl) dX10_feed_51 (fun I_51 J_51 h_51 => ?_)
    have kI_51 : Kp 0 49 Ia I_51 := Kp_tr kI_42 (Kp_wd h_51.1 (by decide) (by decide))
    have kJ_51 : Kp 0 49 Ja J_51 := Kp_tr kJ_42 (Kp_wd h_51.2.1 (by decide) (by decide))
    have l_51 := h_51.2.2.1
    have p_51 := h_51.2.2.2.2
    have cI_51 : CX I_51 := CX_put cI_42 h_51.1 (by omega) (by omega) h_51.2.2.2.1
    have qI_51 := XI_o cI_51.1
    have r5_I_51 : I_51 1 5 = I_42 1 5 := by rw [h_51.1 1 (by decide)]
    have r6_I_51 : I_51 1 6 = I_42 1 6 := by rw [h_51.1 1 (by decide)]
    have r8_I_51 : I_51 1 8 = I_42 1 8 := by rw [h_51.1 1 (by decide)]
    have r9_I_51 : I_51 1 9 = I_42 1 9 := by rw [h_51.1 1 (by decide)]
    have r10_I_51 : I_51 1 10 = I_42 1 10 := by rw [h_51.1 1 (by decide)]
    have r11_I_51 : I_51 1 11 = I_42 1 11 := by rw [h_51.1 1 (by decide)]
    have rf_I_51 : FU (I_51 1 5) = FU (I_42 1 5) := by rw [r5_I_51]
    have wI_51 : Fw [8, 9] [] Ia I_51 := Fw_kp wI_42 h_51.1 (by decide)
    have r7_I_51 : I_51 1 7 = I_42 1 7 := by rw [h_51.1 1 (by decide)]
    refine ww_aload_n hX (pc := 54) dX10_feed_54 rfl ?_
    refine ww_getR hX (pc := 55) fX10_23 (by decide) (xs_0 hL) (xr_0_2 hL) dX10_feed_55 ?_
    refine ww_getI hX (pc := 58) fX10_148 (by decide) (xs_8 hL) dX10_feed_58 ?_
    refine rI hX (pc := 61) hT (Nat.le_refl 0) (Nat.le_refl 0) dX10_feed_61 ?_
    exact ⟨kI_51, kJ_51, cI_51, (Fw_wd wI_51 (by decide) (by decide)), (fun _ => ⟨by omega, by omega, FDc_of (by omega) p_17 (by rw [← l_17]; exact p_25) (by rw [← l_17, ← l_25]; exact p_33) (by rw [← l_17, ← l_25, ← l_33]; exact p_42) (by rw [← l_17, ← l_25, ← l_33, ← l_42]; exact p_51)⟩), (fun h9 => absurd (by omega) h9)⟩
  · simp only [w32_mod] at h_7
    refine ww_iconst hX (pc := 10) (x := (-1)) dX10_feed_10 rfl ?_
    refine rI hX (pc := 11) hT (Nat.le_refl 0) (Nat.le_refl 0) dX10_feed_11 ?_
    exact ⟨(Kp_rf (a := 0) (b := 49)), (Kp_rf (a := 0) (b := 49)), hC, Fw_rf, (fun h9 => absurd h9 (by omega)), (fun _ => ⟨rfl, rfl, rfl⟩)⟩
set_option maxHeartbeats 4000000 in
set_option maxRecDepth 20000 in
theorem c5_X10_codes (l0 : Launch) {Ia Ja : aI1} {Ra : aR1} {Sa : aS1} (hL : LY Ra Sa) (hC : CX Ia) {a b c : Int} (ha0 : -2147483648 ≤ a) (ha1 : a < 2147483648) (hb0 : -2147483648 ≤ b) (hb1 : b < 2147483648) (hc0 : -2147483648 ≤ c) (hc1 : c < 2147483648) (hS : SR Ia)  : CT l0 10 0 0 mX10_codes [kR (some 0), kI a, kI b, kI c] Ia Ja Ra Sa (cI (fun x I' J' => Kp 0 49 Ia I' ∧ Kp 0 49 Ja J' ∧ CX I' ∧ Fw [37, 38, 39, 40, 41, 42, 43, 44, 45] [] Ia I' ∧ SR I' ∧ (¬ (1 ≤ a ∧ a ≤ 3 ∧ 2 ≤ b ∧ b ≤ 4 ∧ 0 ≤ c ∧ c ≤ 8) → x = -1) ∧ ((1 ≤ a ∧ a ≤ 3 ∧ 2 ≤ b ∧ b ≤ 4 ∧ 0 ≤ c ∧ c ≤ 8) → x = TBX a b c)) Ra Sa) := by
  refine ct_in pn_X10 (Nat.le_of_ble_eq_true rfl) (fun X hX hT hIn => ?_)
  have hX : aK l0 X cX10_codes 4 RX10 (some .int) 10 0 0 := hX
  change WW X 0 [some (kR (some 0)), some (kI a), some (kI b), some (kI c)] [] Ia Ja Ra Sa 0 0
  have hI := hC.1
  have hq := XI_o hI
  refine ww_iload_n hX (pc := 0) dX10_codes_0 rfl ?_
  refine ww_iload_n hX (pc := 1) dX10_codes_1 rfl ?_
  refine ww_iload_n hX (pc := 2) dX10_codes_2 rfl ?_
  refine sI3 hX (pc := 3) sX10_225 (c_X2_isSearched l0 (by omega) (by omega) (by omega) (by omega) (by omega) (by omega)) (by decide) (Nat.le_refl 0) (Nat.le_refl 0) (Nat.le_of_ble_eq_true rfl) dX10_codes_3 (fun x_3 I_3 J_3 h_3 => ?_)
  obtain ⟨rfl, rfl, h_3⟩ := h_3
  refine ww_if_eq hX (pc := 6) (tgt := 22) dX10_codes_6 (by decide) (fun h_6 => ?_) (fun h_6 => ?_)
  · simp only [w32_mod] at h_6
    refine ww_iconst hX (pc := 22) (x := (-1)) dX10_codes_22 rfl ?_
    refine rI hX (pc := 23) hT (Nat.le_refl 0) (Nat.le_refl 0) dX10_codes_23 ?_
    exact ⟨(Kp_rf (a := 0) (b := 49)), (Kp_rf (a := 0) (b := 49)), hC, Fw_rf, hS, by omega, by omega⟩
  · simp only [w32_mod] at h_6
    have k_3 := h_3.2.mp (by omega)
    clear h_3
    refine ww_aload_n hX (pc := 9) dX10_codes_9 rfl ?_
    refine ww_getR hX (pc := 10) fX10_71 (by decide) (xs_0 hL) (xr_0_8 hL) dX10_codes_10 ?_
    refine ww_iload_n hX (pc := 13) dX10_codes_13 rfl ?_
    refine ww_iload_n hX (pc := 14) dX10_codes_14 rfl ?_
    refine ww_iload_n hX (pc := 15) dX10_codes_15 rfl ?_
    refine vI3 hX (pc := 16) sX10_229 (xs_37 hL) (c5_X2_countCodes l0 hL (by omega) (by omega) (by omega) (by omega) (by omega) (by omega) hC.2.2 hS) (by decide) (Nat.le_refl 0) (Nat.le_refl 0) (Nat.le_of_ble_eq_true rfl) dX10_codes_16 (fun x_16 I_16 J_16 h_16 => ?_)
    have kI_16 : Kp 0 49 Ia I_16 := Kp_tr (Kp_rf (a := 0) (b := 49)) (Kp_wd h_16.1 (by decide) (by decide))
    have kJ_16 : Kp 0 49 Ja J_16 := Kp_tr (Kp_rf (a := 0) (b := 49)) (Kp_wd h_16.2.1 (by decide) (by decide))
    have ht16 : x_16 = TBX a b c := by
      unfold TBX
      by_cases h8 : c ≤ 3
      · rw [if_pos h8]; exact h_16.2.2.2.2.2 h8
      · rw [if_neg h8]; exact h_16.2.2.2.2.1 (by omega)
    have cI_16 : CX I_16 := CX_cs hC h_16.1 h_16.2.2.1
    have qI_16 := XI_o cI_16.1
    have r5_I_16 : I_16 1 5 = Ia 1 5 := by rw [h_16.1 1 (by decide)]
    have r6_I_16 : I_16 1 6 = Ia 1 6 := by rw [h_16.1 1 (by decide)]
    have r8_I_16 : I_16 1 8 = Ia 1 8 := by rw [h_16.1 1 (by decide)]
    have r9_I_16 : I_16 1 9 = Ia 1 9 := by rw [h_16.1 1 (by decide)]
    have r10_I_16 : I_16 1 10 = Ia 1 10 := by rw [h_16.1 1 (by decide)]
    have r11_I_16 : I_16 1 11 = Ia 1 11 := by rw [h_16.1 1 (by decide)]
    have rf_I_16 : FU (I_16 1 5) = FU (Ia 1 5) := by rw [r5_I_16]
    have wI_16 : Fw [37, 38, 39, 40, 41, 42, 43, 44, 45] [] Ia I_16 := Fw_kp Fw_rf h_16.1 (by decide)
    have r7_I_16 : I_16 1 7 = Ia 1 7 := by rw [h_16.1 1 (by decide)]
    refine ww_goto hX (pc := 19) (tgt := 23) dX10_codes_19 (by decide) ?_
    refine rI hX (pc := 23) hT (Nat.le_refl 0) (Nat.le_refl 0) dX10_codes_23 ?_
    exact ⟨kI_16, kJ_16, cI_16, (Fw_wd wI_16 (by decide) (by decide)), h_16.2.2.2.1, by omega, by omega⟩
