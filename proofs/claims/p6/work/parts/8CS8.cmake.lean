set_option maxHeartbeats 4000000 in
set_option maxRecDepth 20000 in
theorem c6_X10_codes (l0 : Launch) {Ia Ja : aI1} {Ra : aR1} {Sa : aS1} (hL : LY Ra Sa) (hC : CX Ia) {a b c : Int} (ha0 : -2147483648 ≤ a) (ha1 : a < 2147483648) (hb0 : -2147483648 ≤ b) (hb1 : b < 2147483648) (hc0 : -2147483648 ≤ c) (hc1 : c < 2147483648) (hS : SR Ia) (hG : SRF Ia)  : CT l0 10 0 0 mX10_codes [kR (some 0), kI a, kI b, kI c] Ia Ja Ra Sa (cI (fun x I' J' => Kp 0 49 Ia I' ∧ Kp 0 49 Ja J' ∧ CX I' ∧ Fw [37, 38, 39, 40, 41, 42, 43, 44, 45] [] Ia I' ∧ SR I' ∧ SRF I' ∧ (¬ (1 ≤ a ∧ a ≤ 3 ∧ 2 ≤ b ∧ b ≤ 4 ∧ 0 ≤ c ∧ c ≤ 8) → x = -1) ∧ ((1 ≤ a ∧ a ≤ 3 ∧ 2 ≤ b ∧ b ≤ 4 ∧ 0 ≤ c ∧ c ≤ 8) → x = TBX a b c)) Ra Sa) := by
  refine ct_in pn_X10 (Nat.le_of_ble_eq_true rfl) (fun X hX hT hIn => ?_)
  have hX : aK l0 X cX10_codes 4 RX10 (some .int) 10 0 0 := hX
  change WW X 0 [some (kR (some 0)), some (kI a), some (kI b), some (kI c)] [] Ia Ja Ra Sa 0 0
  have hI := hC.1
  have hq := XI_o hI
  refine ww_iload_n hX (pc := 0) dX10_codes_0 rfl ?_
  refine ww_iload_n hX (pc := 1) dX10_codes_1 rfl ?_
  refine ww_iload_n hX (pc := 2) dX10_codes_2 rfl ?_
  refine sI3 hX (pc := 3) sX10_225 (c_X2_isSearched l0 (by omega) (by omega) (by omega) (by omega) (by omega) (by omega)) (by decide) (Nat.le_refl 0) (Nat.le_refl 0) (Nat.le_of_ble_eq_true rfl) dX10_codes_3 (fun x_3 I_3 J_3 h_3 => ?_)
  obtain ⟨rfl, rfl, h_3⟩ := h_3
  refine ww_if_eq hX (pc := 6) (tgt := 22) dX10_codes_6 (by decide) (fun h_6 => ?_) (fun h_6 => ?_)
  · simp only [w32_mod] at h_6
    refine ww_iconst hX (pc := 22) (x := (-1)) dX10_codes_22 rfl ?_
    refine rI hX (pc := 23) hT (Nat.le_refl 0) (Nat.le_refl 0) dX10_codes_23 ?_
    exact ⟨(Kp_rf (a := 0) (b := 49)), (Kp_rf (a := 0) (b := 49)), hC, Fw_rf, hS, hG, by omega, by omega⟩
  · simp only [w32_mod] at h_6
    refine ww_aload_n hX (pc := 9) dX10_codes_9 rfl ?_
    refine ww_getR hX (pc := 10) fX10_71 (by decide) (xs_0 hL) (xr_0_8 hL) dX10_codes_10 ?_
    refine ww_iload_n hX (pc := 13) dX10_codes_13 rfl ?_
    refine ww_iload_n hX (pc := 14) dX10_codes_14 rfl ?_
    refine ww_iload_n hX (pc := 15) dX10_codes_15 rfl ?_
    refine vI3 hX (pc := 16) sX10_229 (xs_37 hL) (c6_X2_countCodes l0 hL (by omega) (by omega) (by omega) (by omega) (by omega) (by omega) hC.2.2 hS hG) (by decide) (Nat.le_refl 0) (Nat.le_refl 0) (Nat.le_of_ble_eq_true rfl) dX10_codes_16 (fun x_16 I_16 J_16 h_16 => ?_)
    have kI_16 : Kp 0 49 Ia I_16 := Kp_tr (Kp_rf (a := 0) (b := 49)) (Kp_wd h_16.1 (by decide) (by decide))
    have kJ_16 : Kp 0 49 Ja J_16 := Kp_tr (Kp_rf (a := 0) (b := 49)) (Kp_wd h_16.2.1 (by decide) (by decide))
    have ht16 : x_16 = TBX a b c := by
      unfold TBX
      by_cases h8 : c ≤ 3
      · rw [if_pos h8]; exact h_16.2.2.2.2.2.2.2 h8
      · rw [if_neg h8]; exact h_16.2.2.2.2.2.1 (by omega)
    have cI_16 : CX I_16 := CX_cs hC h_16.1 h_16.2.2.1
    have qI_16 := XI_o cI_16.1
    have r5_I_16 : I_16 1 5 = Ia 1 5 := by rw [h_16.1 1 (by decide)]
    have r6_I_16 : I_16 1 6 = Ia 1 6 := by rw [h_16.1 1 (by decide)]
    have r8_I_16 : I_16 1 8 = Ia 1 8 := by rw [h_16.1 1 (by decide)]
    have r9_I_16 : I_16 1 9 = Ia 1 9 := by rw [h_16.1 1 (by decide)]
    have r10_I_16 : I_16 1 10 = Ia 1 10 := by rw [h_16.1 1 (by decide)]
    have r11_I_16 : I_16 1 11 = Ia 1 11 := by rw [h_16.1 1 (by decide)]
    have rf_I_16 : FU (I_16 1 5) = FU (Ia 1 5) := by rw [r5_I_16]
    have wI_16 : Fw [37, 38, 39, 40, 41, 42, 43, 44, 45] [] Ia I_16 := Fw_kp Fw_rf h_16.1 (by decide)
    have r7_I_16 : I_16 1 7 = Ia 1 7 := by rw [h_16.1 1 (by decide)]
    refine ww_goto hX (pc := 19) (tgt := 23) dX10_codes_19 (by decide) ?_
    refine rI hX (pc := 23) hT (Nat.le_refl 0) (Nat.le_refl 0) dX10_codes_23 ?_
    exact ⟨kI_16, kJ_16, cI_16, (Fw_wd wI_16 (by decide) (by decide)), h_16.2.2.2.1, h_16.2.2.2.2.1, by omega, by omega⟩
set_option maxHeartbeats 4000000 in
set_option maxRecDepth 20000 in
theorem c6_X10_make (l0 : Launch) {Ia Ja : aI1} {Ra : aR1} {Sa : aS1} (hL : LY Ra Sa) (hC : CX Ia) {a b c : Int} (ha0 : -2147483648 ≤ a) (ha1 : a < 2147483648) (hb0 : -2147483648 ≤ b) (hb1 : b < 2147483648) (hc0 : -2147483648 ≤ c) (hc1 : c < 2147483648) (hS : SR Ia) (hG : SRF Ia)  : CT l0 10 0 0 mX10_make [kR (some 0), kI a, kI b, kI c] Ia Ja Ra Sa (cI (fun x I' J' => Kp 0 49 Ia I' ∧ Kp 0 49 Ja J' ∧ CX I' ∧ Fw [3, 18, 19, 20, 21, 22, 23, 24, 25, 26, 27, 28, 29, 30, 31, 32, 33, 34, 35, 36, 37, 38, 39, 40, 41, 42, 43, 44, 45, 48] [(0, 16)] Ia I' ∧ SR I' ∧ SRF I' ∧ (¬ (1 ≤ a ∧ a ≤ 3 ∧ 2 ≤ b ∧ b ≤ 4 ∧ 0 ≤ c ∧ c ≤ 8) → x = -1 ∧ I' 3 = Ia 3) ∧ ((1 ≤ a ∧ a ≤ 3 ∧ 2 ≤ b ∧ b ≤ 4 ∧ 0 ≤ c ∧ c ≤ 8) → ¬ (a = Ia 1 5 ∧ b = Ia 1 6 ∧ ¬ TBX a b c = 0) → x = -3 ∧ I' 3 = Ia 3) ∧ ((1 ≤ a ∧ a ≤ 3 ∧ 2 ≤ b ∧ b ≤ 4 ∧ 0 ≤ c ∧ c ≤ 8) → (a = Ia 1 5 ∧ b = Ia 1 6 ∧ ¬ TBX a b c = 0) → x = 0 ∧ ∀ j : Nat, I' 3 j = if j < 2 ^ a.toNat then ((gd (S0 b.toNat (2 ^ a.toNat) c.toNat) j : Nat) : Int) else Ia 3 j)) Ra Sa) := by
  refine ct_in pn_X10 (Nat.le_of_ble_eq_true rfl) (fun X hX hT hIn => ?_)
  have hX : aK l0 X cX10_make 4 RX10 (some .int) 10 0 0 := hX
  change WW X 0 [some (kR (some 0)), some (kI a), some (kI b), some (kI c)] [] Ia Ja Ra Sa 0 0
  have hI := hC.1
  have hq := XI_o hI
  refine ww_iload_n hX (pc := 0) dX10_make_0 rfl ?_
  refine ww_iload_n hX (pc := 1) dX10_make_1 rfl ?_
  refine ww_iload_n hX (pc := 2) dX10_make_2 rfl ?_
  refine sI3 hX (pc := 3) sX10_225 (c_X2_isSearched l0 (by omega) (by omega) (by omega) (by omega) (by omega) (by omega)) (by decide) (Nat.le_refl 0) (Nat.le_refl 0) (Nat.le_of_ble_eq_true rfl) dX10_make_3 (fun x_3 I_3 J_3 h_3 => ?_)
  obtain ⟨rfl, rfl, h_3⟩ := h_3
  refine ww_if_ne hX (pc := 6) (tgt := 15) dX10_make_6 (by decide) (fun h_6 => ?_) (fun h_6 => ?_)
  · simp only [w32_mod] at h_6
    refine ww_iload_n hX (pc := 15) dX10_make_15 rfl ?_
    refine ww_aload_n hX (pc := 16) dX10_make_16 rfl ?_
    refine ww_getR hX (pc := 17) fX10_10 (by decide) (xs_0 hL) (xr_0_0 hL) dX10_make_17 ?_
    refine ww_getI hX (pc := 20) fX10_93 (by decide) (xs_1 hL) dX10_make_20 ?_
    refine ww_icmp_ne hX (pc := 23) (tgt := 50) dX10_make_23 (by decide) (fun h_23 => ?_) (fun h_23 => ?_)
    · simp only [w32_mod] at h_23
      refine ww_aload_n hX (pc := 50) dX10_make_50 rfl ?_
      refine ww_bipush hX (pc := 51) (x := (-3)) dX10_make_51 (by decide) ?_
      refine vI1 hX (pc := 53) sX10_89 (xs_0 hL) (c5_X10_refuse l0 hL hC (by omega) (by omega)) (by decide) (Nat.le_refl 0) (Nat.le_refl 0) (Nat.le_of_ble_eq_true rfl) dX10_make_53 (fun x_53 I_53 J_53 h_53 => ?_)
      have kI_53 : Kp 0 49 Ia I_53 := Kp_tr (Kp_rf (a := 0) (b := 49)) (Kp_wd h_53.1 (by decide) (by decide))
      have kJ_53 : Kp 0 49 Ja J_53 := Kp_tr (Kp_rf (a := 0) (b := 49)) (Kp_wd h_53.2.1 (by decide) (by decide))
      have cI_53 : CX I_53 := h_53.2.2.1
      have qI_53 := XI_o cI_53.1
      have wI_53 : Fw [3, 18, 19, 20, 21, 22, 23, 24, 25, 26, 27, 28, 29, 30, 31, 32, 33, 34, 35, 36, 37, 38, 39, 40, 41, 42, 43, 44, 45, 48] [(0, 16)] Ia I_53 := Fw_tr Fw_rf (Fw_wd h_53.2.2.2.1 (by decide) (by decide))
      have r5_I_53 : I_53 1 5 = Ia 1 5 := h_53.2.2.2.1 1 5 (by decide) (by decide) (by decide)
      have r6_I_53 : I_53 1 6 = Ia 1 6 := h_53.2.2.2.1 1 6 (by decide) (by decide) (by decide)
      have r7_I_53 : I_53 1 7 = Ia 1 7 := h_53.2.2.2.1 1 7 (by decide) (by decide) (by decide)
      have r8_I_53 : I_53 1 8 = Ia 1 8 := h_53.2.2.2.1 1 8 (by decide) (by decide) (by decide)
      have r9_I_53 : I_53 1 9 = Ia 1 9 := h_53.2.2.2.1 1 9 (by decide) (by decide) (by decide)
      have r10_I_53 : I_53 1 10 = Ia 1 10 := h_53.2.2.2.1 1 10 (by decide) (by decide) (by decide)
      have r11_I_53 : I_53 1 11 = Ia 1 11 := h_53.2.2.2.1 1 11 (by decide) (by decide) (by decide)
      have r81_I_53 : I_53 8 1 = Ia 8 1 := h_53.2.2.2.1 8 1 (by decide) (by decide) (by decide)
      have rf_I_53 : FU (I_53 1 5) = FU (Ia 1 5) := by rw [r5_I_53]
      have y3_I_53 : I_53 3 = Ia 3 := Fw_row h_53.2.2.2.1 3 (by decide) (by decide) (by decide)
      have xv_I_53 := h_53.2.2.2.2
      have srI_53 : SR I_53 := SR_of hS (Fw_row h_53.2.2.2.1 43 (by decide) (by decide) (by decide)) (Fw_row h_53.2.2.2.1 45 (by decide) (by decide) (by decide))
      refine rI hX (pc := 56) hT (Nat.le_refl 0) (Nat.le_refl 0) dX10_make_56 ?_
      exact ⟨kI_53, kJ_53, cI_53, (Fw_wd wI_53 (by decide) (by decide)), srI_53, (SRF_of hG (Fw_row h_53.2.2.2.1 43 (by decide) (by decide) (by decide)) (Fw_row h_53.2.2.2.1 44 (by decide) (by decide) (by decide)) (Fw_row h_53.2.2.2.1 45 (by decide) (by decide) (by decide))), (fun h9 => absurd (by omega) h9), (fun _ _ => ⟨by omega, y3_I_53⟩), (fun _ h8 => absurd h8 (by omega))⟩
    · simp only [w32_mod] at h_23
      refine ww_iload_n hX (pc := 26) dX10_make_26 rfl ?_
      refine ww_aload_n hX (pc := 27) dX10_make_27 rfl ?_
      refine ww_getR hX (pc := 28) fX10_10 (by decide) (xs_0 hL) (xr_0_0 hL) dX10_make_28 ?_
      refine ww_getI hX (pc := 31) fX10_117 (by decide) (xs_1 hL) dX10_make_31 ?_
      refine ww_icmp_ne hX (pc := 34) (tgt := 50) dX10_make_34 (by decide) (fun h_34 => ?_) (fun h_34 => ?_)
      · simp only [w32_mod] at h_34
        refine ww_aload_n hX (pc := 50) dX10_make_50 rfl ?_
        refine ww_bipush hX (pc := 51) (x := (-3)) dX10_make_51 (by decide) ?_
        refine vI1 hX (pc := 53) sX10_89 (xs_0 hL) (c5_X10_refuse l0 hL hC (by omega) (by omega)) (by decide) (Nat.le_refl 0) (Nat.le_refl 0) (Nat.le_of_ble_eq_true rfl) dX10_make_53 (fun x_53 I_53 J_53 h_53 => ?_)
        have kI_53 : Kp 0 49 Ia I_53 := Kp_tr (Kp_rf (a := 0) (b := 49)) (Kp_wd h_53.1 (by decide) (by decide))
        have kJ_53 : Kp 0 49 Ja J_53 := Kp_tr (Kp_rf (a := 0) (b := 49)) (Kp_wd h_53.2.1 (by decide) (by decide))
        have cI_53 : CX I_53 := h_53.2.2.1
        have qI_53 := XI_o cI_53.1
        have wI_53 : Fw [3, 18, 19, 20, 21, 22, 23, 24, 25, 26, 27, 28, 29, 30, 31, 32, 33, 34, 35, 36, 37, 38, 39, 40, 41, 42, 43, 44, 45, 48] [(0, 16)] Ia I_53 := Fw_tr Fw_rf (Fw_wd h_53.2.2.2.1 (by decide) (by decide))
        have r5_I_53 : I_53 1 5 = Ia 1 5 := h_53.2.2.2.1 1 5 (by decide) (by decide) (by decide)
        have r6_I_53 : I_53 1 6 = Ia 1 6 := h_53.2.2.2.1 1 6 (by decide) (by decide) (by decide)
        have r7_I_53 : I_53 1 7 = Ia 1 7 := h_53.2.2.2.1 1 7 (by decide) (by decide) (by decide)
        have r8_I_53 : I_53 1 8 = Ia 1 8 := h_53.2.2.2.1 1 8 (by decide) (by decide) (by decide)
        have r9_I_53 : I_53 1 9 = Ia 1 9 := h_53.2.2.2.1 1 9 (by decide) (by decide) (by decide)
        have r10_I_53 : I_53 1 10 = Ia 1 10 := h_53.2.2.2.1 1 10 (by decide) (by decide) (by decide)
        have r11_I_53 : I_53 1 11 = Ia 1 11 := h_53.2.2.2.1 1 11 (by decide) (by decide) (by decide)
        have r81_I_53 : I_53 8 1 = Ia 8 1 := h_53.2.2.2.1 8 1 (by decide) (by decide) (by decide)
        have rf_I_53 : FU (I_53 1 5) = FU (Ia 1 5) := by rw [r5_I_53]
        have y3_I_53 : I_53 3 = Ia 3 := Fw_row h_53.2.2.2.1 3 (by decide) (by decide) (by decide)
        have xv_I_53 := h_53.2.2.2.2
        have srI_53 : SR I_53 := SR_of hS (Fw_row h_53.2.2.2.1 43 (by decide) (by decide) (by decide)) (Fw_row h_53.2.2.2.1 45 (by decide) (by decide) (by decide))
        refine rI hX (pc := 56) hT (Nat.le_refl 0) (Nat.le_refl 0) dX10_make_56 ?_
        exact ⟨kI_53, kJ_53, cI_53, (Fw_wd wI_53 (by decide) (by decide)), srI_53, (SRF_of hG (Fw_row h_53.2.2.2.1 43 (by decide) (by decide) (by decide)) (Fw_row h_53.2.2.2.1 44 (by decide) (by decide) (by decide)) (Fw_row h_53.2.2.2.1 45 (by decide) (by decide) (by decide))), (fun h9 => absurd (by omega) h9), (fun _ _ => ⟨by omega, y3_I_53⟩), (fun _ h8 => absurd h8 (by omega))⟩
      · simp only [w32_mod] at h_34
        refine ww_aload_n hX (pc := 37) dX10_make_37 rfl ?_
        refine ww_getR hX (pc := 38) fX10_71 (by decide) (xs_0 hL) (xr_0_8 hL) dX10_make_38 ?_
        refine ww_iload_n hX (pc := 41) dX10_make_41 rfl ?_
        refine ww_iload_n hX (pc := 42) dX10_make_42 rfl ?_
        refine ww_iload_n hX (pc := 43) dX10_make_43 rfl ?_
        refine vI3 hX (pc := 44) sX10_229 (xs_37 hL) (c6_X2_countCodes l0 hL (by omega) (by omega) (by omega) (by omega) (by omega) (by omega) hC.2.2 hS hG) (by decide) (Nat.le_refl 0) (Nat.le_refl 0) (Nat.le_of_ble_eq_true rfl) dX10_make_44 (fun x_44 I_44 J_44 h_44 => ?_)
        have kI_44 : Kp 0 49 Ia I_44 := Kp_tr (Kp_rf (a := 0) (b := 49)) (Kp_wd h_44.1 (by decide) (by decide))
        have kJ_44 : Kp 0 49 Ja J_44 := Kp_tr (Kp_rf (a := 0) (b := 49)) (Kp_wd h_44.2.1 (by decide) (by decide))
        have ht44 : x_44 = TBX a b c := by
          unfold TBX
          by_cases h8 : c ≤ 3
          · rw [if_pos h8]; exact h_44.2.2.2.2.2.2.2 h8
          · rw [if_neg h8]; exact h_44.2.2.2.2.2.1 (by omega)
        have hr44 := TBX_r a b c
        have cI_44 : CX I_44 := CX_cs hC h_44.1 h_44.2.2.1
        have qI_44 := XI_o cI_44.1
        have r5_I_44 : I_44 1 5 = Ia 1 5 := by rw [h_44.1 1 (by decide)]
        have r6_I_44 : I_44 1 6 = Ia 1 6 := by rw [h_44.1 1 (by decide)]
        have r8_I_44 : I_44 1 8 = Ia 1 8 := by rw [h_44.1 1 (by decide)]
        have r9_I_44 : I_44 1 9 = Ia 1 9 := by rw [h_44.1 1 (by decide)]
        have r10_I_44 : I_44 1 10 = Ia 1 10 := by rw [h_44.1 1 (by decide)]
        have r11_I_44 : I_44 1 11 = Ia 1 11 := by rw [h_44.1 1 (by decide)]
        have rf_I_44 : FU (I_44 1 5) = FU (Ia 1 5) := by rw [r5_I_44]
        have wI_44 : Fw [3, 18, 19, 20, 21, 22, 23, 24, 25, 26, 27, 28, 29, 30, 31, 32, 33, 34, 35, 36, 37, 38, 39, 40, 41, 42, 43, 44, 45] [(0, 16)] Ia I_44 := Fw_kp Fw_rf h_44.1 (by decide)
        have r7_I_44 : I_44 1 7 = Ia 1 7 := by rw [h_44.1 1 (by decide)]
        have y3_I_44 : I_44 3 = Ia 3 := h_44.1 3 (by decide)
        refine ww_if_ne hX (pc := 47) (tgt := 57) dX10_make_47 (by decide) (fun h_47 => ?_) (fun h_47 => ?_)
        · simp only [w32_mod] at h_47
          refine ww_aload_n hX (pc := 57) dX10_make_57 rfl ?_
          refine ww_getR hX (pc := 58) fX10_71 (by decide) (xs_0 hL) (xr_0_8 hL) dX10_make_58 ?_
          refine ww_iload_n hX (pc := 61) dX10_make_61 rfl ?_
          refine ww_iload_n hX (pc := 62) dX10_make_62 rfl ?_
          refine ww_iload_n hX (pc := 63) dX10_make_63 rfl ?_
          refine ww_aload_n hX (pc := 64) dX10_make_64 rfl ?_
          refine ww_getR hX (pc := 65) fX10_10 (by decide) (xs_0 hL) (xr_0_0 hL) dX10_make_65 ?_
          refine ww_getR hX (pc := 68) fX10_137 (by decide) (xs_1 hL) (xr_1_1 hL) dX10_make_68 ?_
          refine vV4 hX (pc := 71) sX10_232 (xs_37 hL) (c6_X2_copyFirst l0 hL (by omega) (by omega) (by omega) (by omega) (by omega) (by omega) cI_44.2.2 h_44.2.2.2.1 h_44.2.2.2.2.1 cI_44.1.2.2.2.2.2.2.2.2.2.1) (by decide) (Nat.le_refl 0) (Nat.le_refl 0) (Nat.le_of_ble_eq_true rfl) dX10_make_71 (fun I_71 J_71 h_71 => ?_)
          have kI_71 : Kp 0 49 Ia I_71 := fun q hq => (h_71.1 q (by omega) (by omega)).trans (kI_44 q hq)
          have kJ_71 : Kp 0 49 Ja J_71 := Kp_tr kJ_44 (Kp_wd h_71.2.1 (by decide) (by decide))
          have cI_71 : CX I_71 := CX_code cI_44 h_71.1 h_71.2.2.1 h_71.2.2.2.1
          have wI_71 : Fw [3, 18, 19, 20, 21, 22, 23, 24, 25, 26, 27, 28, 29, 30, 31, 32, 33, 34, 35, 36, 37, 38, 39, 40, 41, 42, 43, 44, 45] [(0, 16)] Ia I_71 := Fw_of wI_44 (fun k h1 h2 => h_71.1 k (fun e9 => h2 (by rw [e9]; decide)) (Decidable.byContradiction (fun e9 => h2 (mem_37 (by omega) (by omega) (by decide)))))
          have r5_I_71 : I_71 1 5 = I_44 1 5 ∧ I_71 1 6 = I_44 1 6 := by rw [h_71.1 1 (by decide) (by decide)]; exact ⟨rfl, rfl⟩
          refine ww_aload_n hX (pc := 74) dX10_make_74 rfl ?_
          refine vV0 hX (pc := 75) sX10_111 (xs_0 hL) (c5_X10_codeChanged l0 hL cI_71) (by decide) (Nat.le_refl 0) (Nat.le_refl 0) (Nat.le_of_ble_eq_true rfl) dX10_make_75 (fun I_75 J_75 h_75 => ?_)
          have kI_75 : Kp 0 49 Ia I_75 := Kp_tr kI_71 (Kp_wd h_75.1 (by decide) (by decide))
          have kJ_75 : Kp 0 49 Ja J_75 := Kp_tr kJ_71 (Kp_wd h_75.2.1 (by decide) (by decide))
          have cI_75 : CX I_75 := h_75.2.2.1
          have qI_75 := XI_o cI_75.1
          have wI_75 : Fw [3, 18, 19, 20, 21, 22, 23, 24, 25, 26, 27, 28, 29, 30, 31, 32, 33, 34, 35, 36, 37, 38, 39, 40, 41, 42, 43, 44, 45] [(0, 16)] Ia I_75 := Fw_tr wI_71 (Fw_wd h_75.2.2.2.1 (by decide) (by decide))
          have r5_I_75 : I_75 1 5 = I_71 1 5 := h_75.2.2.2.1 1 5 (by decide) (by decide) (by decide)
          have r6_I_75 : I_75 1 6 = I_71 1 6 := h_75.2.2.2.1 1 6 (by decide) (by decide) (by decide)
          have r7_I_75 : I_75 1 7 = I_71 1 7 := h_75.2.2.2.1 1 7 (by decide) (by decide) (by decide)
          have r8_I_75 : I_75 1 8 = I_71 1 8 := h_75.2.2.2.1 1 8 (by decide) (by decide) (by decide)
          have r9_I_75 : I_75 1 9 = I_71 1 9 := h_75.2.2.2.1 1 9 (by decide) (by decide) (by decide)
          have r10_I_75 : I_75 1 10 = I_71 1 10 := h_75.2.2.2.1 1 10 (by decide) (by decide) (by decide)
          have r11_I_75 : I_75 1 11 = I_71 1 11 := h_75.2.2.2.1 1 11 (by decide) (by decide) (by decide)
          have r81_I_75 : I_75 8 1 = I_71 8 1 := h_75.2.2.2.1 8 1 (by decide) (by decide) (by decide)
          have rf_I_75 : FU (I_75 1 5) = FU (I_71 1 5) := by rw [r5_I_75]
          have y3_I_75 : I_75 3 = I_71 3 := Fw_row h_75.2.2.2.1 3 (by decide) (by decide) (by decide)
          have srI_75 : SR I_75 := SR_of h_71.2.2.2.2.1 (Fw_row h_75.2.2.2.1 43 (by decide) (by decide) (by decide)) (Fw_row h_75.2.2.2.1 45 (by decide) (by decide) (by decide))
          refine ww_aload_n hX (pc := 78) dX10_make_78 rfl ?_
          refine ww_iconst hX (pc := 79) (x := 0) dX10_make_79 rfl ?_
          refine vI1 hX (pc := 80) sX10_114 (xs_0 hL) (c5_X10_accept l0 hL cI_75) (by decide) (Nat.le_refl 0) (Nat.le_refl 0) (Nat.le_of_ble_eq_true rfl) dX10_make_80 (fun x_80 I_80 J_80 h_80 => ?_)
          have kI_80 : Kp 0 49 Ia I_80 := Kp_tr kI_75 (Kp_wd h_80.1 (by decide) (by decide))
          have kJ_80 : Kp 0 49 Ja J_80 := Kp_tr kJ_75 (Kp_wd h_80.2.1 (by decide) (by decide))
          have cI_80 : CX I_80 := h_80.2.2.1
          have qI_80 := XI_o cI_80.1
          have wI_80 : Fw [3, 18, 19, 20, 21, 22, 23, 24, 25, 26, 27, 28, 29, 30, 31, 32, 33, 34, 35, 36, 37, 38, 39, 40, 41, 42, 43, 44, 45] [(0, 16)] Ia I_80 := Fw_tr wI_75 (Fw_wd h_80.2.2.2.1 (by decide) (by decide))
          have r5_I_80 : I_80 1 5 = I_75 1 5 := h_80.2.2.2.1 1 5 (by decide) (by decide) (by decide)
          have r6_I_80 : I_80 1 6 = I_75 1 6 := h_80.2.2.2.1 1 6 (by decide) (by decide) (by decide)
          have r7_I_80 : I_80 1 7 = I_75 1 7 := h_80.2.2.2.1 1 7 (by decide) (by decide) (by decide)
          have r8_I_80 : I_80 1 8 = I_75 1 8 := h_80.2.2.2.1 1 8 (by decide) (by decide) (by decide)
          have r9_I_80 : I_80 1 9 = I_75 1 9 := h_80.2.2.2.1 1 9 (by decide) (by decide) (by decide)
          have r10_I_80 : I_80 1 10 = I_75 1 10 := h_80.2.2.2.1 1 10 (by decide) (by decide) (by decide)
          have r11_I_80 : I_80 1 11 = I_75 1 11 := h_80.2.2.2.1 1 11 (by decide) (by decide) (by decide)
          have r81_I_80 : I_80 8 1 = I_75 8 1 := h_80.2.2.2.1 8 1 (by decide) (by decide) (by decide)
          have rf_I_80 : FU (I_80 1 5) = FU (I_75 1 5) := by rw [r5_I_80]
          have y3_I_80 : I_80 3 = I_75 3 := Fw_row h_80.2.2.2.1 3 (by decide) (by decide) (by decide)
          have xv_I_80 := h_80.2.2.2.2
          have srI_80 : SR I_80 := SR_of srI_75 (Fw_row h_80.2.2.2.1 43 (by decide) (by decide) (by decide)) (Fw_row h_80.2.2.2.1 45 (by decide) (by decide) (by decide))
          refine rI hX (pc := 83) hT (Nat.le_refl 0) (Nat.le_refl 0) dX10_make_83 ?_
          exact ⟨kI_80, kJ_80, cI_80, (Fw_wd wI_80 (by decide) (by decide)), srI_80, (SRF_of (SRF_of h_71.2.2.2.2.2.1 (Fw_row h_75.2.2.2.1 43 (by decide) (by decide) (by decide)) (Fw_row h_75.2.2.2.1 44 (by decide) (by decide) (by decide)) (Fw_row h_75.2.2.2.1 45 (by decide) (by decide) (by decide))) (Fw_row h_80.2.2.2.1 43 (by decide) (by decide) (by decide)) (Fw_row h_80.2.2.2.1 44 (by decide) (by decide) (by decide)) (Fw_row h_80.2.2.2.1 45 (by decide) (by decide) (by decide))), (fun h9 => absurd (by omega) h9), (fun _ h8 => absurd (by omega) h8), (fun _ _ => ⟨by omega, (fun j => by
                have hb6 := TBt_r6 b.toNat (2 ^ a.toNat) c.toNat
                have hpos : c ≤ 3 ∧ 0 < TBt b.toNat (2 ^ a.toNat) c.toNat := by
                  by_cases h3 : c ≤ 3
                  · have h4 := h_44.2.2.2.2.2.2.2 h3
                    omega
                  · have h4 := h_44.2.2.2.2.2.1 (by omega)
                    omega
                rw [y3_I_80, y3_I_75, h_71.2.2.2.2.2.2.1 hpos j, y3_I_44])⟩)⟩
        · simp only [w32_mod] at h_47
          refine ww_aload_n hX (pc := 50) dX10_make_50 rfl ?_
          refine ww_bipush hX (pc := 51) (x := (-3)) dX10_make_51 (by decide) ?_
          refine vI1 hX (pc := 53) sX10_89 (xs_0 hL) (c5_X10_refuse l0 hL cI_44 (by omega) (by omega)) (by decide) (Nat.le_refl 0) (Nat.le_refl 0) (Nat.le_of_ble_eq_true rfl) dX10_make_53 (fun x_53 I_53 J_53 h_53 => ?_)
          have kI_53 : Kp 0 49 Ia I_53 := Kp_tr kI_44 (Kp_wd h_53.1 (by decide) (by decide))
          have kJ_53 : Kp 0 49 Ja J_53 := Kp_tr kJ_44 (Kp_wd h_53.2.1 (by decide) (by decide))
          have cI_53 : CX I_53 := h_53.2.2.1
          have qI_53 := XI_o cI_53.1
          have wI_53 : Fw [3, 18, 19, 20, 21, 22, 23, 24, 25, 26, 27, 28, 29, 30, 31, 32, 33, 34, 35, 36, 37, 38, 39, 40, 41, 42, 43, 44, 45, 48] [(0, 16)] Ia I_53 := Fw_tr (Fw_wd wI_44 (by decide) (by decide)) (Fw_wd h_53.2.2.2.1 (by decide) (by decide))
          have r5_I_53 : I_53 1 5 = I_44 1 5 := h_53.2.2.2.1 1 5 (by decide) (by decide) (by decide)
          have r6_I_53 : I_53 1 6 = I_44 1 6 := h_53.2.2.2.1 1 6 (by decide) (by decide) (by decide)
          have r7_I_53 : I_53 1 7 = I_44 1 7 := h_53.2.2.2.1 1 7 (by decide) (by decide) (by decide)
          have r8_I_53 : I_53 1 8 = I_44 1 8 := h_53.2.2.2.1 1 8 (by decide) (by decide) (by decide)
          have r9_I_53 : I_53 1 9 = I_44 1 9 := h_53.2.2.2.1 1 9 (by decide) (by decide) (by decide)
          have r10_I_53 : I_53 1 10 = I_44 1 10 := h_53.2.2.2.1 1 10 (by decide) (by decide) (by decide)
          have r11_I_53 : I_53 1 11 = I_44 1 11 := h_53.2.2.2.1 1 11 (by decide) (by decide) (by decide)
          have r81_I_53 : I_53 8 1 = I_44 8 1 := h_53.2.2.2.1 8 1 (by decide) (by decide) (by decide)
          have rf_I_53 : FU (I_53 1 5) = FU (I_44 1 5) := by rw [r5_I_53]
          have y3_I_53 : I_53 3 = I_44 3 := Fw_row h_53.2.2.2.1 3 (by decide) (by decide) (by decide)
          have xv_I_53 := h_53.2.2.2.2
          have srI_53 : SR I_53 := SR_of h_44.2.2.2.1 (Fw_row h_53.2.2.2.1 43 (by decide) (by decide) (by decide)) (Fw_row h_53.2.2.2.1 45 (by decide) (by decide) (by decide))
          refine rI hX (pc := 56) hT (Nat.le_refl 0) (Nat.le_refl 0) dX10_make_56 ?_
          exact ⟨kI_53, kJ_53, cI_53, (Fw_wd wI_53 (by decide) (by decide)), srI_53, (SRF_of h_44.2.2.2.2.1 (Fw_row h_53.2.2.2.1 43 (by decide) (by decide) (by decide)) (Fw_row h_53.2.2.2.1 44 (by decide) (by decide) (by decide)) (Fw_row h_53.2.2.2.1 45 (by decide) (by decide) (by decide))), (fun h9 => absurd (by omega) h9), (fun _ _ => ⟨by omega, (y3_I_53.trans y3_I_44)⟩), (fun _ h8 => absurd h8 (by omega))⟩
  · simp only [w32_mod] at h_6
    refine ww_aload_n hX (pc := 9) dX10_make_9 rfl ?_
    refine ww_iconst hX (pc := 10) (x := (-1)) dX10_make_10 rfl ?_
    refine vI1 hX (pc := 11) sX10_89 (xs_0 hL) (c5_X10_refuse l0 hL hC (by omega) (by omega)) (by decide) (Nat.le_refl 0) (Nat.le_refl 0) (Nat.le_of_ble_eq_true rfl) dX10_make_11 (fun x_11 I_11 J_11 h_11 => ?_)
    have kI_11 : Kp 0 49 Ia I_11 := Kp_tr (Kp_rf (a := 0) (b := 49)) (Kp_wd h_11.1 (by decide) (by decide))
    have kJ_11 : Kp 0 49 Ja J_11 := Kp_tr (Kp_rf (a := 0) (b := 49)) (Kp_wd h_11.2.1 (by decide) (by decide))
    have cI_11 : CX I_11 := h_11.2.2.1
    have qI_11 := XI_o cI_11.1
    have wI_11 : Fw [3, 18, 19, 20, 21, 22, 23, 24, 25, 26, 27, 28, 29, 30, 31, 32, 33, 34, 35, 36, 37, 38, 39, 40, 41, 42, 43, 44, 45, 48] [(0, 16)] Ia I_11 := Fw_tr Fw_rf (Fw_wd h_11.2.2.2.1 (by decide) (by decide))
    have r5_I_11 : I_11 1 5 = Ia 1 5 := h_11.2.2.2.1 1 5 (by decide) (by decide) (by decide)
    have r6_I_11 : I_11 1 6 = Ia 1 6 := h_11.2.2.2.1 1 6 (by decide) (by decide) (by decide)
    have r7_I_11 : I_11 1 7 = Ia 1 7 := h_11.2.2.2.1 1 7 (by decide) (by decide) (by decide)
    have r8_I_11 : I_11 1 8 = Ia 1 8 := h_11.2.2.2.1 1 8 (by decide) (by decide) (by decide)
    have r9_I_11 : I_11 1 9 = Ia 1 9 := h_11.2.2.2.1 1 9 (by decide) (by decide) (by decide)
    have r10_I_11 : I_11 1 10 = Ia 1 10 := h_11.2.2.2.1 1 10 (by decide) (by decide) (by decide)
    have r11_I_11 : I_11 1 11 = Ia 1 11 := h_11.2.2.2.1 1 11 (by decide) (by decide) (by decide)
    have r81_I_11 : I_11 8 1 = Ia 8 1 := h_11.2.2.2.1 8 1 (by decide) (by decide) (by decide)
    have rf_I_11 : FU (I_11 1 5) = FU (Ia 1 5) := by rw [r5_I_11]
    have y3_I_11 : I_11 3 = Ia 3 := Fw_row h_11.2.2.2.1 3 (by decide) (by decide) (by decide)
    have xv_I_11 := h_11.2.2.2.2
    have srI_11 : SR I_11 := SR_of hS (Fw_row h_11.2.2.2.1 43 (by decide) (by decide) (by decide)) (Fw_row h_11.2.2.2.1 45 (by decide) (by decide) (by decide))
    refine rI hX (pc := 14) hT (Nat.le_refl 0) (Nat.le_refl 0) dX10_make_14 ?_
    exact ⟨kI_11, kJ_11, cI_11, (Fw_wd wI_11 (by decide) (by decide)), srI_11, (SRF_of hG (Fw_row h_11.2.2.2.1 43 (by decide) (by decide) (by decide)) (Fw_row h_11.2.2.2.1 44 (by decide) (by decide) (by decide)) (Fw_row h_11.2.2.2.1 45 (by decide) (by decide) (by decide))), (fun _ => ⟨by omega, y3_I_11⟩), (fun h9 => absurd h9 (by omega)), (fun h9 => absurd h9 (by omega))⟩
