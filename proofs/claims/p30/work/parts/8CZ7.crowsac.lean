set_option maxHeartbeats 4000000 in
set_option maxRecDepth 20000 in
theorem c8_X10_rows (l0 : Launch) {Ia Ja : aI1} {Ra : aR1} {Sa : aS1} (hL : LY Ra Sa) (hC : CX Ia) (hF : FRk Ia Ja) {a b c : Int} (ha0 : -2147483648 ≤ a) (ha1 : a < 2147483648) (hb0 : -2147483648 ≤ b) (hb1 : b < 2147483648) (hc0 : -2147483648 ≤ c) (hc1 : c < 2147483648) (hO : ∀ j, j < 8 → 0 ≤ Ia 2 j ∧ Ia 2 j ≤ 99) (hK : ∀ s : Nat, (s : Int) ≤ FU (Ia 1 5) → Ia 3 s < Ia 1 6)  : CT l0 10 0 0 mX10_rows [kR (some 0), kI a, kI b, kI c] Ia Ja Ra Sa (cJ (fun x I' J' => (Kp 0 49 Ia I' ∧ Kp 0 49 Ja J' ∧ CX I' ∧ Fw [18, 19, 20, 21, 22, 23, 24, 25, 26, 27, 28, 29, 30, 31, 32] [] Ia I' ∧ ((0 ≤ a ∧ a ≤ 8 ∧ 0 ≤ b ∧ b ≤ FU (Ia 1 5) ∧ 0 ≤ c ∧ c ≤ 3) → ∃ o L T, KT c Ia o L T ∧ x = RW (Ia 3) (nxD c Ia o L T) (-1) (-1) (Ia 1 6).toNat (FU (Ia 1 5) + 1).toNat a.toNat b.toNat) ∧ (¬ (0 ≤ a ∧ a ≤ 8 ∧ 0 ≤ b ∧ b ≤ FU (Ia 1 5) ∧ 0 ≤ c ∧ c ≤ 3) → x = -1)) ∧ FRk I' J') Ra Sa) := by
  refine ct_in pn_X10 (Nat.le_of_ble_eq_true rfl) (fun X hX hT hIn => ?_)
  have hX : aK l0 X cX10_rows 4 RX10 (some .long) 10 0 0 := hX
  change WW X 0 [some (kR (some 0)), some (kI a), some (kI b), some (kI c)] [] Ia Ja Ra Sa 0 0
  have hI := hC.1
  have hq := XI_o hI
  refine ww_aload_n hX (pc := 0) dX10_rows_0 rfl ?_
  refine ww_iload_n hX (pc := 1) dX10_rows_1 rfl ?_
  refine ww_iload_n hX (pc := 2) dX10_rows_2 rfl ?_
  refine ww_iload_n hX (pc := 3) dX10_rows_3 rfl ?_
  refine vI3 hX (pc := 4) sX10_262 (xs_0 hL) (c_X10_isRowTo l0 hL hC.1 (by omega) (by omega) (by omega) (by omega) (by omega) (by omega)) (by decide) (Nat.le_refl 0) (Nat.le_refl 0) (Nat.le_of_ble_eq_true rfl) dX10_rows_4 (fun x_4 I_4 J_4 h_4 => ?_)
  obtain ⟨rfl, rfl, h_4⟩ := h_4
  refine ww_if_ne hX (pc := 7) (tgt := 14) dX10_rows_7 (by decide) (fun h_7 => ?_) (fun h_7 => ?_)
  · simp only [w32_mod] at h_7
    have k_4 := h_4.2.mp (by omega)
    clear h_4
    refine ww_aload_n hX (pc := 14) dX10_rows_14 rfl ?_
    refine ww_getR hX (pc := 15) fX10_57 (by decide) (xs_0 hL) (xr_0_6 hL) dX10_rows_15 ?_
    refine ww_iload_n hX (pc := 18) dX10_rows_18 rfl ?_
    refine ww_iload_n hX (pc := 19) dX10_rows_19 rfl ?_
    refine ww_iload_n hX (pc := 20) dX10_rows_20 rfl ?_
    refine ww_iconst hX (pc := 21) (x := (-1)) dX10_rows_21 rfl ?_
    refine ww_iconst hX (pc := 22) (x := (-1)) dX10_rows_22 rfl ?_
    refine vJ5 hX (pc := 23) sX10_265 (xs_31 hL) (c8_X8_countRows l0 hL hC.1 hF hO hK (by omega) (by omega) (by omega) (by omega) (by omega) (by omega) (by omega) (by omega) (by omega) (by omega)) (by decide) (Nat.le_refl 0) (Nat.le_refl 0) (Nat.le_of_ble_eq_true rfl) dX10_rows_23 (fun x_23 I_23 J_23 h_23 => ?_)
    have kI_23 : Kp 0 49 Ia I_23 := Kp_tr (Kp_rf (a := 0) (b := 49)) (Kp_wd h_23.1 (by decide) (by decide))
    have kJ_23 : Kp 0 49 Ja J_23 := Kp_tr (Kp_rf (a := 0) (b := 49)) (Kp_wd h_23.2.1 (by decide) (by decide))
    have cI_23 : CX I_23 := CX_kp hC h_23.1 (by decide) (by decide)
    have qI_23 := XI_o cI_23.1
    have r5_I_23 : I_23 1 5 = Ia 1 5 := by rw [h_23.1 1 (by decide)]
    have r6_I_23 : I_23 1 6 = Ia 1 6 := by rw [h_23.1 1 (by decide)]
    have r8_I_23 : I_23 1 8 = Ia 1 8 := by rw [h_23.1 1 (by decide)]
    have r9_I_23 : I_23 1 9 = Ia 1 9 := by rw [h_23.1 1 (by decide)]
    have r10_I_23 : I_23 1 10 = Ia 1 10 := by rw [h_23.1 1 (by decide)]
    have r11_I_23 : I_23 1 11 = Ia 1 11 := by rw [h_23.1 1 (by decide)]
    have rf_I_23 : FU (I_23 1 5) = FU (Ia 1 5) := by rw [r5_I_23]
    have wI_23 : Fw [18, 19, 20, 21, 22, 23, 24, 25, 26, 27, 28, 29, 30, 31, 32] [] Ia I_23 := Fw_kp Fw_rf h_23.1 (by decide)
    have r7_I_23 : I_23 1 7 = Ia 1 7 := by rw [h_23.1 1 (by decide)]
    have frI_23 : FRk I_23 J_23 := h_23.2.2.1
    refine rJ hX (pc := 26) hT (Nat.le_refl 0) (Nat.le_refl 0) dX10_rows_26 ?_
    exact ⟨⟨kI_23, kJ_23, cI_23, (Fw_wd wI_23 (by decide) (by decide)), (fun _ => h_23.2.2.2), (fun h9 => absurd (by omega) h9)⟩, frI_23⟩
  · simp only [w32_mod] at h_7
    refine ww_ldc2 hX (pc := 10) (x := (-1)) dX10_rows_10 tb_810 ?_
    refine rJ hX (pc := 13) hT (Nat.le_refl 0) (Nat.le_refl 0) dX10_rows_13 ?_
    exact ⟨⟨(Kp_rf (a := 0) (b := 49)), (Kp_rf (a := 0) (b := 49)), hC, Fw_rf, (fun h9 => absurd h9 (by omega)), (fun _ => rfl)⟩, hF⟩
set_option maxHeartbeats 4000000 in
set_option maxRecDepth 20000 in
theorem c8_X10_could (l0 : Launch) {Ia Ja : aI1} {Ra : aR1} {Sa : aS1} (hL : LY Ra Sa) (hC : CX Ia) (hF : FRk Ia Ja) {a b c e f : Int} (ha0 : -2147483648 ≤ a) (ha1 : a < 2147483648) (hb0 : -2147483648 ≤ b) (hb1 : b < 2147483648) (hc0 : -2147483648 ≤ c) (hc1 : c < 2147483648) (he0 : -2147483648 ≤ e) (he1 : e < 2147483648) (hf0 : -2147483648 ≤ f) (hf1 : f < 2147483648) (hO : ∀ j, j < 8 → 0 ≤ Ia 2 j ∧ Ia 2 j ≤ 99) (hK : ∀ s : Nat, (s : Int) ≤ FU (Ia 1 5) → Ia 3 s < Ia 1 6)  : CT l0 10 0 0 mX10_could [kR (some 0), kI a, kI b, kI c, kI e, kI f] Ia Ja Ra Sa (cJ (fun x I' J' => (Kp 0 49 Ia I' ∧ Kp 0 49 Ja J' ∧ CX I' ∧ Fw [18, 19, 20, 21, 22, 23, 24, 25, 26, 27, 28, 29, 30, 31, 32] [] Ia I' ∧ ((0 ≤ a ∧ a ≤ 8 ∧ 0 ≤ b ∧ b ≤ FU (Ia 1 5) ∧ 0 ≤ c ∧ c ≤ 3 ∧ 0 ≤ e ∧ e < a ∧ 0 ≤ f ∧ f < Ia 1 6) → ∃ o L T, KT c Ia o L T ∧ x = RW (Ia 3) (nxD c Ia o L T) e f (Ia 1 6).toNat (FU (Ia 1 5) + 1).toNat a.toNat b.toNat) ∧ (¬ (0 ≤ a ∧ a ≤ 8 ∧ 0 ≤ b ∧ b ≤ FU (Ia 1 5) ∧ 0 ≤ c ∧ c ≤ 3 ∧ 0 ≤ e ∧ e < a ∧ 0 ≤ f ∧ f < Ia 1 6) → x = -1)) ∧ FRk I' J') Ra Sa) := by
  refine ct_in pn_X10 (Nat.le_of_ble_eq_true rfl) (fun X hX hT hIn => ?_)
  have hX : aK l0 X cX10_could 6 RX10 (some .long) 10 0 0 := hX
  change WW X 0 [some (kR (some 0)), some (kI a), some (kI b), some (kI c), some (kI e), some (kI f)] [] Ia Ja Ra Sa 0 0
  have hI := hC.1
  have hq := XI_o hI
  refine ww_aload_n hX (pc := 0) dX10_could_0 rfl ?_
  refine ww_iload_n hX (pc := 1) dX10_could_1 rfl ?_
  refine ww_iload_n hX (pc := 2) dX10_could_2 rfl ?_
  refine ww_iload_n hX (pc := 3) dX10_could_3 rfl ?_
  refine vI3 hX (pc := 4) sX10_262 (xs_0 hL) (c_X10_isRowTo l0 hL hC.1 (by omega) (by omega) (by omega) (by omega) (by omega) (by omega)) (by decide) (Nat.le_refl 0) (Nat.le_refl 0) (Nat.le_of_ble_eq_true rfl) dX10_could_4 (fun x_4 I_4 J_4 h_4 => ?_)
  obtain ⟨rfl, rfl, h_4⟩ := h_4
  refine ww_if_eq hX (pc := 7) (tgt := 33) dX10_could_7 (by decide) (fun h_7 => ?_) (fun h_7 => ?_)
  · simp only [w32_mod] at h_7
    refine ww_ldc2 hX (pc := 33) (x := (-1)) dX10_could_33 tb_810 ?_
    refine rJ hX (pc := 36) hT (Nat.le_refl 0) (Nat.le_refl 0) dX10_could_36 ?_
    exact ⟨⟨(Kp_rf (a := 0) (b := 49)), (Kp_rf (a := 0) (b := 49)), hC, Fw_rf, (fun h9 => absurd h9 (by omega)), (fun _ => rfl)⟩, hF⟩
  · simp only [w32_mod] at h_7
    have k_4 := h_4.2.mp (by omega)
    clear h_4
    refine ww_iload hX (pc := 10) dX10_could_10 rfl ?_
    refine ww_if_lt hX (pc := 12) (tgt := 33) dX10_could_12 (by decide) (fun h_12 => ?_) (fun h_12 => ?_)
    · simp only [w32_mod] at h_12
      refine ww_ldc2 hX (pc := 33) (x := (-1)) dX10_could_33 tb_810 ?_
      refine rJ hX (pc := 36) hT (Nat.le_refl 0) (Nat.le_refl 0) dX10_could_36 ?_
      exact ⟨⟨(Kp_rf (a := 0) (b := 49)), (Kp_rf (a := 0) (b := 49)), hC, Fw_rf, (fun h9 => absurd h9 (by omega)), (fun _ => rfl)⟩, hF⟩
    · simp only [w32_mod] at h_12
      refine ww_iload hX (pc := 15) dX10_could_15 rfl ?_
      refine ww_iload_n hX (pc := 17) dX10_could_17 rfl ?_
      refine ww_icmp_ge hX (pc := 18) (tgt := 33) dX10_could_18 (by decide) (fun h_18 => ?_) (fun h_18 => ?_)
      · simp only [w32_mod] at h_18
        refine ww_ldc2 hX (pc := 33) (x := (-1)) dX10_could_33 tb_810 ?_
        refine rJ hX (pc := 36) hT (Nat.le_refl 0) (Nat.le_refl 0) dX10_could_36 ?_
        exact ⟨⟨(Kp_rf (a := 0) (b := 49)), (Kp_rf (a := 0) (b := 49)), hC, Fw_rf, (fun h9 => absurd h9 (by omega)), (fun _ => rfl)⟩, hF⟩
      · simp only [w32_mod] at h_18
        refine ww_aload_n hX (pc := 21) dX10_could_21 rfl ?_
        refine ww_getR hX (pc := 22) fX10_10 (by decide) (xs_0 hL) (xr_0_0 hL) dX10_could_22 ?_
        refine ww_iload hX (pc := 25) dX10_could_25 rfl ?_
        refine vI1 hX (pc := 27) sX10_134 (xs_1 hL) (c_X1_isNews l0 hL hC.1 (by omega)) (by decide) (Nat.le_refl 0) (Nat.le_refl 0) (Nat.le_of_ble_eq_true rfl) dX10_could_27 (fun x_27 I_27 J_27 h_27 => ?_)
        obtain ⟨rfl, rfl, h_27⟩ := h_27
        refine ww_if_ne hX (pc := 30) (tgt := 37) dX10_could_30 (by decide) (fun h_30 => ?_) (fun h_30 => ?_)
        · simp only [w32_mod] at h_30
          have k_27 := h_27.2.mp (by omega)
          clear h_27
          refine ww_aload_n hX (pc := 37) dX10_could_37 rfl ?_
          refine ww_getR hX (pc := 38) fX10_57 (by decide) (xs_0 hL) (xr_0_6 hL) dX10_could_38 ?_
          refine ww_iload_n hX (pc := 41) dX10_could_41 rfl ?_
          refine ww_iload_n hX (pc := 42) dX10_could_42 rfl ?_
          refine ww_iload_n hX (pc := 43) dX10_could_43 rfl ?_
          refine ww_iload hX (pc := 44) dX10_could_44 rfl ?_
          refine ww_iload hX (pc := 46) dX10_could_46 rfl ?_
          refine vJ5 hX (pc := 48) sX10_265 (xs_31 hL) (c8_X8_countRows l0 hL hC.1 hF hO hK (by omega) (by omega) (by omega) (by omega) (by omega) (by omega) (by omega) (by omega) (by omega) (by omega)) (by decide) (Nat.le_refl 0) (Nat.le_refl 0) (Nat.le_of_ble_eq_true rfl) dX10_could_48 (fun x_48 I_48 J_48 h_48 => ?_)
          have kI_48 : Kp 0 49 Ia I_48 := Kp_tr (Kp_rf (a := 0) (b := 49)) (Kp_wd h_48.1 (by decide) (by decide))
          have kJ_48 : Kp 0 49 Ja J_48 := Kp_tr (Kp_rf (a := 0) (b := 49)) (Kp_wd h_48.2.1 (by decide) (by decide))
          have cI_48 : CX I_48 := CX_kp hC h_48.1 (by decide) (by decide)
          have qI_48 := XI_o cI_48.1
          have r5_I_48 : I_48 1 5 = Ia 1 5 := by rw [h_48.1 1 (by decide)]
          have r6_I_48 : I_48 1 6 = Ia 1 6 := by rw [h_48.1 1 (by decide)]
          have r8_I_48 : I_48 1 8 = Ia 1 8 := by rw [h_48.1 1 (by decide)]
          have r9_I_48 : I_48 1 9 = Ia 1 9 := by rw [h_48.1 1 (by decide)]
          have r10_I_48 : I_48 1 10 = Ia 1 10 := by rw [h_48.1 1 (by decide)]
          have r11_I_48 : I_48 1 11 = Ia 1 11 := by rw [h_48.1 1 (by decide)]
          have rf_I_48 : FU (I_48 1 5) = FU (Ia 1 5) := by rw [r5_I_48]
          have wI_48 : Fw [18, 19, 20, 21, 22, 23, 24, 25, 26, 27, 28, 29, 30, 31, 32] [] Ia I_48 := Fw_kp Fw_rf h_48.1 (by decide)
          have r7_I_48 : I_48 1 7 = Ia 1 7 := by rw [h_48.1 1 (by decide)]
          have frI_48 : FRk I_48 J_48 := h_48.2.2.1
          refine rJ hX (pc := 51) hT (Nat.le_refl 0) (Nat.le_refl 0) dX10_could_51 ?_
          exact ⟨⟨kI_48, kJ_48, cI_48, (Fw_wd wI_48 (by decide) (by decide)), (fun _ => h_48.2.2.2), (fun h9 => absurd (by omega) h9)⟩, frI_48⟩
        · simp only [w32_mod] at h_30
          refine ww_ldc2 hX (pc := 33) (x := (-1)) dX10_could_33 tb_810 ?_
          refine rJ hX (pc := 36) hT (Nat.le_refl 0) (Nat.le_refl 0) dX10_could_36 ?_
          exact ⟨⟨(Kp_rf (a := 0) (b := 49)), (Kp_rf (a := 0) (b := 49)), hC, Fw_rf, (fun h9 => absurd h9 (by omega)), (fun _ => rfl)⟩, hF⟩
