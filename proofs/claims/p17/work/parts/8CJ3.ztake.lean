set_option maxHeartbeats 4000000 in
set_option maxRecDepth 20000 in
theorem c6_X7_fail (l0 : Launch) {Ia Ja : aI1} {Ra : aR1} {Sa : aS1} (hL : LY Ra Sa) (hI : XI Ia) (hR : LR Ia)  : CT l0 0 0 0 mX7_fail [kR (some 10)] Ia Ja Ra Sa (cI (fun x I' J' => Kp 10 15 Ia I' ∧ Kp 10 15 Ja J' ∧ LR I' ∧ I' 10 11 = Ia 10 11 ∧ zFr Ia I' ∧ (x = 0 ∨ x = 1) ∧ zFa Ia I' x) Ra Sa) := by
  refine ct_in pn_X7 (Nat.le_of_ble_eq_true rfl) (fun X hX hT hIn => ?_)
  have hX : aK l0 X cX7_fail 1 RX7 (some .boolean) 0 0 0 := hX
  change WW X 0 [some (kR (some 10))] [] Ia Ja Ra Sa 0 0
  obtain ⟨hn1, hn2⟩ := hI.1
  obtain ⟨hk1, hk2⟩ := hI.2.1
  obtain ⟨hf1, hf2⟩ := hI.fu
  obtain ⟨hl1, hl2⟩ := hI.2.2.2.2.2.2.1
  have hq := hR.1
  unfold LRf at hq
  refine ww_aload_n hX (pc := 0) dX7_fail_0 rfl ?_
  refine ww_aload_n hX (pc := 1) dX7_fail_1 rfl ?_
  refine ww_getR hX (pc := 2) fX7_19 (by decide) (xs_10 hL) (xr_10_3 hL) dX7_fail_2 ?_
  refine ww_aload_n hX (pc := 5) dX7_fail_5 rfl ?_
  refine ww_getI hX (pc := 6) fX7_35 (by decide) (xs_10 hL) dX7_fail_6 ?_
  refine ww_iald hX (pc := 9) (xs_12 hL) (by decide) (by omega) (by omega) dX7_fail_9 ?_
  refine ww_putI hX (pc := 10) (fun h9 => absurd h9 (by decide)) gX7_9 rfl (xs_10 hL) dX7_fail_10 ?_
  refine ww_nmH (fun I_10 eI_10 => ?_)
  have kI_10 : Kp 10 15 Ia I_10 := by rw [eI_10]; exact Kp_up (Kp_rf (a := 10) (b := 15)) _ _ (by decide)
  have r1_5_I_10 : I_10 1 5 = Ia 1 5 := Kp_at kI_10 1 5 (by decide)
  have r8_1_I_10 : I_10 8 1 = Ia 8 1 := Kp_at kI_10 8 1 (by decide)
  have rf_I_10 : FU (I_10 1 5) = FU (Ia 1 5) := by rw [r1_5_I_10]
  have lI_10 : LR I_10 := by rw [eI_10]; exact LR_0 hR
  have wI_10 := (congrFun (congrFun eI_10 10) 0).trans (up2_s _ _ _ _)
  have wI_10_6 : I_10 10 6 = Ia 10 6 := by rw [eI_10, up2_n _ _ (Or.inr (by decide))]
  have wI_10_7 : I_10 10 7 = Ia 10 7 := by rw [eI_10, up2_n _ _ (Or.inr (by decide))]
  have wI_10_8 : I_10 10 8 = Ia 10 8 := by rw [eI_10, up2_n _ _ (Or.inr (by decide))]
  have wI_10_9 : I_10 10 9 = Ia 10 9 := by rw [eI_10, up2_n _ _ (Or.inr (by decide))]
  have wI_10_10 : I_10 10 10 = Ia 10 10 := by rw [eI_10, up2_n _ _ (Or.inr (by decide))]
  have wI_10_11 : I_10 10 11 = Ia 10 11 := by rw [eI_10, up2_n _ _ (Or.inr (by decide))]
  have fsI_10 : zFr Ia I_10 := by rw [eI_10]; exact zFr_f zFr_rf (by decide)
  have y13_I_10 : I_10 13 = Ia 13 := by rw [eI_10, up2_off _ _ _ (by decide)]
  have y14_I_10 : I_10 14 = Ia 14 := by rw [eI_10, up2_off _ _ _ (by decide)]
  have frI_10 : zFr Ia I_10 := zFr_tr zFr_rf fsI_10
  refine ww_iconst hX (pc := 13) (x := 0) dX7_fail_13 rfl ?_
  refine rZ hX (pc := 14) hT (Nat.le_refl 0) (Nat.le_refl 0) dX7_fail_14 (by decide) ?_
  exact ⟨kI_10, (Kp_rf (a := 10) (b := 15)), lI_10, by omega, frI_10, by omega, ⟨rfl, wI_10⟩⟩
set_option maxHeartbeats 4000000 in
set_option maxRecDepth 20000 in
theorem c6_X7_step (l0 : Launch) {Ia Ja : aI1} {Ra : aR1} {Sa : aS1} (hL : LY Ra Sa) (hI : XI Ia) (hR : LR Ia) {a : Int} (ha0 : -10000 ≤ a) (ha1 : a ≤ 10000)  : CT l0 0 0 0 mX7_step [kR (some 10), kI a] Ia Ja Ra Sa (cV (fun I' J' => Kp 10 15 Ia I' ∧ Kp 10 15 Ja J' ∧ LR I' ∧ I' 10 11 = Ia 10 11 ∧ zFr Ia I' ∧ True ∧ zSP Ia I' a) Ra Sa) := by
  refine ct_in pn_X7 (Nat.le_of_ble_eq_true rfl) (fun X hX hT hIn => ?_)
  have hX : aK l0 X cX7_step 2 RX7 none 0 0 0 := hX
  change WW X 0 [some (kR (some 10)), some (kI a)] [] Ia Ja Ra Sa 0 0
  obtain ⟨hn1, hn2⟩ := hI.1
  obtain ⟨hk1, hk2⟩ := hI.2.1
  obtain ⟨hf1, hf2⟩ := hI.fu
  obtain ⟨hl1, hl2⟩ := hI.2.2.2.2.2.2.1
  have hq := hR.1
  unfold LRf at hq
  refine ww_aload_n hX (pc := 0) dX7_step_0 rfl ?_
  refine ww_getI hX (pc := 1) fX7_41 (by decide) (xs_10 hL) dX7_step_1 ?_
  refine ww_sipush hX (pc := 4) (x := 400) dX7_step_4 (by decide) ?_
  refine ww_icmp_ge hX (pc := 7) (tgt := 30) dX7_step_7 (by decide) (fun h_7 => ?_) (fun h_7 => ?_)
  · simp only [w32_mod] at h_7
    refine rV hX (pc := 30) hT (Nat.le_refl 0) (Nat.le_refl 0) dX7_step_30 ?_
    exact ⟨(Kp_rf (a := 10) (b := 15)), (Kp_rf (a := 10) (b := 15)), hR, by omega, zFr_rf, trivial, (fun h9 => absurd h9 (by omega))⟩
  · simp only [w32_mod] at h_7
    refine ww_aload_n hX (pc := 10) dX7_step_10 rfl ?_
    refine ww_getR hX (pc := 11) fX7_22 (by decide) (xs_10 hL) (xr_10_4 hL) dX7_step_11 ?_
    refine ww_aload_n hX (pc := 14) dX7_step_14 rfl ?_
    refine ww_getI hX (pc := 15) fX7_41 (by decide) (xs_10 hL) dX7_step_15 ?_
    refine ww_iload_n hX (pc := 18) dX7_step_18 rfl ?_
    refine ww_iast hX (pc := 19) (xs_13 hL) (by decide) (by omega) (by omega) dX7_step_19 ?_
    refine ww_nmH (fun I_19 eI_19 => ?_)
    have kI_19 : Kp 10 15 Ia I_19 := by rw [eI_19]; exact Kp_up (Kp_rf (a := 10) (b := 15)) _ _ (by decide)
    have r1_5_I_19 : I_19 1 5 = Ia 1 5 := Kp_at kI_19 1 5 (by decide)
    have r8_1_I_19 : I_19 8 1 = Ia 8 1 := Kp_at kI_19 8 1 (by decide)
    have rf_I_19 : FU (I_19 1 5) = FU (Ia 1 5) := by rw [r1_5_I_19]
    have lI_19 : LR I_19 := by rw [eI_19]; exact LR_c13 hR _ (by omega) (by omega)
    have wI_19 : I_19 10 = Ia 10 := by rw [eI_19, up2_off _ _ _ (by decide)]
    have wI_19_6 : I_19 10 6 = Ia 10 6 := by rw [wI_19]
    have wI_19_7 : I_19 10 7 = Ia 10 7 := by rw [wI_19]
    have wI_19_8 : I_19 10 8 = Ia 10 8 := by rw [wI_19]
    have wI_19_9 : I_19 10 9 = Ia 10 9 := by rw [wI_19]
    have wI_19_10 : I_19 10 10 = Ia 10 10 := by rw [wI_19]
    have wI_19_11 : I_19 10 11 = Ia 10 11 := by rw [wI_19]
    have fsI_19 : zFr Ia I_19 := by rw [eI_19]; exact zFr_13 zFr_rf
    have y13_I_19 := (congrFun eI_19 13).trans (up2_row _ _ _ _)
    have z0I_19 : I_19 10 0 = Ia 10 0 := by rw [wI_19]
    have frI_19 : zFr Ia I_19 := zFr_tr zFr_rf fsI_19
    refine ww_aload_n hX (pc := 20) dX7_step_20 rfl ?_
    refine ww_dupR hX (pc := 21) dX7_step_21 ?_
    refine ww_getI hX (pc := 22) fX7_41 (by decide) (xs_10 hL) dX7_step_22 ?_
    refine ww_iconst hX (pc := 25) (x := 1) dX7_step_25 rfl ?_
    refine ww_iadd hX (pc := 26) dX7_step_26 ?_
    refine ww_putI hX (pc := 27) (fun h9 => absurd h9 (by decide)) gX7_41 rfl (xs_10 hL) dX7_step_27 ?_
    refine ww_nmH (fun I_27 eI_27 => ?_)
    have kI_27 : Kp 10 15 Ia I_27 := by rw [eI_27]; exact Kp_up kI_19 _ _ (by decide)
    have r1_5_I_27 : I_27 1 5 = Ia 1 5 := Kp_at kI_27 1 5 (by decide)
    have r8_1_I_27 : I_27 8 1 = Ia 8 1 := Kp_at kI_27 8 1 (by decide)
    have rf_I_27 : FU (I_27 1 5) = FU (Ia 1 5) := by rw [r1_5_I_27]
    have lI_27 : LR I_27 := by rw [eI_27]; exact LR_9 lI_19 (by omega) (by omega)
    have wI_27 := (congrFun (congrFun eI_27 10) 9).trans (up2_s _ _ _ _)
    have wI_27_6 : I_27 10 6 = I_19 10 6 := by rw [eI_27, up2_n _ _ (Or.inr (by decide))]
    have wI_27_7 : I_27 10 7 = I_19 10 7 := by rw [eI_27, up2_n _ _ (Or.inr (by decide))]
    have wI_27_8 : I_27 10 8 = I_19 10 8 := by rw [eI_27, up2_n _ _ (Or.inr (by decide))]
    have wI_27_10 : I_27 10 10 = I_19 10 10 := by rw [eI_27, up2_n _ _ (Or.inr (by decide))]
    have wI_27_11 : I_27 10 11 = I_19 10 11 := by rw [eI_27, up2_n _ _ (Or.inr (by decide))]
    have fsI_27 : zFr I_19 I_27 := by rw [eI_27]; exact zFr_f zFr_rf (by decide)
    have y13_I_27 : I_27 13 = I_19 13 := by rw [eI_27, up2_off _ _ _ (by decide)]
    have y14_I_27 : I_27 14 = I_19 14 := by rw [eI_27, up2_off _ _ _ (by decide)]
    have z0I_27 : I_27 10 0 = I_19 10 0 := by rw [eI_27, up2_n _ _ (Or.inr (by decide))]
    have frI_27 : zFr Ia I_27 := zFr_tr frI_19 fsI_27
    refine rV hX (pc := 30) hT (Nat.le_refl 0) (Nat.le_refl 0) dX7_step_30 ?_
    exact ⟨kI_27, (Kp_rf (a := 10) (b := 15)), lI_27, by omega, frI_27, trivial, (fun _ => ⟨by omega, by omega, by omega, by omega, by rw [y13_I_27, y13_I_19], by omega⟩)⟩
set_option maxHeartbeats 4000000 in
set_option maxRecDepth 20000 in
theorem c6_X7_openSkip (l0 : Launch) {Ia Ja : aI1} {Ra : aR1} {Sa : aS1} (hL : LY Ra Sa) (hI : XI Ia) (hR : LR Ia) {a : Int} (ha0 : -10000 ≤ a) (ha1 : a ≤ 10000)  : CT l0 1 0 0 mX7_openSkip [kR (some 10), kI a] Ia Ja Ra Sa (cI (fun x I' J' => Kp 10 15 Ia I' ∧ Kp 10 15 Ja J' ∧ LR I' ∧ I' 10 11 = Ia 10 11 ∧ zFr Ia I' ∧ (-1 ≤ x ∧ x ≤ 399) ∧ zOS Ia I' a x) Ra Sa) := by
  refine ct_in pn_X7 (Nat.le_of_ble_eq_true rfl) (fun X hX hT hIn => ?_)
  have hX : aK l0 X cX7_openSkip 2 RX7 (some .int) 1 0 0 := hX
  change WW X 0 [some (kR (some 10)), some (kI a)] [] Ia Ja Ra Sa 0 0
  obtain ⟨hn1, hn2⟩ := hI.1
  obtain ⟨hk1, hk2⟩ := hI.2.1
  obtain ⟨hf1, hf2⟩ := hI.fu
  obtain ⟨hl1, hl2⟩ := hI.2.2.2.2.2.2.1
  have hq := hR.1
  unfold LRf at hq
  refine ww_aload_n hX (pc := 0) dX7_openSkip_0 rfl ?_
  refine ww_iload_n hX (pc := 1) dX7_openSkip_1 rfl ?_
  refine vV1 hX (pc := 2) sX7_101 (xs_10 hL) (c6_X7_step l0 hL hI hR (by omega) (by omega)) (by decide) (Nat.le_refl 0) (Nat.le_refl 0) (Nat.le_of_ble_eq_true rfl) dX7_openSkip_2 (fun I_2 J_2 h_2 => ?_)
  have kI_2 : Kp 10 15 Ia I_2 := Kp_tr (Kp_rf (a := 10) (b := 15)) (Kp_wd h_2.1 (by decide) (by decide))
  have kJ_2 : Kp 10 15 Ja J_2 := Kp_tr (Kp_rf (a := 10) (b := 15)) (Kp_wd h_2.2.1 (by decide) (by decide))
  have r1_5_I_2 : I_2 1 5 = Ia 1 5 := Kp_at kI_2 1 5 (by decide)
  have r8_1_I_2 : I_2 8 1 = Ia 8 1 := Kp_at kI_2 8 1 (by decide)
  have rf_I_2 : FU (I_2 1 5) = FU (Ia 1 5) := by rw [r1_5_I_2]
  have lI_2 : LR I_2 := h_2.2.2.1
  have qI_2 := lI_2.1
  unfold LRf at qI_2
  have cI_2 := h_2.2.2.2.1
  have fsI_2 : zFr Ia I_2 := h_2.2.2.2.2.1
  have xrI_2 := h_2.2.2.2.2.2.1
  have yI_2 := h_2.2.2.2.2.2.2
  have frI_2 : zFr Ia I_2 := zFr_tr zFr_rf fsI_2
  refine ww_aload_n hX (pc := 5) dX7_openSkip_5 rfl ?_
  refine ww_iconst hX (pc := 6) (x := 0) dX7_openSkip_6 rfl ?_
  refine vV1 hX (pc := 7) sX7_101 (xs_10 hL) (c6_X7_step l0 hL (XI_kp hI kI_2 (by decide)) lI_2 (by omega) (by omega)) (by decide) (Nat.le_refl 0) (Nat.le_refl 0) (Nat.le_of_ble_eq_true rfl) dX7_openSkip_7 (fun I_7 J_7 h_7 => ?_)
  have kI_7 : Kp 10 15 Ia I_7 := Kp_tr kI_2 (Kp_wd h_7.1 (by decide) (by decide))
  have kJ_7 : Kp 10 15 Ja J_7 := Kp_tr kJ_2 (Kp_wd h_7.2.1 (by decide) (by decide))
  have r1_5_I_7 : I_7 1 5 = Ia 1 5 := Kp_at kI_7 1 5 (by decide)
  have r8_1_I_7 : I_7 8 1 = Ia 8 1 := Kp_at kI_7 8 1 (by decide)
  have rf_I_7 : FU (I_7 1 5) = FU (Ia 1 5) := by rw [r1_5_I_7]
  have lI_7 : LR I_7 := h_7.2.2.1
  have qI_7 := lI_7.1
  unfold LRf at qI_7
  have cI_7 := h_7.2.2.2.1
  have fsI_7 : zFr I_2 I_7 := h_7.2.2.2.2.1
  have xrI_7 := h_7.2.2.2.2.2.1
  have yI_7 := h_7.2.2.2.2.2.2
  have frI_7 : zFr Ia I_7 := zFr_tr frI_2 fsI_7
  refine ww_aload_n hX (pc := 10) dX7_openSkip_10 rfl ?_
  refine ww_getI hX (pc := 11) fX7_41 (by decide) (xs_10 hL) dX7_openSkip_11 ?_
  refine ww_iconst hX (pc := 14) (x := 1) dX7_openSkip_14 rfl ?_
  refine ww_isub hX (pc := 15) dX7_openSkip_15 ?_
  refine rI hX (pc := 16) hT (Nat.le_refl 0) (Nat.le_refl 0) dX7_openSkip_16 ?_
  exact ⟨kI_7, kJ_7, lI_7, by omega, frI_7, by omega, (fun h9 => by
      obtain ⟨u1, u2, u3, u4, u5, u0⟩ := yI_2 (by omega)
      obtain ⟨v1, v2, v3, v4, v5, v0⟩ := yI_7 (by omega)
      exact ⟨by omega, by omega, by omega, by omega, by omega, by rw [v5, u5, u1], by omega⟩)⟩
set_option maxHeartbeats 4000000 in
set_option maxRecDepth 20000 in
theorem c6_X7_closeSkip (l0 : Launch) {Ia Ja : aI1} {Ra : aR1} {Sa : aS1} (hL : LY Ra Sa) (hI : XI Ia) (hR : LR Ia) {a : Int} (ha0 : -2147483648 ≤ a) (ha1 : a < 2147483648)  : CT l0 0 0 0 mX7_closeSkip [kR (some 10), kI a] Ia Ja Ra Sa (cV (fun I' J' => Kp 10 15 Ia I' ∧ Kp 10 15 Ja J' ∧ LR I' ∧ I' 10 11 = Ia 10 11 ∧ zFr Ia I' ∧ True ∧ zCS0 Ia I' a) Ra Sa) := by
  refine ct_in pn_X7 (Nat.le_of_ble_eq_true rfl) (fun X hX hT hIn => ?_)
  have hX : aK l0 X cX7_closeSkip 2 RX7 none 0 0 0 := hX
  change WW X 0 [some (kR (some 10)), some (kI a)] [] Ia Ja Ra Sa 0 0
  obtain ⟨hn1, hn2⟩ := hI.1
  obtain ⟨hk1, hk2⟩ := hI.2.1
  obtain ⟨hf1, hf2⟩ := hI.fu
  obtain ⟨hl1, hl2⟩ := hI.2.2.2.2.2.2.1
  have hq := hR.1
  unfold LRf at hq
  refine ww_iload_n hX (pc := 0) dX7_closeSkip_0 rfl ?_
  refine ww_if_lt hX (pc := 1) (tgt := 21) dX7_closeSkip_1 (by decide) (fun h_1 => ?_) (fun h_1 => ?_)
  · simp only [w32_mod] at h_1
    refine rV hX (pc := 21) hT (Nat.le_refl 0) (Nat.le_refl 0) dX7_closeSkip_21 ?_
    exact ⟨(Kp_rf (a := 10) (b := 15)), (Kp_rf (a := 10) (b := 15)), hR, by omega, zFr_rf, trivial, (fun h9 => absurd h9 (by omega))⟩
  · simp only [w32_mod] at h_1
    refine ww_iload_n hX (pc := 4) dX7_closeSkip_4 rfl ?_
    refine ww_sipush hX (pc := 5) (x := 400) dX7_closeSkip_5 (by decide) ?_
    refine ww_icmp_ge hX (pc := 8) (tgt := 21) dX7_closeSkip_8 (by decide) (fun h_8 => ?_) (fun h_8 => ?_)
    · simp only [w32_mod] at h_8
      refine rV hX (pc := 21) hT (Nat.le_refl 0) (Nat.le_refl 0) dX7_closeSkip_21 ?_
      exact ⟨(Kp_rf (a := 10) (b := 15)), (Kp_rf (a := 10) (b := 15)), hR, by omega, zFr_rf, trivial, (fun h9 => absurd h9 (by omega))⟩
    · simp only [w32_mod] at h_8
      refine ww_aload_n hX (pc := 11) dX7_closeSkip_11 rfl ?_
      refine ww_getR hX (pc := 12) fX7_22 (by decide) (xs_10 hL) (xr_10_4 hL) dX7_closeSkip_12 ?_
      refine ww_iload_n hX (pc := 15) dX7_closeSkip_15 rfl ?_
      refine ww_aload_n hX (pc := 16) dX7_closeSkip_16 rfl ?_
      refine ww_getI hX (pc := 17) fX7_41 (by decide) (xs_10 hL) dX7_closeSkip_17 ?_
      refine ww_iast hX (pc := 20) (xs_13 hL) (by decide) (by omega) (by omega) dX7_closeSkip_20 ?_
      refine ww_nmH (fun I_20 eI_20 => ?_)
      have kI_20 : Kp 10 15 Ia I_20 := by rw [eI_20]; exact Kp_up (Kp_rf (a := 10) (b := 15)) _ _ (by decide)
      have r1_5_I_20 : I_20 1 5 = Ia 1 5 := Kp_at kI_20 1 5 (by decide)
      have r8_1_I_20 : I_20 8 1 = Ia 8 1 := Kp_at kI_20 8 1 (by decide)
      have rf_I_20 : FU (I_20 1 5) = FU (Ia 1 5) := by rw [r1_5_I_20]
      have lI_20 : LR I_20 := by rw [eI_20]; exact LR_c13 hR _ (by omega) (by omega)
      have wI_20 : I_20 10 = Ia 10 := by rw [eI_20, up2_off _ _ _ (by decide)]
      have wI_20_6 : I_20 10 6 = Ia 10 6 := by rw [wI_20]
      have wI_20_7 : I_20 10 7 = Ia 10 7 := by rw [wI_20]
      have wI_20_8 : I_20 10 8 = Ia 10 8 := by rw [wI_20]
      have wI_20_9 : I_20 10 9 = Ia 10 9 := by rw [wI_20]
      have wI_20_10 : I_20 10 10 = Ia 10 10 := by rw [wI_20]
      have wI_20_11 : I_20 10 11 = Ia 10 11 := by rw [wI_20]
      have fsI_20 : zFr Ia I_20 := by rw [eI_20]; exact zFr_13 zFr_rf
      have y13_I_20 := (congrFun eI_20 13).trans (up2_row _ _ _ _)
      have z0I_20 : I_20 10 0 = Ia 10 0 := by rw [wI_20]
      have frI_20 : zFr Ia I_20 := zFr_tr zFr_rf fsI_20
      refine rV hX (pc := 21) hT (Nat.le_refl 0) (Nat.le_refl 0) dX7_closeSkip_21 ?_
      exact ⟨kI_20, (Kp_rf (a := 10) (b := 15)), lI_20, by omega, frI_20, trivial, (fun _ => ⟨by omega, by omega, by omega, by omega, y13_I_20, by omega⟩)⟩
set_option maxHeartbeats 4000000 in
set_option maxRecDepth 20000 in
theorem c6_X7_advance (l0 : Launch) {Ia Ja : aI1} {Ra : aR1} {Sa : aS1} (hL : LY Ra Sa) (hI : XI Ia) (hR : LR Ia)  : CT l0 1 0 0 mX7_advance [kR (some 10)] Ia Ja Ra Sa (cV (fun I' J' => Kp 10 15 Ia I' ∧ Kp 10 15 Ja J' ∧ LR I' ∧ I' 10 11 = Ia 10 11 ∧ zFr Ia I' ∧ True ∧ zAv Ia I') Ra Sa) := by
  refine ct_in pn_X7 (Nat.le_of_ble_eq_true rfl) (fun X hX hT hIn => ?_)
  have hX : aK l0 X cX7_advance 1 RX7 none 1 0 0 := hX
  change WW X 0 [some (kR (some 10))] [] Ia Ja Ra Sa 0 0
  obtain ⟨hn1, hn2⟩ := hI.1
  obtain ⟨hk1, hk2⟩ := hI.2.1
  obtain ⟨hf1, hf2⟩ := hI.fu
  obtain ⟨hl1, hl2⟩ := hI.2.2.2.2.2.2.1
  have hq := hR.1
  unfold LRf at hq
  refine ww_aload_n hX (pc := 0) dX7_advance_0 rfl ?_
  refine ww_aload_n hX (pc := 1) dX7_advance_1 rfl ?_
  refine ww_getI hX (pc := 2) fX7_35 (by decide) (xs_10 hL) dX7_advance_2 ?_
  refine ww_iconst hX (pc := 5) (x := 1) dX7_advance_5 rfl ?_
  refine ww_iadd hX (pc := 6) dX7_advance_6 ?_
  refine ww_aload_n hX (pc := 7) dX7_advance_7 rfl ?_
  refine ww_getI hX (pc := 8) fX7_116 (by decide) (xs_10 hL) dX7_advance_8 ?_
  refine ww_mmin hX (pc := 11) tb_578 tb_579 tb_13 tb_580 (by decide) (Nat.le_refl 0) (Nat.le_refl 0) (Nat.le_of_ble_eq_true rfl) dX7_advance_11 ?_
  refine ww_toI (i_min_r (by omega) (by omega) (by omega) (by omega)) ?_
  refine ww_putI hX (pc := 14) (fun h9 => absurd h9 (by decide)) gX7_35 rfl (xs_10 hL) dX7_advance_14 ?_
  refine ww_nmH (fun I_14 eI_14 => ?_)
  have kI_14 : Kp 10 15 Ia I_14 := by rw [eI_14]; exact Kp_up (Kp_rf (a := 10) (b := 15)) _ _ (by decide)
  have r1_5_I_14 : I_14 1 5 = Ia 1 5 := Kp_at kI_14 1 5 (by decide)
  have r8_1_I_14 : I_14 8 1 = Ia 8 1 := Kp_at kI_14 8 1 (by decide)
  have rf_I_14 : FU (I_14 1 5) = FU (Ia 1 5) := by rw [r1_5_I_14]
  have lI_14 : LR I_14 := by rw [eI_14]; exact LR_7 hR (by omega) (by omega)
  have wI_14 := (congrFun (congrFun eI_14 10) 7).trans (up2_s _ _ _ _)
  have wI_14_6 : I_14 10 6 = Ia 10 6 := by rw [eI_14, up2_n _ _ (Or.inr (by decide))]
  have wI_14_8 : I_14 10 8 = Ia 10 8 := by rw [eI_14, up2_n _ _ (Or.inr (by decide))]
  have wI_14_9 : I_14 10 9 = Ia 10 9 := by rw [eI_14, up2_n _ _ (Or.inr (by decide))]
  have wI_14_10 : I_14 10 10 = Ia 10 10 := by rw [eI_14, up2_n _ _ (Or.inr (by decide))]
  have wI_14_11 : I_14 10 11 = Ia 10 11 := by rw [eI_14, up2_n _ _ (Or.inr (by decide))]
  have fsI_14 : zFr Ia I_14 := by rw [eI_14]; exact zFr_f zFr_rf (by decide)
  have y13_I_14 : I_14 13 = Ia 13 := by rw [eI_14, up2_off _ _ _ (by decide)]
  have y14_I_14 : I_14 14 = Ia 14 := by rw [eI_14, up2_off _ _ _ (by decide)]
  have z0I_14 : I_14 10 0 = Ia 10 0 := by rw [eI_14, up2_n _ _ (Or.inr (by decide))]
  have frI_14 : zFr Ia I_14 := zFr_tr zFr_rf fsI_14
  refine ww_aload_n hX (pc := 17) dX7_advance_17 rfl ?_
  refine ww_aload_n hX (pc := 18) dX7_advance_18 rfl ?_
  refine ww_getR hX (pc := 19) fX7_15 (by decide) (xs_10 hL) (xr_10_2 hL) dX7_advance_19 ?_
  refine ww_aload_n hX (pc := 22) dX7_advance_22 rfl ?_
  refine ww_getI hX (pc := 23) fX7_35 (by decide) (xs_10 hL) dX7_advance_23 ?_
  refine ww_iald hX (pc := 26) (xs_11 hL) (by decide) (by omega) (by omega) dX7_advance_26 ?_
  have hkd := lI_14.2.1 (I_14 10 7).toNat (by omega)
  refine ww_putI hX (pc := 27) (fun h9 => absurd h9 (by decide)) gX7_38 rfl (xs_10 hL) dX7_advance_27 ?_
  refine ww_nmH (fun I_27 eI_27 => ?_)
  have kI_27 : Kp 10 15 Ia I_27 := by rw [eI_27]; exact Kp_up kI_14 _ _ (by decide)
  have r1_5_I_27 : I_27 1 5 = Ia 1 5 := Kp_at kI_27 1 5 (by decide)
  have r8_1_I_27 : I_27 8 1 = Ia 8 1 := Kp_at kI_27 8 1 (by decide)
  have rf_I_27 : FU (I_27 1 5) = FU (Ia 1 5) := by rw [r1_5_I_27]
  have lI_27 : LR I_27 := by rw [eI_27]; exact LR_8 lI_14 (by omega) (by omega)
  have wI_27 := (congrFun (congrFun eI_27 10) 8).trans (up2_s _ _ _ _)
  have wI_27_6 : I_27 10 6 = I_14 10 6 := by rw [eI_27, up2_n _ _ (Or.inr (by decide))]
  have wI_27_7 : I_27 10 7 = I_14 10 7 := by rw [eI_27, up2_n _ _ (Or.inr (by decide))]
  have wI_27_9 : I_27 10 9 = I_14 10 9 := by rw [eI_27, up2_n _ _ (Or.inr (by decide))]
  have wI_27_10 : I_27 10 10 = I_14 10 10 := by rw [eI_27, up2_n _ _ (Or.inr (by decide))]
  have wI_27_11 : I_27 10 11 = I_14 10 11 := by rw [eI_27, up2_n _ _ (Or.inr (by decide))]
  have fsI_27 : zFr I_14 I_27 := by rw [eI_27]; exact zFr_f zFr_rf (by decide)
  have y13_I_27 : I_27 13 = I_14 13 := by rw [eI_27, up2_off _ _ _ (by decide)]
  have y14_I_27 : I_27 14 = I_14 14 := by rw [eI_27, up2_off _ _ _ (by decide)]
  have z0I_27 : I_27 10 0 = I_14 10 0 := by rw [eI_27, up2_n _ _ (Or.inr (by decide))]
  have frI_27 : zFr Ia I_27 := zFr_tr frI_14 fsI_27
  refine rV hX (pc := 30) hT (Nat.le_refl 0) (Nat.le_refl 0) dX7_advance_30 ?_
  exact ⟨kI_27, (Kp_rf (a := 10) (b := 15)), lI_27, by omega, frI_27, trivial, ⟨by omega, by rw [wI_27, wI_27_7, fsI_14.1], by omega, by omega, by rw [y13_I_27, y13_I_14], by omega⟩⟩
set_option maxHeartbeats 4000000 in
set_option maxRecDepth 20000 in
theorem c6_X7_takeSign (l0 : Launch) {Ia Ja : aI1} {Ra : aR1} {Sa : aS1} (hL : LY Ra Sa) (hI : XI Ia) (hR : LR Ia) {a : Int} (ha0 : -2147483648 ≤ a) (ha1 : a < 2147483648)  : CT l0 2 0 0 mX7_takeSign [kR (some 10), kI a] Ia Ja Ra Sa (cI (fun x I' J' => Kp 10 15 Ia I' ∧ Kp 10 15 Ja J' ∧ LR I' ∧ I' 10 11 = Ia 10 11 ∧ zFr Ia I' ∧ (x = 0 ∨ x = 1) ∧ zTS Ia I' a x) Ra Sa) := by
  refine ct_in pn_X7 (Nat.le_of_ble_eq_true rfl) (fun X hX hT hIn => ?_)
  have hX : aK l0 X cX7_takeSign 2 RX7 (some .boolean) 2 0 0 := hX
  change WW X 0 [some (kR (some 10)), some (kI a)] [] Ia Ja Ra Sa 0 0
  obtain ⟨hn1, hn2⟩ := hI.1
  obtain ⟨hk1, hk2⟩ := hI.2.1
  obtain ⟨hf1, hf2⟩ := hI.fu
  obtain ⟨hl1, hl2⟩ := hI.2.2.2.2.2.2.1
  have hq := hR.1
  unfold LRf at hq
  refine ww_aload_n hX (pc := 0) dX7_takeSign_0 rfl ?_
  refine ww_getI hX (pc := 1) fX7_38 (by decide) (xs_10 hL) dX7_takeSign_1 ?_
  refine ww_iload_n hX (pc := 4) dX7_takeSign_4 rfl ?_
  refine ww_icmp_eq hX (pc := 5) (tgt := 13) dX7_takeSign_5 (by decide) (fun h_5 => ?_) (fun h_5 => ?_)
  · simp only [w32_mod] at h_5
    refine ww_aload_n hX (pc := 13) dX7_takeSign_13 rfl ?_
    refine vV0 hX (pc := 14) sX7_71 (xs_10 hL) (c6_X7_advance l0 hL hI hR) (by decide) (Nat.le_refl 0) (Nat.le_refl 0) (Nat.le_of_ble_eq_true rfl) dX7_takeSign_14 (fun I_14 J_14 h_14 => ?_)
    have kI_14 : Kp 10 15 Ia I_14 := Kp_tr (Kp_rf (a := 10) (b := 15)) (Kp_wd h_14.1 (by decide) (by decide))
    have kJ_14 : Kp 10 15 Ja J_14 := Kp_tr (Kp_rf (a := 10) (b := 15)) (Kp_wd h_14.2.1 (by decide) (by decide))
    have r1_5_I_14 : I_14 1 5 = Ia 1 5 := Kp_at kI_14 1 5 (by decide)
    have r8_1_I_14 : I_14 8 1 = Ia 8 1 := Kp_at kI_14 8 1 (by decide)
    have rf_I_14 : FU (I_14 1 5) = FU (Ia 1 5) := by rw [r1_5_I_14]
    have lI_14 : LR I_14 := h_14.2.2.1
    have qI_14 := lI_14.1
    unfold LRf at qI_14
    have cI_14 := h_14.2.2.2.1
    have fsI_14 : zFr Ia I_14 := h_14.2.2.2.2.1
    have xrI_14 := h_14.2.2.2.2.2.1
    have yI_14 := h_14.2.2.2.2.2.2
    have frI_14 : zFr Ia I_14 := zFr_tr zFr_rf fsI_14
    refine ww_iconst hX (pc := 17) (x := 1) dX7_takeSign_17 rfl ?_
    refine rZ hX (pc := 18) hT (Nat.le_refl 0) (Nat.le_refl 0) dX7_takeSign_18 (by decide) ?_
    exact ⟨kI_14, kJ_14, lI_14, by omega, frI_14, by omega, ⟨(fun h9 => absurd (by omega) h9), (fun _ => ⟨rfl, yI_14⟩)⟩⟩
  · simp only [w32_mod] at h_5
    refine ww_aload_n hX (pc := 8) dX7_takeSign_8 rfl ?_
    refine vI0 hX (pc := 9) sX7_68 (xs_10 hL) (c6_X7_fail l0 hL hI hR) (by decide) (Nat.le_refl 0) (Nat.le_refl 0) (Nat.le_of_ble_eq_true rfl) dX7_takeSign_9 (fun x_9 I_9 J_9 h_9 => ?_)
    have kI_9 : Kp 10 15 Ia I_9 := Kp_tr (Kp_rf (a := 10) (b := 15)) (Kp_wd h_9.1 (by decide) (by decide))
    have kJ_9 : Kp 10 15 Ja J_9 := Kp_tr (Kp_rf (a := 10) (b := 15)) (Kp_wd h_9.2.1 (by decide) (by decide))
    have r1_5_I_9 : I_9 1 5 = Ia 1 5 := Kp_at kI_9 1 5 (by decide)
    have r8_1_I_9 : I_9 8 1 = Ia 8 1 := Kp_at kI_9 8 1 (by decide)
    have rf_I_9 : FU (I_9 1 5) = FU (Ia 1 5) := by rw [r1_5_I_9]
    have lI_9 : LR I_9 := h_9.2.2.1
    have qI_9 := lI_9.1
    unfold LRf at qI_9
    have cI_9 := h_9.2.2.2.1
    have fsI_9 : zFr Ia I_9 := h_9.2.2.2.2.1
    have xrI_9 := h_9.2.2.2.2.2.1
    have yI_9 := h_9.2.2.2.2.2.2
    have frI_9 : zFr Ia I_9 := zFr_tr zFr_rf fsI_9
    refine rZ hX (pc := 12) hT (Nat.le_refl 0) (Nat.le_refl 0) dX7_takeSign_12 (by omega) ?_
    exact ⟨kI_9, kJ_9, lI_9, by omega, frI_9, by omega, ⟨(fun _ => yI_9), (fun h9 => absurd h9 (by omega))⟩⟩
set_option maxHeartbeats 4000000 in
set_option maxRecDepth 20000 in
theorem c6_X7_stepOf (l0 : Launch) {Ia Ja : aI1} {Ra : aR1} {Sa : aS1} {a : Int}  : CT l0 0 0 0 mX7_stepOf [kI a] Ia Ja Ra Sa (cI (fun x I' J' => Ia = I' ∧ Ja = J' ∧ (-18 ≤ x ∧ x ≤ -11) ∧ ((a = 37 ∨ a = 42 ∨ a = 43 ∨ a = 45 ∨ a = 47 ∨ a = 60 ∨ a = 61 ∨ a = 62) → zOc x = 100 + a)) Ra Sa) := by
  refine ct_in pn_X7 (Nat.le_of_ble_eq_true rfl) (fun X hX hT hIn => ?_)
  have hX : aK l0 X cX7_stepOf 1 RX7 (some .int) 0 0 0 := hX
  change WW X 0 [some (kI a)] [] Ia Ja Ra Sa 0 0
  refine ww_iload_n hX (pc := 0) dX7_stepOf_0 rfl ?_
  refine ww_lookup hX (pc := 1) dX7_stepOf_1 (by decide) ?_
  by_cases e37 : w32 a = 37
  · refine ⟨79, 80, by rw [e37]; decide, by decide, ?_⟩
    refine ww_bipush hX (pc := 80) (x := (-15)) dX7_stepOf_80 (by decide) ?_
    refine rI hX (pc := 82) hT (Nat.le_refl 0) (Nat.le_refl 0) dX7_stepOf_82 ?_
    exact ⟨rfl, rfl, by omega, fun h9 => by rcases h9 with rfl | rfl | rfl | rfl | rfl | rfl | rfl | rfl <;> first | decide | exact absurd e37 (by decide)⟩
  by_cases e42 : w32 a = 42
  · refine ⟨73, 74, by rw [e42]; decide, by decide, ?_⟩
    refine ww_bipush hX (pc := 74) (x := (-13)) dX7_stepOf_74 (by decide) ?_
    refine rI hX (pc := 76) hT (Nat.le_refl 0) (Nat.le_refl 0) dX7_stepOf_76 ?_
    exact ⟨rfl, rfl, by omega, fun h9 => by rcases h9 with rfl | rfl | rfl | rfl | rfl | rfl | rfl | rfl <;> first | decide | exact absurd e42 (by decide)⟩
  by_cases e43 : w32 a = 43
  · refine ⟨67, 68, by rw [e43]; decide, by decide, ?_⟩
    refine ww_bipush hX (pc := 68) (x := (-11)) dX7_stepOf_68 (by decide) ?_
    refine rI hX (pc := 70) hT (Nat.le_refl 0) (Nat.le_refl 0) dX7_stepOf_70 ?_
    exact ⟨rfl, rfl, by omega, fun h9 => by rcases h9 with rfl | rfl | rfl | rfl | rfl | rfl | rfl | rfl <;> first | decide | exact absurd e43 (by decide)⟩
  by_cases e45 : w32 a = 45
  · refine ⟨70, 71, by rw [e45]; decide, by decide, ?_⟩
    refine ww_bipush hX (pc := 71) (x := (-12)) dX7_stepOf_71 (by decide) ?_
    refine rI hX (pc := 73) hT (Nat.le_refl 0) (Nat.le_refl 0) dX7_stepOf_73 ?_
    exact ⟨rfl, rfl, by omega, fun h9 => by rcases h9 with rfl | rfl | rfl | rfl | rfl | rfl | rfl | rfl <;> first | decide | exact absurd e45 (by decide)⟩
  by_cases e47 : w32 a = 47
  · refine ⟨76, 77, by rw [e47]; decide, by decide, ?_⟩
    refine ww_bipush hX (pc := 77) (x := (-14)) dX7_stepOf_77 (by decide) ?_
    refine rI hX (pc := 79) hT (Nat.le_refl 0) (Nat.le_refl 0) dX7_stepOf_79 ?_
    exact ⟨rfl, rfl, by omega, fun h9 => by rcases h9 with rfl | rfl | rfl | rfl | rfl | rfl | rfl | rfl <;> first | decide | exact absurd e47 (by decide)⟩
  by_cases e60 : w32 a = 60
  · refine ⟨82, 83, by rw [e60]; decide, by decide, ?_⟩
    refine ww_bipush hX (pc := 83) (x := (-16)) dX7_stepOf_83 (by decide) ?_
    refine rI hX (pc := 85) hT (Nat.le_refl 0) (Nat.le_refl 0) dX7_stepOf_85 ?_
    exact ⟨rfl, rfl, by omega, fun h9 => by rcases h9 with rfl | rfl | rfl | rfl | rfl | rfl | rfl | rfl <;> first | decide | exact absurd e60 (by decide)⟩
  by_cases e62 : w32 a = 62
  · refine ⟨85, 86, by rw [e62]; decide, by decide, ?_⟩
    refine ww_bipush hX (pc := 86) (x := (-17)) dX7_stepOf_86 (by decide) ?_
    refine rI hX (pc := 88) hT (Nat.le_refl 0) (Nat.le_refl 0) dX7_stepOf_88 ?_
    exact ⟨rfl, rfl, by omega, fun h9 => by rcases h9 with rfl | rfl | rfl | rfl | rfl | rfl | rfl | rfl <;> first | decide | exact absurd e62 (by decide)⟩
  refine ⟨88, 89, by simp [Op.lookupswitch.offset, e37, Ne.symm e37, e42, Ne.symm e42, e43, Ne.symm e43, e45, Ne.symm e45, e47, Ne.symm e47, e60, Ne.symm e60, e62, Ne.symm e62], by decide, ?_⟩
  refine ww_bipush hX (pc := 89) (x := (-18)) dX7_stepOf_89 (by decide) ?_
  refine rI hX (pc := 91) hT (Nat.le_refl 0) (Nat.le_refl 0) dX7_stepOf_91 ?_
  exact ⟨rfl, rfl, by omega, fun h9 => by rcases h9 with rfl | rfl | rfl | rfl | rfl | rfl | rfl | rfl <;> first | decide | first | exact absurd (by decide) e37 | exact absurd (by decide) e42 | exact absurd (by decide) e43 | exact absurd (by decide) e45 | exact absurd (by decide) e47 | exact absurd (by decide) e60 | exact absurd (by decide) e62⟩
def QSum (l0 : Launch) (m : Nat) : Prop := ∀ {Ia Ja : aI1} {Ra : aR1} {Sa : aS1}, LY Ra Sa → XI Ia → LR Ia → ∀ {cd vl : Nat → Int} {T t l : Nat}, zTK Ia cd vl T → zAt Ia T t l → CT l0 (10 * m + 16) 0 0 mX7_takeSum [kR (some 10), kI (8 - (m : Int))] Ia Ja Ra Sa (cI (fun x I' J' => Kp 10 15 Ia I' ∧ Kp 10 15 Ja J' ∧ LR I' ∧ I' 10 11 = Ia 10 11 ∧ zFr Ia I' ∧ (x = 0 ∨ x = 1) ∧ zPO zTr Ia I' T t l x (zS cd vl m t l)) Ra Sa)
def QTest (l0 : Launch) (m : Nat) : Prop := ∀ {Ia Ja : aI1} {Ra : aR1} {Sa : aS1}, LY Ra Sa → XI Ia → LR Ia → ∀ {cd vl : Nat → Int} {T t l : Nat}, zTK Ia cd vl T → zAt Ia T t l → CT l0 (20 * m + 130) 0 0 mX7_takeTest [kR (some 10), kI (8 - (m : Int))] Ia Ja Ra Sa (cI (fun x I' J' => Kp 10 15 Ia I' ∧ Kp 10 15 Ja J' ∧ LR I' ∧ I' 10 11 = Ia 10 11 ∧ zFr Ia I' ∧ (x = 0 ∨ x = 1) ∧ zPO zBl Ia I' T t l x (zT cd vl m t l)) Ra Sa)
set_option maxHeartbeats 4000000 in
set_option maxRecDepth 20000 in
theorem c6_X7_takePart (l0 : Launch) {m : Nat} (hm : m ≤ 8) (hrec : ∀ mp, m = mp + 1 → QSum l0 mp) {Ia Ja : aI1} {Ra : aR1} {Sa : aS1} (hL : LY Ra Sa) (hI : XI Ia) (hR : LR Ia) {cd vl : Nat → Int} {T t l : Nat} (hk : zTK Ia cd vl T) (ha : zAt Ia T t l)  : CT l0 (10 * m + 14) 0 0 mX7_takePart [kR (some 10), kI (8 - (m : Int))] Ia Ja Ra Sa (cI (fun x I' J' => Kp 10 15 Ia I' ∧ Kp 10 15 Ja J' ∧ LR I' ∧ I' 10 11 = Ia 10 11 ∧ zFr Ia I' ∧ (x = 0 ∨ x = 1) ∧ zPO zTr Ia I' T t l x (zPart (zSu cd vl m) cd vl t l)) Ra Sa) := by
  refine ct_in pn_X7 (Nat.le_of_ble_eq_true rfl) (fun X hX hT hIn => ?_)
  have hX : aK l0 X cX7_takePart 3 RX7 (some .boolean) (10 * m + 14) 0 0 := hX
  change WW X 0 [some (kR (some 10)), some (kI (8 - (m : Int))), none] [] Ia Ja Ra Sa 0 0
  obtain ⟨hn1, hn2⟩ := hI.1
  obtain ⟨hk1, hk2⟩ := hI.2.1
  obtain ⟨hf1, hf2⟩ := hI.fu
  obtain ⟨hl1, hl2⟩ := hI.2.2.2.2.2.2.1
  have hq := hR.1
  unfold LRf at hq
  refine ww_aload_n hX (pc := 0) dX7_takePart_0 rfl ?_
  refine ww_getI hX (pc := 1) fX7_38 (by decide) (xs_10 hL) dX7_takePart_1 ?_
  refine ww_bipush hX (pc := 4) (x := 91) dX7_takePart_4 (by decide) ?_
  refine ww_icmp_ne hX (pc := 6) (tgt := 49) dX7_takePart_6 (by decide) (fun h_6 => ?_) (fun h_6 => ?_)
  · simp only [w32_mod] at h_6
    have hcb : ¬ cd t = 191 := fun h9 => by
      have := (zK_b hk ha 91 (by decide) (by decide)).mpr h9
      omega
    refine ww_aload_n hX (pc := 49) dX7_takePart_49 rfl ?_
    refine ww_getI hX (pc := 50) fX7_38 (by decide) (xs_10 hL) dX7_takePart_50 ?_
    refine ww_if_lt hX (pc := 53) (tgt := 76) dX7_takePart_53 (by decide) (fun h_53 => ?_) (fun h_53 => ?_)
    · simp only [w32_mod] at h_53
      have hw9 := (zK_lf hk ha).1 (by omega)
      refine ww_iconst hX (pc := 76) (x := 1) dX7_takePart_76 rfl ?_
      refine ww_goto hX (pc := 77) (tgt := 81) dX7_takePart_77 (by decide) ?_
      refine ww_istore_n hX (pc := 81) (lv' := [some (kR (some 10)), some (kI (8 - (m : Int))), some (kI 1)]) dX7_takePart_81 (by decide) rfl rfl ?_
      refine ww_iload_n hX (pc := 82) dX7_takePart_82 rfl ?_
      refine ww_if_eq hX (pc := 83) (tgt := 95) dX7_takePart_83 (by decide) (fun h_83 => ?_) (fun h_83 => ?_)
      · simp only [w32_mod] at h_83
        exfalso
        omega
      · simp only [w32_mod] at h_83
        refine ww_aload_n hX (pc := 86) dX7_takePart_86 rfl ?_
        refine ww_getI hX (pc := 87) fX7_44 (by decide) (xs_10 hL) dX7_takePart_87 ?_
        refine ww_bipush hX (pc := 90) (x := 50) dX7_takePart_90 (by decide) ?_
        refine ww_icmp_lt hX (pc := 92) (tgt := 100) dX7_takePart_92 (by decide) (fun h_92 => ?_) (fun h_92 => ?_)
        · simp only [w32_mod] at h_92
          have hl9 : l < 50 := by have h9 := ha.2.2.2.1; omega
          refine ww_aload_n hX (pc := 100) dX7_takePart_100 rfl ?_
          refine ww_dupR hX (pc := 101) dX7_takePart_101 ?_
          refine ww_getI hX (pc := 102) fX7_44 (by decide) (xs_10 hL) dX7_takePart_102 ?_
          refine ww_iconst hX (pc := 105) (x := 1) dX7_takePart_105 rfl ?_
          refine ww_iadd hX (pc := 106) dX7_takePart_106 ?_
          refine ww_putI hX (pc := 107) (fun h9 => absurd h9 (by decide)) gX7_44 rfl (xs_10 hL) dX7_takePart_107 ?_
          refine ww_nmH (fun I_107 eI_107 => ?_)
          have kI_107 : Kp 10 15 Ia I_107 := by rw [eI_107]; exact Kp_up (Kp_rf (a := 10) (b := 15)) _ _ (by decide)
          have r1_5_I_107 : I_107 1 5 = Ia 1 5 := Kp_at kI_107 1 5 (by decide)
          have r8_1_I_107 : I_107 8 1 = Ia 8 1 := Kp_at kI_107 8 1 (by decide)
          have rf_I_107 : FU (I_107 1 5) = FU (Ia 1 5) := by rw [r1_5_I_107]
          have lI_107 : LR I_107 := by rw [eI_107]; exact LR_10 hR (by omega) (by omega)
          have wI_107 := (congrFun (congrFun eI_107 10) 10).trans (up2_s _ _ _ _)
          have wI_107_6 : I_107 10 6 = Ia 10 6 := by rw [eI_107, up2_n _ _ (Or.inr (by decide))]
          have wI_107_7 : I_107 10 7 = Ia 10 7 := by rw [eI_107, up2_n _ _ (Or.inr (by decide))]
          have wI_107_8 : I_107 10 8 = Ia 10 8 := by rw [eI_107, up2_n _ _ (Or.inr (by decide))]
          have wI_107_9 : I_107 10 9 = Ia 10 9 := by rw [eI_107, up2_n _ _ (Or.inr (by decide))]
          have wI_107_11 : I_107 10 11 = Ia 10 11 := by rw [eI_107, up2_n _ _ (Or.inr (by decide))]
          have fsI_107 : zFr Ia I_107 := by rw [eI_107]; exact zFr_f zFr_rf (by decide)
          have y13_I_107 : I_107 13 = Ia 13 := by rw [eI_107, up2_off _ _ _ (by decide)]
          have y14_I_107 : I_107 14 = Ia 14 := by rw [eI_107, up2_off _ _ _ (by decide)]
          have z0I_107 : I_107 10 0 = Ia 10 0 := by rw [eI_107, up2_n _ _ (Or.inr (by decide))]
          have tkI_107 : zTK I_107 cd vl T := zTK_f hk fsI_107
          have frI_107 : zFr Ia I_107 := zFr_tr zFr_rf fsI_107
          refine ww_aload_n hX (pc := 110) dX7_takePart_110 rfl ?_
          refine ww_aload_n hX (pc := 111) dX7_takePart_111 rfl ?_
          refine ww_getI hX (pc := 112) fX7_38 (by decide) (xs_10 hL) dX7_takePart_112 ?_
          refine ww_if_ge hX (pc := 115) (tgt := 125) dX7_takePart_115 (by decide) (fun h_115 => ?_) (fun h_115 => ?_)
          · simp only [w32_mod] at h_115
            exfalso
            omega
          · simp only [w32_mod] at h_115
            refine ww_aload_n hX (pc := 118) dX7_takePart_118 rfl ?_
            refine ww_getI hX (pc := 119) fX7_38 (by decide) (xs_10 hL) dX7_takePart_119 ?_
            refine ww_goto hX (pc := 122) (tgt := 133) dX7_takePart_122 (by decide) ?_
            refine vV1 hX (pc := 133) sX7_101 (xs_10 hL) (c6_X7_step l0 hL (XI_kp hI kI_107 (by decide)) lI_107 (by omega) (by omega)) (by omega) (Nat.le_refl 0) (Nat.le_refl 0) (Nat.le_of_ble_eq_true rfl) dX7_takePart_133 (fun I_133 J_133 h_133 => ?_)
            have kI_133 : Kp 10 15 Ia I_133 := Kp_tr kI_107 (Kp_wd h_133.1 (by decide) (by decide))
            have kJ_133 : Kp 10 15 Ja J_133 := Kp_tr (Kp_rf (a := 10) (b := 15)) (Kp_wd h_133.2.1 (by decide) (by decide))
            have r1_5_I_133 : I_133 1 5 = Ia 1 5 := Kp_at kI_133 1 5 (by decide)
            have r8_1_I_133 : I_133 8 1 = Ia 8 1 := Kp_at kI_133 8 1 (by decide)
            have rf_I_133 : FU (I_133 1 5) = FU (Ia 1 5) := by rw [r1_5_I_133]
            have lI_133 : LR I_133 := h_133.2.2.1
            have qI_133 := lI_133.1
            unfold LRf at qI_133
            have cI_133 := h_133.2.2.2.1
            have fsI_133 : zFr I_107 I_133 := h_133.2.2.2.2.1
            have xrI_133 := h_133.2.2.2.2.2.1
            have yI_133 := h_133.2.2.2.2.2.2
            have tkI_133 : zTK I_133 cd vl T := zTK_f tkI_107 fsI_133
            have frI_133 : zFr Ia I_133 := zFr_tr frI_107 fsI_133
            refine ww_aload_n hX (pc := 136) dX7_takePart_136 rfl ?_
            refine vV0 hX (pc := 137) sX7_71 (xs_10 hL) (c6_X7_advance l0 hL (XI_kp hI kI_133 (by decide)) lI_133) (by omega) (Nat.le_refl 0) (Nat.le_refl 0) (Nat.le_of_ble_eq_true rfl) dX7_takePart_137 (fun I_137 J_137 h_137 => ?_)
            have kI_137 : Kp 10 15 Ia I_137 := Kp_tr kI_133 (Kp_wd h_137.1 (by decide) (by decide))
            have kJ_137 : Kp 10 15 Ja J_137 := Kp_tr kJ_133 (Kp_wd h_137.2.1 (by decide) (by decide))
            have r1_5_I_137 : I_137 1 5 = Ia 1 5 := Kp_at kI_137 1 5 (by decide)
            have r8_1_I_137 : I_137 8 1 = Ia 8 1 := Kp_at kI_137 8 1 (by decide)
            have rf_I_137 : FU (I_137 1 5) = FU (Ia 1 5) := by rw [r1_5_I_137]
            have lI_137 : LR I_137 := h_137.2.2.1
            have qI_137 := lI_137.1
            unfold LRf at qI_137
            have cI_137 := h_137.2.2.2.1
            have fsI_137 : zFr I_133 I_137 := h_137.2.2.2.2.1
            have xrI_137 := h_137.2.2.2.2.2.1
            have yI_137 := h_137.2.2.2.2.2.2
            have tkI_137 : zTK I_137 cd vl T := zTK_f tkI_133 fsI_137
            have frI_137 : zFr Ia I_137 := zFr_tr frI_133 fsI_137
            refine ww_iconst hX (pc := 140) (x := 1) dX7_takePart_140 rfl ?_
            refine rZ hX (pc := 141) hT (Nat.le_refl 0) (Nat.le_refl 0) dX7_takePart_141 (by decide) ?_
            exact ⟨kI_137, kJ_137, lI_137, by omega, frI_137, by omega, (by rw [zPart_l hcb]; exact zPO_lf hk ha frI_107 y13_I_107 (by omega) (by omega) (by omega) (by omega) fsI_133 yI_133 fsI_137 yI_137 hl9 (Or.inr ⟨hw9.1, hw9.2.1, by omega⟩))⟩
        · simp only [w32_mod] at h_92
          have hl9 : ¬ l < 50 := by have h9 := ha.2.2.2.1; omega
          refine ww_aload_n hX (pc := 95) dX7_takePart_95 rfl ?_
          refine vI0 hX (pc := 96) sX7_68 (xs_10 hL) (c6_X7_fail l0 hL hI hR) (by omega) (Nat.le_refl 0) (Nat.le_refl 0) (Nat.le_of_ble_eq_true rfl) dX7_takePart_96 (fun x_96 I_96 J_96 h_96 => ?_)
          have kI_96 : Kp 10 15 Ia I_96 := Kp_tr (Kp_rf (a := 10) (b := 15)) (Kp_wd h_96.1 (by decide) (by decide))
          have kJ_96 : Kp 10 15 Ja J_96 := Kp_tr (Kp_rf (a := 10) (b := 15)) (Kp_wd h_96.2.1 (by decide) (by decide))
          have r1_5_I_96 : I_96 1 5 = Ia 1 5 := Kp_at kI_96 1 5 (by decide)
          have r8_1_I_96 : I_96 8 1 = Ia 8 1 := Kp_at kI_96 8 1 (by decide)
          have rf_I_96 : FU (I_96 1 5) = FU (Ia 1 5) := by rw [r1_5_I_96]
          have lI_96 : LR I_96 := h_96.2.2.1
          have qI_96 := lI_96.1
          unfold LRf at qI_96
          have cI_96 := h_96.2.2.2.1
          have fsI_96 : zFr Ia I_96 := h_96.2.2.2.2.1
          have xrI_96 := h_96.2.2.2.2.2.1
          have yI_96 := h_96.2.2.2.2.2.2
          have tkI_96 : zTK I_96 cd vl T := zTK_f hk fsI_96
          have frI_96 : zFr Ia I_96 := zFr_tr zFr_rf fsI_96
          refine rZ hX (pc := 99) hT (Nat.le_refl 0) (Nat.le_refl 0) dX7_takePart_99 (by omega) ?_
          exact ⟨kI_96, kJ_96, lI_96, by omega, frI_96, by omega, (zPO_fa ha yI_96 ((zPart_l hcb).trans (zLe_f (zLf_w ⟨hw9.1, hw9.2.1⟩) hl9)))⟩
    · simp only [w32_mod] at h_53
      refine ww_aload_n hX (pc := 56) dX7_takePart_56 rfl ?_
      refine ww_getI hX (pc := 57) fX7_38 (by decide) (xs_10 hL) dX7_takePart_57 ?_
      refine ww_sipush hX (pc := 60) (x := 300) dX7_takePart_60 (by decide) ?_
      refine ww_icmp_lt hX (pc := 63) (tgt := 80) dX7_takePart_63 (by decide) (fun h_63 => ?_) (fun h_63 => ?_)
      · simp only [w32_mod] at h_63
        have hw9 := (zK_lf hk ha).2.2 (by omega) (by omega)
        refine ww_iconst hX (pc := 80) (x := 0) dX7_takePart_80 rfl ?_
        refine ww_istore_n hX (pc := 81) (lv' := [some (kR (some 10)), some (kI (8 - (m : Int))), some (kI 0)]) dX7_takePart_81 (by decide) rfl rfl ?_
        refine ww_iload_n hX (pc := 82) dX7_takePart_82 rfl ?_
        refine ww_if_eq hX (pc := 83) (tgt := 95) dX7_takePart_83 (by decide) (fun h_83 => ?_) (fun h_83 => ?_)
        · simp only [w32_mod] at h_83
          refine ww_aload_n hX (pc := 95) dX7_takePart_95 rfl ?_
          refine vI0 hX (pc := 96) sX7_68 (xs_10 hL) (c6_X7_fail l0 hL hI hR) (by omega) (Nat.le_refl 0) (Nat.le_refl 0) (Nat.le_of_ble_eq_true rfl) dX7_takePart_96 (fun x_96 I_96 J_96 h_96 => ?_)
          have kI_96 : Kp 10 15 Ia I_96 := Kp_tr (Kp_rf (a := 10) (b := 15)) (Kp_wd h_96.1 (by decide) (by decide))
          have kJ_96 : Kp 10 15 Ja J_96 := Kp_tr (Kp_rf (a := 10) (b := 15)) (Kp_wd h_96.2.1 (by decide) (by decide))
          have r1_5_I_96 : I_96 1 5 = Ia 1 5 := Kp_at kI_96 1 5 (by decide)
          have r8_1_I_96 : I_96 8 1 = Ia 8 1 := Kp_at kI_96 8 1 (by decide)
          have rf_I_96 : FU (I_96 1 5) = FU (Ia 1 5) := by rw [r1_5_I_96]
          have lI_96 : LR I_96 := h_96.2.2.1
          have qI_96 := lI_96.1
          unfold LRf at qI_96
          have cI_96 := h_96.2.2.2.1
          have fsI_96 : zFr Ia I_96 := h_96.2.2.2.2.1
          have xrI_96 := h_96.2.2.2.2.2.1
          have yI_96 := h_96.2.2.2.2.2.2
          have tkI_96 : zTK I_96 cd vl T := zTK_f hk fsI_96
          have frI_96 : zFr Ia I_96 := zFr_tr zFr_rf fsI_96
          refine rZ hX (pc := 99) hT (Nat.le_refl 0) (Nat.le_refl 0) dX7_takePart_99 (by omega) ?_
          exact ⟨kI_96, kJ_96, lI_96, by omega, frI_96, by omega, (zPO_fa ha yI_96 ((zPart_l hcb).trans (zLe_0 (zLf_0 hw9.1 hw9.2))))⟩
        · simp only [w32_mod] at h_83
          exfalso
          omega
      · simp only [w32_mod] at h_63
        refine ww_aload_n hX (pc := 66) dX7_takePart_66 rfl ?_
        refine ww_getI hX (pc := 67) fX7_38 (by decide) (xs_10 hL) dX7_takePart_67 ?_
        refine ww_sipush hX (pc := 70) (x := 1300) dX7_takePart_70 (by decide) ?_
        refine ww_icmp_gt hX (pc := 73) (tgt := 80) dX7_takePart_73 (by decide) (fun h_73 => ?_) (fun h_73 => ?_)
        · simp only [w32_mod] at h_73
          have hw9 := (zK_lf hk ha).2.2 (by omega) (by omega)
          refine ww_iconst hX (pc := 80) (x := 0) dX7_takePart_80 rfl ?_
          refine ww_istore_n hX (pc := 81) (lv' := [some (kR (some 10)), some (kI (8 - (m : Int))), some (kI 0)]) dX7_takePart_81 (by decide) rfl rfl ?_
          refine ww_iload_n hX (pc := 82) dX7_takePart_82 rfl ?_
          refine ww_if_eq hX (pc := 83) (tgt := 95) dX7_takePart_83 (by decide) (fun h_83 => ?_) (fun h_83 => ?_)
          · simp only [w32_mod] at h_83
            refine ww_aload_n hX (pc := 95) dX7_takePart_95 rfl ?_
            refine vI0 hX (pc := 96) sX7_68 (xs_10 hL) (c6_X7_fail l0 hL hI hR) (by omega) (Nat.le_refl 0) (Nat.le_refl 0) (Nat.le_of_ble_eq_true rfl) dX7_takePart_96 (fun x_96 I_96 J_96 h_96 => ?_)
            have kI_96 : Kp 10 15 Ia I_96 := Kp_tr (Kp_rf (a := 10) (b := 15)) (Kp_wd h_96.1 (by decide) (by decide))
            have kJ_96 : Kp 10 15 Ja J_96 := Kp_tr (Kp_rf (a := 10) (b := 15)) (Kp_wd h_96.2.1 (by decide) (by decide))
            have r1_5_I_96 : I_96 1 5 = Ia 1 5 := Kp_at kI_96 1 5 (by decide)
            have r8_1_I_96 : I_96 8 1 = Ia 8 1 := Kp_at kI_96 8 1 (by decide)
            have rf_I_96 : FU (I_96 1 5) = FU (Ia 1 5) := by rw [r1_5_I_96]
            have lI_96 : LR I_96 := h_96.2.2.1
            have qI_96 := lI_96.1
            unfold LRf at qI_96
            have cI_96 := h_96.2.2.2.1
            have fsI_96 : zFr Ia I_96 := h_96.2.2.2.2.1
            have xrI_96 := h_96.2.2.2.2.2.1
            have yI_96 := h_96.2.2.2.2.2.2
            have tkI_96 : zTK I_96 cd vl T := zTK_f hk fsI_96
            have frI_96 : zFr Ia I_96 := zFr_tr zFr_rf fsI_96
            refine rZ hX (pc := 99) hT (Nat.le_refl 0) (Nat.le_refl 0) dX7_takePart_99 (by omega) ?_
            exact ⟨kI_96, kJ_96, lI_96, by omega, frI_96, by omega, (zPO_fa ha yI_96 ((zPart_l hcb).trans (zLe_0 (zLf_0 hw9.1 hw9.2))))⟩
          · simp only [w32_mod] at h_83
            exfalso
            omega
        · simp only [w32_mod] at h_73
          have hw9 := (zK_lf hk ha).2.1 (by omega)
          refine ww_iconst hX (pc := 76) (x := 1) dX7_takePart_76 rfl ?_
          refine ww_goto hX (pc := 77) (tgt := 81) dX7_takePart_77 (by decide) ?_
          refine ww_istore_n hX (pc := 81) (lv' := [some (kR (some 10)), some (kI (8 - (m : Int))), some (kI 1)]) dX7_takePart_81 (by decide) rfl rfl ?_
          refine ww_iload_n hX (pc := 82) dX7_takePart_82 rfl ?_
          refine ww_if_eq hX (pc := 83) (tgt := 95) dX7_takePart_83 (by decide) (fun h_83 => ?_) (fun h_83 => ?_)
          · simp only [w32_mod] at h_83
            exfalso
            omega
          · simp only [w32_mod] at h_83
            refine ww_aload_n hX (pc := 86) dX7_takePart_86 rfl ?_
            refine ww_getI hX (pc := 87) fX7_44 (by decide) (xs_10 hL) dX7_takePart_87 ?_
            refine ww_bipush hX (pc := 90) (x := 50) dX7_takePart_90 (by decide) ?_
            refine ww_icmp_lt hX (pc := 92) (tgt := 100) dX7_takePart_92 (by decide) (fun h_92 => ?_) (fun h_92 => ?_)
            · simp only [w32_mod] at h_92
              have hl9 : l < 50 := by have h9 := ha.2.2.2.1; omega
              refine ww_aload_n hX (pc := 100) dX7_takePart_100 rfl ?_
              refine ww_dupR hX (pc := 101) dX7_takePart_101 ?_
              refine ww_getI hX (pc := 102) fX7_44 (by decide) (xs_10 hL) dX7_takePart_102 ?_
              refine ww_iconst hX (pc := 105) (x := 1) dX7_takePart_105 rfl ?_
              refine ww_iadd hX (pc := 106) dX7_takePart_106 ?_
              refine ww_putI hX (pc := 107) (fun h9 => absurd h9 (by decide)) gX7_44 rfl (xs_10 hL) dX7_takePart_107 ?_
              refine ww_nmH (fun I_107 eI_107 => ?_)
              have kI_107 : Kp 10 15 Ia I_107 := by rw [eI_107]; exact Kp_up (Kp_rf (a := 10) (b := 15)) _ _ (by decide)
              have r1_5_I_107 : I_107 1 5 = Ia 1 5 := Kp_at kI_107 1 5 (by decide)
              have r8_1_I_107 : I_107 8 1 = Ia 8 1 := Kp_at kI_107 8 1 (by decide)
              have rf_I_107 : FU (I_107 1 5) = FU (Ia 1 5) := by rw [r1_5_I_107]
              have lI_107 : LR I_107 := by rw [eI_107]; exact LR_10 hR (by omega) (by omega)
              have wI_107 := (congrFun (congrFun eI_107 10) 10).trans (up2_s _ _ _ _)
              have wI_107_6 : I_107 10 6 = Ia 10 6 := by rw [eI_107, up2_n _ _ (Or.inr (by decide))]
              have wI_107_7 : I_107 10 7 = Ia 10 7 := by rw [eI_107, up2_n _ _ (Or.inr (by decide))]
              have wI_107_8 : I_107 10 8 = Ia 10 8 := by rw [eI_107, up2_n _ _ (Or.inr (by decide))]
              have wI_107_9 : I_107 10 9 = Ia 10 9 := by rw [eI_107, up2_n _ _ (Or.inr (by decide))]
              have wI_107_11 : I_107 10 11 = Ia 10 11 := by rw [eI_107, up2_n _ _ (Or.inr (by decide))]
              have fsI_107 : zFr Ia I_107 := by rw [eI_107]; exact zFr_f zFr_rf (by decide)
              have y13_I_107 : I_107 13 = Ia 13 := by rw [eI_107, up2_off _ _ _ (by decide)]
              have y14_I_107 : I_107 14 = Ia 14 := by rw [eI_107, up2_off _ _ _ (by decide)]
              have z0I_107 : I_107 10 0 = Ia 10 0 := by rw [eI_107, up2_n _ _ (Or.inr (by decide))]
              have tkI_107 : zTK I_107 cd vl T := zTK_f hk fsI_107
              have frI_107 : zFr Ia I_107 := zFr_tr zFr_rf fsI_107
              refine ww_aload_n hX (pc := 110) dX7_takePart_110 rfl ?_
              refine ww_aload_n hX (pc := 111) dX7_takePart_111 rfl ?_
              refine ww_getI hX (pc := 112) fX7_38 (by decide) (xs_10 hL) dX7_takePart_112 ?_
              refine ww_if_ge hX (pc := 115) (tgt := 125) dX7_takePart_115 (by decide) (fun h_115 => ?_) (fun h_115 => ?_)
              · simp only [w32_mod] at h_115
                refine ww_aload_n hX (pc := 125) dX7_takePart_125 rfl ?_
                refine ww_getI hX (pc := 126) fX7_38 (by decide) (xs_10 hL) dX7_takePart_126 ?_
                refine ww_sipush hX (pc := 129) (x := 300) dX7_takePart_129 (by decide) ?_
                refine ww_isub hX (pc := 132) dX7_takePart_132 ?_
                refine vV1 hX (pc := 133) sX7_101 (xs_10 hL) (c6_X7_step l0 hL (XI_kp hI kI_107 (by decide)) lI_107 (by omega) (by omega)) (by omega) (Nat.le_refl 0) (Nat.le_refl 0) (Nat.le_of_ble_eq_true rfl) dX7_takePart_133 (fun I_133 J_133 h_133 => ?_)
                have kI_133 : Kp 10 15 Ia I_133 := Kp_tr kI_107 (Kp_wd h_133.1 (by decide) (by decide))
                have kJ_133 : Kp 10 15 Ja J_133 := Kp_tr (Kp_rf (a := 10) (b := 15)) (Kp_wd h_133.2.1 (by decide) (by decide))
                have r1_5_I_133 : I_133 1 5 = Ia 1 5 := Kp_at kI_133 1 5 (by decide)
                have r8_1_I_133 : I_133 8 1 = Ia 8 1 := Kp_at kI_133 8 1 (by decide)
                have rf_I_133 : FU (I_133 1 5) = FU (Ia 1 5) := by rw [r1_5_I_133]
                have lI_133 : LR I_133 := h_133.2.2.1
                have qI_133 := lI_133.1
                unfold LRf at qI_133
                have cI_133 := h_133.2.2.2.1
                have fsI_133 : zFr I_107 I_133 := h_133.2.2.2.2.1
                have xrI_133 := h_133.2.2.2.2.2.1
                have yI_133 := h_133.2.2.2.2.2.2
                have tkI_133 : zTK I_133 cd vl T := zTK_f tkI_107 fsI_133
                have frI_133 : zFr Ia I_133 := zFr_tr frI_107 fsI_133
                refine ww_aload_n hX (pc := 136) dX7_takePart_136 rfl ?_
                refine vV0 hX (pc := 137) sX7_71 (xs_10 hL) (c6_X7_advance l0 hL (XI_kp hI kI_133 (by decide)) lI_133) (by omega) (Nat.le_refl 0) (Nat.le_refl 0) (Nat.le_of_ble_eq_true rfl) dX7_takePart_137 (fun I_137 J_137 h_137 => ?_)
                have kI_137 : Kp 10 15 Ia I_137 := Kp_tr kI_133 (Kp_wd h_137.1 (by decide) (by decide))
                have kJ_137 : Kp 10 15 Ja J_137 := Kp_tr kJ_133 (Kp_wd h_137.2.1 (by decide) (by decide))
                have r1_5_I_137 : I_137 1 5 = Ia 1 5 := Kp_at kI_137 1 5 (by decide)
                have r8_1_I_137 : I_137 8 1 = Ia 8 1 := Kp_at kI_137 8 1 (by decide)
                have rf_I_137 : FU (I_137 1 5) = FU (Ia 1 5) := by rw [r1_5_I_137]
                have lI_137 : LR I_137 := h_137.2.2.1
                have qI_137 := lI_137.1
                unfold LRf at qI_137
                have cI_137 := h_137.2.2.2.1
                have fsI_137 : zFr I_133 I_137 := h_137.2.2.2.2.1
                have xrI_137 := h_137.2.2.2.2.2.1
                have yI_137 := h_137.2.2.2.2.2.2
                have tkI_137 : zTK I_137 cd vl T := zTK_f tkI_133 fsI_137
                have frI_137 : zFr Ia I_137 := zFr_tr frI_133 fsI_137
                refine ww_iconst hX (pc := 140) (x := 1) dX7_takePart_140 rfl ?_
                refine rZ hX (pc := 141) hT (Nat.le_refl 0) (Nat.le_refl 0) dX7_takePart_141 (by decide) ?_
                exact ⟨kI_137, kJ_137, lI_137, by omega, frI_137, by omega, (by rw [zPart_l hcb]; exact zPO_lf hk ha frI_107 y13_I_107 (by omega) (by omega) (by omega) (by omega) fsI_133 yI_133 fsI_137 yI_137 hl9 (Or.inl ⟨hw9.1, hw9.2.1, hw9.2.2.1, by omega⟩))⟩
              · simp only [w32_mod] at h_115
                exfalso
                omega
            · simp only [w32_mod] at h_92
              have hl9 : ¬ l < 50 := by have h9 := ha.2.2.2.1; omega
              refine ww_aload_n hX (pc := 95) dX7_takePart_95 rfl ?_
              refine vI0 hX (pc := 96) sX7_68 (xs_10 hL) (c6_X7_fail l0 hL hI hR) (by omega) (Nat.le_refl 0) (Nat.le_refl 0) (Nat.le_of_ble_eq_true rfl) dX7_takePart_96 (fun x_96 I_96 J_96 h_96 => ?_)
              have kI_96 : Kp 10 15 Ia I_96 := Kp_tr (Kp_rf (a := 10) (b := 15)) (Kp_wd h_96.1 (by decide) (by decide))
              have kJ_96 : Kp 10 15 Ja J_96 := Kp_tr (Kp_rf (a := 10) (b := 15)) (Kp_wd h_96.2.1 (by decide) (by decide))
              have r1_5_I_96 : I_96 1 5 = Ia 1 5 := Kp_at kI_96 1 5 (by decide)
              have r8_1_I_96 : I_96 8 1 = Ia 8 1 := Kp_at kI_96 8 1 (by decide)
              have rf_I_96 : FU (I_96 1 5) = FU (Ia 1 5) := by rw [r1_5_I_96]
              have lI_96 : LR I_96 := h_96.2.2.1
              have qI_96 := lI_96.1
              unfold LRf at qI_96
              have cI_96 := h_96.2.2.2.1
              have fsI_96 : zFr Ia I_96 := h_96.2.2.2.2.1
              have xrI_96 := h_96.2.2.2.2.2.1
              have yI_96 := h_96.2.2.2.2.2.2
              have tkI_96 : zTK I_96 cd vl T := zTK_f hk fsI_96
              have frI_96 : zFr Ia I_96 := zFr_tr zFr_rf fsI_96
              refine rZ hX (pc := 99) hT (Nat.le_refl 0) (Nat.le_refl 0) dX7_takePart_99 (by omega) ?_
              exact ⟨kI_96, kJ_96, lI_96, by omega, frI_96, by omega, (zPO_fa ha yI_96 ((zPart_l hcb).trans (zLe_f (zLf_n ⟨hw9.1, hw9.2.2.1⟩) hl9)))⟩
  · simp only [w32_mod] at h_6
    have hcb : cd t = 191 := (zK_b hk ha 91 (by decide) (by decide)).mp (by omega)
    refine ww_iload_n hX (pc := 9) dX7_takePart_9 rfl ?_
    refine ww_bipush hX (pc := 10) (x := 8) dX7_takePart_10 (by decide) ?_
    refine ww_icmp_lt hX (pc := 12) (tgt := 20) dX7_takePart_12 (by decide) (fun h_12 => ?_) (fun h_12 => ?_)
    · simp only [w32_mod] at h_12
      obtain ⟨mp, rfl⟩ : ∃ mp, m = mp + 1 := ⟨m - 1, by omega⟩
      refine ww_aload_n hX (pc := 20) dX7_takePart_20 rfl ?_
      refine vV0 hX (pc := 21) sX7_71 (xs_10 hL) (c6_X7_advance l0 hL hI hR) (by omega) (Nat.le_refl 0) (Nat.le_refl 0) (Nat.le_of_ble_eq_true rfl) dX7_takePart_21 (fun I_21 J_21 h_21 => ?_)
      have kI_21 : Kp 10 15 Ia I_21 := Kp_tr (Kp_rf (a := 10) (b := 15)) (Kp_wd h_21.1 (by decide) (by decide))
      have kJ_21 : Kp 10 15 Ja J_21 := Kp_tr (Kp_rf (a := 10) (b := 15)) (Kp_wd h_21.2.1 (by decide) (by decide))
      have r1_5_I_21 : I_21 1 5 = Ia 1 5 := Kp_at kI_21 1 5 (by decide)
      have r8_1_I_21 : I_21 8 1 = Ia 8 1 := Kp_at kI_21 8 1 (by decide)
      have rf_I_21 : FU (I_21 1 5) = FU (Ia 1 5) := by rw [r1_5_I_21]
      have lI_21 : LR I_21 := h_21.2.2.1
      have qI_21 := lI_21.1
      unfold LRf at qI_21
      have cI_21 := h_21.2.2.2.1
      have fsI_21 : zFr Ia I_21 := h_21.2.2.2.2.1
      have xrI_21 := h_21.2.2.2.2.2.1
      have yI_21 := h_21.2.2.2.2.2.2
      have tkI_21 : zTK I_21 cd vl T := zTK_f hk fsI_21
      have frI_21 : zFr Ia I_21 := zFr_tr zFr_rf fsI_21
      have av21 := zAt_av hk ha (by omega) fsI_21 yI_21
      have at21 := av21.1
      refine ww_aload_n hX (pc := 24) dX7_takePart_24 rfl ?_
      refine ww_iload_n hX (pc := 25) dX7_takePart_25 rfl ?_
      refine ww_iconst hX (pc := 26) (x := 1) dX7_takePart_26 rfl ?_
      refine ww_iadd hX (pc := 27) dX7_takePart_27 ?_
      refine ww_toI (show (8 - ((mp + 1 : Nat) : Int)) + 1 = 8 - (mp : Int) by omega) ?_
      refine vI1 hX (pc := 28) sX7_74 (xs_10 hL) (hrec mp rfl hL (XI_kp hI kI_21 (by decide)) lI_21 tkI_21 at21) (by omega) (Nat.le_refl 0) (Nat.le_refl 0) (Nat.le_of_ble_eq_true rfl) dX7_takePart_28 (fun x_28 I_28 J_28 h_28 => ?_)
      have kI_28 : Kp 10 15 Ia I_28 := Kp_tr kI_21 (Kp_wd h_28.1 (by decide) (by decide))
      have kJ_28 : Kp 10 15 Ja J_28 := Kp_tr kJ_21 (Kp_wd h_28.2.1 (by decide) (by decide))
      have r1_5_I_28 : I_28 1 5 = Ia 1 5 := Kp_at kI_28 1 5 (by decide)
      have r8_1_I_28 : I_28 8 1 = Ia 8 1 := Kp_at kI_28 8 1 (by decide)
      have rf_I_28 : FU (I_28 1 5) = FU (Ia 1 5) := by rw [r1_5_I_28]
      have lI_28 : LR I_28 := h_28.2.2.1
      have qI_28 := lI_28.1
      unfold LRf at qI_28
      have cI_28 := h_28.2.2.2.1
      have fsI_28 : zFr I_21 I_28 := h_28.2.2.2.2.1
      have xrI_28 := h_28.2.2.2.2.2.1
      have yI_28 := h_28.2.2.2.2.2.2
      have tkI_28 : zTK I_28 cd vl T := zTK_f tkI_21 fsI_28
      have frI_28 : zFr Ia I_28 := zFr_tr frI_21 fsI_28
      refine ww_if_eq hX (pc := 31) (tgt := 47) dX7_takePart_31 (by decide) (fun h_31 => ?_) (fun h_31 => ?_)
      · simp only [w32_mod] at h_31
        refine ww_iconst hX (pc := 47) (x := 0) dX7_takePart_47 rfl ?_
        refine rZ hX (pc := 48) hT (Nat.le_refl 0) (Nat.le_refl 0) dX7_takePart_48 (by decide) ?_
        exact ⟨kI_28, kJ_28, lI_28, by omega, frI_28, by omega, (by rw [zPart_b hcb]; exact zPO_bf frI_21 yI_28 (by omega) rfl)⟩
      · simp only [w32_mod] at h_31
        refine ww_aload_n hX (pc := 34) dX7_takePart_34 rfl ?_
        refine ww_bipush hX (pc := 35) (x := 93) dX7_takePart_35 (by decide) ?_
        refine vI1 hX (pc := 37) sX7_104 (xs_10 hL) (c6_X7_takeSign l0 hL (XI_kp hI kI_28 (by decide)) lI_28 (by omega) (by omega)) (by omega) (Nat.le_refl 0) (Nat.le_refl 0) (Nat.le_of_ble_eq_true rfl) dX7_takePart_37 (fun x_37 I_37 J_37 h_37 => ?_)
        have kI_37 : Kp 10 15 Ia I_37 := Kp_tr kI_28 (Kp_wd h_37.1 (by decide) (by decide))
        have kJ_37 : Kp 10 15 Ja J_37 := Kp_tr kJ_28 (Kp_wd h_37.2.1 (by decide) (by decide))
        have r1_5_I_37 : I_37 1 5 = Ia 1 5 := Kp_at kI_37 1 5 (by decide)
        have r8_1_I_37 : I_37 8 1 = Ia 8 1 := Kp_at kI_37 8 1 (by decide)
        have rf_I_37 : FU (I_37 1 5) = FU (Ia 1 5) := by rw [r1_5_I_37]
        have lI_37 : LR I_37 := h_37.2.2.1
        have qI_37 := lI_37.1
        unfold LRf at qI_37
        have cI_37 := h_37.2.2.2.1
        have fsI_37 : zFr I_28 I_37 := h_37.2.2.2.2.1
        have xrI_37 := h_37.2.2.2.2.2.1
        have yI_37 := h_37.2.2.2.2.2.2
        have tkI_37 : zTK I_37 cd vl T := zTK_f tkI_28 fsI_37
        have frI_37 : zFr Ia I_37 := zFr_tr frI_28 fsI_37
        refine ww_if_eq hX (pc := 40) (tgt := 47) dX7_takePart_40 (by decide) (fun h_40 => ?_) (fun h_40 => ?_)
        · simp only [w32_mod] at h_40
          refine ww_iconst hX (pc := 47) (x := 0) dX7_takePart_47 rfl ?_
          refine rZ hX (pc := 48) hT (Nat.le_refl 0) (Nat.le_refl 0) dX7_takePart_48 (by decide) ?_
          exact ⟨kI_37, kJ_37, lI_37, by omega, frI_37, by omega, (by rw [zPart_b hcb, show (0 : Int) = x_37 by omega]; exact zPO_bs hk ha (by omega) frI_21 yI_21 fsI_28 yI_28 (by omega) fsI_37 yI_37 (by decide) (by decide) rfl)⟩
        · simp only [w32_mod] at h_40
          refine ww_iconst hX (pc := 43) (x := 1) dX7_takePart_43 rfl ?_
          refine ww_goto hX (pc := 44) (tgt := 48) dX7_takePart_44 (by decide) ?_
          refine rZ hX (pc := 48) hT (Nat.le_refl 0) (Nat.le_refl 0) dX7_takePart_48 (by decide) ?_
          exact ⟨kI_37, kJ_37, lI_37, by omega, frI_37, by omega, (by rw [zPart_b hcb, show (1 : Int) = x_37 by omega]; exact zPO_bs hk ha (by omega) frI_21 yI_21 fsI_28 yI_28 (by omega) fsI_37 yI_37 (by decide) (by decide) rfl)⟩
    · simp only [w32_mod] at h_12
      refine ww_aload_n hX (pc := 15) dX7_takePart_15 rfl ?_
      refine vI0 hX (pc := 16) sX7_68 (xs_10 hL) (c6_X7_fail l0 hL hI hR) (by omega) (Nat.le_refl 0) (Nat.le_refl 0) (Nat.le_of_ble_eq_true rfl) dX7_takePart_16 (fun x_16 I_16 J_16 h_16 => ?_)
      have kI_16 : Kp 10 15 Ia I_16 := Kp_tr (Kp_rf (a := 10) (b := 15)) (Kp_wd h_16.1 (by decide) (by decide))
      have kJ_16 : Kp 10 15 Ja J_16 := Kp_tr (Kp_rf (a := 10) (b := 15)) (Kp_wd h_16.2.1 (by decide) (by decide))
      have r1_5_I_16 : I_16 1 5 = Ia 1 5 := Kp_at kI_16 1 5 (by decide)
      have r8_1_I_16 : I_16 8 1 = Ia 8 1 := Kp_at kI_16 8 1 (by decide)
      have rf_I_16 : FU (I_16 1 5) = FU (Ia 1 5) := by rw [r1_5_I_16]
      have lI_16 : LR I_16 := h_16.2.2.1
      have qI_16 := lI_16.1
      unfold LRf at qI_16
      have cI_16 := h_16.2.2.2.1
      have fsI_16 : zFr Ia I_16 := h_16.2.2.2.2.1
      have xrI_16 := h_16.2.2.2.2.2.1
      have yI_16 := h_16.2.2.2.2.2.2
      have tkI_16 : zTK I_16 cd vl T := zTK_f hk fsI_16
      have frI_16 : zFr Ia I_16 := zFr_tr zFr_rf fsI_16
      refine rZ hX (pc := 19) hT (Nat.le_refl 0) (Nat.le_refl 0) dX7_takePart_19 (by omega) ?_
      exact ⟨kI_16, kJ_16, lI_16, by omega, frI_16, by omega, (by
          obtain rfl : m = 0 := by omega
          exact zPO_fa ha yI_16 ((zPart_b hcb).trans zBr_0))⟩
set_option maxHeartbeats 4000000 in
set_option maxRecDepth 20000 in
theorem c6_X7_takeTerm (l0 : Launch) {m : Nat} (hm : m ≤ 8) (hrec : ∀ mp, m = mp + 1 → QSum l0 mp) {Ia Ja : aI1} {Ra : aR1} {Sa : aS1} (hL : LY Ra Sa) (hI : XI Ia) (hR : LR Ia) {cd vl : Nat → Int} {T t l : Nat} (hk : zTK Ia cd vl T) (ha : zAt Ia T t l)  : CT l0 (10 * m + 15) 0 0 mX7_takeTerm [kR (some 10), kI (8 - (m : Int))] Ia Ja Ra Sa (cI (fun x I' J' => Kp 10 15 Ia I' ∧ Kp 10 15 Ja J' ∧ LR I' ∧ I' 10 11 = Ia 10 11 ∧ zFr Ia I' ∧ (x = 0 ∨ x = 1) ∧ zPO zTr Ia I' T t l x (zTm (zSu cd vl m) cd vl t l)) Ra Sa) := by
  refine ct_in pn_X7 (Nat.le_of_ble_eq_true rfl) (fun X hX hT hIn => ?_)
  have hX : aK l0 X cX7_takeTerm 4 RX7 (some .boolean) (10 * m + 15) 0 0 := hX
  change WW X 0 [some (kR (some 10)), some (kI (8 - (m : Int))), none, none] [] Ia Ja Ra Sa 0 0
  obtain ⟨hn1, hn2⟩ := hI.1
  obtain ⟨hk1, hk2⟩ := hI.2.1
  obtain ⟨hf1, hf2⟩ := hI.fu
  obtain ⟨hl1, hl2⟩ := hI.2.2.2.2.2.2.1
  have hq := hR.1
  unfold LRf at hq
  refine ww_aload_n hX (pc := 0) dX7_takeTerm_0 rfl ?_
  refine ww_iload_n hX (pc := 1) dX7_takeTerm_1 rfl ?_
  refine vI1 hX (pc := 2) sX7_113 (xs_10 hL) (c6_X7_takePart l0 (m := m) hm hrec hL hI hR hk ha) (by omega) (Nat.le_refl 0) (Nat.le_refl 0) (Nat.le_of_ble_eq_true rfl) dX7_takeTerm_2 (fun x_2 I_2 J_2 h_2 => ?_)
  have kI_2 : Kp 10 15 Ia I_2 := Kp_tr (Kp_rf (a := 10) (b := 15)) (Kp_wd h_2.1 (by decide) (by decide))
  have kJ_2 : Kp 10 15 Ja J_2 := Kp_tr (Kp_rf (a := 10) (b := 15)) (Kp_wd h_2.2.1 (by decide) (by decide))
  have r1_5_I_2 : I_2 1 5 = Ia 1 5 := Kp_at kI_2 1 5 (by decide)
  have r8_1_I_2 : I_2 8 1 = Ia 8 1 := Kp_at kI_2 8 1 (by decide)
  have rf_I_2 : FU (I_2 1 5) = FU (Ia 1 5) := by rw [r1_5_I_2]
  have lI_2 : LR I_2 := h_2.2.2.1
  have qI_2 := lI_2.1
  unfold LRf at qI_2
  have cI_2 := h_2.2.2.2.1
  have fsI_2 : zFr Ia I_2 := h_2.2.2.2.2.1
  have xrI_2 := h_2.2.2.2.2.2.1
  have yI_2 := h_2.2.2.2.2.2.2
  have tkI_2 : zTK I_2 cd vl T := zTK_f hk fsI_2
  have frI_2 : zFr Ia I_2 := zFr_tr zFr_rf fsI_2
  refine ww_if_ne hX (pc := 5) (tgt := 10) dX7_takeTerm_5 (by decide) (fun h_5 => ?_) (fun h_5 => ?_)
  · simp only [w32_mod] at h_5
    refine ww_iconst hX (pc := 10) (x := 0) dX7_takeTerm_10 rfl ?_
    refine ww_istore_n hX (pc := 11) (lv' := [some (kR (some 10)), some (kI (8 - (m : Int))), some (kI 0), none]) dX7_takeTerm_11 (by decide) rfl rfl ?_
    have hl_12 : ∀ (n_12 : Nat) (i : Int) (I2 : aI1) (J2 : aI1), (400 - i).toNat = n_12 → (Kp 10 15 Ia I2 ∧ Kp 10 15 Ja J2 ∧ LR I2 ∧ I2 10 11 = Ia 10 11 ∧ (0 ≤ i ∧ i ≤ 400) ∧ zFr Ia I2 ∧ zLI zTr (zPart (zSu cd vl m) cd vl) [142, 147, 137] zJD cd (400 - i).toNat Ia I2 T t l (zTm (zSu cd vl m) cd vl t l)) → WW X 12 [some (kR (some 10)), some (kI (8 - (m : Int))), some (kI i), none] [] I2 J2 Ra Sa 0 0 := by
      intro n_12
      induction n_12 using Nat.strongRecOn with
      | ind n_12 ih_12 =>
        intro i I2 J2 hm_12 hv_12
        have hq_12 := Sh0_i hm_12
        clear hm_12
        obtain ⟨kI2, kJ2, lI2, cI2, hi, frI2, hli⟩ := hv_12
        have r1_5_I2 : I2 1 5 = Ia 1 5 := Kp_at kI2 1 5 (by decide)
        have r8_1_I2 : I2 8 1 = Ia 8 1 := Kp_at kI2 8 1 (by decide)
        have rf_I2 : FU (I2 1 5) = FU (Ia 1 5) := by rw [r1_5_I2]
        have qI2 := lI2.1
        unfold LRf at qI2
        obtain ⟨q9, hok, hrs⟩ := hli
        have tkI2 : zTK I2 cd vl T := zTK_f hk frI2
        refine ww_iload_n hX (pc := 12) dX7_takeTerm_12 rfl ?_
        refine ww_sipush hX (pc := 13) (x := 400) dX7_takeTerm_13 (by decide) ?_
        refine ww_icmp_ge hX (pc := 16) (tgt := 79) dX7_takeTerm_16 (by decide) (fun h_16 => ?_) (fun h_16 => ?_)
        · simp only [w32_mod] at h_16
          refine ww_iconst hX (pc := 79) (x := 1) dX7_takeTerm_79 rfl ?_
          refine rZ hX (pc := 80) hT (Nat.le_refl 0) (Nat.le_refl 0) dX7_takeTerm_80 (by decide) ?_
          exact ⟨kI2, kJ2, lI2, by omega, frI2, by omega, (zLI_e hok hrs (Or.inl (by omega)) rfl)⟩
        · simp only [w32_mod] at h_16
          refine ww_aload_n hX (pc := 19) dX7_takeTerm_19 rfl ?_
          refine ww_getI hX (pc := 20) fX7_38 (by decide) (xs_10 hL) dX7_takeTerm_20 ?_
          refine ww_bipush hX (pc := 23) (x := 42) dX7_takeTerm_23 (by decide) ?_
          refine ww_icmp_eq hX (pc := 25) (tgt := 46) dX7_takeTerm_25 (by decide) (fun h_25 => ?_) (fun h_25 => ?_)
          · simp only [w32_mod] at h_25
            have hc9 : cd q9.1 = 142 := (zK_b tkI2 hok.1 42 (by decide) (by decide)).mp (by omega)
            have hc8 : cd q9.1 ∈ [142, 147, 137] := by rw [hc9]; decide
            refine ww_aload_n hX (pc := 46) dX7_takeTerm_46 rfl ?_
            refine ww_getI hX (pc := 47) fX7_38 (by decide) (xs_10 hL) dX7_takeTerm_47 ?_
            refine ww_nmI (fun v_50 hv_50 => ?_)
            refine ww_istore_n hX (pc := 50) (lv' := [some (kR (some 10)), some (kI (8 - (m : Int))), some (kI i), some (kI v_50)]) dX7_takeTerm_50 (by decide) rfl rfl ?_
            refine ww_aload_n hX (pc := 51) dX7_takeTerm_51 rfl ?_
            refine vV0 hX (pc := 52) sX7_71 (xs_10 hL) (c6_X7_advance l0 hL (XI_kp hI kI2 (by decide)) lI2) (by omega) (Nat.le_refl 0) (Nat.le_refl 0) (Nat.le_of_ble_eq_true rfl) dX7_takeTerm_52 (fun I_52 J_52 h_52 => ?_)
            have kI_52 : Kp 10 15 Ia I_52 := Kp_tr kI2 (Kp_wd h_52.1 (by decide) (by decide))
            have kJ_52 : Kp 10 15 Ja J_52 := Kp_tr kJ2 (Kp_wd h_52.2.1 (by decide) (by decide))
            have r1_5_I_52 : I_52 1 5 = Ia 1 5 := Kp_at kI_52 1 5 (by decide)
            have r8_1_I_52 : I_52 8 1 = Ia 8 1 := Kp_at kI_52 8 1 (by decide)
            have rf_I_52 : FU (I_52 1 5) = FU (Ia 1 5) := by rw [r1_5_I_52]
            have lI_52 : LR I_52 := h_52.2.2.1
            have qI_52 := lI_52.1
            unfold LRf at qI_52
            have cI_52 := h_52.2.2.2.1
            have fsI_52 : zFr I2 I_52 := h_52.2.2.2.2.1
            have xrI_52 := h_52.2.2.2.2.2.1
            have yI_52 := h_52.2.2.2.2.2.2
            have tkI_52 : zTK I_52 cd vl T := zTK_f tkI2 fsI_52
            have frI_52 : zFr Ia I_52 := zFr_tr frI2 fsI_52
            have av52 := zAt_av tkI2 hok.1 (by omega) fsI_52 yI_52
            have at52 := av52.1
            refine ww_aload_n hX (pc := 55) dX7_takeTerm_55 rfl ?_
            refine ww_iload_n hX (pc := 56) dX7_takeTerm_56 rfl ?_
            refine vI1 hX (pc := 57) sX7_113 (xs_10 hL) (c6_X7_takePart l0 (m := m) hm hrec hL (XI_kp hI kI_52 (by decide)) lI_52 tkI_52 at52) (by omega) (Nat.le_refl 0) (Nat.le_refl 0) (Nat.le_of_ble_eq_true rfl) dX7_takeTerm_57 (fun x_57 I_57 J_57 h_57 => ?_)
            have kI_57 : Kp 10 15 Ia I_57 := Kp_tr kI_52 (Kp_wd h_57.1 (by decide) (by decide))
            have kJ_57 : Kp 10 15 Ja J_57 := Kp_tr kJ_52 (Kp_wd h_57.2.1 (by decide) (by decide))
            have r1_5_I_57 : I_57 1 5 = Ia 1 5 := Kp_at kI_57 1 5 (by decide)
            have r8_1_I_57 : I_57 8 1 = Ia 8 1 := Kp_at kI_57 8 1 (by decide)
            have rf_I_57 : FU (I_57 1 5) = FU (Ia 1 5) := by rw [r1_5_I_57]
            have lI_57 : LR I_57 := h_57.2.2.1
            have qI_57 := lI_57.1
            unfold LRf at qI_57
            have cI_57 := h_57.2.2.2.1
            have fsI_57 : zFr I_52 I_57 := h_57.2.2.2.2.1
            have xrI_57 := h_57.2.2.2.2.2.1
            have yI_57 := h_57.2.2.2.2.2.2
            have tkI_57 : zTK I_57 cd vl T := zTK_f tkI_52 fsI_57
            have frI_57 : zFr Ia I_57 := zFr_tr frI_52 fsI_57
            refine ww_if_ne hX (pc := 60) (tgt := 65) dX7_takeTerm_60 (by decide) (fun h_60 => ?_) (fun h_60 => ?_)
            · simp only [w32_mod] at h_60
              refine ww_aload_n hX (pc := 65) dX7_takeTerm_65 rfl ?_
              refine ww_iload_n hX (pc := 66) dX7_takeTerm_66 rfl ?_
              refine sI1 hX (pc := 67) sX7_107 (c6_X7_stepOf l0) (by omega) (Nat.le_refl 0) (Nat.le_refl 0) (Nat.le_of_ble_eq_true rfl) dX7_takeTerm_67 (fun x_67 I_67 J_67 h_67 => ?_)
              obtain ⟨rfl, rfl, h_67⟩ := h_67
              refine vV1 hX (pc := 70) sX7_101 (xs_10 hL) (c6_X7_step l0 hL (XI_kp hI kI_57 (by decide)) lI_57 (by omega) (by omega)) (by omega) (Nat.le_refl 0) (Nat.le_refl 0) (Nat.le_of_ble_eq_true rfl) dX7_takeTerm_70 (fun I_70 J_70 h_70 => ?_)
              have kI_70 : Kp 10 15 Ia I_70 := Kp_tr kI_57 (Kp_wd h_70.1 (by decide) (by decide))
              have kJ_70 : Kp 10 15 Ja J_70 := Kp_tr kJ_57 (Kp_wd h_70.2.1 (by decide) (by decide))
              have r1_5_I_70 : I_70 1 5 = Ia 1 5 := Kp_at kI_70 1 5 (by decide)
              have r8_1_I_70 : I_70 8 1 = Ia 8 1 := Kp_at kI_70 8 1 (by decide)
              have rf_I_70 : FU (I_70 1 5) = FU (Ia 1 5) := by rw [r1_5_I_70]
              have lI_70 : LR I_70 := h_70.2.2.1
              have qI_70 := lI_70.1
              unfold LRf at qI_70
              have cI_70 := h_70.2.2.2.1
              have fsI_70 : zFr I_57 I_70 := h_70.2.2.2.2.1
              have xrI_70 := h_70.2.2.2.2.2.1
              have yI_70 := h_70.2.2.2.2.2.2
              have tkI_70 : zTK I_70 cd vl T := zTK_f tkI_57 fsI_70
              have frI_70 : zFr Ia I_70 := zFr_tr frI_57 fsI_70
              refine ww_iinc hX (pc := 73) (lv' := [some (kR (some 10)), some (kI (8 - (m : Int))), some (kI (i + 1)), some (kI v_50)]) dX7_takeTerm_73 rfl (by decide) rfl rfl ?_
              refine ww_goto hX (pc := 76) (tgt := 12) dX7_takeTerm_76 (by decide) ?_
              refine ww_sub [some (kR (some 10)), some (kI (8 - (m : Int))), some (kI (i + 1)), none] (aLe_s (aLe_s (aLe_s (aLe_n aLe_0)))) ?_
              exact ih_12 _ (by have hm9 := Sh0_e hq_12; omega) (i + 1) I_70 J_70 rfl ⟨kI_70, kJ_70, lI_70, by omega, by omega, frI_70, (zLI_j (m := (400 - (i + 1)).toNat) hk frI2 hok hrs (by omega) hc8 (by omega) fsI_52 yI_52 fsI_57 yI_57 (by omega) fsI_70 yI_70 h_67.1 (by rw [h_67.2 (by omega)]; omega) (fun _ _ => trivial))⟩
            · simp only [w32_mod] at h_60
              refine ww_iconst hX (pc := 63) (x := 0) dX7_takeTerm_63 rfl ?_
              refine rZ hX (pc := 64) hT (Nat.le_refl 0) (Nat.le_refl 0) dX7_takeTerm_64 (by decide) ?_
              exact ⟨kI_57, kJ_57, lI_57, by omega, frI_57, by omega, (zLI_f (m := (400 - i).toNat - 1) frI_52.2.1 hrs (by omega) hc8 yI_57 (by omega) rfl)⟩
          · simp only [w32_mod] at h_25
            have hn0 : ¬ cd q9.1 = 142 := fun h9 => by
              have := (zK_b tkI2 hok.1 42 (by decide) (by decide)).mpr h9
              omega
            refine ww_aload_n hX (pc := 28) dX7_takeTerm_28 rfl ?_
            refine ww_getI hX (pc := 29) fX7_38 (by decide) (xs_10 hL) dX7_takeTerm_29 ?_
            refine ww_bipush hX (pc := 32) (x := 47) dX7_takeTerm_32 (by decide) ?_
            refine ww_icmp_eq hX (pc := 34) (tgt := 46) dX7_takeTerm_34 (by decide) (fun h_34 => ?_) (fun h_34 => ?_)
            · simp only [w32_mod] at h_34
              have hc9 : cd q9.1 = 147 := (zK_b tkI2 hok.1 47 (by decide) (by decide)).mp (by omega)
              have hc8 : cd q9.1 ∈ [142, 147, 137] := by rw [hc9]; decide
              refine ww_aload_n hX (pc := 46) dX7_takeTerm_46 rfl ?_
              refine ww_getI hX (pc := 47) fX7_38 (by decide) (xs_10 hL) dX7_takeTerm_47 ?_
              refine ww_nmI (fun v_50 hv_50 => ?_)
              refine ww_istore_n hX (pc := 50) (lv' := [some (kR (some 10)), some (kI (8 - (m : Int))), some (kI i), some (kI v_50)]) dX7_takeTerm_50 (by decide) rfl rfl ?_
              refine ww_aload_n hX (pc := 51) dX7_takeTerm_51 rfl ?_
              refine vV0 hX (pc := 52) sX7_71 (xs_10 hL) (c6_X7_advance l0 hL (XI_kp hI kI2 (by decide)) lI2) (by omega) (Nat.le_refl 0) (Nat.le_refl 0) (Nat.le_of_ble_eq_true rfl) dX7_takeTerm_52 (fun I_52 J_52 h_52 => ?_)
              have kI_52 : Kp 10 15 Ia I_52 := Kp_tr kI2 (Kp_wd h_52.1 (by decide) (by decide))
              have kJ_52 : Kp 10 15 Ja J_52 := Kp_tr kJ2 (Kp_wd h_52.2.1 (by decide) (by decide))
              have r1_5_I_52 : I_52 1 5 = Ia 1 5 := Kp_at kI_52 1 5 (by decide)
              have r8_1_I_52 : I_52 8 1 = Ia 8 1 := Kp_at kI_52 8 1 (by decide)
              have rf_I_52 : FU (I_52 1 5) = FU (Ia 1 5) := by rw [r1_5_I_52]
              have lI_52 : LR I_52 := h_52.2.2.1
              have qI_52 := lI_52.1
              unfold LRf at qI_52
              have cI_52 := h_52.2.2.2.1
              have fsI_52 : zFr I2 I_52 := h_52.2.2.2.2.1
              have xrI_52 := h_52.2.2.2.2.2.1
              have yI_52 := h_52.2.2.2.2.2.2
              have tkI_52 : zTK I_52 cd vl T := zTK_f tkI2 fsI_52
              have frI_52 : zFr Ia I_52 := zFr_tr frI2 fsI_52
              have av52 := zAt_av tkI2 hok.1 (by omega) fsI_52 yI_52
              have at52 := av52.1
              refine ww_aload_n hX (pc := 55) dX7_takeTerm_55 rfl ?_
              refine ww_iload_n hX (pc := 56) dX7_takeTerm_56 rfl ?_
              refine vI1 hX (pc := 57) sX7_113 (xs_10 hL) (c6_X7_takePart l0 (m := m) hm hrec hL (XI_kp hI kI_52 (by decide)) lI_52 tkI_52 at52) (by omega) (Nat.le_refl 0) (Nat.le_refl 0) (Nat.le_of_ble_eq_true rfl) dX7_takeTerm_57 (fun x_57 I_57 J_57 h_57 => ?_)
              have kI_57 : Kp 10 15 Ia I_57 := Kp_tr kI_52 (Kp_wd h_57.1 (by decide) (by decide))
              have kJ_57 : Kp 10 15 Ja J_57 := Kp_tr kJ_52 (Kp_wd h_57.2.1 (by decide) (by decide))
              have r1_5_I_57 : I_57 1 5 = Ia 1 5 := Kp_at kI_57 1 5 (by decide)
              have r8_1_I_57 : I_57 8 1 = Ia 8 1 := Kp_at kI_57 8 1 (by decide)
              have rf_I_57 : FU (I_57 1 5) = FU (Ia 1 5) := by rw [r1_5_I_57]
              have lI_57 : LR I_57 := h_57.2.2.1
              have qI_57 := lI_57.1
              unfold LRf at qI_57
              have cI_57 := h_57.2.2.2.1
              have fsI_57 : zFr I_52 I_57 := h_57.2.2.2.2.1
              have xrI_57 := h_57.2.2.2.2.2.1
              have yI_57 := h_57.2.2.2.2.2.2
              have tkI_57 : zTK I_57 cd vl T := zTK_f tkI_52 fsI_57
              have frI_57 : zFr Ia I_57 := zFr_tr frI_52 fsI_57
              refine ww_if_ne hX (pc := 60) (tgt := 65) dX7_takeTerm_60 (by decide) (fun h_60 => ?_) (fun h_60 => ?_)
              · simp only [w32_mod] at h_60
                refine ww_aload_n hX (pc := 65) dX7_takeTerm_65 rfl ?_
                refine ww_iload_n hX (pc := 66) dX7_takeTerm_66 rfl ?_
                refine sI1 hX (pc := 67) sX7_107 (c6_X7_stepOf l0) (by omega) (Nat.le_refl 0) (Nat.le_refl 0) (Nat.le_of_ble_eq_true rfl) dX7_takeTerm_67 (fun x_67 I_67 J_67 h_67 => ?_)
                obtain ⟨rfl, rfl, h_67⟩ := h_67
                refine vV1 hX (pc := 70) sX7_101 (xs_10 hL) (c6_X7_step l0 hL (XI_kp hI kI_57 (by decide)) lI_57 (by omega) (by omega)) (by omega) (Nat.le_refl 0) (Nat.le_refl 0) (Nat.le_of_ble_eq_true rfl) dX7_takeTerm_70 (fun I_70 J_70 h_70 => ?_)
                have kI_70 : Kp 10 15 Ia I_70 := Kp_tr kI_57 (Kp_wd h_70.1 (by decide) (by decide))
                have kJ_70 : Kp 10 15 Ja J_70 := Kp_tr kJ_57 (Kp_wd h_70.2.1 (by decide) (by decide))
                have r1_5_I_70 : I_70 1 5 = Ia 1 5 := Kp_at kI_70 1 5 (by decide)
                have r8_1_I_70 : I_70 8 1 = Ia 8 1 := Kp_at kI_70 8 1 (by decide)
                have rf_I_70 : FU (I_70 1 5) = FU (Ia 1 5) := by rw [r1_5_I_70]
                have lI_70 : LR I_70 := h_70.2.2.1
                have qI_70 := lI_70.1
                unfold LRf at qI_70
                have cI_70 := h_70.2.2.2.1
                have fsI_70 : zFr I_57 I_70 := h_70.2.2.2.2.1
                have xrI_70 := h_70.2.2.2.2.2.1
                have yI_70 := h_70.2.2.2.2.2.2
                have tkI_70 : zTK I_70 cd vl T := zTK_f tkI_57 fsI_70
                have frI_70 : zFr Ia I_70 := zFr_tr frI_57 fsI_70
                refine ww_iinc hX (pc := 73) (lv' := [some (kR (some 10)), some (kI (8 - (m : Int))), some (kI (i + 1)), some (kI v_50)]) dX7_takeTerm_73 rfl (by decide) rfl rfl ?_
                refine ww_goto hX (pc := 76) (tgt := 12) dX7_takeTerm_76 (by decide) ?_
                refine ww_sub [some (kR (some 10)), some (kI (8 - (m : Int))), some (kI (i + 1)), none] (aLe_s (aLe_s (aLe_s (aLe_n aLe_0)))) ?_
                exact ih_12 _ (by have hm9 := Sh0_e hq_12; omega) (i + 1) I_70 J_70 rfl ⟨kI_70, kJ_70, lI_70, by omega, by omega, frI_70, (zLI_j (m := (400 - (i + 1)).toNat) hk frI2 hok hrs (by omega) hc8 (by omega) fsI_52 yI_52 fsI_57 yI_57 (by omega) fsI_70 yI_70 h_67.1 (by rw [h_67.2 (by omega)]; omega) (fun _ _ => trivial))⟩
              · simp only [w32_mod] at h_60
                refine ww_iconst hX (pc := 63) (x := 0) dX7_takeTerm_63 rfl ?_
                refine rZ hX (pc := 64) hT (Nat.le_refl 0) (Nat.le_refl 0) dX7_takeTerm_64 (by decide) ?_
                exact ⟨kI_57, kJ_57, lI_57, by omega, frI_57, by omega, (zLI_f (m := (400 - i).toNat - 1) frI_52.2.1 hrs (by omega) hc8 yI_57 (by omega) rfl)⟩
            · simp only [w32_mod] at h_34
              have hn1 : ¬ cd q9.1 = 147 := fun h9 => by
                have := (zK_b tkI2 hok.1 47 (by decide) (by decide)).mpr h9
                omega
              refine ww_aload_n hX (pc := 37) dX7_takeTerm_37 rfl ?_
              refine ww_getI hX (pc := 38) fX7_38 (by decide) (xs_10 hL) dX7_takeTerm_38 ?_
              refine ww_bipush hX (pc := 41) (x := 37) dX7_takeTerm_41 (by decide) ?_
              refine ww_icmp_ne hX (pc := 43) (tgt := 79) dX7_takeTerm_43 (by decide) (fun h_43 => ?_) (fun h_43 => ?_)
              · simp only [w32_mod] at h_43
                have hn2 : ¬ cd q9.1 = 137 := fun h9 => by
                  have := (zK_b tkI2 hok.1 37 (by decide) (by decide)).mpr h9
                  omega
                refine ww_iconst hX (pc := 79) (x := 1) dX7_takeTerm_79 rfl ?_
                refine rZ hX (pc := 80) hT (Nat.le_refl 0) (Nat.le_refl 0) dX7_takeTerm_80 (by decide) ?_
                exact ⟨kI2, kJ2, lI2, by omega, frI2, by omega, (zLI_e hok hrs (Or.inr (by simp [hn0, hn1, hn2])) rfl)⟩
              · simp only [w32_mod] at h_43
                have hc9 : cd q9.1 = 137 := (zK_b tkI2 hok.1 37 (by decide) (by decide)).mp (by omega)
                have hc8 : cd q9.1 ∈ [142, 147, 137] := by rw [hc9]; decide
                refine ww_aload_n hX (pc := 46) dX7_takeTerm_46 rfl ?_
                refine ww_getI hX (pc := 47) fX7_38 (by decide) (xs_10 hL) dX7_takeTerm_47 ?_
                refine ww_nmI (fun v_50 hv_50 => ?_)
                refine ww_istore_n hX (pc := 50) (lv' := [some (kR (some 10)), some (kI (8 - (m : Int))), some (kI i), some (kI v_50)]) dX7_takeTerm_50 (by decide) rfl rfl ?_
                refine ww_aload_n hX (pc := 51) dX7_takeTerm_51 rfl ?_
                refine vV0 hX (pc := 52) sX7_71 (xs_10 hL) (c6_X7_advance l0 hL (XI_kp hI kI2 (by decide)) lI2) (by omega) (Nat.le_refl 0) (Nat.le_refl 0) (Nat.le_of_ble_eq_true rfl) dX7_takeTerm_52 (fun I_52 J_52 h_52 => ?_)
                have kI_52 : Kp 10 15 Ia I_52 := Kp_tr kI2 (Kp_wd h_52.1 (by decide) (by decide))
                have kJ_52 : Kp 10 15 Ja J_52 := Kp_tr kJ2 (Kp_wd h_52.2.1 (by decide) (by decide))
                have r1_5_I_52 : I_52 1 5 = Ia 1 5 := Kp_at kI_52 1 5 (by decide)
                have r8_1_I_52 : I_52 8 1 = Ia 8 1 := Kp_at kI_52 8 1 (by decide)
                have rf_I_52 : FU (I_52 1 5) = FU (Ia 1 5) := by rw [r1_5_I_52]
                have lI_52 : LR I_52 := h_52.2.2.1
                have qI_52 := lI_52.1
                unfold LRf at qI_52
                have cI_52 := h_52.2.2.2.1
                have fsI_52 : zFr I2 I_52 := h_52.2.2.2.2.1
                have xrI_52 := h_52.2.2.2.2.2.1
                have yI_52 := h_52.2.2.2.2.2.2
                have tkI_52 : zTK I_52 cd vl T := zTK_f tkI2 fsI_52
                have frI_52 : zFr Ia I_52 := zFr_tr frI2 fsI_52
                have av52 := zAt_av tkI2 hok.1 (by omega) fsI_52 yI_52
                have at52 := av52.1
                refine ww_aload_n hX (pc := 55) dX7_takeTerm_55 rfl ?_
                refine ww_iload_n hX (pc := 56) dX7_takeTerm_56 rfl ?_
                refine vI1 hX (pc := 57) sX7_113 (xs_10 hL) (c6_X7_takePart l0 (m := m) hm hrec hL (XI_kp hI kI_52 (by decide)) lI_52 tkI_52 at52) (by omega) (Nat.le_refl 0) (Nat.le_refl 0) (Nat.le_of_ble_eq_true rfl) dX7_takeTerm_57 (fun x_57 I_57 J_57 h_57 => ?_)
                have kI_57 : Kp 10 15 Ia I_57 := Kp_tr kI_52 (Kp_wd h_57.1 (by decide) (by decide))
                have kJ_57 : Kp 10 15 Ja J_57 := Kp_tr kJ_52 (Kp_wd h_57.2.1 (by decide) (by decide))
                have r1_5_I_57 : I_57 1 5 = Ia 1 5 := Kp_at kI_57 1 5 (by decide)
                have r8_1_I_57 : I_57 8 1 = Ia 8 1 := Kp_at kI_57 8 1 (by decide)
                have rf_I_57 : FU (I_57 1 5) = FU (Ia 1 5) := by rw [r1_5_I_57]
                have lI_57 : LR I_57 := h_57.2.2.1
                have qI_57 := lI_57.1
                unfold LRf at qI_57
                have cI_57 := h_57.2.2.2.1
                have fsI_57 : zFr I_52 I_57 := h_57.2.2.2.2.1
                have xrI_57 := h_57.2.2.2.2.2.1
                have yI_57 := h_57.2.2.2.2.2.2
                have tkI_57 : zTK I_57 cd vl T := zTK_f tkI_52 fsI_57
                have frI_57 : zFr Ia I_57 := zFr_tr frI_52 fsI_57
                refine ww_if_ne hX (pc := 60) (tgt := 65) dX7_takeTerm_60 (by decide) (fun h_60 => ?_) (fun h_60 => ?_)
                · simp only [w32_mod] at h_60
                  refine ww_aload_n hX (pc := 65) dX7_takeTerm_65 rfl ?_
                  refine ww_iload_n hX (pc := 66) dX7_takeTerm_66 rfl ?_
                  refine sI1 hX (pc := 67) sX7_107 (c6_X7_stepOf l0) (by omega) (Nat.le_refl 0) (Nat.le_refl 0) (Nat.le_of_ble_eq_true rfl) dX7_takeTerm_67 (fun x_67 I_67 J_67 h_67 => ?_)
                  obtain ⟨rfl, rfl, h_67⟩ := h_67
                  refine vV1 hX (pc := 70) sX7_101 (xs_10 hL) (c6_X7_step l0 hL (XI_kp hI kI_57 (by decide)) lI_57 (by omega) (by omega)) (by omega) (Nat.le_refl 0) (Nat.le_refl 0) (Nat.le_of_ble_eq_true rfl) dX7_takeTerm_70 (fun I_70 J_70 h_70 => ?_)
                  have kI_70 : Kp 10 15 Ia I_70 := Kp_tr kI_57 (Kp_wd h_70.1 (by decide) (by decide))
                  have kJ_70 : Kp 10 15 Ja J_70 := Kp_tr kJ_57 (Kp_wd h_70.2.1 (by decide) (by decide))
                  have r1_5_I_70 : I_70 1 5 = Ia 1 5 := Kp_at kI_70 1 5 (by decide)
                  have r8_1_I_70 : I_70 8 1 = Ia 8 1 := Kp_at kI_70 8 1 (by decide)
                  have rf_I_70 : FU (I_70 1 5) = FU (Ia 1 5) := by rw [r1_5_I_70]
                  have lI_70 : LR I_70 := h_70.2.2.1
                  have qI_70 := lI_70.1
                  unfold LRf at qI_70
                  have cI_70 := h_70.2.2.2.1
                  have fsI_70 : zFr I_57 I_70 := h_70.2.2.2.2.1
                  have xrI_70 := h_70.2.2.2.2.2.1
                  have yI_70 := h_70.2.2.2.2.2.2
                  have tkI_70 : zTK I_70 cd vl T := zTK_f tkI_57 fsI_70
                  have frI_70 : zFr Ia I_70 := zFr_tr frI_57 fsI_70
                  refine ww_iinc hX (pc := 73) (lv' := [some (kR (some 10)), some (kI (8 - (m : Int))), some (kI (i + 1)), some (kI v_50)]) dX7_takeTerm_73 rfl (by decide) rfl rfl ?_
                  refine ww_goto hX (pc := 76) (tgt := 12) dX7_takeTerm_76 (by decide) ?_
                  refine ww_sub [some (kR (some 10)), some (kI (8 - (m : Int))), some (kI (i + 1)), none] (aLe_s (aLe_s (aLe_s (aLe_n aLe_0)))) ?_
                  exact ih_12 _ (by have hm9 := Sh0_e hq_12; omega) (i + 1) I_70 J_70 rfl ⟨kI_70, kJ_70, lI_70, by omega, by omega, frI_70, (zLI_j (m := (400 - (i + 1)).toNat) hk frI2 hok hrs (by omega) hc8 (by omega) fsI_52 yI_52 fsI_57 yI_57 (by omega) fsI_70 yI_70 h_67.1 (by rw [h_67.2 (by omega)]; omega) (fun _ _ => trivial))⟩
                · simp only [w32_mod] at h_60
                  refine ww_iconst hX (pc := 63) (x := 0) dX7_takeTerm_63 rfl ?_
                  refine rZ hX (pc := 64) hT (Nat.le_refl 0) (Nat.le_refl 0) dX7_takeTerm_64 (by decide) ?_
                  exact ⟨kI_57, kJ_57, lI_57, by omega, frI_57, by omega, (zLI_f (m := (400 - i).toNat - 1) frI_52.2.1 hrs (by omega) hc8 yI_57 (by omega) rfl)⟩
    exact hl_12 _ 0 I_2 J_2 rfl ⟨kI_2, kJ_2, lI_2, by omega, by omega, frI_2, zLI_0 yI_2 (by omega)⟩
  · simp only [w32_mod] at h_5
    refine ww_iconst hX (pc := 8) (x := 0) dX7_takeTerm_8 rfl ?_
    refine rZ hX (pc := 9) hT (Nat.le_refl 0) (Nat.le_refl 0) dX7_takeTerm_9 (by decide) ?_
    exact ⟨kI_2, kJ_2, lI_2, by omega, frI_2, by omega, (zPO_sf yI_2 (by omega) rfl)⟩
set_option maxHeartbeats 4000000 in
set_option maxRecDepth 20000 in
theorem c6_X7_takeSum (l0 : Launch) {m : Nat} (hm : m ≤ 8) (hrec : ∀ mp, m = mp + 1 → QSum l0 mp) {Ia Ja : aI1} {Ra : aR1} {Sa : aS1} (hL : LY Ra Sa) (hI : XI Ia) (hR : LR Ia) {cd vl : Nat → Int} {T t l : Nat} (hk : zTK Ia cd vl T) (ha : zAt Ia T t l)  : CT l0 (10 * m + 16) 0 0 mX7_takeSum [kR (some 10), kI (8 - (m : Int))] Ia Ja Ra Sa (cI (fun x I' J' => Kp 10 15 Ia I' ∧ Kp 10 15 Ja J' ∧ LR I' ∧ I' 10 11 = Ia 10 11 ∧ zFr Ia I' ∧ (x = 0 ∨ x = 1) ∧ zPO zTr Ia I' T t l x (zS cd vl m t l)) Ra Sa) := by
  refine ct_in pn_X7 (Nat.le_of_ble_eq_true rfl) (fun X hX hT hIn => ?_)
  have hX : aK l0 X cX7_takeSum 4 RX7 (some .boolean) (10 * m + 16) 0 0 := hX
  change WW X 0 [some (kR (some 10)), some (kI (8 - (m : Int))), none, none] [] Ia Ja Ra Sa 0 0
  obtain ⟨hn1, hn2⟩ := hI.1
  obtain ⟨hk1, hk2⟩ := hI.2.1
  obtain ⟨hf1, hf2⟩ := hI.fu
  obtain ⟨hl1, hl2⟩ := hI.2.2.2.2.2.2.1
  have hq := hR.1
  unfold LRf at hq
  refine ww_aload_n hX (pc := 0) dX7_takeSum_0 rfl ?_
  refine ww_iload_n hX (pc := 1) dX7_takeSum_1 rfl ?_
  refine vI1 hX (pc := 2) sX7_110 (xs_10 hL) (c6_X7_takeTerm l0 (m := m) hm hrec hL hI hR hk ha) (by omega) (Nat.le_refl 0) (Nat.le_refl 0) (Nat.le_of_ble_eq_true rfl) dX7_takeSum_2 (fun x_2 I_2 J_2 h_2 => ?_)
  have kI_2 : Kp 10 15 Ia I_2 := Kp_tr (Kp_rf (a := 10) (b := 15)) (Kp_wd h_2.1 (by decide) (by decide))
  have kJ_2 : Kp 10 15 Ja J_2 := Kp_tr (Kp_rf (a := 10) (b := 15)) (Kp_wd h_2.2.1 (by decide) (by decide))
  have r1_5_I_2 : I_2 1 5 = Ia 1 5 := Kp_at kI_2 1 5 (by decide)
  have r8_1_I_2 : I_2 8 1 = Ia 8 1 := Kp_at kI_2 8 1 (by decide)
  have rf_I_2 : FU (I_2 1 5) = FU (Ia 1 5) := by rw [r1_5_I_2]
  have lI_2 : LR I_2 := h_2.2.2.1
  have qI_2 := lI_2.1
  unfold LRf at qI_2
  have cI_2 := h_2.2.2.2.1
  have fsI_2 : zFr Ia I_2 := h_2.2.2.2.2.1
  have xrI_2 := h_2.2.2.2.2.2.1
  have yI_2 := h_2.2.2.2.2.2.2
  have tkI_2 : zTK I_2 cd vl T := zTK_f hk fsI_2
  have frI_2 : zFr Ia I_2 := zFr_tr zFr_rf fsI_2
  refine ww_if_ne hX (pc := 5) (tgt := 10) dX7_takeSum_5 (by decide) (fun h_5 => ?_) (fun h_5 => ?_)
  · simp only [w32_mod] at h_5
    refine ww_iconst hX (pc := 10) (x := 0) dX7_takeSum_10 rfl ?_
    refine ww_istore_n hX (pc := 11) (lv' := [some (kR (some 10)), some (kI (8 - (m : Int))), some (kI 0), none]) dX7_takeSum_11 (by decide) rfl rfl ?_
    have hl_12 : ∀ (n_12 : Nat) (i : Int) (I2 : aI1) (J2 : aI1), (400 - i).toNat = n_12 → (Kp 10 15 Ia I2 ∧ Kp 10 15 Ja J2 ∧ LR I2 ∧ I2 10 11 = Ia 10 11 ∧ (0 ≤ i ∧ i ≤ 400) ∧ zFr Ia I2 ∧ zLI zTr (zTm (zSu cd vl m) cd vl) [143, 145] zJD cd (400 - i).toNat Ia I2 T t l (zS cd vl m t l)) → WW X 12 [some (kR (some 10)), some (kI (8 - (m : Int))), some (kI i), none] [] I2 J2 Ra Sa 0 0 := by
      intro n_12
      induction n_12 using Nat.strongRecOn with
      | ind n_12 ih_12 =>
        intro i I2 J2 hm_12 hv_12
        have hq_12 := Sh0_i hm_12
        clear hm_12
        obtain ⟨kI2, kJ2, lI2, cI2, hi, frI2, hli⟩ := hv_12
        have r1_5_I2 : I2 1 5 = Ia 1 5 := Kp_at kI2 1 5 (by decide)
        have r8_1_I2 : I2 8 1 = Ia 8 1 := Kp_at kI2 8 1 (by decide)
        have rf_I2 : FU (I2 1 5) = FU (Ia 1 5) := by rw [r1_5_I2]
        have qI2 := lI2.1
        unfold LRf at qI2
        obtain ⟨q9, hok, hrs⟩ := hli
        have tkI2 : zTK I2 cd vl T := zTK_f hk frI2
        refine ww_iload_n hX (pc := 12) dX7_takeSum_12 rfl ?_
        refine ww_sipush hX (pc := 13) (x := 400) dX7_takeSum_13 (by decide) ?_
        refine ww_icmp_ge hX (pc := 16) (tgt := 70) dX7_takeSum_16 (by decide) (fun h_16 => ?_) (fun h_16 => ?_)
        · simp only [w32_mod] at h_16
          refine ww_iconst hX (pc := 70) (x := 1) dX7_takeSum_70 rfl ?_
          refine rZ hX (pc := 71) hT (Nat.le_refl 0) (Nat.le_refl 0) dX7_takeSum_71 (by decide) ?_
          exact ⟨kI2, kJ2, lI2, by omega, frI2, by omega, (zLI_e hok hrs (Or.inl (by omega)) rfl)⟩
        · simp only [w32_mod] at h_16
          refine ww_aload_n hX (pc := 19) dX7_takeSum_19 rfl ?_
          refine ww_getI hX (pc := 20) fX7_38 (by decide) (xs_10 hL) dX7_takeSum_20 ?_
          refine ww_bipush hX (pc := 23) (x := 43) dX7_takeSum_23 (by decide) ?_
          refine ww_icmp_eq hX (pc := 25) (tgt := 37) dX7_takeSum_25 (by decide) (fun h_25 => ?_) (fun h_25 => ?_)
          · simp only [w32_mod] at h_25
            have hc9 : cd q9.1 = 143 := (zK_b tkI2 hok.1 43 (by decide) (by decide)).mp (by omega)
            have hc8 : cd q9.1 ∈ [143, 145] := by rw [hc9]; decide
            refine ww_aload_n hX (pc := 37) dX7_takeSum_37 rfl ?_
            refine ww_getI hX (pc := 38) fX7_38 (by decide) (xs_10 hL) dX7_takeSum_38 ?_
            refine ww_nmI (fun v_41 hv_41 => ?_)
            refine ww_istore_n hX (pc := 41) (lv' := [some (kR (some 10)), some (kI (8 - (m : Int))), some (kI i), some (kI v_41)]) dX7_takeSum_41 (by decide) rfl rfl ?_
            refine ww_aload_n hX (pc := 42) dX7_takeSum_42 rfl ?_
            refine vV0 hX (pc := 43) sX7_71 (xs_10 hL) (c6_X7_advance l0 hL (XI_kp hI kI2 (by decide)) lI2) (by omega) (Nat.le_refl 0) (Nat.le_refl 0) (Nat.le_of_ble_eq_true rfl) dX7_takeSum_43 (fun I_43 J_43 h_43 => ?_)
            have kI_43 : Kp 10 15 Ia I_43 := Kp_tr kI2 (Kp_wd h_43.1 (by decide) (by decide))
            have kJ_43 : Kp 10 15 Ja J_43 := Kp_tr kJ2 (Kp_wd h_43.2.1 (by decide) (by decide))
            have r1_5_I_43 : I_43 1 5 = Ia 1 5 := Kp_at kI_43 1 5 (by decide)
            have r8_1_I_43 : I_43 8 1 = Ia 8 1 := Kp_at kI_43 8 1 (by decide)
            have rf_I_43 : FU (I_43 1 5) = FU (Ia 1 5) := by rw [r1_5_I_43]
            have lI_43 : LR I_43 := h_43.2.2.1
            have qI_43 := lI_43.1
            unfold LRf at qI_43
            have cI_43 := h_43.2.2.2.1
            have fsI_43 : zFr I2 I_43 := h_43.2.2.2.2.1
            have xrI_43 := h_43.2.2.2.2.2.1
            have yI_43 := h_43.2.2.2.2.2.2
            have tkI_43 : zTK I_43 cd vl T := zTK_f tkI2 fsI_43
            have frI_43 : zFr Ia I_43 := zFr_tr frI2 fsI_43
            have av43 := zAt_av tkI2 hok.1 (by omega) fsI_43 yI_43
            have at43 := av43.1
            refine ww_aload_n hX (pc := 46) dX7_takeSum_46 rfl ?_
            refine ww_iload_n hX (pc := 47) dX7_takeSum_47 rfl ?_
            refine vI1 hX (pc := 48) sX7_110 (xs_10 hL) (c6_X7_takeTerm l0 (m := m) hm hrec hL (XI_kp hI kI_43 (by decide)) lI_43 tkI_43 at43) (by omega) (Nat.le_refl 0) (Nat.le_refl 0) (Nat.le_of_ble_eq_true rfl) dX7_takeSum_48 (fun x_48 I_48 J_48 h_48 => ?_)
            have kI_48 : Kp 10 15 Ia I_48 := Kp_tr kI_43 (Kp_wd h_48.1 (by decide) (by decide))
            have kJ_48 : Kp 10 15 Ja J_48 := Kp_tr kJ_43 (Kp_wd h_48.2.1 (by decide) (by decide))
            have r1_5_I_48 : I_48 1 5 = Ia 1 5 := Kp_at kI_48 1 5 (by decide)
            have r8_1_I_48 : I_48 8 1 = Ia 8 1 := Kp_at kI_48 8 1 (by decide)
            have rf_I_48 : FU (I_48 1 5) = FU (Ia 1 5) := by rw [r1_5_I_48]
            have lI_48 : LR I_48 := h_48.2.2.1
            have qI_48 := lI_48.1
            unfold LRf at qI_48
            have cI_48 := h_48.2.2.2.1
            have fsI_48 : zFr I_43 I_48 := h_48.2.2.2.2.1
            have xrI_48 := h_48.2.2.2.2.2.1
            have yI_48 := h_48.2.2.2.2.2.2
            have tkI_48 : zTK I_48 cd vl T := zTK_f tkI_43 fsI_48
            have frI_48 : zFr Ia I_48 := zFr_tr frI_43 fsI_48
            refine ww_if_ne hX (pc := 51) (tgt := 56) dX7_takeSum_51 (by decide) (fun h_51 => ?_) (fun h_51 => ?_)
            · simp only [w32_mod] at h_51
              refine ww_aload_n hX (pc := 56) dX7_takeSum_56 rfl ?_
              refine ww_iload_n hX (pc := 57) dX7_takeSum_57 rfl ?_
              refine sI1 hX (pc := 58) sX7_107 (c6_X7_stepOf l0) (by omega) (Nat.le_refl 0) (Nat.le_refl 0) (Nat.le_of_ble_eq_true rfl) dX7_takeSum_58 (fun x_58 I_58 J_58 h_58 => ?_)
              obtain ⟨rfl, rfl, h_58⟩ := h_58
              refine vV1 hX (pc := 61) sX7_101 (xs_10 hL) (c6_X7_step l0 hL (XI_kp hI kI_48 (by decide)) lI_48 (by omega) (by omega)) (by omega) (Nat.le_refl 0) (Nat.le_refl 0) (Nat.le_of_ble_eq_true rfl) dX7_takeSum_61 (fun I_61 J_61 h_61 => ?_)
              have kI_61 : Kp 10 15 Ia I_61 := Kp_tr kI_48 (Kp_wd h_61.1 (by decide) (by decide))
              have kJ_61 : Kp 10 15 Ja J_61 := Kp_tr kJ_48 (Kp_wd h_61.2.1 (by decide) (by decide))
              have r1_5_I_61 : I_61 1 5 = Ia 1 5 := Kp_at kI_61 1 5 (by decide)
              have r8_1_I_61 : I_61 8 1 = Ia 8 1 := Kp_at kI_61 8 1 (by decide)
              have rf_I_61 : FU (I_61 1 5) = FU (Ia 1 5) := by rw [r1_5_I_61]
              have lI_61 : LR I_61 := h_61.2.2.1
              have qI_61 := lI_61.1
              unfold LRf at qI_61
              have cI_61 := h_61.2.2.2.1
              have fsI_61 : zFr I_48 I_61 := h_61.2.2.2.2.1
              have xrI_61 := h_61.2.2.2.2.2.1
              have yI_61 := h_61.2.2.2.2.2.2
              have tkI_61 : zTK I_61 cd vl T := zTK_f tkI_48 fsI_61
              have frI_61 : zFr Ia I_61 := zFr_tr frI_48 fsI_61
              refine ww_iinc hX (pc := 64) (lv' := [some (kR (some 10)), some (kI (8 - (m : Int))), some (kI (i + 1)), some (kI v_41)]) dX7_takeSum_64 rfl (by decide) rfl rfl ?_
              refine ww_goto hX (pc := 67) (tgt := 12) dX7_takeSum_67 (by decide) ?_
              refine ww_sub [some (kR (some 10)), some (kI (8 - (m : Int))), some (kI (i + 1)), none] (aLe_s (aLe_s (aLe_s (aLe_n aLe_0)))) ?_
              exact ih_12 _ (by have hm9 := Sh0_e hq_12; omega) (i + 1) I_61 J_61 rfl ⟨kI_61, kJ_61, lI_61, by omega, by omega, frI_61, (zLI_j (m := (400 - (i + 1)).toNat) hk frI2 hok hrs (by omega) hc8 (by omega) fsI_43 yI_43 fsI_48 yI_48 (by omega) fsI_61 yI_61 h_58.1 (by rw [h_58.2 (by omega)]; omega) (fun _ _ => trivial))⟩
            · simp only [w32_mod] at h_51
              refine ww_iconst hX (pc := 54) (x := 0) dX7_takeSum_54 rfl ?_
              refine rZ hX (pc := 55) hT (Nat.le_refl 0) (Nat.le_refl 0) dX7_takeSum_55 (by decide) ?_
              exact ⟨kI_48, kJ_48, lI_48, by omega, frI_48, by omega, (zLI_f (m := (400 - i).toNat - 1) frI_43.2.1 hrs (by omega) hc8 yI_48 (by omega) rfl)⟩
          · simp only [w32_mod] at h_25
            have hn0 : ¬ cd q9.1 = 143 := fun h9 => by
              have := (zK_b tkI2 hok.1 43 (by decide) (by decide)).mpr h9
              omega
            refine ww_aload_n hX (pc := 28) dX7_takeSum_28 rfl ?_
            refine ww_getI hX (pc := 29) fX7_38 (by decide) (xs_10 hL) dX7_takeSum_29 ?_
            refine ww_bipush hX (pc := 32) (x := 45) dX7_takeSum_32 (by decide) ?_
            refine ww_icmp_ne hX (pc := 34) (tgt := 70) dX7_takeSum_34 (by decide) (fun h_34 => ?_) (fun h_34 => ?_)
            · simp only [w32_mod] at h_34
              have hn1 : ¬ cd q9.1 = 145 := fun h9 => by
                have := (zK_b tkI2 hok.1 45 (by decide) (by decide)).mpr h9
                omega
              refine ww_iconst hX (pc := 70) (x := 1) dX7_takeSum_70 rfl ?_
              refine rZ hX (pc := 71) hT (Nat.le_refl 0) (Nat.le_refl 0) dX7_takeSum_71 (by decide) ?_
              exact ⟨kI2, kJ2, lI2, by omega, frI2, by omega, (zLI_e hok hrs (Or.inr (by simp [hn0, hn1])) rfl)⟩
            · simp only [w32_mod] at h_34
              have hc9 : cd q9.1 = 145 := (zK_b tkI2 hok.1 45 (by decide) (by decide)).mp (by omega)
              have hc8 : cd q9.1 ∈ [143, 145] := by rw [hc9]; decide
              refine ww_aload_n hX (pc := 37) dX7_takeSum_37 rfl ?_
              refine ww_getI hX (pc := 38) fX7_38 (by decide) (xs_10 hL) dX7_takeSum_38 ?_
              refine ww_nmI (fun v_41 hv_41 => ?_)
              refine ww_istore_n hX (pc := 41) (lv' := [some (kR (some 10)), some (kI (8 - (m : Int))), some (kI i), some (kI v_41)]) dX7_takeSum_41 (by decide) rfl rfl ?_
              refine ww_aload_n hX (pc := 42) dX7_takeSum_42 rfl ?_
              refine vV0 hX (pc := 43) sX7_71 (xs_10 hL) (c6_X7_advance l0 hL (XI_kp hI kI2 (by decide)) lI2) (by omega) (Nat.le_refl 0) (Nat.le_refl 0) (Nat.le_of_ble_eq_true rfl) dX7_takeSum_43 (fun I_43 J_43 h_43 => ?_)
              have kI_43 : Kp 10 15 Ia I_43 := Kp_tr kI2 (Kp_wd h_43.1 (by decide) (by decide))
              have kJ_43 : Kp 10 15 Ja J_43 := Kp_tr kJ2 (Kp_wd h_43.2.1 (by decide) (by decide))
              have r1_5_I_43 : I_43 1 5 = Ia 1 5 := Kp_at kI_43 1 5 (by decide)
              have r8_1_I_43 : I_43 8 1 = Ia 8 1 := Kp_at kI_43 8 1 (by decide)
              have rf_I_43 : FU (I_43 1 5) = FU (Ia 1 5) := by rw [r1_5_I_43]
              have lI_43 : LR I_43 := h_43.2.2.1
              have qI_43 := lI_43.1
              unfold LRf at qI_43
              have cI_43 := h_43.2.2.2.1
              have fsI_43 : zFr I2 I_43 := h_43.2.2.2.2.1
              have xrI_43 := h_43.2.2.2.2.2.1
              have yI_43 := h_43.2.2.2.2.2.2
              have tkI_43 : zTK I_43 cd vl T := zTK_f tkI2 fsI_43
              have frI_43 : zFr Ia I_43 := zFr_tr frI2 fsI_43
              have av43 := zAt_av tkI2 hok.1 (by omega) fsI_43 yI_43
              have at43 := av43.1
              refine ww_aload_n hX (pc := 46) dX7_takeSum_46 rfl ?_
              refine ww_iload_n hX (pc := 47) dX7_takeSum_47 rfl ?_
              refine vI1 hX (pc := 48) sX7_110 (xs_10 hL) (c6_X7_takeTerm l0 (m := m) hm hrec hL (XI_kp hI kI_43 (by decide)) lI_43 tkI_43 at43) (by omega) (Nat.le_refl 0) (Nat.le_refl 0) (Nat.le_of_ble_eq_true rfl) dX7_takeSum_48 (fun x_48 I_48 J_48 h_48 => ?_)
              have kI_48 : Kp 10 15 Ia I_48 := Kp_tr kI_43 (Kp_wd h_48.1 (by decide) (by decide))
              have kJ_48 : Kp 10 15 Ja J_48 := Kp_tr kJ_43 (Kp_wd h_48.2.1 (by decide) (by decide))
              have r1_5_I_48 : I_48 1 5 = Ia 1 5 := Kp_at kI_48 1 5 (by decide)
              have r8_1_I_48 : I_48 8 1 = Ia 8 1 := Kp_at kI_48 8 1 (by decide)
              have rf_I_48 : FU (I_48 1 5) = FU (Ia 1 5) := by rw [r1_5_I_48]
              have lI_48 : LR I_48 := h_48.2.2.1
              have qI_48 := lI_48.1
              unfold LRf at qI_48
              have cI_48 := h_48.2.2.2.1
              have fsI_48 : zFr I_43 I_48 := h_48.2.2.2.2.1
              have xrI_48 := h_48.2.2.2.2.2.1
              have yI_48 := h_48.2.2.2.2.2.2
              have tkI_48 : zTK I_48 cd vl T := zTK_f tkI_43 fsI_48
              have frI_48 : zFr Ia I_48 := zFr_tr frI_43 fsI_48
              refine ww_if_ne hX (pc := 51) (tgt := 56) dX7_takeSum_51 (by decide) (fun h_51 => ?_) (fun h_51 => ?_)
              · simp only [w32_mod] at h_51
                refine ww_aload_n hX (pc := 56) dX7_takeSum_56 rfl ?_
                refine ww_iload_n hX (pc := 57) dX7_takeSum_57 rfl ?_
                refine sI1 hX (pc := 58) sX7_107 (c6_X7_stepOf l0) (by omega) (Nat.le_refl 0) (Nat.le_refl 0) (Nat.le_of_ble_eq_true rfl) dX7_takeSum_58 (fun x_58 I_58 J_58 h_58 => ?_)
                obtain ⟨rfl, rfl, h_58⟩ := h_58
                refine vV1 hX (pc := 61) sX7_101 (xs_10 hL) (c6_X7_step l0 hL (XI_kp hI kI_48 (by decide)) lI_48 (by omega) (by omega)) (by omega) (Nat.le_refl 0) (Nat.le_refl 0) (Nat.le_of_ble_eq_true rfl) dX7_takeSum_61 (fun I_61 J_61 h_61 => ?_)
                have kI_61 : Kp 10 15 Ia I_61 := Kp_tr kI_48 (Kp_wd h_61.1 (by decide) (by decide))
                have kJ_61 : Kp 10 15 Ja J_61 := Kp_tr kJ_48 (Kp_wd h_61.2.1 (by decide) (by decide))
                have r1_5_I_61 : I_61 1 5 = Ia 1 5 := Kp_at kI_61 1 5 (by decide)
                have r8_1_I_61 : I_61 8 1 = Ia 8 1 := Kp_at kI_61 8 1 (by decide)
                have rf_I_61 : FU (I_61 1 5) = FU (Ia 1 5) := by rw [r1_5_I_61]
                have lI_61 : LR I_61 := h_61.2.2.1
                have qI_61 := lI_61.1
                unfold LRf at qI_61
                have cI_61 := h_61.2.2.2.1
                have fsI_61 : zFr I_48 I_61 := h_61.2.2.2.2.1
                have xrI_61 := h_61.2.2.2.2.2.1
                have yI_61 := h_61.2.2.2.2.2.2
                have tkI_61 : zTK I_61 cd vl T := zTK_f tkI_48 fsI_61
                have frI_61 : zFr Ia I_61 := zFr_tr frI_48 fsI_61
                refine ww_iinc hX (pc := 64) (lv' := [some (kR (some 10)), some (kI (8 - (m : Int))), some (kI (i + 1)), some (kI v_41)]) dX7_takeSum_64 rfl (by decide) rfl rfl ?_
                refine ww_goto hX (pc := 67) (tgt := 12) dX7_takeSum_67 (by decide) ?_
                refine ww_sub [some (kR (some 10)), some (kI (8 - (m : Int))), some (kI (i + 1)), none] (aLe_s (aLe_s (aLe_s (aLe_n aLe_0)))) ?_
                exact ih_12 _ (by have hm9 := Sh0_e hq_12; omega) (i + 1) I_61 J_61 rfl ⟨kI_61, kJ_61, lI_61, by omega, by omega, frI_61, (zLI_j (m := (400 - (i + 1)).toNat) hk frI2 hok hrs (by omega) hc8 (by omega) fsI_43 yI_43 fsI_48 yI_48 (by omega) fsI_61 yI_61 h_58.1 (by rw [h_58.2 (by omega)]; omega) (fun _ _ => trivial))⟩
              · simp only [w32_mod] at h_51
                refine ww_iconst hX (pc := 54) (x := 0) dX7_takeSum_54 rfl ?_
                refine rZ hX (pc := 55) hT (Nat.le_refl 0) (Nat.le_refl 0) dX7_takeSum_55 (by decide) ?_
                exact ⟨kI_48, kJ_48, lI_48, by omega, frI_48, by omega, (zLI_f (m := (400 - i).toNat - 1) frI_43.2.1 hrs (by omega) hc8 yI_48 (by omega) rfl)⟩
    exact hl_12 _ 0 I_2 J_2 rfl ⟨kI_2, kJ_2, lI_2, by omega, by omega, frI_2, zLI_0 yI_2 (by omega)⟩
  · simp only [w32_mod] at h_5
    refine ww_iconst hX (pc := 8) (x := 0) dX7_takeSum_8 rfl ?_
    refine rZ hX (pc := 9) hT (Nat.le_refl 0) (Nat.le_refl 0) dX7_takeSum_9 (by decide) ?_
    exact ⟨kI_2, kJ_2, lI_2, by omega, frI_2, by omega, (zPO_sf yI_2 (by omega) rfl)⟩
theorem c_QSum (l0 : Launch) : ∀ m : Nat, m ≤ 8 → QSum l0 m
  | 0, h => fun hL hI hR _ _ _ _ _ hk ha => c6_X7_takeSum l0 (m := 0) h (fun mp e => absurd e (by omega)) hL hI hR hk ha
  | m + 1, h => fun hL hI hR _ _ _ _ _ hk ha => c6_X7_takeSum l0 (m := m + 1) h (fun mp e => by
      obtain rfl : m = mp := by omega
      exact c_QSum l0 m (by omega)) hL hI hR hk ha
