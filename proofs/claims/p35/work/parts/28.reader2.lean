set_option maxHeartbeats 4000000 in
set_option maxRecDepth 20000 in
theorem c_X7_fail (l0 : Launch) {Ia Ja : aI1} {Ra : aR1} {Sa : aS1} (hL : LY Ra Sa) (hI : XI Ia) (hR : LR Ia)  : CT l0 0 0 0 mX7_fail [kR (some 10)] Ia Ja Ra Sa (cI (fun x I' J' => Kp 10 15 Ia I' ∧ Kp 10 15 Ja J' ∧ LR I' ∧ I' 10 11 = Ia 10 11 ∧ x = 0) Ra Sa) := by
  refine ct_in pn_X7 (Nat.le_of_ble_eq_true rfl) (fun X hX hT hIn => ?_)
  have hX : aK l0 X cX7_fail 1 RX7 (some .boolean) 0 0 0 := hX
  change WW X 0 [some (kR (some 10))] [] Ia Ja Ra Sa 0 0
  obtain ⟨hn1, hn2⟩ := hI.1
  obtain ⟨hk1, hk2⟩ := hI.2.1
  obtain ⟨hf1, hf2⟩ := hI.fu
  obtain ⟨hl1, hl2⟩ := hI.2.2.2.2.2.2.1
  have hq := hR.1
  unfold LRf at hq
  refine ww_aload_n hX (pc := 0) dX7_fail_0 rfl ?_
  refine ww_aload_n hX (pc := 1) dX7_fail_1 rfl ?_
  refine ww_getR hX (pc := 2) fX7_19 (by decide) (xs_10 hL) (xr_10_3 hL) dX7_fail_2 ?_
  refine ww_aload_n hX (pc := 5) dX7_fail_5 rfl ?_
  refine ww_getI hX (pc := 6) fX7_35 (by decide) (xs_10 hL) dX7_fail_6 ?_
  refine ww_iald hX (pc := 9) (xs_12 hL) (by decide) (by omega) (by omega) dX7_fail_9 ?_
  refine ww_putI hX (pc := 10) (fun h9 => absurd h9 (by decide)) gX7_9 rfl (xs_10 hL) dX7_fail_10 ?_
  refine ww_nmH (fun I_10 eI_10 => ?_)
  have kI_10 : Kp 10 15 Ia I_10 := by rw [eI_10]; exact Kp_up (Kp_rf (a := 10) (b := 15)) _ _ (by decide)
  have r1_5_I_10 : I_10 1 5 = Ia 1 5 := Kp_at kI_10 1 5 (by decide)
  have r8_1_I_10 : I_10 8 1 = Ia 8 1 := Kp_at kI_10 8 1 (by decide)
  have rf_I_10 : FU (I_10 1 5) = FU (Ia 1 5) := by rw [r1_5_I_10]
  have lI_10 : LR I_10 := by rw [eI_10]; exact LR_0 hR
  have wI_10 := (congrFun (congrFun eI_10 10) 0).trans (up2_s _ _ _ _)
  have wI_10_6 : I_10 10 6 = Ia 10 6 := by rw [eI_10, up2_n _ _ (Or.inr (by decide))]
  have wI_10_7 : I_10 10 7 = Ia 10 7 := by rw [eI_10, up2_n _ _ (Or.inr (by decide))]
  have wI_10_8 : I_10 10 8 = Ia 10 8 := by rw [eI_10, up2_n _ _ (Or.inr (by decide))]
  have wI_10_9 : I_10 10 9 = Ia 10 9 := by rw [eI_10, up2_n _ _ (Or.inr (by decide))]
  have wI_10_10 : I_10 10 10 = Ia 10 10 := by rw [eI_10, up2_n _ _ (Or.inr (by decide))]
  have wI_10_11 : I_10 10 11 = Ia 10 11 := by rw [eI_10, up2_n _ _ (Or.inr (by decide))]
  refine ww_iconst hX (pc := 13) (x := 0) dX7_fail_13 rfl ?_
  refine rZ hX (pc := 14) hT (Nat.le_refl 0) (Nat.le_refl 0) dX7_fail_14 (by decide) ?_
  exact ⟨kI_10, (Kp_rf (a := 10) (b := 15)), lI_10, by omega, rfl⟩
set_option maxHeartbeats 4000000 in
set_option maxRecDepth 20000 in
theorem c_X7_step (l0 : Launch) {Ia Ja : aI1} {Ra : aR1} {Sa : aS1} (hL : LY Ra Sa) (hI : XI Ia) (hR : LR Ia) {a : Int} (ha0 : -10000 ≤ a) (ha1 : a ≤ 10000)  : CT l0 0 0 0 mX7_step [kR (some 10), kI a] Ia Ja Ra Sa (cV (fun I' J' => Kp 10 15 Ia I' ∧ Kp 10 15 Ja J' ∧ LR I' ∧ I' 10 11 = Ia 10 11) Ra Sa) := by
  refine ct_in pn_X7 (Nat.le_of_ble_eq_true rfl) (fun X hX hT hIn => ?_)
  have hX : aK l0 X cX7_step 2 RX7 none 0 0 0 := hX
  change WW X 0 [some (kR (some 10)), some (kI a)] [] Ia Ja Ra Sa 0 0
  obtain ⟨hn1, hn2⟩ := hI.1
  obtain ⟨hk1, hk2⟩ := hI.2.1
  obtain ⟨hf1, hf2⟩ := hI.fu
  obtain ⟨hl1, hl2⟩ := hI.2.2.2.2.2.2.1
  have hq := hR.1
  unfold LRf at hq
  refine ww_aload_n hX (pc := 0) dX7_step_0 rfl ?_
  refine ww_getI hX (pc := 1) fX7_41 (by decide) (xs_10 hL) dX7_step_1 ?_
  refine ww_sipush hX (pc := 4) (x := 400) dX7_step_4 (by decide) ?_
  refine ww_icmp_ge hX (pc := 7) (tgt := 30) dX7_step_7 (by decide) (fun h_7 => ?_) (fun h_7 => ?_)
  · simp only [w32_mod] at h_7
    refine rV hX (pc := 30) hT (Nat.le_refl 0) (Nat.le_refl 0) dX7_step_30 ?_
    exact ⟨(Kp_rf (a := 10) (b := 15)), (Kp_rf (a := 10) (b := 15)), hR, by omega⟩
  · simp only [w32_mod] at h_7
    refine ww_aload_n hX (pc := 10) dX7_step_10 rfl ?_
    refine ww_getR hX (pc := 11) fX7_22 (by decide) (xs_10 hL) (xr_10_4 hL) dX7_step_11 ?_
    refine ww_aload_n hX (pc := 14) dX7_step_14 rfl ?_
    refine ww_getI hX (pc := 15) fX7_41 (by decide) (xs_10 hL) dX7_step_15 ?_
    refine ww_iload_n hX (pc := 18) dX7_step_18 rfl ?_
    refine ww_iast hX (pc := 19) (xs_13 hL) (by decide) (by omega) (by omega) dX7_step_19 ?_
    refine ww_nmH (fun I_19 eI_19 => ?_)
    have kI_19 : Kp 10 15 Ia I_19 := by rw [eI_19]; exact Kp_up (Kp_rf (a := 10) (b := 15)) _ _ (by decide)
    have r1_5_I_19 : I_19 1 5 = Ia 1 5 := Kp_at kI_19 1 5 (by decide)
    have r8_1_I_19 : I_19 8 1 = Ia 8 1 := Kp_at kI_19 8 1 (by decide)
    have rf_I_19 : FU (I_19 1 5) = FU (Ia 1 5) := by rw [r1_5_I_19]
    have lI_19 : LR I_19 := by rw [eI_19]; exact LR_c13 hR _ (by omega) (by omega)
    have wI_19 : I_19 10 = Ia 10 := by rw [eI_19, up2_off _ _ _ (by decide)]
    have wI_19_6 : I_19 10 6 = Ia 10 6 := by rw [wI_19]
    have wI_19_7 : I_19 10 7 = Ia 10 7 := by rw [wI_19]
    have wI_19_8 : I_19 10 8 = Ia 10 8 := by rw [wI_19]
    have wI_19_9 : I_19 10 9 = Ia 10 9 := by rw [wI_19]
    have wI_19_10 : I_19 10 10 = Ia 10 10 := by rw [wI_19]
    have wI_19_11 : I_19 10 11 = Ia 10 11 := by rw [wI_19]
    refine ww_aload_n hX (pc := 20) dX7_step_20 rfl ?_
    refine ww_dupR hX (pc := 21) dX7_step_21 ?_
    refine ww_getI hX (pc := 22) fX7_41 (by decide) (xs_10 hL) dX7_step_22 ?_
    refine ww_iconst hX (pc := 25) (x := 1) dX7_step_25 rfl ?_
    refine ww_iadd hX (pc := 26) dX7_step_26 ?_
    refine ww_putI hX (pc := 27) (fun h9 => absurd h9 (by decide)) gX7_41 rfl (xs_10 hL) dX7_step_27 ?_
    refine ww_nmH (fun I_27 eI_27 => ?_)
    have kI_27 : Kp 10 15 Ia I_27 := by rw [eI_27]; exact Kp_up kI_19 _ _ (by decide)
    have r1_5_I_27 : I_27 1 5 = Ia 1 5 := Kp_at kI_27 1 5 (by decide)
    have r8_1_I_27 : I_27 8 1 = Ia 8 1 := Kp_at kI_27 8 1 (by decide)
    have rf_I_27 : FU (I_27 1 5) = FU (Ia 1 5) := by rw [r1_5_I_27]
    have lI_27 : LR I_27 := by rw [eI_27]; exact LR_9 lI_19 (by omega) (by omega)
    have wI_27 := (congrFun (congrFun eI_27 10) 9).trans (up2_s _ _ _ _)
    have wI_27_6 : I_27 10 6 = I_19 10 6 := by rw [eI_27, up2_n _ _ (Or.inr (by decide))]
    have wI_27_7 : I_27 10 7 = I_19 10 7 := by rw [eI_27, up2_n _ _ (Or.inr (by decide))]
    have wI_27_8 : I_27 10 8 = I_19 10 8 := by rw [eI_27, up2_n _ _ (Or.inr (by decide))]
    have wI_27_10 : I_27 10 10 = I_19 10 10 := by rw [eI_27, up2_n _ _ (Or.inr (by decide))]
    have wI_27_11 : I_27 10 11 = I_19 10 11 := by rw [eI_27, up2_n _ _ (Or.inr (by decide))]
    refine rV hX (pc := 30) hT (Nat.le_refl 0) (Nat.le_refl 0) dX7_step_30 ?_
    exact ⟨kI_27, (Kp_rf (a := 10) (b := 15)), lI_27, by omega⟩
set_option maxHeartbeats 4000000 in
set_option maxRecDepth 20000 in
theorem c_X7_openSkip (l0 : Launch) {Ia Ja : aI1} {Ra : aR1} {Sa : aS1} (hL : LY Ra Sa) (hI : XI Ia) (hR : LR Ia) {a : Int} (ha0 : -10000 ≤ a) (ha1 : a ≤ 10000)  : CT l0 1 0 0 mX7_openSkip [kR (some 10), kI a] Ia Ja Ra Sa (cI (fun x I' J' => Kp 10 15 Ia I' ∧ Kp 10 15 Ja J' ∧ LR I' ∧ I' 10 11 = Ia 10 11 ∧ (-1 ≤ x ∧ x ≤ 399)) Ra Sa) := by
  refine ct_in pn_X7 (Nat.le_of_ble_eq_true rfl) (fun X hX hT hIn => ?_)
  have hX : aK l0 X cX7_openSkip 2 RX7 (some .int) 1 0 0 := hX
  change WW X 0 [some (kR (some 10)), some (kI a)] [] Ia Ja Ra Sa 0 0
  obtain ⟨hn1, hn2⟩ := hI.1
  obtain ⟨hk1, hk2⟩ := hI.2.1
  obtain ⟨hf1, hf2⟩ := hI.fu
  obtain ⟨hl1, hl2⟩ := hI.2.2.2.2.2.2.1
  have hq := hR.1
  unfold LRf at hq
  refine ww_aload_n hX (pc := 0) dX7_openSkip_0 rfl ?_
  refine ww_iload_n hX (pc := 1) dX7_openSkip_1 rfl ?_
  refine vV1 hX (pc := 2) sX7_101 (xs_10 hL) (c_X7_step l0 hL hI hR (by omega) (by omega)) (by decide) (Nat.le_refl 0) (Nat.le_refl 0) (Nat.le_of_ble_eq_true rfl) dX7_openSkip_2 (fun I_2 J_2 h_2 => ?_)
  have kI_2 : Kp 10 15 Ia I_2 := Kp_tr (Kp_rf (a := 10) (b := 15)) (Kp_wd h_2.1 (by decide) (by decide))
  have kJ_2 : Kp 10 15 Ja J_2 := Kp_tr (Kp_rf (a := 10) (b := 15)) (Kp_wd h_2.2.1 (by decide) (by decide))
  have r1_5_I_2 : I_2 1 5 = Ia 1 5 := Kp_at kI_2 1 5 (by decide)
  have r8_1_I_2 : I_2 8 1 = Ia 8 1 := Kp_at kI_2 8 1 (by decide)
  have rf_I_2 : FU (I_2 1 5) = FU (Ia 1 5) := by rw [r1_5_I_2]
  have lI_2 : LR I_2 := h_2.2.2.1
  have qI_2 := lI_2.1
  unfold LRf at qI_2
  have cI_2 := h_2.2.2.2
  refine ww_aload_n hX (pc := 5) dX7_openSkip_5 rfl ?_
  refine ww_iconst hX (pc := 6) (x := 0) dX7_openSkip_6 rfl ?_
  refine vV1 hX (pc := 7) sX7_101 (xs_10 hL) (c_X7_step l0 hL (XI_kp hI kI_2 (by decide)) lI_2 (by omega) (by omega)) (by decide) (Nat.le_refl 0) (Nat.le_refl 0) (Nat.le_of_ble_eq_true rfl) dX7_openSkip_7 (fun I_7 J_7 h_7 => ?_)
  have kI_7 : Kp 10 15 Ia I_7 := Kp_tr kI_2 (Kp_wd h_7.1 (by decide) (by decide))
  have kJ_7 : Kp 10 15 Ja J_7 := Kp_tr kJ_2 (Kp_wd h_7.2.1 (by decide) (by decide))
  have r1_5_I_7 : I_7 1 5 = Ia 1 5 := Kp_at kI_7 1 5 (by decide)
  have r8_1_I_7 : I_7 8 1 = Ia 8 1 := Kp_at kI_7 8 1 (by decide)
  have rf_I_7 : FU (I_7 1 5) = FU (Ia 1 5) := by rw [r1_5_I_7]
  have lI_7 : LR I_7 := h_7.2.2.1
  have qI_7 := lI_7.1
  unfold LRf at qI_7
  have cI_7 := h_7.2.2.2
  refine ww_aload_n hX (pc := 10) dX7_openSkip_10 rfl ?_
  refine ww_getI hX (pc := 11) fX7_41 (by decide) (xs_10 hL) dX7_openSkip_11 ?_
  refine ww_iconst hX (pc := 14) (x := 1) dX7_openSkip_14 rfl ?_
  refine ww_isub hX (pc := 15) dX7_openSkip_15 ?_
  refine rI hX (pc := 16) hT (Nat.le_refl 0) (Nat.le_refl 0) dX7_openSkip_16 ?_
  exact ⟨kI_7, kJ_7, lI_7, by omega, by omega⟩
set_option maxHeartbeats 4000000 in
set_option maxRecDepth 20000 in
theorem c_X7_closeSkip (l0 : Launch) {Ia Ja : aI1} {Ra : aR1} {Sa : aS1} (hL : LY Ra Sa) (hI : XI Ia) (hR : LR Ia) {a : Int} (ha0 : -2147483648 ≤ a) (ha1 : a < 2147483648)  : CT l0 0 0 0 mX7_closeSkip [kR (some 10), kI a] Ia Ja Ra Sa (cV (fun I' J' => Kp 10 15 Ia I' ∧ Kp 10 15 Ja J' ∧ LR I' ∧ I' 10 11 = Ia 10 11) Ra Sa) := by
  refine ct_in pn_X7 (Nat.le_of_ble_eq_true rfl) (fun X hX hT hIn => ?_)
  have hX : aK l0 X cX7_closeSkip 2 RX7 none 0 0 0 := hX
  change WW X 0 [some (kR (some 10)), some (kI a)] [] Ia Ja Ra Sa 0 0
  obtain ⟨hn1, hn2⟩ := hI.1
  obtain ⟨hk1, hk2⟩ := hI.2.1
  obtain ⟨hf1, hf2⟩ := hI.fu
  obtain ⟨hl1, hl2⟩ := hI.2.2.2.2.2.2.1
  have hq := hR.1
  unfold LRf at hq
  refine ww_iload_n hX (pc := 0) dX7_closeSkip_0 rfl ?_
  refine ww_if_lt hX (pc := 1) (tgt := 21) dX7_closeSkip_1 (by decide) (fun h_1 => ?_) (fun h_1 => ?_)
  · simp only [w32_mod] at h_1
    refine rV hX (pc := 21) hT (Nat.le_refl 0) (Nat.le_refl 0) dX7_closeSkip_21 ?_
    exact ⟨(Kp_rf (a := 10) (b := 15)), (Kp_rf (a := 10) (b := 15)), hR, by omega⟩
  · simp only [w32_mod] at h_1
    refine ww_iload_n hX (pc := 4) dX7_closeSkip_4 rfl ?_
    refine ww_sipush hX (pc := 5) (x := 400) dX7_closeSkip_5 (by decide) ?_
    refine ww_icmp_ge hX (pc := 8) (tgt := 21) dX7_closeSkip_8 (by decide) (fun h_8 => ?_) (fun h_8 => ?_)
    · simp only [w32_mod] at h_8
      refine rV hX (pc := 21) hT (Nat.le_refl 0) (Nat.le_refl 0) dX7_closeSkip_21 ?_
      exact ⟨(Kp_rf (a := 10) (b := 15)), (Kp_rf (a := 10) (b := 15)), hR, by omega⟩
    · simp only [w32_mod] at h_8
      refine ww_aload_n hX (pc := 11) dX7_closeSkip_11 rfl ?_
      refine ww_getR hX (pc := 12) fX7_22 (by decide) (xs_10 hL) (xr_10_4 hL) dX7_closeSkip_12 ?_
      refine ww_iload_n hX (pc := 15) dX7_closeSkip_15 rfl ?_
      refine ww_aload_n hX (pc := 16) dX7_closeSkip_16 rfl ?_
      refine ww_getI hX (pc := 17) fX7_41 (by decide) (xs_10 hL) dX7_closeSkip_17 ?_
      refine ww_iast hX (pc := 20) (xs_13 hL) (by decide) (by omega) (by omega) dX7_closeSkip_20 ?_
      refine ww_nmH (fun I_20 eI_20 => ?_)
      have kI_20 : Kp 10 15 Ia I_20 := by rw [eI_20]; exact Kp_up (Kp_rf (a := 10) (b := 15)) _ _ (by decide)
      have r1_5_I_20 : I_20 1 5 = Ia 1 5 := Kp_at kI_20 1 5 (by decide)
      have r8_1_I_20 : I_20 8 1 = Ia 8 1 := Kp_at kI_20 8 1 (by decide)
      have rf_I_20 : FU (I_20 1 5) = FU (Ia 1 5) := by rw [r1_5_I_20]
      have lI_20 : LR I_20 := by rw [eI_20]; exact LR_c13 hR _ (by omega) (by omega)
      have wI_20 : I_20 10 = Ia 10 := by rw [eI_20, up2_off _ _ _ (by decide)]
      have wI_20_6 : I_20 10 6 = Ia 10 6 := by rw [wI_20]
      have wI_20_7 : I_20 10 7 = Ia 10 7 := by rw [wI_20]
      have wI_20_8 : I_20 10 8 = Ia 10 8 := by rw [wI_20]
      have wI_20_9 : I_20 10 9 = Ia 10 9 := by rw [wI_20]
      have wI_20_10 : I_20 10 10 = Ia 10 10 := by rw [wI_20]
      have wI_20_11 : I_20 10 11 = Ia 10 11 := by rw [wI_20]
      refine rV hX (pc := 21) hT (Nat.le_refl 0) (Nat.le_refl 0) dX7_closeSkip_21 ?_
      exact ⟨kI_20, (Kp_rf (a := 10) (b := 15)), lI_20, by omega⟩
set_option maxHeartbeats 4000000 in
set_option maxRecDepth 20000 in
theorem c_X7_advance (l0 : Launch) {Ia Ja : aI1} {Ra : aR1} {Sa : aS1} (hL : LY Ra Sa) (hI : XI Ia) (hR : LR Ia)  : CT l0 1 0 0 mX7_advance [kR (some 10)] Ia Ja Ra Sa (cV (fun I' J' => Kp 10 15 Ia I' ∧ Kp 10 15 Ja J' ∧ LR I' ∧ I' 10 11 = Ia 10 11) Ra Sa) := by
  refine ct_in pn_X7 (Nat.le_of_ble_eq_true rfl) (fun X hX hT hIn => ?_)
  have hX : aK l0 X cX7_advance 1 RX7 none 1 0 0 := hX
  change WW X 0 [some (kR (some 10))] [] Ia Ja Ra Sa 0 0
  obtain ⟨hn1, hn2⟩ := hI.1
  obtain ⟨hk1, hk2⟩ := hI.2.1
  obtain ⟨hf1, hf2⟩ := hI.fu
  obtain ⟨hl1, hl2⟩ := hI.2.2.2.2.2.2.1
  have hq := hR.1
  unfold LRf at hq
  refine ww_aload_n hX (pc := 0) dX7_advance_0 rfl ?_
  refine ww_aload_n hX (pc := 1) dX7_advance_1 rfl ?_
  refine ww_getI hX (pc := 2) fX7_35 (by decide) (xs_10 hL) dX7_advance_2 ?_
  refine ww_iconst hX (pc := 5) (x := 1) dX7_advance_5 rfl ?_
  refine ww_iadd hX (pc := 6) dX7_advance_6 ?_
  refine ww_aload_n hX (pc := 7) dX7_advance_7 rfl ?_
  refine ww_getI hX (pc := 8) fX7_116 (by decide) (xs_10 hL) dX7_advance_8 ?_
  refine ww_mmin hX (pc := 11) tb_578 tb_579 tb_13 tb_580 (by decide) (Nat.le_refl 0) (Nat.le_refl 0) (Nat.le_of_ble_eq_true rfl) dX7_advance_11 ?_
  refine ww_toI (i_min_r (by omega) (by omega) (by omega) (by omega)) ?_
  refine ww_putI hX (pc := 14) (fun h9 => absurd h9 (by decide)) gX7_35 rfl (xs_10 hL) dX7_advance_14 ?_
  refine ww_nmH (fun I_14 eI_14 => ?_)
  have kI_14 : Kp 10 15 Ia I_14 := by rw [eI_14]; exact Kp_up (Kp_rf (a := 10) (b := 15)) _ _ (by decide)
  have r1_5_I_14 : I_14 1 5 = Ia 1 5 := Kp_at kI_14 1 5 (by decide)
  have r8_1_I_14 : I_14 8 1 = Ia 8 1 := Kp_at kI_14 8 1 (by decide)
  have rf_I_14 : FU (I_14 1 5) = FU (Ia 1 5) := by rw [r1_5_I_14]
  have lI_14 : LR I_14 := by rw [eI_14]; exact LR_7 hR (by omega) (by omega)
  have wI_14 := (congrFun (congrFun eI_14 10) 7).trans (up2_s _ _ _ _)
  have wI_14_6 : I_14 10 6 = Ia 10 6 := by rw [eI_14, up2_n _ _ (Or.inr (by decide))]
  have wI_14_8 : I_14 10 8 = Ia 10 8 := by rw [eI_14, up2_n _ _ (Or.inr (by decide))]
  have wI_14_9 : I_14 10 9 = Ia 10 9 := by rw [eI_14, up2_n _ _ (Or.inr (by decide))]
  have wI_14_10 : I_14 10 10 = Ia 10 10 := by rw [eI_14, up2_n _ _ (Or.inr (by decide))]
  have wI_14_11 : I_14 10 11 = Ia 10 11 := by rw [eI_14, up2_n _ _ (Or.inr (by decide))]
  refine ww_aload_n hX (pc := 17) dX7_advance_17 rfl ?_
  refine ww_aload_n hX (pc := 18) dX7_advance_18 rfl ?_
  refine ww_getR hX (pc := 19) fX7_15 (by decide) (xs_10 hL) (xr_10_2 hL) dX7_advance_19 ?_
  refine ww_aload_n hX (pc := 22) dX7_advance_22 rfl ?_
  refine ww_getI hX (pc := 23) fX7_35 (by decide) (xs_10 hL) dX7_advance_23 ?_
  refine ww_iald hX (pc := 26) (xs_11 hL) (by decide) (by omega) (by omega) dX7_advance_26 ?_
  have hkd := lI_14.2.1 (I_14 10 7).toNat (by omega)
  refine ww_putI hX (pc := 27) (fun h9 => absurd h9 (by decide)) gX7_38 rfl (xs_10 hL) dX7_advance_27 ?_
  refine ww_nmH (fun I_27 eI_27 => ?_)
  have kI_27 : Kp 10 15 Ia I_27 := by rw [eI_27]; exact Kp_up kI_14 _ _ (by decide)
  have r1_5_I_27 : I_27 1 5 = Ia 1 5 := Kp_at kI_27 1 5 (by decide)
  have r8_1_I_27 : I_27 8 1 = Ia 8 1 := Kp_at kI_27 8 1 (by decide)
  have rf_I_27 : FU (I_27 1 5) = FU (Ia 1 5) := by rw [r1_5_I_27]
  have lI_27 : LR I_27 := by rw [eI_27]; exact LR_8 lI_14 (by omega) (by omega)
  have wI_27 := (congrFun (congrFun eI_27 10) 8).trans (up2_s _ _ _ _)
  have wI_27_6 : I_27 10 6 = I_14 10 6 := by rw [eI_27, up2_n _ _ (Or.inr (by decide))]
  have wI_27_7 : I_27 10 7 = I_14 10 7 := by rw [eI_27, up2_n _ _ (Or.inr (by decide))]
  have wI_27_9 : I_27 10 9 = I_14 10 9 := by rw [eI_27, up2_n _ _ (Or.inr (by decide))]
  have wI_27_10 : I_27 10 10 = I_14 10 10 := by rw [eI_27, up2_n _ _ (Or.inr (by decide))]
  have wI_27_11 : I_27 10 11 = I_14 10 11 := by rw [eI_27, up2_n _ _ (Or.inr (by decide))]
  refine rV hX (pc := 30) hT (Nat.le_refl 0) (Nat.le_refl 0) dX7_advance_30 ?_
  exact ⟨kI_27, (Kp_rf (a := 10) (b := 15)), lI_27, by omega⟩
set_option maxHeartbeats 4000000 in
set_option maxRecDepth 20000 in
theorem c_X7_takeSign (l0 : Launch) {Ia Ja : aI1} {Ra : aR1} {Sa : aS1} (hL : LY Ra Sa) (hI : XI Ia) (hR : LR Ia) {a : Int} (ha0 : -2147483648 ≤ a) (ha1 : a < 2147483648)  : CT l0 2 0 0 mX7_takeSign [kR (some 10), kI a] Ia Ja Ra Sa (cI (fun x I' J' => Kp 10 15 Ia I' ∧ Kp 10 15 Ja J' ∧ LR I' ∧ I' 10 11 = Ia 10 11 ∧ (x = 0 ∨ x = 1)) Ra Sa) := by
  refine ct_in pn_X7 (Nat.le_of_ble_eq_true rfl) (fun X hX hT hIn => ?_)
  have hX : aK l0 X cX7_takeSign 2 RX7 (some .boolean) 2 0 0 := hX
  change WW X 0 [some (kR (some 10)), some (kI a)] [] Ia Ja Ra Sa 0 0
  obtain ⟨hn1, hn2⟩ := hI.1
  obtain ⟨hk1, hk2⟩ := hI.2.1
  obtain ⟨hf1, hf2⟩ := hI.fu
  obtain ⟨hl1, hl2⟩ := hI.2.2.2.2.2.2.1
  have hq := hR.1
  unfold LRf at hq
  refine ww_aload_n hX (pc := 0) dX7_takeSign_0 rfl ?_
  refine ww_getI hX (pc := 1) fX7_38 (by decide) (xs_10 hL) dX7_takeSign_1 ?_
  refine ww_iload_n hX (pc := 4) dX7_takeSign_4 rfl ?_
  refine ww_icmp_eq hX (pc := 5) (tgt := 13) dX7_takeSign_5 (by decide) (fun h_5 => ?_) (fun h_5 => ?_)
  · simp only [w32_mod] at h_5
    refine ww_aload_n hX (pc := 13) dX7_takeSign_13 rfl ?_
    refine vV0 hX (pc := 14) sX7_71 (xs_10 hL) (c_X7_advance l0 hL hI hR) (by decide) (Nat.le_refl 0) (Nat.le_refl 0) (Nat.le_of_ble_eq_true rfl) dX7_takeSign_14 (fun I_14 J_14 h_14 => ?_)
    have kI_14 : Kp 10 15 Ia I_14 := Kp_tr (Kp_rf (a := 10) (b := 15)) (Kp_wd h_14.1 (by decide) (by decide))
    have kJ_14 : Kp 10 15 Ja J_14 := Kp_tr (Kp_rf (a := 10) (b := 15)) (Kp_wd h_14.2.1 (by decide) (by decide))
    have r1_5_I_14 : I_14 1 5 = Ia 1 5 := Kp_at kI_14 1 5 (by decide)
    have r8_1_I_14 : I_14 8 1 = Ia 8 1 := Kp_at kI_14 8 1 (by decide)
    have rf_I_14 : FU (I_14 1 5) = FU (Ia 1 5) := by rw [r1_5_I_14]
    have lI_14 : LR I_14 := h_14.2.2.1
    have qI_14 := lI_14.1
    unfold LRf at qI_14
    have cI_14 := h_14.2.2.2
    refine ww_iconst hX (pc := 17) (x := 1) dX7_takeSign_17 rfl ?_
    refine rZ hX (pc := 18) hT (Nat.le_refl 0) (Nat.le_refl 0) dX7_takeSign_18 (by decide) ?_
    exact ⟨kI_14, kJ_14, lI_14, by omega, by omega⟩
  · simp only [w32_mod] at h_5
    refine ww_aload_n hX (pc := 8) dX7_takeSign_8 rfl ?_
    refine vI0 hX (pc := 9) sX7_68 (xs_10 hL) (c_X7_fail l0 hL hI hR) (by decide) (Nat.le_refl 0) (Nat.le_refl 0) (Nat.le_of_ble_eq_true rfl) dX7_takeSign_9 (fun x_9 I_9 J_9 h_9 => ?_)
    have kI_9 : Kp 10 15 Ia I_9 := Kp_tr (Kp_rf (a := 10) (b := 15)) (Kp_wd h_9.1 (by decide) (by decide))
    have kJ_9 : Kp 10 15 Ja J_9 := Kp_tr (Kp_rf (a := 10) (b := 15)) (Kp_wd h_9.2.1 (by decide) (by decide))
    have r1_5_I_9 : I_9 1 5 = Ia 1 5 := Kp_at kI_9 1 5 (by decide)
    have r8_1_I_9 : I_9 8 1 = Ia 8 1 := Kp_at kI_9 8 1 (by decide)
    have rf_I_9 : FU (I_9 1 5) = FU (Ia 1 5) := by rw [r1_5_I_9]
    have lI_9 : LR I_9 := h_9.2.2.1
    have qI_9 := lI_9.1
    unfold LRf at qI_9
    have cI_9 := h_9.2.2.2
    refine rZ hX (pc := 12) hT (Nat.le_refl 0) (Nat.le_refl 0) dX7_takeSign_12 (by omega) ?_
    exact ⟨kI_9, kJ_9, lI_9, by omega, by omega⟩
def PSum (l0 : Launch) (m : Nat) : Prop := ∀ {Ia Ja : aI1} {Ra : aR1} {Sa : aS1}, LY Ra Sa → XI Ia → LR Ia → CT l0 (10 * m + 16) 0 0 mX7_takeSum [kR (some 10), kI (8 - (m : Int))] Ia Ja Ra Sa (cI (fun x I' J' => Kp 10 15 Ia I' ∧ Kp 10 15 Ja J' ∧ LR I' ∧ I' 10 11 = Ia 10 11 ∧ (x = 0 ∨ x = 1)) Ra Sa)
def PTest (l0 : Launch) (m : Nat) : Prop := ∀ {Ia Ja : aI1} {Ra : aR1} {Sa : aS1}, LY Ra Sa → XI Ia → LR Ia → CT l0 (20 * m + 130) 0 0 mX7_takeTest [kR (some 10), kI (8 - (m : Int))] Ia Ja Ra Sa (cI (fun x I' J' => Kp 10 15 Ia I' ∧ Kp 10 15 Ja J' ∧ LR I' ∧ I' 10 11 = Ia 10 11 ∧ (x = 0 ∨ x = 1)) Ra Sa)
set_option maxHeartbeats 4000000 in
set_option maxRecDepth 20000 in
theorem c_X7_takePart (l0 : Launch) {m : Nat} (hm : m ≤ 8) (hrec : ∀ mp, m = mp + 1 → PSum l0 mp) {Ia Ja : aI1} {Ra : aR1} {Sa : aS1} (hL : LY Ra Sa) (hI : XI Ia) (hR : LR Ia)  : CT l0 (10 * m + 14) 0 0 mX7_takePart [kR (some 10), kI (8 - (m : Int))] Ia Ja Ra Sa (cI (fun x I' J' => Kp 10 15 Ia I' ∧ Kp 10 15 Ja J' ∧ LR I' ∧ I' 10 11 = Ia 10 11 ∧ (x = 0 ∨ x = 1)) Ra Sa) := by
  refine ct_in pn_X7 (Nat.le_of_ble_eq_true rfl) (fun X hX hT hIn => ?_)
  have hX : aK l0 X cX7_takePart 3 RX7 (some .boolean) (10 * m + 14) 0 0 := hX
  change WW X 0 [some (kR (some 10)), some (kI (8 - (m : Int))), none] [] Ia Ja Ra Sa 0 0
  obtain ⟨hn1, hn2⟩ := hI.1
  obtain ⟨hk1, hk2⟩ := hI.2.1
  obtain ⟨hf1, hf2⟩ := hI.fu
  obtain ⟨hl1, hl2⟩ := hI.2.2.2.2.2.2.1
  have hq := hR.1
  unfold LRf at hq
  refine ww_aload_n hX (pc := 0) dX7_takePart_0 rfl ?_
  refine ww_getI hX (pc := 1) fX7_38 (by decide) (xs_10 hL) dX7_takePart_1 ?_
  refine ww_bipush hX (pc := 4) (x := 91) dX7_takePart_4 (by decide) ?_
  refine ww_icmp_ne hX (pc := 6) (tgt := 49) dX7_takePart_6 (by decide) (fun h_6 => ?_) (fun h_6 => ?_)
  · simp only [w32_mod] at h_6
    refine ww_aload_n hX (pc := 49) dX7_takePart_49 rfl ?_
    refine ww_getI hX (pc := 50) fX7_38 (by decide) (xs_10 hL) dX7_takePart_50 ?_
    refine ww_if_lt hX (pc := 53) (tgt := 76) dX7_takePart_53 (by decide) (fun h_53 => ?_) (fun h_53 => ?_)
    · simp only [w32_mod] at h_53
      refine ww_iconst hX (pc := 76) (x := 1) dX7_takePart_76 rfl ?_
      refine ww_goto hX (pc := 77) (tgt := 81) dX7_takePart_77 (by decide) ?_
      refine ww_istore_n hX (pc := 81) (lv' := [some (kR (some 10)), some (kI (8 - (m : Int))), some (kI 1)]) dX7_takePart_81 (by decide) rfl rfl ?_
      refine ww_iload_n hX (pc := 82) dX7_takePart_82 rfl ?_
      refine ww_if_eq hX (pc := 83) (tgt := 95) dX7_takePart_83 (by decide) (fun h_83 => ?_) (fun h_83 => ?_)
      · simp only [w32_mod] at h_83
        refine ww_aload_n hX (pc := 95) dX7_takePart_95 rfl ?_
        refine vI0 hX (pc := 96) sX7_68 (xs_10 hL) (c_X7_fail l0 hL hI hR) (by omega) (Nat.le_refl 0) (Nat.le_refl 0) (Nat.le_of_ble_eq_true rfl) dX7_takePart_96 (fun x_96 I_96 J_96 h_96 => ?_)
        have kI_96 : Kp 10 15 Ia I_96 := Kp_tr (Kp_rf (a := 10) (b := 15)) (Kp_wd h_96.1 (by decide) (by decide))
        have kJ_96 : Kp 10 15 Ja J_96 := Kp_tr (Kp_rf (a := 10) (b := 15)) (Kp_wd h_96.2.1 (by decide) (by decide))
        have r1_5_I_96 : I_96 1 5 = Ia 1 5 := Kp_at kI_96 1 5 (by decide)
        have r8_1_I_96 : I_96 8 1 = Ia 8 1 := Kp_at kI_96 8 1 (by decide)
        have rf_I_96 : FU (I_96 1 5) = FU (Ia 1 5) := by rw [r1_5_I_96]
        have lI_96 : LR I_96 := h_96.2.2.1
        have qI_96 := lI_96.1
        unfold LRf at qI_96
        have cI_96 := h_96.2.2.2
        refine rZ hX (pc := 99) hT (Nat.le_refl 0) (Nat.le_refl 0) dX7_takePart_99 (by omega) ?_
        exact ⟨kI_96, kJ_96, lI_96, by omega, by omega⟩
      · simp only [w32_mod] at h_83
        refine ww_aload_n hX (pc := 86) dX7_takePart_86 rfl ?_
        refine ww_getI hX (pc := 87) fX7_44 (by decide) (xs_10 hL) dX7_takePart_87 ?_
        refine ww_bipush hX (pc := 90) (x := 50) dX7_takePart_90 (by decide) ?_
        refine ww_icmp_lt hX (pc := 92) (tgt := 100) dX7_takePart_92 (by decide) (fun h_92 => ?_) (fun h_92 => ?_)
        · simp only [w32_mod] at h_92
          refine ww_aload_n hX (pc := 100) dX7_takePart_100 rfl ?_
          refine ww_dupR hX (pc := 101) dX7_takePart_101 ?_
          refine ww_getI hX (pc := 102) fX7_44 (by decide) (xs_10 hL) dX7_takePart_102 ?_
          refine ww_iconst hX (pc := 105) (x := 1) dX7_takePart_105 rfl ?_
          refine ww_iadd hX (pc := 106) dX7_takePart_106 ?_
          refine ww_putI hX (pc := 107) (fun h9 => absurd h9 (by decide)) gX7_44 rfl (xs_10 hL) dX7_takePart_107 ?_
          refine ww_nmH (fun I_107 eI_107 => ?_)
          have kI_107 : Kp 10 15 Ia I_107 := by rw [eI_107]; exact Kp_up (Kp_rf (a := 10) (b := 15)) _ _ (by decide)
          have r1_5_I_107 : I_107 1 5 = Ia 1 5 := Kp_at kI_107 1 5 (by decide)
          have r8_1_I_107 : I_107 8 1 = Ia 8 1 := Kp_at kI_107 8 1 (by decide)
          have rf_I_107 : FU (I_107 1 5) = FU (Ia 1 5) := by rw [r1_5_I_107]
          have lI_107 : LR I_107 := by rw [eI_107]; exact LR_10 hR (by omega) (by omega)
          have wI_107 := (congrFun (congrFun eI_107 10) 10).trans (up2_s _ _ _ _)
          have wI_107_6 : I_107 10 6 = Ia 10 6 := by rw [eI_107, up2_n _ _ (Or.inr (by decide))]
          have wI_107_7 : I_107 10 7 = Ia 10 7 := by rw [eI_107, up2_n _ _ (Or.inr (by decide))]
          have wI_107_8 : I_107 10 8 = Ia 10 8 := by rw [eI_107, up2_n _ _ (Or.inr (by decide))]
          have wI_107_9 : I_107 10 9 = Ia 10 9 := by rw [eI_107, up2_n _ _ (Or.inr (by decide))]
          have wI_107_11 : I_107 10 11 = Ia 10 11 := by rw [eI_107, up2_n _ _ (Or.inr (by decide))]
          refine ww_aload_n hX (pc := 110) dX7_takePart_110 rfl ?_
          refine ww_aload_n hX (pc := 111) dX7_takePart_111 rfl ?_
          refine ww_getI hX (pc := 112) fX7_38 (by decide) (xs_10 hL) dX7_takePart_112 ?_
          refine ww_if_ge hX (pc := 115) (tgt := 125) dX7_takePart_115 (by decide) (fun h_115 => ?_) (fun h_115 => ?_)
          · simp only [w32_mod] at h_115
            refine ww_aload_n hX (pc := 125) dX7_takePart_125 rfl ?_
            refine ww_getI hX (pc := 126) fX7_38 (by decide) (xs_10 hL) dX7_takePart_126 ?_
            refine ww_sipush hX (pc := 129) (x := 300) dX7_takePart_129 (by decide) ?_
            refine ww_isub hX (pc := 132) dX7_takePart_132 ?_
            refine vV1 hX (pc := 133) sX7_101 (xs_10 hL) (c_X7_step l0 hL (XI_kp hI kI_107 (by decide)) lI_107 (by omega) (by omega)) (by omega) (Nat.le_refl 0) (Nat.le_refl 0) (Nat.le_of_ble_eq_true rfl) dX7_takePart_133 (fun I_133 J_133 h_133 => ?_)
            have kI_133 : Kp 10 15 Ia I_133 := Kp_tr kI_107 (Kp_wd h_133.1 (by decide) (by decide))
            have kJ_133 : Kp 10 15 Ja J_133 := Kp_tr (Kp_rf (a := 10) (b := 15)) (Kp_wd h_133.2.1 (by decide) (by decide))
            have r1_5_I_133 : I_133 1 5 = Ia 1 5 := Kp_at kI_133 1 5 (by decide)
            have r8_1_I_133 : I_133 8 1 = Ia 8 1 := Kp_at kI_133 8 1 (by decide)
            have rf_I_133 : FU (I_133 1 5) = FU (Ia 1 5) := by rw [r1_5_I_133]
            have lI_133 : LR I_133 := h_133.2.2.1
            have qI_133 := lI_133.1
            unfold LRf at qI_133
            have cI_133 := h_133.2.2.2
            refine ww_aload_n hX (pc := 136) dX7_takePart_136 rfl ?_
            refine vV0 hX (pc := 137) sX7_71 (xs_10 hL) (c_X7_advance l0 hL (XI_kp hI kI_133 (by decide)) lI_133) (by omega) (Nat.le_refl 0) (Nat.le_refl 0) (Nat.le_of_ble_eq_true rfl) dX7_takePart_137 (fun I_137 J_137 h_137 => ?_)
            have kI_137 : Kp 10 15 Ia I_137 := Kp_tr kI_133 (Kp_wd h_137.1 (by decide) (by decide))
            have kJ_137 : Kp 10 15 Ja J_137 := Kp_tr kJ_133 (Kp_wd h_137.2.1 (by decide) (by decide))
            have r1_5_I_137 : I_137 1 5 = Ia 1 5 := Kp_at kI_137 1 5 (by decide)
            have r8_1_I_137 : I_137 8 1 = Ia 8 1 := Kp_at kI_137 8 1 (by decide)
            have rf_I_137 : FU (I_137 1 5) = FU (Ia 1 5) := by rw [r1_5_I_137]
            have lI_137 : LR I_137 := h_137.2.2.1
            have qI_137 := lI_137.1
            unfold LRf at qI_137
            have cI_137 := h_137.2.2.2
            refine ww_iconst hX (pc := 140) (x := 1) dX7_takePart_140 rfl ?_
            refine rZ hX (pc := 141) hT (Nat.le_refl 0) (Nat.le_refl 0) dX7_takePart_141 (by decide) ?_
            exact ⟨kI_137, kJ_137, lI_137, by omega, by omega⟩
          · simp only [w32_mod] at h_115
            refine ww_aload_n hX (pc := 118) dX7_takePart_118 rfl ?_
            refine ww_getI hX (pc := 119) fX7_38 (by decide) (xs_10 hL) dX7_takePart_119 ?_
            refine ww_goto hX (pc := 122) (tgt := 133) dX7_takePart_122 (by decide) ?_
            refine vV1 hX (pc := 133) sX7_101 (xs_10 hL) (c_X7_step l0 hL (XI_kp hI kI_107 (by decide)) lI_107 (by omega) (by omega)) (by omega) (Nat.le_refl 0) (Nat.le_refl 0) (Nat.le_of_ble_eq_true rfl) dX7_takePart_133 (fun I_133 J_133 h_133 => ?_)
            have kI_133 : Kp 10 15 Ia I_133 := Kp_tr kI_107 (Kp_wd h_133.1 (by decide) (by decide))
            have kJ_133 : Kp 10 15 Ja J_133 := Kp_tr (Kp_rf (a := 10) (b := 15)) (Kp_wd h_133.2.1 (by decide) (by decide))
            have r1_5_I_133 : I_133 1 5 = Ia 1 5 := Kp_at kI_133 1 5 (by decide)
            have r8_1_I_133 : I_133 8 1 = Ia 8 1 := Kp_at kI_133 8 1 (by decide)
            have rf_I_133 : FU (I_133 1 5) = FU (Ia 1 5) := by rw [r1_5_I_133]
            have lI_133 : LR I_133 := h_133.2.2.1
            have qI_133 := lI_133.1
            unfold LRf at qI_133
            have cI_133 := h_133.2.2.2
            refine ww_aload_n hX (pc := 136) dX7_takePart_136 rfl ?_
            refine vV0 hX (pc := 137) sX7_71 (xs_10 hL) (c_X7_advance l0 hL (XI_kp hI kI_133 (by decide)) lI_133) (by omega) (Nat.le_refl 0) (Nat.le_refl 0) (Nat.le_of_ble_eq_true rfl) dX7_takePart_137 (fun I_137 J_137 h_137 => ?_)
            have kI_137 : Kp 10 15 Ia I_137 := Kp_tr kI_133 (Kp_wd h_137.1 (by decide) (by decide))
            have kJ_137 : Kp 10 15 Ja J_137 := Kp_tr kJ_133 (Kp_wd h_137.2.1 (by decide) (by decide))
            have r1_5_I_137 : I_137 1 5 = Ia 1 5 := Kp_at kI_137 1 5 (by decide)
            have r8_1_I_137 : I_137 8 1 = Ia 8 1 := Kp_at kI_137 8 1 (by decide)
            have rf_I_137 : FU (I_137 1 5) = FU (Ia 1 5) := by rw [r1_5_I_137]
            have lI_137 : LR I_137 := h_137.2.2.1
            have qI_137 := lI_137.1
            unfold LRf at qI_137
            have cI_137 := h_137.2.2.2
            refine ww_iconst hX (pc := 140) (x := 1) dX7_takePart_140 rfl ?_
            refine rZ hX (pc := 141) hT (Nat.le_refl 0) (Nat.le_refl 0) dX7_takePart_141 (by decide) ?_
            exact ⟨kI_137, kJ_137, lI_137, by omega, by omega⟩
        · simp only [w32_mod] at h_92
          refine ww_aload_n hX (pc := 95) dX7_takePart_95 rfl ?_
          refine vI0 hX (pc := 96) sX7_68 (xs_10 hL) (c_X7_fail l0 hL hI hR) (by omega) (Nat.le_refl 0) (Nat.le_refl 0) (Nat.le_of_ble_eq_true rfl) dX7_takePart_96 (fun x_96 I_96 J_96 h_96 => ?_)
          have kI_96 : Kp 10 15 Ia I_96 := Kp_tr (Kp_rf (a := 10) (b := 15)) (Kp_wd h_96.1 (by decide) (by decide))
          have kJ_96 : Kp 10 15 Ja J_96 := Kp_tr (Kp_rf (a := 10) (b := 15)) (Kp_wd h_96.2.1 (by decide) (by decide))
          have r1_5_I_96 : I_96 1 5 = Ia 1 5 := Kp_at kI_96 1 5 (by decide)
          have r8_1_I_96 : I_96 8 1 = Ia 8 1 := Kp_at kI_96 8 1 (by decide)
          have rf_I_96 : FU (I_96 1 5) = FU (Ia 1 5) := by rw [r1_5_I_96]
          have lI_96 : LR I_96 := h_96.2.2.1
          have qI_96 := lI_96.1
          unfold LRf at qI_96
          have cI_96 := h_96.2.2.2
          refine rZ hX (pc := 99) hT (Nat.le_refl 0) (Nat.le_refl 0) dX7_takePart_99 (by omega) ?_
          exact ⟨kI_96, kJ_96, lI_96, by omega, by omega⟩
    · simp only [w32_mod] at h_53
      refine ww_aload_n hX (pc := 56) dX7_takePart_56 rfl ?_
      refine ww_getI hX (pc := 57) fX7_38 (by decide) (xs_10 hL) dX7_takePart_57 ?_
      refine ww_sipush hX (pc := 60) (x := 300) dX7_takePart_60 (by decide) ?_
      refine ww_icmp_lt hX (pc := 63) (tgt := 80) dX7_takePart_63 (by decide) (fun h_63 => ?_) (fun h_63 => ?_)
      · simp only [w32_mod] at h_63
        refine ww_iconst hX (pc := 80) (x := 0) dX7_takePart_80 rfl ?_
        refine ww_istore_n hX (pc := 81) (lv' := [some (kR (some 10)), some (kI (8 - (m : Int))), some (kI 0)]) dX7_takePart_81 (by decide) rfl rfl ?_
        refine ww_iload_n hX (pc := 82) dX7_takePart_82 rfl ?_
        refine ww_if_eq hX (pc := 83) (tgt := 95) dX7_takePart_83 (by decide) (fun h_83 => ?_) (fun h_83 => ?_)
        · simp only [w32_mod] at h_83
          refine ww_aload_n hX (pc := 95) dX7_takePart_95 rfl ?_
          refine vI0 hX (pc := 96) sX7_68 (xs_10 hL) (c_X7_fail l0 hL hI hR) (by omega) (Nat.le_refl 0) (Nat.le_refl 0) (Nat.le_of_ble_eq_true rfl) dX7_takePart_96 (fun x_96 I_96 J_96 h_96 => ?_)
          have kI_96 : Kp 10 15 Ia I_96 := Kp_tr (Kp_rf (a := 10) (b := 15)) (Kp_wd h_96.1 (by decide) (by decide))
          have kJ_96 : Kp 10 15 Ja J_96 := Kp_tr (Kp_rf (a := 10) (b := 15)) (Kp_wd h_96.2.1 (by decide) (by decide))
          have r1_5_I_96 : I_96 1 5 = Ia 1 5 := Kp_at kI_96 1 5 (by decide)
          have r8_1_I_96 : I_96 8 1 = Ia 8 1 := Kp_at kI_96 8 1 (by decide)
          have rf_I_96 : FU (I_96 1 5) = FU (Ia 1 5) := by rw [r1_5_I_96]
          have lI_96 : LR I_96 := h_96.2.2.1
          have qI_96 := lI_96.1
          unfold LRf at qI_96
          have cI_96 := h_96.2.2.2
          refine rZ hX (pc := 99) hT (Nat.le_refl 0) (Nat.le_refl 0) dX7_takePart_99 (by omega) ?_
          exact ⟨kI_96, kJ_96, lI_96, by omega, by omega⟩
        · simp only [w32_mod] at h_83
          refine ww_aload_n hX (pc := 86) dX7_takePart_86 rfl ?_
          refine ww_getI hX (pc := 87) fX7_44 (by decide) (xs_10 hL) dX7_takePart_87 ?_
          refine ww_bipush hX (pc := 90) (x := 50) dX7_takePart_90 (by decide) ?_
          refine ww_icmp_lt hX (pc := 92) (tgt := 100) dX7_takePart_92 (by decide) (fun h_92 => ?_) (fun h_92 => ?_)
          · simp only [w32_mod] at h_92
            refine ww_aload_n hX (pc := 100) dX7_takePart_100 rfl ?_
            refine ww_dupR hX (pc := 101) dX7_takePart_101 ?_
            refine ww_getI hX (pc := 102) fX7_44 (by decide) (xs_10 hL) dX7_takePart_102 ?_
            refine ww_iconst hX (pc := 105) (x := 1) dX7_takePart_105 rfl ?_
            refine ww_iadd hX (pc := 106) dX7_takePart_106 ?_
            refine ww_putI hX (pc := 107) (fun h9 => absurd h9 (by decide)) gX7_44 rfl (xs_10 hL) dX7_takePart_107 ?_
            refine ww_nmH (fun I_107 eI_107 => ?_)
            have kI_107 : Kp 10 15 Ia I_107 := by rw [eI_107]; exact Kp_up (Kp_rf (a := 10) (b := 15)) _ _ (by decide)
            have r1_5_I_107 : I_107 1 5 = Ia 1 5 := Kp_at kI_107 1 5 (by decide)
            have r8_1_I_107 : I_107 8 1 = Ia 8 1 := Kp_at kI_107 8 1 (by decide)
            have rf_I_107 : FU (I_107 1 5) = FU (Ia 1 5) := by rw [r1_5_I_107]
            have lI_107 : LR I_107 := by rw [eI_107]; exact LR_10 hR (by omega) (by omega)
            have wI_107 := (congrFun (congrFun eI_107 10) 10).trans (up2_s _ _ _ _)
            have wI_107_6 : I_107 10 6 = Ia 10 6 := by rw [eI_107, up2_n _ _ (Or.inr (by decide))]
            have wI_107_7 : I_107 10 7 = Ia 10 7 := by rw [eI_107, up2_n _ _ (Or.inr (by decide))]
            have wI_107_8 : I_107 10 8 = Ia 10 8 := by rw [eI_107, up2_n _ _ (Or.inr (by decide))]
            have wI_107_9 : I_107 10 9 = Ia 10 9 := by rw [eI_107, up2_n _ _ (Or.inr (by decide))]
            have wI_107_11 : I_107 10 11 = Ia 10 11 := by rw [eI_107, up2_n _ _ (Or.inr (by decide))]
            refine ww_aload_n hX (pc := 110) dX7_takePart_110 rfl ?_
            refine ww_aload_n hX (pc := 111) dX7_takePart_111 rfl ?_
            refine ww_getI hX (pc := 112) fX7_38 (by decide) (xs_10 hL) dX7_takePart_112 ?_
            refine ww_if_ge hX (pc := 115) (tgt := 125) dX7_takePart_115 (by decide) (fun h_115 => ?_) (fun h_115 => ?_)
            · simp only [w32_mod] at h_115
              refine ww_aload_n hX (pc := 125) dX7_takePart_125 rfl ?_
              refine ww_getI hX (pc := 126) fX7_38 (by decide) (xs_10 hL) dX7_takePart_126 ?_
              refine ww_sipush hX (pc := 129) (x := 300) dX7_takePart_129 (by decide) ?_
              refine ww_isub hX (pc := 132) dX7_takePart_132 ?_
              refine vV1 hX (pc := 133) sX7_101 (xs_10 hL) (c_X7_step l0 hL (XI_kp hI kI_107 (by decide)) lI_107 (by omega) (by omega)) (by omega) (Nat.le_refl 0) (Nat.le_refl 0) (Nat.le_of_ble_eq_true rfl) dX7_takePart_133 (fun I_133 J_133 h_133 => ?_)
              have kI_133 : Kp 10 15 Ia I_133 := Kp_tr kI_107 (Kp_wd h_133.1 (by decide) (by decide))
              have kJ_133 : Kp 10 15 Ja J_133 := Kp_tr (Kp_rf (a := 10) (b := 15)) (Kp_wd h_133.2.1 (by decide) (by decide))
              have r1_5_I_133 : I_133 1 5 = Ia 1 5 := Kp_at kI_133 1 5 (by decide)
              have r8_1_I_133 : I_133 8 1 = Ia 8 1 := Kp_at kI_133 8 1 (by decide)
              have rf_I_133 : FU (I_133 1 5) = FU (Ia 1 5) := by rw [r1_5_I_133]
              have lI_133 : LR I_133 := h_133.2.2.1
              have qI_133 := lI_133.1
              unfold LRf at qI_133
              have cI_133 := h_133.2.2.2
              refine ww_aload_n hX (pc := 136) dX7_takePart_136 rfl ?_
              refine vV0 hX (pc := 137) sX7_71 (xs_10 hL) (c_X7_advance l0 hL (XI_kp hI kI_133 (by decide)) lI_133) (by omega) (Nat.le_refl 0) (Nat.le_refl 0) (Nat.le_of_ble_eq_true rfl) dX7_takePart_137 (fun I_137 J_137 h_137 => ?_)
              have kI_137 : Kp 10 15 Ia I_137 := Kp_tr kI_133 (Kp_wd h_137.1 (by decide) (by decide))
              have kJ_137 : Kp 10 15 Ja J_137 := Kp_tr kJ_133 (Kp_wd h_137.2.1 (by decide) (by decide))
              have r1_5_I_137 : I_137 1 5 = Ia 1 5 := Kp_at kI_137 1 5 (by decide)
              have r8_1_I_137 : I_137 8 1 = Ia 8 1 := Kp_at kI_137 8 1 (by decide)
              have rf_I_137 : FU (I_137 1 5) = FU (Ia 1 5) := by rw [r1_5_I_137]
              have lI_137 : LR I_137 := h_137.2.2.1
              have qI_137 := lI_137.1
              unfold LRf at qI_137
              have cI_137 := h_137.2.2.2
              refine ww_iconst hX (pc := 140) (x := 1) dX7_takePart_140 rfl ?_
              refine rZ hX (pc := 141) hT (Nat.le_refl 0) (Nat.le_refl 0) dX7_takePart_141 (by decide) ?_
              exact ⟨kI_137, kJ_137, lI_137, by omega, by omega⟩
            · simp only [w32_mod] at h_115
              refine ww_aload_n hX (pc := 118) dX7_takePart_118 rfl ?_
              refine ww_getI hX (pc := 119) fX7_38 (by decide) (xs_10 hL) dX7_takePart_119 ?_
              refine ww_goto hX (pc := 122) (tgt := 133) dX7_takePart_122 (by decide) ?_
              refine vV1 hX (pc := 133) sX7_101 (xs_10 hL) (c_X7_step l0 hL (XI_kp hI kI_107 (by decide)) lI_107 (by omega) (by omega)) (by omega) (Nat.le_refl 0) (Nat.le_refl 0) (Nat.le_of_ble_eq_true rfl) dX7_takePart_133 (fun I_133 J_133 h_133 => ?_)
              have kI_133 : Kp 10 15 Ia I_133 := Kp_tr kI_107 (Kp_wd h_133.1 (by decide) (by decide))
              have kJ_133 : Kp 10 15 Ja J_133 := Kp_tr (Kp_rf (a := 10) (b := 15)) (Kp_wd h_133.2.1 (by decide) (by decide))
              have r1_5_I_133 : I_133 1 5 = Ia 1 5 := Kp_at kI_133 1 5 (by decide)
              have r8_1_I_133 : I_133 8 1 = Ia 8 1 := Kp_at kI_133 8 1 (by decide)
              have rf_I_133 : FU (I_133 1 5) = FU (Ia 1 5) := by rw [r1_5_I_133]
              have lI_133 : LR I_133 := h_133.2.2.1
              have qI_133 := lI_133.1
              unfold LRf at qI_133
              have cI_133 := h_133.2.2.2
              refine ww_aload_n hX (pc := 136) dX7_takePart_136 rfl ?_
              refine vV0 hX (pc := 137) sX7_71 (xs_10 hL) (c_X7_advance l0 hL (XI_kp hI kI_133 (by decide)) lI_133) (by omega) (Nat.le_refl 0) (Nat.le_refl 0) (Nat.le_of_ble_eq_true rfl) dX7_takePart_137 (fun I_137 J_137 h_137 => ?_)
              have kI_137 : Kp 10 15 Ia I_137 := Kp_tr kI_133 (Kp_wd h_137.1 (by decide) (by decide))
              have kJ_137 : Kp 10 15 Ja J_137 := Kp_tr kJ_133 (Kp_wd h_137.2.1 (by decide) (by decide))
              have r1_5_I_137 : I_137 1 5 = Ia 1 5 := Kp_at kI_137 1 5 (by decide)
              have r8_1_I_137 : I_137 8 1 = Ia 8 1 := Kp_at kI_137 8 1 (by decide)
              have rf_I_137 : FU (I_137 1 5) = FU (Ia 1 5) := by rw [r1_5_I_137]
              have lI_137 : LR I_137 := h_137.2.2.1
              have qI_137 := lI_137.1
              unfold LRf at qI_137
              have cI_137 := h_137.2.2.2
              refine ww_iconst hX (pc := 140) (x := 1) dX7_takePart_140 rfl ?_
              refine rZ hX (pc := 141) hT (Nat.le_refl 0) (Nat.le_refl 0) dX7_takePart_141 (by decide) ?_
              exact ⟨kI_137, kJ_137, lI_137, by omega, by omega⟩
          · simp only [w32_mod] at h_92
            refine ww_aload_n hX (pc := 95) dX7_takePart_95 rfl ?_
            refine vI0 hX (pc := 96) sX7_68 (xs_10 hL) (c_X7_fail l0 hL hI hR) (by omega) (Nat.le_refl 0) (Nat.le_refl 0) (Nat.le_of_ble_eq_true rfl) dX7_takePart_96 (fun x_96 I_96 J_96 h_96 => ?_)
            have kI_96 : Kp 10 15 Ia I_96 := Kp_tr (Kp_rf (a := 10) (b := 15)) (Kp_wd h_96.1 (by decide) (by decide))
            have kJ_96 : Kp 10 15 Ja J_96 := Kp_tr (Kp_rf (a := 10) (b := 15)) (Kp_wd h_96.2.1 (by decide) (by decide))
            have r1_5_I_96 : I_96 1 5 = Ia 1 5 := Kp_at kI_96 1 5 (by decide)
            have r8_1_I_96 : I_96 8 1 = Ia 8 1 := Kp_at kI_96 8 1 (by decide)
            have rf_I_96 : FU (I_96 1 5) = FU (Ia 1 5) := by rw [r1_5_I_96]
            have lI_96 : LR I_96 := h_96.2.2.1
            have qI_96 := lI_96.1
            unfold LRf at qI_96
            have cI_96 := h_96.2.2.2
            refine rZ hX (pc := 99) hT (Nat.le_refl 0) (Nat.le_refl 0) dX7_takePart_99 (by omega) ?_
            exact ⟨kI_96, kJ_96, lI_96, by omega, by omega⟩
      · simp only [w32_mod] at h_63
        refine ww_aload_n hX (pc := 66) dX7_takePart_66 rfl ?_
        refine ww_getI hX (pc := 67) fX7_38 (by decide) (xs_10 hL) dX7_takePart_67 ?_
        refine ww_sipush hX (pc := 70) (x := 1300) dX7_takePart_70 (by decide) ?_
        refine ww_icmp_gt hX (pc := 73) (tgt := 80) dX7_takePart_73 (by decide) (fun h_73 => ?_) (fun h_73 => ?_)
        · simp only [w32_mod] at h_73
          refine ww_iconst hX (pc := 80) (x := 0) dX7_takePart_80 rfl ?_
          refine ww_istore_n hX (pc := 81) (lv' := [some (kR (some 10)), some (kI (8 - (m : Int))), some (kI 0)]) dX7_takePart_81 (by decide) rfl rfl ?_
          refine ww_iload_n hX (pc := 82) dX7_takePart_82 rfl ?_
          refine ww_if_eq hX (pc := 83) (tgt := 95) dX7_takePart_83 (by decide) (fun h_83 => ?_) (fun h_83 => ?_)
          · simp only [w32_mod] at h_83
            refine ww_aload_n hX (pc := 95) dX7_takePart_95 rfl ?_
            refine vI0 hX (pc := 96) sX7_68 (xs_10 hL) (c_X7_fail l0 hL hI hR) (by omega) (Nat.le_refl 0) (Nat.le_refl 0) (Nat.le_of_ble_eq_true rfl) dX7_takePart_96 (fun x_96 I_96 J_96 h_96 => ?_)
            have kI_96 : Kp 10 15 Ia I_96 := Kp_tr (Kp_rf (a := 10) (b := 15)) (Kp_wd h_96.1 (by decide) (by decide))
            have kJ_96 : Kp 10 15 Ja J_96 := Kp_tr (Kp_rf (a := 10) (b := 15)) (Kp_wd h_96.2.1 (by decide) (by decide))
            have r1_5_I_96 : I_96 1 5 = Ia 1 5 := Kp_at kI_96 1 5 (by decide)
            have r8_1_I_96 : I_96 8 1 = Ia 8 1 := Kp_at kI_96 8 1 (by decide)
            have rf_I_96 : FU (I_96 1 5) = FU (Ia 1 5) := by rw [r1_5_I_96]
            have lI_96 : LR I_96 := h_96.2.2.1
            have qI_96 := lI_96.1
            unfold LRf at qI_96
            have cI_96 := h_96.2.2.2
            refine rZ hX (pc := 99) hT (Nat.le_refl 0) (Nat.le_refl 0) dX7_takePart_99 (by omega) ?_
            exact ⟨kI_96, kJ_96, lI_96, by omega, by omega⟩
          · simp only [w32_mod] at h_83
            refine ww_aload_n hX (pc := 86) dX7_takePart_86 rfl ?_
            refine ww_getI hX (pc := 87) fX7_44 (by decide) (xs_10 hL) dX7_takePart_87 ?_
            refine ww_bipush hX (pc := 90) (x := 50) dX7_takePart_90 (by decide) ?_
            refine ww_icmp_lt hX (pc := 92) (tgt := 100) dX7_takePart_92 (by decide) (fun h_92 => ?_) (fun h_92 => ?_)
            · simp only [w32_mod] at h_92
              refine ww_aload_n hX (pc := 100) dX7_takePart_100 rfl ?_
              refine ww_dupR hX (pc := 101) dX7_takePart_101 ?_
              refine ww_getI hX (pc := 102) fX7_44 (by decide) (xs_10 hL) dX7_takePart_102 ?_
              refine ww_iconst hX (pc := 105) (x := 1) dX7_takePart_105 rfl ?_
              refine ww_iadd hX (pc := 106) dX7_takePart_106 ?_
              refine ww_putI hX (pc := 107) (fun h9 => absurd h9 (by decide)) gX7_44 rfl (xs_10 hL) dX7_takePart_107 ?_
              refine ww_nmH (fun I_107 eI_107 => ?_)
              have kI_107 : Kp 10 15 Ia I_107 := by rw [eI_107]; exact Kp_up (Kp_rf (a := 10) (b := 15)) _ _ (by decide)
              have r1_5_I_107 : I_107 1 5 = Ia 1 5 := Kp_at kI_107 1 5 (by decide)
              have r8_1_I_107 : I_107 8 1 = Ia 8 1 := Kp_at kI_107 8 1 (by decide)
              have rf_I_107 : FU (I_107 1 5) = FU (Ia 1 5) := by rw [r1_5_I_107]
              have lI_107 : LR I_107 := by rw [eI_107]; exact LR_10 hR (by omega) (by omega)
              have wI_107 := (congrFun (congrFun eI_107 10) 10).trans (up2_s _ _ _ _)
              have wI_107_6 : I_107 10 6 = Ia 10 6 := by rw [eI_107, up2_n _ _ (Or.inr (by decide))]
              have wI_107_7 : I_107 10 7 = Ia 10 7 := by rw [eI_107, up2_n _ _ (Or.inr (by decide))]
              have wI_107_8 : I_107 10 8 = Ia 10 8 := by rw [eI_107, up2_n _ _ (Or.inr (by decide))]
              have wI_107_9 : I_107 10 9 = Ia 10 9 := by rw [eI_107, up2_n _ _ (Or.inr (by decide))]
              have wI_107_11 : I_107 10 11 = Ia 10 11 := by rw [eI_107, up2_n _ _ (Or.inr (by decide))]
              refine ww_aload_n hX (pc := 110) dX7_takePart_110 rfl ?_
              refine ww_aload_n hX (pc := 111) dX7_takePart_111 rfl ?_
              refine ww_getI hX (pc := 112) fX7_38 (by decide) (xs_10 hL) dX7_takePart_112 ?_
              refine ww_if_ge hX (pc := 115) (tgt := 125) dX7_takePart_115 (by decide) (fun h_115 => ?_) (fun h_115 => ?_)
              · simp only [w32_mod] at h_115
                refine ww_aload_n hX (pc := 125) dX7_takePart_125 rfl ?_
                refine ww_getI hX (pc := 126) fX7_38 (by decide) (xs_10 hL) dX7_takePart_126 ?_
                refine ww_sipush hX (pc := 129) (x := 300) dX7_takePart_129 (by decide) ?_
                refine ww_isub hX (pc := 132) dX7_takePart_132 ?_
                refine vV1 hX (pc := 133) sX7_101 (xs_10 hL) (c_X7_step l0 hL (XI_kp hI kI_107 (by decide)) lI_107 (by omega) (by omega)) (by omega) (Nat.le_refl 0) (Nat.le_refl 0) (Nat.le_of_ble_eq_true rfl) dX7_takePart_133 (fun I_133 J_133 h_133 => ?_)
                have kI_133 : Kp 10 15 Ia I_133 := Kp_tr kI_107 (Kp_wd h_133.1 (by decide) (by decide))
                have kJ_133 : Kp 10 15 Ja J_133 := Kp_tr (Kp_rf (a := 10) (b := 15)) (Kp_wd h_133.2.1 (by decide) (by decide))
                have r1_5_I_133 : I_133 1 5 = Ia 1 5 := Kp_at kI_133 1 5 (by decide)
                have r8_1_I_133 : I_133 8 1 = Ia 8 1 := Kp_at kI_133 8 1 (by decide)
                have rf_I_133 : FU (I_133 1 5) = FU (Ia 1 5) := by rw [r1_5_I_133]
                have lI_133 : LR I_133 := h_133.2.2.1
                have qI_133 := lI_133.1
                unfold LRf at qI_133
                have cI_133 := h_133.2.2.2
                refine ww_aload_n hX (pc := 136) dX7_takePart_136 rfl ?_
                refine vV0 hX (pc := 137) sX7_71 (xs_10 hL) (c_X7_advance l0 hL (XI_kp hI kI_133 (by decide)) lI_133) (by omega) (Nat.le_refl 0) (Nat.le_refl 0) (Nat.le_of_ble_eq_true rfl) dX7_takePart_137 (fun I_137 J_137 h_137 => ?_)
                have kI_137 : Kp 10 15 Ia I_137 := Kp_tr kI_133 (Kp_wd h_137.1 (by decide) (by decide))
                have kJ_137 : Kp 10 15 Ja J_137 := Kp_tr kJ_133 (Kp_wd h_137.2.1 (by decide) (by decide))
                have r1_5_I_137 : I_137 1 5 = Ia 1 5 := Kp_at kI_137 1 5 (by decide)
                have r8_1_I_137 : I_137 8 1 = Ia 8 1 := Kp_at kI_137 8 1 (by decide)
                have rf_I_137 : FU (I_137 1 5) = FU (Ia 1 5) := by rw [r1_5_I_137]
                have lI_137 : LR I_137 := h_137.2.2.1
                have qI_137 := lI_137.1
                unfold LRf at qI_137
                have cI_137 := h_137.2.2.2
                refine ww_iconst hX (pc := 140) (x := 1) dX7_takePart_140 rfl ?_
                refine rZ hX (pc := 141) hT (Nat.le_refl 0) (Nat.le_refl 0) dX7_takePart_141 (by decide) ?_
                exact ⟨kI_137, kJ_137, lI_137, by omega, by omega⟩
              · simp only [w32_mod] at h_115
                refine ww_aload_n hX (pc := 118) dX7_takePart_118 rfl ?_
                refine ww_getI hX (pc := 119) fX7_38 (by decide) (xs_10 hL) dX7_takePart_119 ?_
                refine ww_goto hX (pc := 122) (tgt := 133) dX7_takePart_122 (by decide) ?_
                refine vV1 hX (pc := 133) sX7_101 (xs_10 hL) (c_X7_step l0 hL (XI_kp hI kI_107 (by decide)) lI_107 (by omega) (by omega)) (by omega) (Nat.le_refl 0) (Nat.le_refl 0) (Nat.le_of_ble_eq_true rfl) dX7_takePart_133 (fun I_133 J_133 h_133 => ?_)
                have kI_133 : Kp 10 15 Ia I_133 := Kp_tr kI_107 (Kp_wd h_133.1 (by decide) (by decide))
                have kJ_133 : Kp 10 15 Ja J_133 := Kp_tr (Kp_rf (a := 10) (b := 15)) (Kp_wd h_133.2.1 (by decide) (by decide))
                have r1_5_I_133 : I_133 1 5 = Ia 1 5 := Kp_at kI_133 1 5 (by decide)
                have r8_1_I_133 : I_133 8 1 = Ia 8 1 := Kp_at kI_133 8 1 (by decide)
                have rf_I_133 : FU (I_133 1 5) = FU (Ia 1 5) := by rw [r1_5_I_133]
                have lI_133 : LR I_133 := h_133.2.2.1
                have qI_133 := lI_133.1
                unfold LRf at qI_133
                have cI_133 := h_133.2.2.2
                refine ww_aload_n hX (pc := 136) dX7_takePart_136 rfl ?_
                refine vV0 hX (pc := 137) sX7_71 (xs_10 hL) (c_X7_advance l0 hL (XI_kp hI kI_133 (by decide)) lI_133) (by omega) (Nat.le_refl 0) (Nat.le_refl 0) (Nat.le_of_ble_eq_true rfl) dX7_takePart_137 (fun I_137 J_137 h_137 => ?_)
                have kI_137 : Kp 10 15 Ia I_137 := Kp_tr kI_133 (Kp_wd h_137.1 (by decide) (by decide))
                have kJ_137 : Kp 10 15 Ja J_137 := Kp_tr kJ_133 (Kp_wd h_137.2.1 (by decide) (by decide))
                have r1_5_I_137 : I_137 1 5 = Ia 1 5 := Kp_at kI_137 1 5 (by decide)
                have r8_1_I_137 : I_137 8 1 = Ia 8 1 := Kp_at kI_137 8 1 (by decide)
                have rf_I_137 : FU (I_137 1 5) = FU (Ia 1 5) := by rw [r1_5_I_137]
                have lI_137 : LR I_137 := h_137.2.2.1
                have qI_137 := lI_137.1
                unfold LRf at qI_137
                have cI_137 := h_137.2.2.2
                refine ww_iconst hX (pc := 140) (x := 1) dX7_takePart_140 rfl ?_
                refine rZ hX (pc := 141) hT (Nat.le_refl 0) (Nat.le_refl 0) dX7_takePart_141 (by decide) ?_
                exact ⟨kI_137, kJ_137, lI_137, by omega, by omega⟩
            · simp only [w32_mod] at h_92
              refine ww_aload_n hX (pc := 95) dX7_takePart_95 rfl ?_
              refine vI0 hX (pc := 96) sX7_68 (xs_10 hL) (c_X7_fail l0 hL hI hR) (by omega) (Nat.le_refl 0) (Nat.le_refl 0) (Nat.le_of_ble_eq_true rfl) dX7_takePart_96 (fun x_96 I_96 J_96 h_96 => ?_)
              have kI_96 : Kp 10 15 Ia I_96 := Kp_tr (Kp_rf (a := 10) (b := 15)) (Kp_wd h_96.1 (by decide) (by decide))
              have kJ_96 : Kp 10 15 Ja J_96 := Kp_tr (Kp_rf (a := 10) (b := 15)) (Kp_wd h_96.2.1 (by decide) (by decide))
              have r1_5_I_96 : I_96 1 5 = Ia 1 5 := Kp_at kI_96 1 5 (by decide)
              have r8_1_I_96 : I_96 8 1 = Ia 8 1 := Kp_at kI_96 8 1 (by decide)
              have rf_I_96 : FU (I_96 1 5) = FU (Ia 1 5) := by rw [r1_5_I_96]
              have lI_96 : LR I_96 := h_96.2.2.1
              have qI_96 := lI_96.1
              unfold LRf at qI_96
              have cI_96 := h_96.2.2.2
              refine rZ hX (pc := 99) hT (Nat.le_refl 0) (Nat.le_refl 0) dX7_takePart_99 (by omega) ?_
              exact ⟨kI_96, kJ_96, lI_96, by omega, by omega⟩
        · simp only [w32_mod] at h_73
          refine ww_iconst hX (pc := 76) (x := 1) dX7_takePart_76 rfl ?_
          refine ww_goto hX (pc := 77) (tgt := 81) dX7_takePart_77 (by decide) ?_
          refine ww_istore_n hX (pc := 81) (lv' := [some (kR (some 10)), some (kI (8 - (m : Int))), some (kI 1)]) dX7_takePart_81 (by decide) rfl rfl ?_
          refine ww_iload_n hX (pc := 82) dX7_takePart_82 rfl ?_
          refine ww_if_eq hX (pc := 83) (tgt := 95) dX7_takePart_83 (by decide) (fun h_83 => ?_) (fun h_83 => ?_)
          · simp only [w32_mod] at h_83
            refine ww_aload_n hX (pc := 95) dX7_takePart_95 rfl ?_
            refine vI0 hX (pc := 96) sX7_68 (xs_10 hL) (c_X7_fail l0 hL hI hR) (by omega) (Nat.le_refl 0) (Nat.le_refl 0) (Nat.le_of_ble_eq_true rfl) dX7_takePart_96 (fun x_96 I_96 J_96 h_96 => ?_)
            have kI_96 : Kp 10 15 Ia I_96 := Kp_tr (Kp_rf (a := 10) (b := 15)) (Kp_wd h_96.1 (by decide) (by decide))
            have kJ_96 : Kp 10 15 Ja J_96 := Kp_tr (Kp_rf (a := 10) (b := 15)) (Kp_wd h_96.2.1 (by decide) (by decide))
            have r1_5_I_96 : I_96 1 5 = Ia 1 5 := Kp_at kI_96 1 5 (by decide)
            have r8_1_I_96 : I_96 8 1 = Ia 8 1 := Kp_at kI_96 8 1 (by decide)
            have rf_I_96 : FU (I_96 1 5) = FU (Ia 1 5) := by rw [r1_5_I_96]
            have lI_96 : LR I_96 := h_96.2.2.1
            have qI_96 := lI_96.1
            unfold LRf at qI_96
            have cI_96 := h_96.2.2.2
            refine rZ hX (pc := 99) hT (Nat.le_refl 0) (Nat.le_refl 0) dX7_takePart_99 (by omega) ?_
            exact ⟨kI_96, kJ_96, lI_96, by omega, by omega⟩
          · simp only [w32_mod] at h_83
            refine ww_aload_n hX (pc := 86) dX7_takePart_86 rfl ?_
            refine ww_getI hX (pc := 87) fX7_44 (by decide) (xs_10 hL) dX7_takePart_87 ?_
            refine ww_bipush hX (pc := 90) (x := 50) dX7_takePart_90 (by decide) ?_
            refine ww_icmp_lt hX (pc := 92) (tgt := 100) dX7_takePart_92 (by decide) (fun h_92 => ?_) (fun h_92 => ?_)
            · simp only [w32_mod] at h_92
              refine ww_aload_n hX (pc := 100) dX7_takePart_100 rfl ?_
              refine ww_dupR hX (pc := 101) dX7_takePart_101 ?_
              refine ww_getI hX (pc := 102) fX7_44 (by decide) (xs_10 hL) dX7_takePart_102 ?_
              refine ww_iconst hX (pc := 105) (x := 1) dX7_takePart_105 rfl ?_
              refine ww_iadd hX (pc := 106) dX7_takePart_106 ?_
              refine ww_putI hX (pc := 107) (fun h9 => absurd h9 (by decide)) gX7_44 rfl (xs_10 hL) dX7_takePart_107 ?_
              refine ww_nmH (fun I_107 eI_107 => ?_)
              have kI_107 : Kp 10 15 Ia I_107 := by rw [eI_107]; exact Kp_up (Kp_rf (a := 10) (b := 15)) _ _ (by decide)
              have r1_5_I_107 : I_107 1 5 = Ia 1 5 := Kp_at kI_107 1 5 (by decide)
              have r8_1_I_107 : I_107 8 1 = Ia 8 1 := Kp_at kI_107 8 1 (by decide)
              have rf_I_107 : FU (I_107 1 5) = FU (Ia 1 5) := by rw [r1_5_I_107]
              have lI_107 : LR I_107 := by rw [eI_107]; exact LR_10 hR (by omega) (by omega)
              have wI_107 := (congrFun (congrFun eI_107 10) 10).trans (up2_s _ _ _ _)
              have wI_107_6 : I_107 10 6 = Ia 10 6 := by rw [eI_107, up2_n _ _ (Or.inr (by decide))]
              have wI_107_7 : I_107 10 7 = Ia 10 7 := by rw [eI_107, up2_n _ _ (Or.inr (by decide))]
              have wI_107_8 : I_107 10 8 = Ia 10 8 := by rw [eI_107, up2_n _ _ (Or.inr (by decide))]
              have wI_107_9 : I_107 10 9 = Ia 10 9 := by rw [eI_107, up2_n _ _ (Or.inr (by decide))]
              have wI_107_11 : I_107 10 11 = Ia 10 11 := by rw [eI_107, up2_n _ _ (Or.inr (by decide))]
              refine ww_aload_n hX (pc := 110) dX7_takePart_110 rfl ?_
              refine ww_aload_n hX (pc := 111) dX7_takePart_111 rfl ?_
              refine ww_getI hX (pc := 112) fX7_38 (by decide) (xs_10 hL) dX7_takePart_112 ?_
              refine ww_if_ge hX (pc := 115) (tgt := 125) dX7_takePart_115 (by decide) (fun h_115 => ?_) (fun h_115 => ?_)
              · simp only [w32_mod] at h_115
                refine ww_aload_n hX (pc := 125) dX7_takePart_125 rfl ?_
                refine ww_getI hX (pc := 126) fX7_38 (by decide) (xs_10 hL) dX7_takePart_126 ?_
                refine ww_sipush hX (pc := 129) (x := 300) dX7_takePart_129 (by decide) ?_
                refine ww_isub hX (pc := 132) dX7_takePart_132 ?_
                refine vV1 hX (pc := 133) sX7_101 (xs_10 hL) (c_X7_step l0 hL (XI_kp hI kI_107 (by decide)) lI_107 (by omega) (by omega)) (by omega) (Nat.le_refl 0) (Nat.le_refl 0) (Nat.le_of_ble_eq_true rfl) dX7_takePart_133 (fun I_133 J_133 h_133 => ?_)
                have kI_133 : Kp 10 15 Ia I_133 := Kp_tr kI_107 (Kp_wd h_133.1 (by decide) (by decide))
                have kJ_133 : Kp 10 15 Ja J_133 := Kp_tr (Kp_rf (a := 10) (b := 15)) (Kp_wd h_133.2.1 (by decide) (by decide))
                have r1_5_I_133 : I_133 1 5 = Ia 1 5 := Kp_at kI_133 1 5 (by decide)
                have r8_1_I_133 : I_133 8 1 = Ia 8 1 := Kp_at kI_133 8 1 (by decide)
                have rf_I_133 : FU (I_133 1 5) = FU (Ia 1 5) := by rw [r1_5_I_133]
                have lI_133 : LR I_133 := h_133.2.2.1
                have qI_133 := lI_133.1
                unfold LRf at qI_133
                have cI_133 := h_133.2.2.2
                refine ww_aload_n hX (pc := 136) dX7_takePart_136 rfl ?_
                refine vV0 hX (pc := 137) sX7_71 (xs_10 hL) (c_X7_advance l0 hL (XI_kp hI kI_133 (by decide)) lI_133) (by omega) (Nat.le_refl 0) (Nat.le_refl 0) (Nat.le_of_ble_eq_true rfl) dX7_takePart_137 (fun I_137 J_137 h_137 => ?_)
                have kI_137 : Kp 10 15 Ia I_137 := Kp_tr kI_133 (Kp_wd h_137.1 (by decide) (by decide))
                have kJ_137 : Kp 10 15 Ja J_137 := Kp_tr kJ_133 (Kp_wd h_137.2.1 (by decide) (by decide))
                have r1_5_I_137 : I_137 1 5 = Ia 1 5 := Kp_at kI_137 1 5 (by decide)
                have r8_1_I_137 : I_137 8 1 = Ia 8 1 := Kp_at kI_137 8 1 (by decide)
                have rf_I_137 : FU (I_137 1 5) = FU (Ia 1 5) := by rw [r1_5_I_137]
                have lI_137 : LR I_137 := h_137.2.2.1
                have qI_137 := lI_137.1
                unfold LRf at qI_137
                have cI_137 := h_137.2.2.2
                refine ww_iconst hX (pc := 140) (x := 1) dX7_takePart_140 rfl ?_
                refine rZ hX (pc := 141) hT (Nat.le_refl 0) (Nat.le_refl 0) dX7_takePart_141 (by decide) ?_
                exact ⟨kI_137, kJ_137, lI_137, by omega, by omega⟩
              · simp only [w32_mod] at h_115
                refine ww_aload_n hX (pc := 118) dX7_takePart_118 rfl ?_
                refine ww_getI hX (pc := 119) fX7_38 (by decide) (xs_10 hL) dX7_takePart_119 ?_
                refine ww_goto hX (pc := 122) (tgt := 133) dX7_takePart_122 (by decide) ?_
                refine vV1 hX (pc := 133) sX7_101 (xs_10 hL) (c_X7_step l0 hL (XI_kp hI kI_107 (by decide)) lI_107 (by omega) (by omega)) (by omega) (Nat.le_refl 0) (Nat.le_refl 0) (Nat.le_of_ble_eq_true rfl) dX7_takePart_133 (fun I_133 J_133 h_133 => ?_)
                have kI_133 : Kp 10 15 Ia I_133 := Kp_tr kI_107 (Kp_wd h_133.1 (by decide) (by decide))
                have kJ_133 : Kp 10 15 Ja J_133 := Kp_tr (Kp_rf (a := 10) (b := 15)) (Kp_wd h_133.2.1 (by decide) (by decide))
                have r1_5_I_133 : I_133 1 5 = Ia 1 5 := Kp_at kI_133 1 5 (by decide)
                have r8_1_I_133 : I_133 8 1 = Ia 8 1 := Kp_at kI_133 8 1 (by decide)
                have rf_I_133 : FU (I_133 1 5) = FU (Ia 1 5) := by rw [r1_5_I_133]
                have lI_133 : LR I_133 := h_133.2.2.1
                have qI_133 := lI_133.1
                unfold LRf at qI_133
                have cI_133 := h_133.2.2.2
                refine ww_aload_n hX (pc := 136) dX7_takePart_136 rfl ?_
                refine vV0 hX (pc := 137) sX7_71 (xs_10 hL) (c_X7_advance l0 hL (XI_kp hI kI_133 (by decide)) lI_133) (by omega) (Nat.le_refl 0) (Nat.le_refl 0) (Nat.le_of_ble_eq_true rfl) dX7_takePart_137 (fun I_137 J_137 h_137 => ?_)
                have kI_137 : Kp 10 15 Ia I_137 := Kp_tr kI_133 (Kp_wd h_137.1 (by decide) (by decide))
                have kJ_137 : Kp 10 15 Ja J_137 := Kp_tr kJ_133 (Kp_wd h_137.2.1 (by decide) (by decide))
                have r1_5_I_137 : I_137 1 5 = Ia 1 5 := Kp_at kI_137 1 5 (by decide)
                have r8_1_I_137 : I_137 8 1 = Ia 8 1 := Kp_at kI_137 8 1 (by decide)
                have rf_I_137 : FU (I_137 1 5) = FU (Ia 1 5) := by rw [r1_5_I_137]
                have lI_137 : LR I_137 := h_137.2.2.1
                have qI_137 := lI_137.1
                unfold LRf at qI_137
                have cI_137 := h_137.2.2.2
                refine ww_iconst hX (pc := 140) (x := 1) dX7_takePart_140 rfl ?_
                refine rZ hX (pc := 141) hT (Nat.le_refl 0) (Nat.le_refl 0) dX7_takePart_141 (by decide) ?_
                exact ⟨kI_137, kJ_137, lI_137, by omega, by omega⟩
            · simp only [w32_mod] at h_92
              refine ww_aload_n hX (pc := 95) dX7_takePart_95 rfl ?_
              refine vI0 hX (pc := 96) sX7_68 (xs_10 hL) (c_X7_fail l0 hL hI hR) (by omega) (Nat.le_refl 0) (Nat.le_refl 0) (Nat.le_of_ble_eq_true rfl) dX7_takePart_96 (fun x_96 I_96 J_96 h_96 => ?_)
              have kI_96 : Kp 10 15 Ia I_96 := Kp_tr (Kp_rf (a := 10) (b := 15)) (Kp_wd h_96.1 (by decide) (by decide))
              have kJ_96 : Kp 10 15 Ja J_96 := Kp_tr (Kp_rf (a := 10) (b := 15)) (Kp_wd h_96.2.1 (by decide) (by decide))
              have r1_5_I_96 : I_96 1 5 = Ia 1 5 := Kp_at kI_96 1 5 (by decide)
              have r8_1_I_96 : I_96 8 1 = Ia 8 1 := Kp_at kI_96 8 1 (by decide)
              have rf_I_96 : FU (I_96 1 5) = FU (Ia 1 5) := by rw [r1_5_I_96]
              have lI_96 : LR I_96 := h_96.2.2.1
              have qI_96 := lI_96.1
              unfold LRf at qI_96
              have cI_96 := h_96.2.2.2
              refine rZ hX (pc := 99) hT (Nat.le_refl 0) (Nat.le_refl 0) dX7_takePart_99 (by omega) ?_
              exact ⟨kI_96, kJ_96, lI_96, by omega, by omega⟩
  · simp only [w32_mod] at h_6
    refine ww_iload_n hX (pc := 9) dX7_takePart_9 rfl ?_
    refine ww_bipush hX (pc := 10) (x := 8) dX7_takePart_10 (by decide) ?_
    refine ww_icmp_lt hX (pc := 12) (tgt := 20) dX7_takePart_12 (by decide) (fun h_12 => ?_) (fun h_12 => ?_)
    · simp only [w32_mod] at h_12
      obtain ⟨mp, rfl⟩ : ∃ mp, m = mp + 1 := ⟨m - 1, by omega⟩
      refine ww_aload_n hX (pc := 20) dX7_takePart_20 rfl ?_
      refine vV0 hX (pc := 21) sX7_71 (xs_10 hL) (c_X7_advance l0 hL hI hR) (by omega) (Nat.le_refl 0) (Nat.le_refl 0) (Nat.le_of_ble_eq_true rfl) dX7_takePart_21 (fun I_21 J_21 h_21 => ?_)
      have kI_21 : Kp 10 15 Ia I_21 := Kp_tr (Kp_rf (a := 10) (b := 15)) (Kp_wd h_21.1 (by decide) (by decide))
      have kJ_21 : Kp 10 15 Ja J_21 := Kp_tr (Kp_rf (a := 10) (b := 15)) (Kp_wd h_21.2.1 (by decide) (by decide))
      have r1_5_I_21 : I_21 1 5 = Ia 1 5 := Kp_at kI_21 1 5 (by decide)
      have r8_1_I_21 : I_21 8 1 = Ia 8 1 := Kp_at kI_21 8 1 (by decide)
      have rf_I_21 : FU (I_21 1 5) = FU (Ia 1 5) := by rw [r1_5_I_21]
      have lI_21 : LR I_21 := h_21.2.2.1
      have qI_21 := lI_21.1
      unfold LRf at qI_21
      have cI_21 := h_21.2.2.2
      refine ww_aload_n hX (pc := 24) dX7_takePart_24 rfl ?_
      refine ww_iload_n hX (pc := 25) dX7_takePart_25 rfl ?_
      refine ww_iconst hX (pc := 26) (x := 1) dX7_takePart_26 rfl ?_
      refine ww_iadd hX (pc := 27) dX7_takePart_27 ?_
      refine ww_toI (show (8 - ((mp + 1 : Nat) : Int)) + 1 = 8 - (mp : Int) by omega) ?_
      refine vI1 hX (pc := 28) sX7_74 (xs_10 hL) (hrec mp rfl hL (XI_kp hI kI_21 (by decide)) lI_21) (by omega) (Nat.le_refl 0) (Nat.le_refl 0) (Nat.le_of_ble_eq_true rfl) dX7_takePart_28 (fun x_28 I_28 J_28 h_28 => ?_)
      have kI_28 : Kp 10 15 Ia I_28 := Kp_tr kI_21 (Kp_wd h_28.1 (by decide) (by decide))
      have kJ_28 : Kp 10 15 Ja J_28 := Kp_tr kJ_21 (Kp_wd h_28.2.1 (by decide) (by decide))
      have r1_5_I_28 : I_28 1 5 = Ia 1 5 := Kp_at kI_28 1 5 (by decide)
      have r8_1_I_28 : I_28 8 1 = Ia 8 1 := Kp_at kI_28 8 1 (by decide)
      have rf_I_28 : FU (I_28 1 5) = FU (Ia 1 5) := by rw [r1_5_I_28]
      have lI_28 : LR I_28 := h_28.2.2.1
      have qI_28 := lI_28.1
      unfold LRf at qI_28
      have cI_28 := h_28.2.2.2
      refine ww_if_eq hX (pc := 31) (tgt := 47) dX7_takePart_31 (by decide) (fun h_31 => ?_) (fun h_31 => ?_)
      · simp only [w32_mod] at h_31
        refine ww_iconst hX (pc := 47) (x := 0) dX7_takePart_47 rfl ?_
        refine rZ hX (pc := 48) hT (Nat.le_refl 0) (Nat.le_refl 0) dX7_takePart_48 (by decide) ?_
        exact ⟨kI_28, kJ_28, lI_28, by omega, by omega⟩
      · simp only [w32_mod] at h_31
        refine ww_aload_n hX (pc := 34) dX7_takePart_34 rfl ?_
        refine ww_bipush hX (pc := 35) (x := 93) dX7_takePart_35 (by decide) ?_
        refine vI1 hX (pc := 37) sX7_104 (xs_10 hL) (c_X7_takeSign l0 hL (XI_kp hI kI_28 (by decide)) lI_28 (by omega) (by omega)) (by omega) (Nat.le_refl 0) (Nat.le_refl 0) (Nat.le_of_ble_eq_true rfl) dX7_takePart_37 (fun x_37 I_37 J_37 h_37 => ?_)
        have kI_37 : Kp 10 15 Ia I_37 := Kp_tr kI_28 (Kp_wd h_37.1 (by decide) (by decide))
        have kJ_37 : Kp 10 15 Ja J_37 := Kp_tr kJ_28 (Kp_wd h_37.2.1 (by decide) (by decide))
        have r1_5_I_37 : I_37 1 5 = Ia 1 5 := Kp_at kI_37 1 5 (by decide)
        have r8_1_I_37 : I_37 8 1 = Ia 8 1 := Kp_at kI_37 8 1 (by decide)
        have rf_I_37 : FU (I_37 1 5) = FU (Ia 1 5) := by rw [r1_5_I_37]
        have lI_37 : LR I_37 := h_37.2.2.1
        have qI_37 := lI_37.1
        unfold LRf at qI_37
        have cI_37 := h_37.2.2.2
        refine ww_if_eq hX (pc := 40) (tgt := 47) dX7_takePart_40 (by decide) (fun h_40 => ?_) (fun h_40 => ?_)
        · simp only [w32_mod] at h_40
          refine ww_iconst hX (pc := 47) (x := 0) dX7_takePart_47 rfl ?_
          refine rZ hX (pc := 48) hT (Nat.le_refl 0) (Nat.le_refl 0) dX7_takePart_48 (by decide) ?_
          exact ⟨kI_37, kJ_37, lI_37, by omega, by omega⟩
        · simp only [w32_mod] at h_40
          refine ww_iconst hX (pc := 43) (x := 1) dX7_takePart_43 rfl ?_
          refine ww_goto hX (pc := 44) (tgt := 48) dX7_takePart_44 (by decide) ?_
          refine rZ hX (pc := 48) hT (Nat.le_refl 0) (Nat.le_refl 0) dX7_takePart_48 (by decide) ?_
          exact ⟨kI_37, kJ_37, lI_37, by omega, by omega⟩
    · simp only [w32_mod] at h_12
      refine ww_aload_n hX (pc := 15) dX7_takePart_15 rfl ?_
      refine vI0 hX (pc := 16) sX7_68 (xs_10 hL) (c_X7_fail l0 hL hI hR) (by omega) (Nat.le_refl 0) (Nat.le_refl 0) (Nat.le_of_ble_eq_true rfl) dX7_takePart_16 (fun x_16 I_16 J_16 h_16 => ?_)
      have kI_16 : Kp 10 15 Ia I_16 := Kp_tr (Kp_rf (a := 10) (b := 15)) (Kp_wd h_16.1 (by decide) (by decide))
      have kJ_16 : Kp 10 15 Ja J_16 := Kp_tr (Kp_rf (a := 10) (b := 15)) (Kp_wd h_16.2.1 (by decide) (by decide))
      have r1_5_I_16 : I_16 1 5 = Ia 1 5 := Kp_at kI_16 1 5 (by decide)
      have r8_1_I_16 : I_16 8 1 = Ia 8 1 := Kp_at kI_16 8 1 (by decide)
      have rf_I_16 : FU (I_16 1 5) = FU (Ia 1 5) := by rw [r1_5_I_16]
      have lI_16 : LR I_16 := h_16.2.2.1
      have qI_16 := lI_16.1
      unfold LRf at qI_16
      have cI_16 := h_16.2.2.2
      refine rZ hX (pc := 19) hT (Nat.le_refl 0) (Nat.le_refl 0) dX7_takePart_19 (by omega) ?_
      exact ⟨kI_16, kJ_16, lI_16, by omega, by omega⟩
set_option maxHeartbeats 4000000 in
set_option maxRecDepth 20000 in
theorem c_X7_takeTerm (l0 : Launch) {m : Nat} (hm : m ≤ 8) (hrec : ∀ mp, m = mp + 1 → PSum l0 mp) {Ia Ja : aI1} {Ra : aR1} {Sa : aS1} (hL : LY Ra Sa) (hI : XI Ia) (hR : LR Ia)  : CT l0 (10 * m + 15) 0 0 mX7_takeTerm [kR (some 10), kI (8 - (m : Int))] Ia Ja Ra Sa (cI (fun x I' J' => Kp 10 15 Ia I' ∧ Kp 10 15 Ja J' ∧ LR I' ∧ I' 10 11 = Ia 10 11 ∧ (x = 0 ∨ x = 1)) Ra Sa) := by
  refine ct_in pn_X7 (Nat.le_of_ble_eq_true rfl) (fun X hX hT hIn => ?_)
  have hX : aK l0 X cX7_takeTerm 4 RX7 (some .boolean) (10 * m + 15) 0 0 := hX
  change WW X 0 [some (kR (some 10)), some (kI (8 - (m : Int))), none, none] [] Ia Ja Ra Sa 0 0
  obtain ⟨hn1, hn2⟩ := hI.1
  obtain ⟨hk1, hk2⟩ := hI.2.1
  obtain ⟨hf1, hf2⟩ := hI.fu
  obtain ⟨hl1, hl2⟩ := hI.2.2.2.2.2.2.1
  have hq := hR.1
  unfold LRf at hq
  refine ww_aload_n hX (pc := 0) dX7_takeTerm_0 rfl ?_
  refine ww_iload_n hX (pc := 1) dX7_takeTerm_1 rfl ?_
  refine vI1 hX (pc := 2) sX7_113 (xs_10 hL) (c_X7_takePart l0 (m := m) hm hrec hL hI hR) (by omega) (Nat.le_refl 0) (Nat.le_refl 0) (Nat.le_of_ble_eq_true rfl) dX7_takeTerm_2 (fun x_2 I_2 J_2 h_2 => ?_)
  have kI_2 : Kp 10 15 Ia I_2 := Kp_tr (Kp_rf (a := 10) (b := 15)) (Kp_wd h_2.1 (by decide) (by decide))
  have kJ_2 : Kp 10 15 Ja J_2 := Kp_tr (Kp_rf (a := 10) (b := 15)) (Kp_wd h_2.2.1 (by decide) (by decide))
  have r1_5_I_2 : I_2 1 5 = Ia 1 5 := Kp_at kI_2 1 5 (by decide)
  have r8_1_I_2 : I_2 8 1 = Ia 8 1 := Kp_at kI_2 8 1 (by decide)
  have rf_I_2 : FU (I_2 1 5) = FU (Ia 1 5) := by rw [r1_5_I_2]
  have lI_2 : LR I_2 := h_2.2.2.1
  have qI_2 := lI_2.1
  unfold LRf at qI_2
  have cI_2 := h_2.2.2.2
  refine ww_if_ne hX (pc := 5) (tgt := 10) dX7_takeTerm_5 (by decide) (fun h_5 => ?_) (fun h_5 => ?_)
  · simp only [w32_mod] at h_5
    refine ww_iconst hX (pc := 10) (x := 0) dX7_takeTerm_10 rfl ?_
    refine ww_istore_n hX (pc := 11) (lv' := [some (kR (some 10)), some (kI (8 - (m : Int))), some (kI 0), none]) dX7_takeTerm_11 (by decide) rfl rfl ?_
    have hl_12 : ∀ (n_12 : Nat) (i : Int) (I2 : aI1) (J2 : aI1), (400 - i).toNat = n_12 → (Kp 10 15 Ia I2 ∧ Kp 10 15 Ja J2 ∧ LR I2 ∧ I2 10 11 = Ia 10 11 ∧ (0 ≤ i ∧ i ≤ 400)) → WW X 12 [some (kR (some 10)), some (kI (8 - (m : Int))), some (kI i), none] [] I2 J2 Ra Sa 0 0 := by
      intro n_12
      induction n_12 using Nat.strongRecOn with
      | ind n_12 ih_12 =>
        intro i I2 J2 hm_12 hv_12
        have hq_12 := Sh0_i hm_12
        clear hm_12
        obtain ⟨kI2, kJ2, lI2, cI2, hi⟩ := hv_12
        have r1_5_I2 : I2 1 5 = Ia 1 5 := Kp_at kI2 1 5 (by decide)
        have r8_1_I2 : I2 8 1 = Ia 8 1 := Kp_at kI2 8 1 (by decide)
        have rf_I2 : FU (I2 1 5) = FU (Ia 1 5) := by rw [r1_5_I2]
        have qI2 := lI2.1
        unfold LRf at qI2
        refine ww_iload_n hX (pc := 12) dX7_takeTerm_12 rfl ?_
        refine ww_sipush hX (pc := 13) (x := 400) dX7_takeTerm_13 (by decide) ?_
        refine ww_icmp_ge hX (pc := 16) (tgt := 79) dX7_takeTerm_16 (by decide) (fun h_16 => ?_) (fun h_16 => ?_)
        · simp only [w32_mod] at h_16
          refine ww_iconst hX (pc := 79) (x := 1) dX7_takeTerm_79 rfl ?_
          refine rZ hX (pc := 80) hT (Nat.le_refl 0) (Nat.le_refl 0) dX7_takeTerm_80 (by decide) ?_
          exact ⟨kI2, kJ2, lI2, by omega, by omega⟩
        · simp only [w32_mod] at h_16
          refine ww_aload_n hX (pc := 19) dX7_takeTerm_19 rfl ?_
          refine ww_getI hX (pc := 20) fX7_38 (by decide) (xs_10 hL) dX7_takeTerm_20 ?_
          refine ww_bipush hX (pc := 23) (x := 42) dX7_takeTerm_23 (by decide) ?_
          refine ww_icmp_eq hX (pc := 25) (tgt := 46) dX7_takeTerm_25 (by decide) (fun h_25 => ?_) (fun h_25 => ?_)
          · simp only [w32_mod] at h_25
            refine ww_aload_n hX (pc := 46) dX7_takeTerm_46 rfl ?_
            refine ww_getI hX (pc := 47) fX7_38 (by decide) (xs_10 hL) dX7_takeTerm_47 ?_
            refine ww_nmI (fun v_50 hv_50 => ?_)
            refine ww_istore_n hX (pc := 50) (lv' := [some (kR (some 10)), some (kI (8 - (m : Int))), some (kI i), some (kI v_50)]) dX7_takeTerm_50 (by decide) rfl rfl ?_
            refine ww_aload_n hX (pc := 51) dX7_takeTerm_51 rfl ?_
            refine vV0 hX (pc := 52) sX7_71 (xs_10 hL) (c_X7_advance l0 hL (XI_kp hI kI2 (by decide)) lI2) (by omega) (Nat.le_refl 0) (Nat.le_refl 0) (Nat.le_of_ble_eq_true rfl) dX7_takeTerm_52 (fun I_52 J_52 h_52 => ?_)
            have kI_52 : Kp 10 15 Ia I_52 := Kp_tr kI2 (Kp_wd h_52.1 (by decide) (by decide))
            have kJ_52 : Kp 10 15 Ja J_52 := Kp_tr kJ2 (Kp_wd h_52.2.1 (by decide) (by decide))
            have r1_5_I_52 : I_52 1 5 = Ia 1 5 := Kp_at kI_52 1 5 (by decide)
            have r8_1_I_52 : I_52 8 1 = Ia 8 1 := Kp_at kI_52 8 1 (by decide)
            have rf_I_52 : FU (I_52 1 5) = FU (Ia 1 5) := by rw [r1_5_I_52]
            have lI_52 : LR I_52 := h_52.2.2.1
            have qI_52 := lI_52.1
            unfold LRf at qI_52
            have cI_52 := h_52.2.2.2
            refine ww_aload_n hX (pc := 55) dX7_takeTerm_55 rfl ?_
            refine ww_iload_n hX (pc := 56) dX7_takeTerm_56 rfl ?_
            refine vI1 hX (pc := 57) sX7_113 (xs_10 hL) (c_X7_takePart l0 (m := m) hm hrec hL (XI_kp hI kI_52 (by decide)) lI_52) (by omega) (Nat.le_refl 0) (Nat.le_refl 0) (Nat.le_of_ble_eq_true rfl) dX7_takeTerm_57 (fun x_57 I_57 J_57 h_57 => ?_)
            have kI_57 : Kp 10 15 Ia I_57 := Kp_tr kI_52 (Kp_wd h_57.1 (by decide) (by decide))
            have kJ_57 : Kp 10 15 Ja J_57 := Kp_tr kJ_52 (Kp_wd h_57.2.1 (by decide) (by decide))
            have r1_5_I_57 : I_57 1 5 = Ia 1 5 := Kp_at kI_57 1 5 (by decide)
            have r8_1_I_57 : I_57 8 1 = Ia 8 1 := Kp_at kI_57 8 1 (by decide)
            have rf_I_57 : FU (I_57 1 5) = FU (Ia 1 5) := by rw [r1_5_I_57]
            have lI_57 : LR I_57 := h_57.2.2.1
            have qI_57 := lI_57.1
            unfold LRf at qI_57
            have cI_57 := h_57.2.2.2
            refine ww_if_ne hX (pc := 60) (tgt := 65) dX7_takeTerm_60 (by decide) (fun h_60 => ?_) (fun h_60 => ?_)
            · simp only [w32_mod] at h_60
              refine ww_aload_n hX (pc := 65) dX7_takeTerm_65 rfl ?_
              refine ww_iload_n hX (pc := 66) dX7_takeTerm_66 rfl ?_
              refine sI1 hX (pc := 67) sX7_107 (c_X7_stepOf l0) (by omega) (Nat.le_refl 0) (Nat.le_refl 0) (Nat.le_of_ble_eq_true rfl) dX7_takeTerm_67 (fun x_67 I_67 J_67 h_67 => ?_)
              obtain ⟨rfl, rfl, h_67⟩ := h_67
              refine vV1 hX (pc := 70) sX7_101 (xs_10 hL) (c_X7_step l0 hL (XI_kp hI kI_57 (by decide)) lI_57 (by omega) (by omega)) (by omega) (Nat.le_refl 0) (Nat.le_refl 0) (Nat.le_of_ble_eq_true rfl) dX7_takeTerm_70 (fun I_70 J_70 h_70 => ?_)
              have kI_70 : Kp 10 15 Ia I_70 := Kp_tr kI_57 (Kp_wd h_70.1 (by decide) (by decide))
              have kJ_70 : Kp 10 15 Ja J_70 := Kp_tr kJ_57 (Kp_wd h_70.2.1 (by decide) (by decide))
              have r1_5_I_70 : I_70 1 5 = Ia 1 5 := Kp_at kI_70 1 5 (by decide)
              have r8_1_I_70 : I_70 8 1 = Ia 8 1 := Kp_at kI_70 8 1 (by decide)
              have rf_I_70 : FU (I_70 1 5) = FU (Ia 1 5) := by rw [r1_5_I_70]
              have lI_70 : LR I_70 := h_70.2.2.1
              have qI_70 := lI_70.1
              unfold LRf at qI_70
              have cI_70 := h_70.2.2.2
              refine ww_iinc hX (pc := 73) (lv' := [some (kR (some 10)), some (kI (8 - (m : Int))), some (kI (i + 1)), some (kI v_50)]) dX7_takeTerm_73 rfl (by decide) rfl rfl ?_
              refine ww_goto hX (pc := 76) (tgt := 12) dX7_takeTerm_76 (by decide) ?_
              refine ww_sub [some (kR (some 10)), some (kI (8 - (m : Int))), some (kI (i + 1)), none] (aLe_s (aLe_s (aLe_s (aLe_n aLe_0)))) ?_
              exact ih_12 _ (by have hm9 := Sh0_e hq_12; omega) (i + 1) I_70 J_70 rfl ⟨kI_70, kJ_70, lI_70, by omega, ⟨by omega, by omega⟩⟩
            · simp only [w32_mod] at h_60
              refine ww_iconst hX (pc := 63) (x := 0) dX7_takeTerm_63 rfl ?_
              refine rZ hX (pc := 64) hT (Nat.le_refl 0) (Nat.le_refl 0) dX7_takeTerm_64 (by decide) ?_
              exact ⟨kI_57, kJ_57, lI_57, by omega, by omega⟩
          · simp only [w32_mod] at h_25
            refine ww_aload_n hX (pc := 28) dX7_takeTerm_28 rfl ?_
            refine ww_getI hX (pc := 29) fX7_38 (by decide) (xs_10 hL) dX7_takeTerm_29 ?_
            refine ww_bipush hX (pc := 32) (x := 47) dX7_takeTerm_32 (by decide) ?_
            refine ww_icmp_eq hX (pc := 34) (tgt := 46) dX7_takeTerm_34 (by decide) (fun h_34 => ?_) (fun h_34 => ?_)
            · simp only [w32_mod] at h_34
              refine ww_aload_n hX (pc := 46) dX7_takeTerm_46 rfl ?_
              refine ww_getI hX (pc := 47) fX7_38 (by decide) (xs_10 hL) dX7_takeTerm_47 ?_
              refine ww_nmI (fun v_50 hv_50 => ?_)
              refine ww_istore_n hX (pc := 50) (lv' := [some (kR (some 10)), some (kI (8 - (m : Int))), some (kI i), some (kI v_50)]) dX7_takeTerm_50 (by decide) rfl rfl ?_
              refine ww_aload_n hX (pc := 51) dX7_takeTerm_51 rfl ?_
              refine vV0 hX (pc := 52) sX7_71 (xs_10 hL) (c_X7_advance l0 hL (XI_kp hI kI2 (by decide)) lI2) (by omega) (Nat.le_refl 0) (Nat.le_refl 0) (Nat.le_of_ble_eq_true rfl) dX7_takeTerm_52 (fun I_52 J_52 h_52 => ?_)
              have kI_52 : Kp 10 15 Ia I_52 := Kp_tr kI2 (Kp_wd h_52.1 (by decide) (by decide))
              have kJ_52 : Kp 10 15 Ja J_52 := Kp_tr kJ2 (Kp_wd h_52.2.1 (by decide) (by decide))
              have r1_5_I_52 : I_52 1 5 = Ia 1 5 := Kp_at kI_52 1 5 (by decide)
              have r8_1_I_52 : I_52 8 1 = Ia 8 1 := Kp_at kI_52 8 1 (by decide)
              have rf_I_52 : FU (I_52 1 5) = FU (Ia 1 5) := by rw [r1_5_I_52]
              have lI_52 : LR I_52 := h_52.2.2.1
              have qI_52 := lI_52.1
              unfold LRf at qI_52
              have cI_52 := h_52.2.2.2
              refine ww_aload_n hX (pc := 55) dX7_takeTerm_55 rfl ?_
              refine ww_iload_n hX (pc := 56) dX7_takeTerm_56 rfl ?_
              refine vI1 hX (pc := 57) sX7_113 (xs_10 hL) (c_X7_takePart l0 (m := m) hm hrec hL (XI_kp hI kI_52 (by decide)) lI_52) (by omega) (Nat.le_refl 0) (Nat.le_refl 0) (Nat.le_of_ble_eq_true rfl) dX7_takeTerm_57 (fun x_57 I_57 J_57 h_57 => ?_)
              have kI_57 : Kp 10 15 Ia I_57 := Kp_tr kI_52 (Kp_wd h_57.1 (by decide) (by decide))
              have kJ_57 : Kp 10 15 Ja J_57 := Kp_tr kJ_52 (Kp_wd h_57.2.1 (by decide) (by decide))
              have r1_5_I_57 : I_57 1 5 = Ia 1 5 := Kp_at kI_57 1 5 (by decide)
              have r8_1_I_57 : I_57 8 1 = Ia 8 1 := Kp_at kI_57 8 1 (by decide)
              have rf_I_57 : FU (I_57 1 5) = FU (Ia 1 5) := by rw [r1_5_I_57]
              have lI_57 : LR I_57 := h_57.2.2.1
              have qI_57 := lI_57.1
              unfold LRf at qI_57
              have cI_57 := h_57.2.2.2
              refine ww_if_ne hX (pc := 60) (tgt := 65) dX7_takeTerm_60 (by decide) (fun h_60 => ?_) (fun h_60 => ?_)
              · simp only [w32_mod] at h_60
                refine ww_aload_n hX (pc := 65) dX7_takeTerm_65 rfl ?_
                refine ww_iload_n hX (pc := 66) dX7_takeTerm_66 rfl ?_
                refine sI1 hX (pc := 67) sX7_107 (c_X7_stepOf l0) (by omega) (Nat.le_refl 0) (Nat.le_refl 0) (Nat.le_of_ble_eq_true rfl) dX7_takeTerm_67 (fun x_67 I_67 J_67 h_67 => ?_)
                obtain ⟨rfl, rfl, h_67⟩ := h_67
                refine vV1 hX (pc := 70) sX7_101 (xs_10 hL) (c_X7_step l0 hL (XI_kp hI kI_57 (by decide)) lI_57 (by omega) (by omega)) (by omega) (Nat.le_refl 0) (Nat.le_refl 0) (Nat.le_of_ble_eq_true rfl) dX7_takeTerm_70 (fun I_70 J_70 h_70 => ?_)
                have kI_70 : Kp 10 15 Ia I_70 := Kp_tr kI_57 (Kp_wd h_70.1 (by decide) (by decide))
                have kJ_70 : Kp 10 15 Ja J_70 := Kp_tr kJ_57 (Kp_wd h_70.2.1 (by decide) (by decide))
                have r1_5_I_70 : I_70 1 5 = Ia 1 5 := Kp_at kI_70 1 5 (by decide)
                have r8_1_I_70 : I_70 8 1 = Ia 8 1 := Kp_at kI_70 8 1 (by decide)
                have rf_I_70 : FU (I_70 1 5) = FU (Ia 1 5) := by rw [r1_5_I_70]
                have lI_70 : LR I_70 := h_70.2.2.1
                have qI_70 := lI_70.1
                unfold LRf at qI_70
                have cI_70 := h_70.2.2.2
                refine ww_iinc hX (pc := 73) (lv' := [some (kR (some 10)), some (kI (8 - (m : Int))), some (kI (i + 1)), some (kI v_50)]) dX7_takeTerm_73 rfl (by decide) rfl rfl ?_
                refine ww_goto hX (pc := 76) (tgt := 12) dX7_takeTerm_76 (by decide) ?_
                refine ww_sub [some (kR (some 10)), some (kI (8 - (m : Int))), some (kI (i + 1)), none] (aLe_s (aLe_s (aLe_s (aLe_n aLe_0)))) ?_
                exact ih_12 _ (by have hm9 := Sh0_e hq_12; omega) (i + 1) I_70 J_70 rfl ⟨kI_70, kJ_70, lI_70, by omega, ⟨by omega, by omega⟩⟩
              · simp only [w32_mod] at h_60
                refine ww_iconst hX (pc := 63) (x := 0) dX7_takeTerm_63 rfl ?_
                refine rZ hX (pc := 64) hT (Nat.le_refl 0) (Nat.le_refl 0) dX7_takeTerm_64 (by decide) ?_
                exact ⟨kI_57, kJ_57, lI_57, by omega, by omega⟩
            · simp only [w32_mod] at h_34
              refine ww_aload_n hX (pc := 37) dX7_takeTerm_37 rfl ?_
              refine ww_getI hX (pc := 38) fX7_38 (by decide) (xs_10 hL) dX7_takeTerm_38 ?_
              refine ww_bipush hX (pc := 41) (x := 37) dX7_takeTerm_41 (by decide) ?_
              refine ww_icmp_ne hX (pc := 43) (tgt := 79) dX7_takeTerm_43 (by decide) (fun h_43 => ?_) (fun h_43 => ?_)
              · simp only [w32_mod] at h_43
                refine ww_iconst hX (pc := 79) (x := 1) dX7_takeTerm_79 rfl ?_
                refine rZ hX (pc := 80) hT (Nat.le_refl 0) (Nat.le_refl 0) dX7_takeTerm_80 (by decide) ?_
                exact ⟨kI2, kJ2, lI2, by omega, by omega⟩
              · simp only [w32_mod] at h_43
                refine ww_aload_n hX (pc := 46) dX7_takeTerm_46 rfl ?_
                refine ww_getI hX (pc := 47) fX7_38 (by decide) (xs_10 hL) dX7_takeTerm_47 ?_
                refine ww_nmI (fun v_50 hv_50 => ?_)
                refine ww_istore_n hX (pc := 50) (lv' := [some (kR (some 10)), some (kI (8 - (m : Int))), some (kI i), some (kI v_50)]) dX7_takeTerm_50 (by decide) rfl rfl ?_
                refine ww_aload_n hX (pc := 51) dX7_takeTerm_51 rfl ?_
                refine vV0 hX (pc := 52) sX7_71 (xs_10 hL) (c_X7_advance l0 hL (XI_kp hI kI2 (by decide)) lI2) (by omega) (Nat.le_refl 0) (Nat.le_refl 0) (Nat.le_of_ble_eq_true rfl) dX7_takeTerm_52 (fun I_52 J_52 h_52 => ?_)
                have kI_52 : Kp 10 15 Ia I_52 := Kp_tr kI2 (Kp_wd h_52.1 (by decide) (by decide))
                have kJ_52 : Kp 10 15 Ja J_52 := Kp_tr kJ2 (Kp_wd h_52.2.1 (by decide) (by decide))
                have r1_5_I_52 : I_52 1 5 = Ia 1 5 := Kp_at kI_52 1 5 (by decide)
                have r8_1_I_52 : I_52 8 1 = Ia 8 1 := Kp_at kI_52 8 1 (by decide)
                have rf_I_52 : FU (I_52 1 5) = FU (Ia 1 5) := by rw [r1_5_I_52]
                have lI_52 : LR I_52 := h_52.2.2.1
                have qI_52 := lI_52.1
                unfold LRf at qI_52
                have cI_52 := h_52.2.2.2
                refine ww_aload_n hX (pc := 55) dX7_takeTerm_55 rfl ?_
                refine ww_iload_n hX (pc := 56) dX7_takeTerm_56 rfl ?_
                refine vI1 hX (pc := 57) sX7_113 (xs_10 hL) (c_X7_takePart l0 (m := m) hm hrec hL (XI_kp hI kI_52 (by decide)) lI_52) (by omega) (Nat.le_refl 0) (Nat.le_refl 0) (Nat.le_of_ble_eq_true rfl) dX7_takeTerm_57 (fun x_57 I_57 J_57 h_57 => ?_)
                have kI_57 : Kp 10 15 Ia I_57 := Kp_tr kI_52 (Kp_wd h_57.1 (by decide) (by decide))
                have kJ_57 : Kp 10 15 Ja J_57 := Kp_tr kJ_52 (Kp_wd h_57.2.1 (by decide) (by decide))
                have r1_5_I_57 : I_57 1 5 = Ia 1 5 := Kp_at kI_57 1 5 (by decide)
                have r8_1_I_57 : I_57 8 1 = Ia 8 1 := Kp_at kI_57 8 1 (by decide)
                have rf_I_57 : FU (I_57 1 5) = FU (Ia 1 5) := by rw [r1_5_I_57]
                have lI_57 : LR I_57 := h_57.2.2.1
                have qI_57 := lI_57.1
                unfold LRf at qI_57
                have cI_57 := h_57.2.2.2
                refine ww_if_ne hX (pc := 60) (tgt := 65) dX7_takeTerm_60 (by decide) (fun h_60 => ?_) (fun h_60 => ?_)
                · simp only [w32_mod] at h_60
                  refine ww_aload_n hX (pc := 65) dX7_takeTerm_65 rfl ?_
                  refine ww_iload_n hX (pc := 66) dX7_takeTerm_66 rfl ?_
                  refine sI1 hX (pc := 67) sX7_107 (c_X7_stepOf l0) (by omega) (Nat.le_refl 0) (Nat.le_refl 0) (Nat.le_of_ble_eq_true rfl) dX7_takeTerm_67 (fun x_67 I_67 J_67 h_67 => ?_)
                  obtain ⟨rfl, rfl, h_67⟩ := h_67
                  refine vV1 hX (pc := 70) sX7_101 (xs_10 hL) (c_X7_step l0 hL (XI_kp hI kI_57 (by decide)) lI_57 (by omega) (by omega)) (by omega) (Nat.le_refl 0) (Nat.le_refl 0) (Nat.le_of_ble_eq_true rfl) dX7_takeTerm_70 (fun I_70 J_70 h_70 => ?_)
                  have kI_70 : Kp 10 15 Ia I_70 := Kp_tr kI_57 (Kp_wd h_70.1 (by decide) (by decide))
                  have kJ_70 : Kp 10 15 Ja J_70 := Kp_tr kJ_57 (Kp_wd h_70.2.1 (by decide) (by decide))
                  have r1_5_I_70 : I_70 1 5 = Ia 1 5 := Kp_at kI_70 1 5 (by decide)
                  have r8_1_I_70 : I_70 8 1 = Ia 8 1 := Kp_at kI_70 8 1 (by decide)
                  have rf_I_70 : FU (I_70 1 5) = FU (Ia 1 5) := by rw [r1_5_I_70]
                  have lI_70 : LR I_70 := h_70.2.2.1
                  have qI_70 := lI_70.1
                  unfold LRf at qI_70
                  have cI_70 := h_70.2.2.2
                  refine ww_iinc hX (pc := 73) (lv' := [some (kR (some 10)), some (kI (8 - (m : Int))), some (kI (i + 1)), some (kI v_50)]) dX7_takeTerm_73 rfl (by decide) rfl rfl ?_
                  refine ww_goto hX (pc := 76) (tgt := 12) dX7_takeTerm_76 (by decide) ?_
                  refine ww_sub [some (kR (some 10)), some (kI (8 - (m : Int))), some (kI (i + 1)), none] (aLe_s (aLe_s (aLe_s (aLe_n aLe_0)))) ?_
                  exact ih_12 _ (by have hm9 := Sh0_e hq_12; omega) (i + 1) I_70 J_70 rfl ⟨kI_70, kJ_70, lI_70, by omega, ⟨by omega, by omega⟩⟩
                · simp only [w32_mod] at h_60
                  refine ww_iconst hX (pc := 63) (x := 0) dX7_takeTerm_63 rfl ?_
                  refine rZ hX (pc := 64) hT (Nat.le_refl 0) (Nat.le_refl 0) dX7_takeTerm_64 (by decide) ?_
                  exact ⟨kI_57, kJ_57, lI_57, by omega, by omega⟩
    exact hl_12 _ 0 I_2 J_2 rfl ⟨kI_2, kJ_2, lI_2, by omega, ⟨by omega, by omega⟩⟩
  · simp only [w32_mod] at h_5
    refine ww_iconst hX (pc := 8) (x := 0) dX7_takeTerm_8 rfl ?_
    refine rZ hX (pc := 9) hT (Nat.le_refl 0) (Nat.le_refl 0) dX7_takeTerm_9 (by decide) ?_
    exact ⟨kI_2, kJ_2, lI_2, by omega, by omega⟩
set_option maxHeartbeats 4000000 in
set_option maxRecDepth 20000 in
theorem c_X7_takeSum (l0 : Launch) {m : Nat} (hm : m ≤ 8) (hrec : ∀ mp, m = mp + 1 → PSum l0 mp) {Ia Ja : aI1} {Ra : aR1} {Sa : aS1} (hL : LY Ra Sa) (hI : XI Ia) (hR : LR Ia)  : CT l0 (10 * m + 16) 0 0 mX7_takeSum [kR (some 10), kI (8 - (m : Int))] Ia Ja Ra Sa (cI (fun x I' J' => Kp 10 15 Ia I' ∧ Kp 10 15 Ja J' ∧ LR I' ∧ I' 10 11 = Ia 10 11 ∧ (x = 0 ∨ x = 1)) Ra Sa) := by
  refine ct_in pn_X7 (Nat.le_of_ble_eq_true rfl) (fun X hX hT hIn => ?_)
  have hX : aK l0 X cX7_takeSum 4 RX7 (some .boolean) (10 * m + 16) 0 0 := hX
  change WW X 0 [some (kR (some 10)), some (kI (8 - (m : Int))), none, none] [] Ia Ja Ra Sa 0 0
  obtain ⟨hn1, hn2⟩ := hI.1
  obtain ⟨hk1, hk2⟩ := hI.2.1
  obtain ⟨hf1, hf2⟩ := hI.fu
  obtain ⟨hl1, hl2⟩ := hI.2.2.2.2.2.2.1
  have hq := hR.1
  unfold LRf at hq
  refine ww_aload_n hX (pc := 0) dX7_takeSum_0 rfl ?_
  refine ww_iload_n hX (pc := 1) dX7_takeSum_1 rfl ?_
  refine vI1 hX (pc := 2) sX7_110 (xs_10 hL) (c_X7_takeTerm l0 (m := m) hm hrec hL hI hR) (by omega) (Nat.le_refl 0) (Nat.le_refl 0) (Nat.le_of_ble_eq_true rfl) dX7_takeSum_2 (fun x_2 I_2 J_2 h_2 => ?_)
  have kI_2 : Kp 10 15 Ia I_2 := Kp_tr (Kp_rf (a := 10) (b := 15)) (Kp_wd h_2.1 (by decide) (by decide))
  have kJ_2 : Kp 10 15 Ja J_2 := Kp_tr (Kp_rf (a := 10) (b := 15)) (Kp_wd h_2.2.1 (by decide) (by decide))
  have r1_5_I_2 : I_2 1 5 = Ia 1 5 := Kp_at kI_2 1 5 (by decide)
  have r8_1_I_2 : I_2 8 1 = Ia 8 1 := Kp_at kI_2 8 1 (by decide)
  have rf_I_2 : FU (I_2 1 5) = FU (Ia 1 5) := by rw [r1_5_I_2]
  have lI_2 : LR I_2 := h_2.2.2.1
  have qI_2 := lI_2.1
  unfold LRf at qI_2
  have cI_2 := h_2.2.2.2
  refine ww_if_ne hX (pc := 5) (tgt := 10) dX7_takeSum_5 (by decide) (fun h_5 => ?_) (fun h_5 => ?_)
  · simp only [w32_mod] at h_5
    refine ww_iconst hX (pc := 10) (x := 0) dX7_takeSum_10 rfl ?_
    refine ww_istore_n hX (pc := 11) (lv' := [some (kR (some 10)), some (kI (8 - (m : Int))), some (kI 0), none]) dX7_takeSum_11 (by decide) rfl rfl ?_
    have hl_12 : ∀ (n_12 : Nat) (i : Int) (I2 : aI1) (J2 : aI1), (400 - i).toNat = n_12 → (Kp 10 15 Ia I2 ∧ Kp 10 15 Ja J2 ∧ LR I2 ∧ I2 10 11 = Ia 10 11 ∧ (0 ≤ i ∧ i ≤ 400)) → WW X 12 [some (kR (some 10)), some (kI (8 - (m : Int))), some (kI i), none] [] I2 J2 Ra Sa 0 0 := by
      intro n_12
      induction n_12 using Nat.strongRecOn with
      | ind n_12 ih_12 =>
        intro i I2 J2 hm_12 hv_12
        have hq_12 := Sh0_i hm_12
        clear hm_12
        obtain ⟨kI2, kJ2, lI2, cI2, hi⟩ := hv_12
        have r1_5_I2 : I2 1 5 = Ia 1 5 := Kp_at kI2 1 5 (by decide)
        have r8_1_I2 : I2 8 1 = Ia 8 1 := Kp_at kI2 8 1 (by decide)
        have rf_I2 : FU (I2 1 5) = FU (Ia 1 5) := by rw [r1_5_I2]
        have qI2 := lI2.1
        unfold LRf at qI2
        refine ww_iload_n hX (pc := 12) dX7_takeSum_12 rfl ?_
        refine ww_sipush hX (pc := 13) (x := 400) dX7_takeSum_13 (by decide) ?_
        refine ww_icmp_ge hX (pc := 16) (tgt := 70) dX7_takeSum_16 (by decide) (fun h_16 => ?_) (fun h_16 => ?_)
        · simp only [w32_mod] at h_16
          refine ww_iconst hX (pc := 70) (x := 1) dX7_takeSum_70 rfl ?_
          refine rZ hX (pc := 71) hT (Nat.le_refl 0) (Nat.le_refl 0) dX7_takeSum_71 (by decide) ?_
          exact ⟨kI2, kJ2, lI2, by omega, by omega⟩
        · simp only [w32_mod] at h_16
          refine ww_aload_n hX (pc := 19) dX7_takeSum_19 rfl ?_
          refine ww_getI hX (pc := 20) fX7_38 (by decide) (xs_10 hL) dX7_takeSum_20 ?_
          refine ww_bipush hX (pc := 23) (x := 43) dX7_takeSum_23 (by decide) ?_
          refine ww_icmp_eq hX (pc := 25) (tgt := 37) dX7_takeSum_25 (by decide) (fun h_25 => ?_) (fun h_25 => ?_)
          · simp only [w32_mod] at h_25
            refine ww_aload_n hX (pc := 37) dX7_takeSum_37 rfl ?_
            refine ww_getI hX (pc := 38) fX7_38 (by decide) (xs_10 hL) dX7_takeSum_38 ?_
            refine ww_nmI (fun v_41 hv_41 => ?_)
            refine ww_istore_n hX (pc := 41) (lv' := [some (kR (some 10)), some (kI (8 - (m : Int))), some (kI i), some (kI v_41)]) dX7_takeSum_41 (by decide) rfl rfl ?_
            refine ww_aload_n hX (pc := 42) dX7_takeSum_42 rfl ?_
            refine vV0 hX (pc := 43) sX7_71 (xs_10 hL) (c_X7_advance l0 hL (XI_kp hI kI2 (by decide)) lI2) (by omega) (Nat.le_refl 0) (Nat.le_refl 0) (Nat.le_of_ble_eq_true rfl) dX7_takeSum_43 (fun I_43 J_43 h_43 => ?_)
            have kI_43 : Kp 10 15 Ia I_43 := Kp_tr kI2 (Kp_wd h_43.1 (by decide) (by decide))
            have kJ_43 : Kp 10 15 Ja J_43 := Kp_tr kJ2 (Kp_wd h_43.2.1 (by decide) (by decide))
            have r1_5_I_43 : I_43 1 5 = Ia 1 5 := Kp_at kI_43 1 5 (by decide)
            have r8_1_I_43 : I_43 8 1 = Ia 8 1 := Kp_at kI_43 8 1 (by decide)
            have rf_I_43 : FU (I_43 1 5) = FU (Ia 1 5) := by rw [r1_5_I_43]
            have lI_43 : LR I_43 := h_43.2.2.1
            have qI_43 := lI_43.1
            unfold LRf at qI_43
            have cI_43 := h_43.2.2.2
            refine ww_aload_n hX (pc := 46) dX7_takeSum_46 rfl ?_
            refine ww_iload_n hX (pc := 47) dX7_takeSum_47 rfl ?_
            refine vI1 hX (pc := 48) sX7_110 (xs_10 hL) (c_X7_takeTerm l0 (m := m) hm hrec hL (XI_kp hI kI_43 (by decide)) lI_43) (by omega) (Nat.le_refl 0) (Nat.le_refl 0) (Nat.le_of_ble_eq_true rfl) dX7_takeSum_48 (fun x_48 I_48 J_48 h_48 => ?_)
            have kI_48 : Kp 10 15 Ia I_48 := Kp_tr kI_43 (Kp_wd h_48.1 (by decide) (by decide))
            have kJ_48 : Kp 10 15 Ja J_48 := Kp_tr kJ_43 (Kp_wd h_48.2.1 (by decide) (by decide))
            have r1_5_I_48 : I_48 1 5 = Ia 1 5 := Kp_at kI_48 1 5 (by decide)
            have r8_1_I_48 : I_48 8 1 = Ia 8 1 := Kp_at kI_48 8 1 (by decide)
            have rf_I_48 : FU (I_48 1 5) = FU (Ia 1 5) := by rw [r1_5_I_48]
            have lI_48 : LR I_48 := h_48.2.2.1
            have qI_48 := lI_48.1
            unfold LRf at qI_48
            have cI_48 := h_48.2.2.2
            refine ww_if_ne hX (pc := 51) (tgt := 56) dX7_takeSum_51 (by decide) (fun h_51 => ?_) (fun h_51 => ?_)
            · simp only [w32_mod] at h_51
              refine ww_aload_n hX (pc := 56) dX7_takeSum_56 rfl ?_
              refine ww_iload_n hX (pc := 57) dX7_takeSum_57 rfl ?_
              refine sI1 hX (pc := 58) sX7_107 (c_X7_stepOf l0) (by omega) (Nat.le_refl 0) (Nat.le_refl 0) (Nat.le_of_ble_eq_true rfl) dX7_takeSum_58 (fun x_58 I_58 J_58 h_58 => ?_)
              obtain ⟨rfl, rfl, h_58⟩ := h_58
              refine vV1 hX (pc := 61) sX7_101 (xs_10 hL) (c_X7_step l0 hL (XI_kp hI kI_48 (by decide)) lI_48 (by omega) (by omega)) (by omega) (Nat.le_refl 0) (Nat.le_refl 0) (Nat.le_of_ble_eq_true rfl) dX7_takeSum_61 (fun I_61 J_61 h_61 => ?_)
              have kI_61 : Kp 10 15 Ia I_61 := Kp_tr kI_48 (Kp_wd h_61.1 (by decide) (by decide))
              have kJ_61 : Kp 10 15 Ja J_61 := Kp_tr kJ_48 (Kp_wd h_61.2.1 (by decide) (by decide))
              have r1_5_I_61 : I_61 1 5 = Ia 1 5 := Kp_at kI_61 1 5 (by decide)
              have r8_1_I_61 : I_61 8 1 = Ia 8 1 := Kp_at kI_61 8 1 (by decide)
              have rf_I_61 : FU (I_61 1 5) = FU (Ia 1 5) := by rw [r1_5_I_61]
              have lI_61 : LR I_61 := h_61.2.2.1
              have qI_61 := lI_61.1
              unfold LRf at qI_61
              have cI_61 := h_61.2.2.2
              refine ww_iinc hX (pc := 64) (lv' := [some (kR (some 10)), some (kI (8 - (m : Int))), some (kI (i + 1)), some (kI v_41)]) dX7_takeSum_64 rfl (by decide) rfl rfl ?_
              refine ww_goto hX (pc := 67) (tgt := 12) dX7_takeSum_67 (by decide) ?_
              refine ww_sub [some (kR (some 10)), some (kI (8 - (m : Int))), some (kI (i + 1)), none] (aLe_s (aLe_s (aLe_s (aLe_n aLe_0)))) ?_
              exact ih_12 _ (by have hm9 := Sh0_e hq_12; omega) (i + 1) I_61 J_61 rfl ⟨kI_61, kJ_61, lI_61, by omega, ⟨by omega, by omega⟩⟩
            · simp only [w32_mod] at h_51
              refine ww_iconst hX (pc := 54) (x := 0) dX7_takeSum_54 rfl ?_
              refine rZ hX (pc := 55) hT (Nat.le_refl 0) (Nat.le_refl 0) dX7_takeSum_55 (by decide) ?_
              exact ⟨kI_48, kJ_48, lI_48, by omega, by omega⟩
          · simp only [w32_mod] at h_25
            refine ww_aload_n hX (pc := 28) dX7_takeSum_28 rfl ?_
            refine ww_getI hX (pc := 29) fX7_38 (by decide) (xs_10 hL) dX7_takeSum_29 ?_
            refine ww_bipush hX (pc := 32) (x := 45) dX7_takeSum_32 (by decide) ?_
            refine ww_icmp_ne hX (pc := 34) (tgt := 70) dX7_takeSum_34 (by decide) (fun h_34 => ?_) (fun h_34 => ?_)
            · simp only [w32_mod] at h_34
              refine ww_iconst hX (pc := 70) (x := 1) dX7_takeSum_70 rfl ?_
              refine rZ hX (pc := 71) hT (Nat.le_refl 0) (Nat.le_refl 0) dX7_takeSum_71 (by decide) ?_
              exact ⟨kI2, kJ2, lI2, by omega, by omega⟩
            · simp only [w32_mod] at h_34
              refine ww_aload_n hX (pc := 37) dX7_takeSum_37 rfl ?_
              refine ww_getI hX (pc := 38) fX7_38 (by decide) (xs_10 hL) dX7_takeSum_38 ?_
              refine ww_nmI (fun v_41 hv_41 => ?_)
              refine ww_istore_n hX (pc := 41) (lv' := [some (kR (some 10)), some (kI (8 - (m : Int))), some (kI i), some (kI v_41)]) dX7_takeSum_41 (by decide) rfl rfl ?_
              refine ww_aload_n hX (pc := 42) dX7_takeSum_42 rfl ?_
              refine vV0 hX (pc := 43) sX7_71 (xs_10 hL) (c_X7_advance l0 hL (XI_kp hI kI2 (by decide)) lI2) (by omega) (Nat.le_refl 0) (Nat.le_refl 0) (Nat.le_of_ble_eq_true rfl) dX7_takeSum_43 (fun I_43 J_43 h_43 => ?_)
              have kI_43 : Kp 10 15 Ia I_43 := Kp_tr kI2 (Kp_wd h_43.1 (by decide) (by decide))
              have kJ_43 : Kp 10 15 Ja J_43 := Kp_tr kJ2 (Kp_wd h_43.2.1 (by decide) (by decide))
              have r1_5_I_43 : I_43 1 5 = Ia 1 5 := Kp_at kI_43 1 5 (by decide)
              have r8_1_I_43 : I_43 8 1 = Ia 8 1 := Kp_at kI_43 8 1 (by decide)
              have rf_I_43 : FU (I_43 1 5) = FU (Ia 1 5) := by rw [r1_5_I_43]
              have lI_43 : LR I_43 := h_43.2.2.1
              have qI_43 := lI_43.1
              unfold LRf at qI_43
              have cI_43 := h_43.2.2.2
              refine ww_aload_n hX (pc := 46) dX7_takeSum_46 rfl ?_
              refine ww_iload_n hX (pc := 47) dX7_takeSum_47 rfl ?_
              refine vI1 hX (pc := 48) sX7_110 (xs_10 hL) (c_X7_takeTerm l0 (m := m) hm hrec hL (XI_kp hI kI_43 (by decide)) lI_43) (by omega) (Nat.le_refl 0) (Nat.le_refl 0) (Nat.le_of_ble_eq_true rfl) dX7_takeSum_48 (fun x_48 I_48 J_48 h_48 => ?_)
              have kI_48 : Kp 10 15 Ia I_48 := Kp_tr kI_43 (Kp_wd h_48.1 (by decide) (by decide))
              have kJ_48 : Kp 10 15 Ja J_48 := Kp_tr kJ_43 (Kp_wd h_48.2.1 (by decide) (by decide))
              have r1_5_I_48 : I_48 1 5 = Ia 1 5 := Kp_at kI_48 1 5 (by decide)
              have r8_1_I_48 : I_48 8 1 = Ia 8 1 := Kp_at kI_48 8 1 (by decide)
              have rf_I_48 : FU (I_48 1 5) = FU (Ia 1 5) := by rw [r1_5_I_48]
              have lI_48 : LR I_48 := h_48.2.2.1
              have qI_48 := lI_48.1
              unfold LRf at qI_48
              have cI_48 := h_48.2.2.2
              refine ww_if_ne hX (pc := 51) (tgt := 56) dX7_takeSum_51 (by decide) (fun h_51 => ?_) (fun h_51 => ?_)
              · simp only [w32_mod] at h_51
                refine ww_aload_n hX (pc := 56) dX7_takeSum_56 rfl ?_
                refine ww_iload_n hX (pc := 57) dX7_takeSum_57 rfl ?_
                refine sI1 hX (pc := 58) sX7_107 (c_X7_stepOf l0) (by omega) (Nat.le_refl 0) (Nat.le_refl 0) (Nat.le_of_ble_eq_true rfl) dX7_takeSum_58 (fun x_58 I_58 J_58 h_58 => ?_)
                obtain ⟨rfl, rfl, h_58⟩ := h_58
                refine vV1 hX (pc := 61) sX7_101 (xs_10 hL) (c_X7_step l0 hL (XI_kp hI kI_48 (by decide)) lI_48 (by omega) (by omega)) (by omega) (Nat.le_refl 0) (Nat.le_refl 0) (Nat.le_of_ble_eq_true rfl) dX7_takeSum_61 (fun I_61 J_61 h_61 => ?_)
                have kI_61 : Kp 10 15 Ia I_61 := Kp_tr kI_48 (Kp_wd h_61.1 (by decide) (by decide))
                have kJ_61 : Kp 10 15 Ja J_61 := Kp_tr kJ_48 (Kp_wd h_61.2.1 (by decide) (by decide))
                have r1_5_I_61 : I_61 1 5 = Ia 1 5 := Kp_at kI_61 1 5 (by decide)
                have r8_1_I_61 : I_61 8 1 = Ia 8 1 := Kp_at kI_61 8 1 (by decide)
                have rf_I_61 : FU (I_61 1 5) = FU (Ia 1 5) := by rw [r1_5_I_61]
                have lI_61 : LR I_61 := h_61.2.2.1
                have qI_61 := lI_61.1
                unfold LRf at qI_61
                have cI_61 := h_61.2.2.2
                refine ww_iinc hX (pc := 64) (lv' := [some (kR (some 10)), some (kI (8 - (m : Int))), some (kI (i + 1)), some (kI v_41)]) dX7_takeSum_64 rfl (by decide) rfl rfl ?_
                refine ww_goto hX (pc := 67) (tgt := 12) dX7_takeSum_67 (by decide) ?_
                refine ww_sub [some (kR (some 10)), some (kI (8 - (m : Int))), some (kI (i + 1)), none] (aLe_s (aLe_s (aLe_s (aLe_n aLe_0)))) ?_
                exact ih_12 _ (by have hm9 := Sh0_e hq_12; omega) (i + 1) I_61 J_61 rfl ⟨kI_61, kJ_61, lI_61, by omega, ⟨by omega, by omega⟩⟩
              · simp only [w32_mod] at h_51
                refine ww_iconst hX (pc := 54) (x := 0) dX7_takeSum_54 rfl ?_
                refine rZ hX (pc := 55) hT (Nat.le_refl 0) (Nat.le_refl 0) dX7_takeSum_55 (by decide) ?_
                exact ⟨kI_48, kJ_48, lI_48, by omega, by omega⟩
    exact hl_12 _ 0 I_2 J_2 rfl ⟨kI_2, kJ_2, lI_2, by omega, ⟨by omega, by omega⟩⟩
  · simp only [w32_mod] at h_5
    refine ww_iconst hX (pc := 8) (x := 0) dX7_takeSum_8 rfl ?_
    refine rZ hX (pc := 9) hT (Nat.le_refl 0) (Nat.le_refl 0) dX7_takeSum_9 (by decide) ?_
    exact ⟨kI_2, kJ_2, lI_2, by omega, by omega⟩
theorem c_PSum (l0 : Launch) : ∀ m : Nat, m ≤ 8 → PSum l0 m
  | 0, h => fun hL hI hR => c_X7_takeSum l0 (m := 0) h (fun mp e => absurd e (by omega)) hL hI hR
  | m + 1, h => fun hL hI hR => c_X7_takeSum l0 (m := m + 1) h (fun mp e => by
      obtain rfl : m = mp := by omega
      exact c_PSum l0 m (by omega)) hL hI hR
set_option maxHeartbeats 4000000 in
set_option maxRecDepth 20000 in
theorem c_X7_takeComparison (l0 : Launch) {m : Nat} (hm : m ≤ 8) {Ia Ja : aI1} {Ra : aR1} {Sa : aS1} (hL : LY Ra Sa) (hI : XI Ia) (hR : LR Ia)  : CT l0 (20 * m + 127) 0 0 mX7_takeComparison [kR (some 10), kI (8 - (m : Int))] Ia Ja Ra Sa (cI (fun x I' J' => Kp 10 15 Ia I' ∧ Kp 10 15 Ja J' ∧ LR I' ∧ I' 10 11 = Ia 10 11 ∧ (x = 0 ∨ x = 1)) Ra Sa) := by
  refine ct_in pn_X7 (Nat.le_of_ble_eq_true rfl) (fun X hX hT hIn => ?_)
  have hX : aK l0 X cX7_takeComparison 3 RX7 (some .boolean) (20 * m + 127) 0 0 := hX
  change WW X 0 [some (kR (some 10)), some (kI (8 - (m : Int))), none] [] Ia Ja Ra Sa 0 0
  obtain ⟨hn1, hn2⟩ := hI.1
  obtain ⟨hk1, hk2⟩ := hI.2.1
  obtain ⟨hf1, hf2⟩ := hI.fu
  obtain ⟨hl1, hl2⟩ := hI.2.2.2.2.2.2.1
  have hq := hR.1
  unfold LRf at hq
  refine ww_aload_n hX (pc := 0) dX7_takeComparison_0 rfl ?_
  refine ww_iload_n hX (pc := 1) dX7_takeComparison_1 rfl ?_
  refine vI1 hX (pc := 2) sX7_74 (xs_10 hL) (c_PSum l0 m hm hL hI hR) (by omega) (Nat.le_refl 0) (Nat.le_refl 0) (Nat.le_of_ble_eq_true rfl) dX7_takeComparison_2 (fun x_2 I_2 J_2 h_2 => ?_)
  have kI_2 : Kp 10 15 Ia I_2 := Kp_tr (Kp_rf (a := 10) (b := 15)) (Kp_wd h_2.1 (by decide) (by decide))
  have kJ_2 : Kp 10 15 Ja J_2 := Kp_tr (Kp_rf (a := 10) (b := 15)) (Kp_wd h_2.2.1 (by decide) (by decide))
  have r1_5_I_2 : I_2 1 5 = Ia 1 5 := Kp_at kI_2 1 5 (by decide)
  have r8_1_I_2 : I_2 8 1 = Ia 8 1 := Kp_at kI_2 8 1 (by decide)
  have rf_I_2 : FU (I_2 1 5) = FU (Ia 1 5) := by rw [r1_5_I_2]
  have lI_2 : LR I_2 := h_2.2.2.1
  have qI_2 := lI_2.1
  unfold LRf at qI_2
  have cI_2 := h_2.2.2.2
  refine ww_if_ne hX (pc := 5) (tgt := 10) dX7_takeComparison_5 (by decide) (fun h_5 => ?_) (fun h_5 => ?_)
  · simp only [w32_mod] at h_5
    refine ww_aload_n hX (pc := 10) dX7_takeComparison_10 rfl ?_
    refine ww_getI hX (pc := 11) fX7_38 (by decide) (xs_10 hL) dX7_takeComparison_11 ?_
    refine ww_bipush hX (pc := 14) (x := 60) dX7_takeComparison_14 (by decide) ?_
    refine ww_icmp_eq hX (pc := 16) (tgt := 42) dX7_takeComparison_16 (by decide) (fun h_16 => ?_) (fun h_16 => ?_)
    · simp only [w32_mod] at h_16
      refine ww_aload_n hX (pc := 42) dX7_takeComparison_42 rfl ?_
      refine ww_getI hX (pc := 43) fX7_38 (by decide) (xs_10 hL) dX7_takeComparison_43 ?_
      refine ww_nmI (fun v_46 hv_46 => ?_)
      refine ww_istore_n hX (pc := 46) (lv' := [some (kR (some 10)), some (kI (8 - (m : Int))), some (kI v_46)]) dX7_takeComparison_46 (by decide) rfl rfl ?_
      refine ww_aload_n hX (pc := 47) dX7_takeComparison_47 rfl ?_
      refine vV0 hX (pc := 48) sX7_71 (xs_10 hL) (c_X7_advance l0 hL (XI_kp hI kI_2 (by decide)) lI_2) (by omega) (Nat.le_refl 0) (Nat.le_refl 0) (Nat.le_of_ble_eq_true rfl) dX7_takeComparison_48 (fun I_48 J_48 h_48 => ?_)
      have kI_48 : Kp 10 15 Ia I_48 := Kp_tr kI_2 (Kp_wd h_48.1 (by decide) (by decide))
      have kJ_48 : Kp 10 15 Ja J_48 := Kp_tr kJ_2 (Kp_wd h_48.2.1 (by decide) (by decide))
      have r1_5_I_48 : I_48 1 5 = Ia 1 5 := Kp_at kI_48 1 5 (by decide)
      have r8_1_I_48 : I_48 8 1 = Ia 8 1 := Kp_at kI_48 8 1 (by decide)
      have rf_I_48 : FU (I_48 1 5) = FU (Ia 1 5) := by rw [r1_5_I_48]
      have lI_48 : LR I_48 := h_48.2.2.1
      have qI_48 := lI_48.1
      unfold LRf at qI_48
      have cI_48 := h_48.2.2.2
      refine ww_aload_n hX (pc := 51) dX7_takeComparison_51 rfl ?_
      refine ww_iload_n hX (pc := 52) dX7_takeComparison_52 rfl ?_
      refine vI1 hX (pc := 53) sX7_74 (xs_10 hL) (c_PSum l0 m hm hL (XI_kp hI kI_48 (by decide)) lI_48) (by omega) (Nat.le_refl 0) (Nat.le_refl 0) (Nat.le_of_ble_eq_true rfl) dX7_takeComparison_53 (fun x_53 I_53 J_53 h_53 => ?_)
      have kI_53 : Kp 10 15 Ia I_53 := Kp_tr kI_48 (Kp_wd h_53.1 (by decide) (by decide))
      have kJ_53 : Kp 10 15 Ja J_53 := Kp_tr kJ_48 (Kp_wd h_53.2.1 (by decide) (by decide))
      have r1_5_I_53 : I_53 1 5 = Ia 1 5 := Kp_at kI_53 1 5 (by decide)
      have r8_1_I_53 : I_53 8 1 = Ia 8 1 := Kp_at kI_53 8 1 (by decide)
      have rf_I_53 : FU (I_53 1 5) = FU (Ia 1 5) := by rw [r1_5_I_53]
      have lI_53 : LR I_53 := h_53.2.2.1
      have qI_53 := lI_53.1
      unfold LRf at qI_53
      have cI_53 := h_53.2.2.2
      refine ww_if_ne hX (pc := 56) (tgt := 61) dX7_takeComparison_56 (by decide) (fun h_56 => ?_) (fun h_56 => ?_)
      · simp only [w32_mod] at h_56
        refine ww_aload_n hX (pc := 61) dX7_takeComparison_61 rfl ?_
        refine ww_iload_n hX (pc := 62) dX7_takeComparison_62 rfl ?_
        refine sI1 hX (pc := 63) sX7_107 (c_X7_stepOf l0) (by omega) (Nat.le_refl 0) (Nat.le_refl 0) (Nat.le_of_ble_eq_true rfl) dX7_takeComparison_63 (fun x_63 I_63 J_63 h_63 => ?_)
        obtain ⟨rfl, rfl, h_63⟩ := h_63
        refine vV1 hX (pc := 66) sX7_101 (xs_10 hL) (c_X7_step l0 hL (XI_kp hI kI_53 (by decide)) lI_53 (by omega) (by omega)) (by omega) (Nat.le_refl 0) (Nat.le_refl 0) (Nat.le_of_ble_eq_true rfl) dX7_takeComparison_66 (fun I_66 J_66 h_66 => ?_)
        have kI_66 : Kp 10 15 Ia I_66 := Kp_tr kI_53 (Kp_wd h_66.1 (by decide) (by decide))
        have kJ_66 : Kp 10 15 Ja J_66 := Kp_tr kJ_53 (Kp_wd h_66.2.1 (by decide) (by decide))
        have r1_5_I_66 : I_66 1 5 = Ia 1 5 := Kp_at kI_66 1 5 (by decide)
        have r8_1_I_66 : I_66 8 1 = Ia 8 1 := Kp_at kI_66 8 1 (by decide)
        have rf_I_66 : FU (I_66 1 5) = FU (Ia 1 5) := by rw [r1_5_I_66]
        have lI_66 : LR I_66 := h_66.2.2.1
        have qI_66 := lI_66.1
        unfold LRf at qI_66
        have cI_66 := h_66.2.2.2
        refine ww_iconst hX (pc := 69) (x := 1) dX7_takeComparison_69 rfl ?_
        refine rZ hX (pc := 70) hT (Nat.le_refl 0) (Nat.le_refl 0) dX7_takeComparison_70 (by decide) ?_
        exact ⟨kI_66, kJ_66, lI_66, by omega, by omega⟩
      · simp only [w32_mod] at h_56
        refine ww_iconst hX (pc := 59) (x := 0) dX7_takeComparison_59 rfl ?_
        refine rZ hX (pc := 60) hT (Nat.le_refl 0) (Nat.le_refl 0) dX7_takeComparison_60 (by decide) ?_
        exact ⟨kI_53, kJ_53, lI_53, by omega, by omega⟩
    · simp only [w32_mod] at h_16
      refine ww_aload_n hX (pc := 19) dX7_takeComparison_19 rfl ?_
      refine ww_getI hX (pc := 20) fX7_38 (by decide) (xs_10 hL) dX7_takeComparison_20 ?_
      refine ww_bipush hX (pc := 23) (x := 62) dX7_takeComparison_23 (by decide) ?_
      refine ww_icmp_eq hX (pc := 25) (tgt := 42) dX7_takeComparison_25 (by decide) (fun h_25 => ?_) (fun h_25 => ?_)
      · simp only [w32_mod] at h_25
        refine ww_aload_n hX (pc := 42) dX7_takeComparison_42 rfl ?_
        refine ww_getI hX (pc := 43) fX7_38 (by decide) (xs_10 hL) dX7_takeComparison_43 ?_
        refine ww_nmI (fun v_46 hv_46 => ?_)
        refine ww_istore_n hX (pc := 46) (lv' := [some (kR (some 10)), some (kI (8 - (m : Int))), some (kI v_46)]) dX7_takeComparison_46 (by decide) rfl rfl ?_
        refine ww_aload_n hX (pc := 47) dX7_takeComparison_47 rfl ?_
        refine vV0 hX (pc := 48) sX7_71 (xs_10 hL) (c_X7_advance l0 hL (XI_kp hI kI_2 (by decide)) lI_2) (by omega) (Nat.le_refl 0) (Nat.le_refl 0) (Nat.le_of_ble_eq_true rfl) dX7_takeComparison_48 (fun I_48 J_48 h_48 => ?_)
        have kI_48 : Kp 10 15 Ia I_48 := Kp_tr kI_2 (Kp_wd h_48.1 (by decide) (by decide))
        have kJ_48 : Kp 10 15 Ja J_48 := Kp_tr kJ_2 (Kp_wd h_48.2.1 (by decide) (by decide))
        have r1_5_I_48 : I_48 1 5 = Ia 1 5 := Kp_at kI_48 1 5 (by decide)
        have r8_1_I_48 : I_48 8 1 = Ia 8 1 := Kp_at kI_48 8 1 (by decide)
        have rf_I_48 : FU (I_48 1 5) = FU (Ia 1 5) := by rw [r1_5_I_48]
        have lI_48 : LR I_48 := h_48.2.2.1
        have qI_48 := lI_48.1
        unfold LRf at qI_48
        have cI_48 := h_48.2.2.2
        refine ww_aload_n hX (pc := 51) dX7_takeComparison_51 rfl ?_
        refine ww_iload_n hX (pc := 52) dX7_takeComparison_52 rfl ?_
        refine vI1 hX (pc := 53) sX7_74 (xs_10 hL) (c_PSum l0 m hm hL (XI_kp hI kI_48 (by decide)) lI_48) (by omega) (Nat.le_refl 0) (Nat.le_refl 0) (Nat.le_of_ble_eq_true rfl) dX7_takeComparison_53 (fun x_53 I_53 J_53 h_53 => ?_)
        have kI_53 : Kp 10 15 Ia I_53 := Kp_tr kI_48 (Kp_wd h_53.1 (by decide) (by decide))
        have kJ_53 : Kp 10 15 Ja J_53 := Kp_tr kJ_48 (Kp_wd h_53.2.1 (by decide) (by decide))
        have r1_5_I_53 : I_53 1 5 = Ia 1 5 := Kp_at kI_53 1 5 (by decide)
        have r8_1_I_53 : I_53 8 1 = Ia 8 1 := Kp_at kI_53 8 1 (by decide)
        have rf_I_53 : FU (I_53 1 5) = FU (Ia 1 5) := by rw [r1_5_I_53]
        have lI_53 : LR I_53 := h_53.2.2.1
        have qI_53 := lI_53.1
        unfold LRf at qI_53
        have cI_53 := h_53.2.2.2
        refine ww_if_ne hX (pc := 56) (tgt := 61) dX7_takeComparison_56 (by decide) (fun h_56 => ?_) (fun h_56 => ?_)
        · simp only [w32_mod] at h_56
          refine ww_aload_n hX (pc := 61) dX7_takeComparison_61 rfl ?_
          refine ww_iload_n hX (pc := 62) dX7_takeComparison_62 rfl ?_
          refine sI1 hX (pc := 63) sX7_107 (c_X7_stepOf l0) (by omega) (Nat.le_refl 0) (Nat.le_refl 0) (Nat.le_of_ble_eq_true rfl) dX7_takeComparison_63 (fun x_63 I_63 J_63 h_63 => ?_)
          obtain ⟨rfl, rfl, h_63⟩ := h_63
          refine vV1 hX (pc := 66) sX7_101 (xs_10 hL) (c_X7_step l0 hL (XI_kp hI kI_53 (by decide)) lI_53 (by omega) (by omega)) (by omega) (Nat.le_refl 0) (Nat.le_refl 0) (Nat.le_of_ble_eq_true rfl) dX7_takeComparison_66 (fun I_66 J_66 h_66 => ?_)
          have kI_66 : Kp 10 15 Ia I_66 := Kp_tr kI_53 (Kp_wd h_66.1 (by decide) (by decide))
          have kJ_66 : Kp 10 15 Ja J_66 := Kp_tr kJ_53 (Kp_wd h_66.2.1 (by decide) (by decide))
          have r1_5_I_66 : I_66 1 5 = Ia 1 5 := Kp_at kI_66 1 5 (by decide)
          have r8_1_I_66 : I_66 8 1 = Ia 8 1 := Kp_at kI_66 8 1 (by decide)
          have rf_I_66 : FU (I_66 1 5) = FU (Ia 1 5) := by rw [r1_5_I_66]
          have lI_66 : LR I_66 := h_66.2.2.1
          have qI_66 := lI_66.1
          unfold LRf at qI_66
          have cI_66 := h_66.2.2.2
          refine ww_iconst hX (pc := 69) (x := 1) dX7_takeComparison_69 rfl ?_
          refine rZ hX (pc := 70) hT (Nat.le_refl 0) (Nat.le_refl 0) dX7_takeComparison_70 (by decide) ?_
          exact ⟨kI_66, kJ_66, lI_66, by omega, by omega⟩
        · simp only [w32_mod] at h_56
          refine ww_iconst hX (pc := 59) (x := 0) dX7_takeComparison_59 rfl ?_
          refine rZ hX (pc := 60) hT (Nat.le_refl 0) (Nat.le_refl 0) dX7_takeComparison_60 (by decide) ?_
          exact ⟨kI_53, kJ_53, lI_53, by omega, by omega⟩
      · simp only [w32_mod] at h_25
        refine ww_aload_n hX (pc := 28) dX7_takeComparison_28 rfl ?_
        refine ww_getI hX (pc := 29) fX7_38 (by decide) (xs_10 hL) dX7_takeComparison_29 ?_
        refine ww_bipush hX (pc := 32) (x := 61) dX7_takeComparison_32 (by decide) ?_
        refine ww_icmp_eq hX (pc := 34) (tgt := 42) dX7_takeComparison_34 (by decide) (fun h_34 => ?_) (fun h_34 => ?_)
        · simp only [w32_mod] at h_34
          refine ww_aload_n hX (pc := 42) dX7_takeComparison_42 rfl ?_
          refine ww_getI hX (pc := 43) fX7_38 (by decide) (xs_10 hL) dX7_takeComparison_43 ?_
          refine ww_nmI (fun v_46 hv_46 => ?_)
          refine ww_istore_n hX (pc := 46) (lv' := [some (kR (some 10)), some (kI (8 - (m : Int))), some (kI v_46)]) dX7_takeComparison_46 (by decide) rfl rfl ?_
          refine ww_aload_n hX (pc := 47) dX7_takeComparison_47 rfl ?_
          refine vV0 hX (pc := 48) sX7_71 (xs_10 hL) (c_X7_advance l0 hL (XI_kp hI kI_2 (by decide)) lI_2) (by omega) (Nat.le_refl 0) (Nat.le_refl 0) (Nat.le_of_ble_eq_true rfl) dX7_takeComparison_48 (fun I_48 J_48 h_48 => ?_)
          have kI_48 : Kp 10 15 Ia I_48 := Kp_tr kI_2 (Kp_wd h_48.1 (by decide) (by decide))
          have kJ_48 : Kp 10 15 Ja J_48 := Kp_tr kJ_2 (Kp_wd h_48.2.1 (by decide) (by decide))
          have r1_5_I_48 : I_48 1 5 = Ia 1 5 := Kp_at kI_48 1 5 (by decide)
          have r8_1_I_48 : I_48 8 1 = Ia 8 1 := Kp_at kI_48 8 1 (by decide)
          have rf_I_48 : FU (I_48 1 5) = FU (Ia 1 5) := by rw [r1_5_I_48]
          have lI_48 : LR I_48 := h_48.2.2.1
          have qI_48 := lI_48.1
          unfold LRf at qI_48
          have cI_48 := h_48.2.2.2
          refine ww_aload_n hX (pc := 51) dX7_takeComparison_51 rfl ?_
          refine ww_iload_n hX (pc := 52) dX7_takeComparison_52 rfl ?_
          refine vI1 hX (pc := 53) sX7_74 (xs_10 hL) (c_PSum l0 m hm hL (XI_kp hI kI_48 (by decide)) lI_48) (by omega) (Nat.le_refl 0) (Nat.le_refl 0) (Nat.le_of_ble_eq_true rfl) dX7_takeComparison_53 (fun x_53 I_53 J_53 h_53 => ?_)
          have kI_53 : Kp 10 15 Ia I_53 := Kp_tr kI_48 (Kp_wd h_53.1 (by decide) (by decide))
          have kJ_53 : Kp 10 15 Ja J_53 := Kp_tr kJ_48 (Kp_wd h_53.2.1 (by decide) (by decide))
          have r1_5_I_53 : I_53 1 5 = Ia 1 5 := Kp_at kI_53 1 5 (by decide)
          have r8_1_I_53 : I_53 8 1 = Ia 8 1 := Kp_at kI_53 8 1 (by decide)
          have rf_I_53 : FU (I_53 1 5) = FU (Ia 1 5) := by rw [r1_5_I_53]
          have lI_53 : LR I_53 := h_53.2.2.1
          have qI_53 := lI_53.1
          unfold LRf at qI_53
          have cI_53 := h_53.2.2.2
          refine ww_if_ne hX (pc := 56) (tgt := 61) dX7_takeComparison_56 (by decide) (fun h_56 => ?_) (fun h_56 => ?_)
          · simp only [w32_mod] at h_56
            refine ww_aload_n hX (pc := 61) dX7_takeComparison_61 rfl ?_
            refine ww_iload_n hX (pc := 62) dX7_takeComparison_62 rfl ?_
            refine sI1 hX (pc := 63) sX7_107 (c_X7_stepOf l0) (by omega) (Nat.le_refl 0) (Nat.le_refl 0) (Nat.le_of_ble_eq_true rfl) dX7_takeComparison_63 (fun x_63 I_63 J_63 h_63 => ?_)
            obtain ⟨rfl, rfl, h_63⟩ := h_63
            refine vV1 hX (pc := 66) sX7_101 (xs_10 hL) (c_X7_step l0 hL (XI_kp hI kI_53 (by decide)) lI_53 (by omega) (by omega)) (by omega) (Nat.le_refl 0) (Nat.le_refl 0) (Nat.le_of_ble_eq_true rfl) dX7_takeComparison_66 (fun I_66 J_66 h_66 => ?_)
            have kI_66 : Kp 10 15 Ia I_66 := Kp_tr kI_53 (Kp_wd h_66.1 (by decide) (by decide))
            have kJ_66 : Kp 10 15 Ja J_66 := Kp_tr kJ_53 (Kp_wd h_66.2.1 (by decide) (by decide))
            have r1_5_I_66 : I_66 1 5 = Ia 1 5 := Kp_at kI_66 1 5 (by decide)
            have r8_1_I_66 : I_66 8 1 = Ia 8 1 := Kp_at kI_66 8 1 (by decide)
            have rf_I_66 : FU (I_66 1 5) = FU (Ia 1 5) := by rw [r1_5_I_66]
            have lI_66 : LR I_66 := h_66.2.2.1
            have qI_66 := lI_66.1
            unfold LRf at qI_66
            have cI_66 := h_66.2.2.2
            refine ww_iconst hX (pc := 69) (x := 1) dX7_takeComparison_69 rfl ?_
            refine rZ hX (pc := 70) hT (Nat.le_refl 0) (Nat.le_refl 0) dX7_takeComparison_70 (by decide) ?_
            exact ⟨kI_66, kJ_66, lI_66, by omega, by omega⟩
          · simp only [w32_mod] at h_56
            refine ww_iconst hX (pc := 59) (x := 0) dX7_takeComparison_59 rfl ?_
            refine rZ hX (pc := 60) hT (Nat.le_refl 0) (Nat.le_refl 0) dX7_takeComparison_60 (by decide) ?_
            exact ⟨kI_53, kJ_53, lI_53, by omega, by omega⟩
        · simp only [w32_mod] at h_34
          refine ww_aload_n hX (pc := 37) dX7_takeComparison_37 rfl ?_
          refine vI0 hX (pc := 38) sX7_68 (xs_10 hL) (c_X7_fail l0 hL (XI_kp hI kI_2 (by decide)) lI_2) (by omega) (Nat.le_refl 0) (Nat.le_refl 0) (Nat.le_of_ble_eq_true rfl) dX7_takeComparison_38 (fun x_38 I_38 J_38 h_38 => ?_)
          have kI_38 : Kp 10 15 Ia I_38 := Kp_tr kI_2 (Kp_wd h_38.1 (by decide) (by decide))
          have kJ_38 : Kp 10 15 Ja J_38 := Kp_tr kJ_2 (Kp_wd h_38.2.1 (by decide) (by decide))
          have r1_5_I_38 : I_38 1 5 = Ia 1 5 := Kp_at kI_38 1 5 (by decide)
          have r8_1_I_38 : I_38 8 1 = Ia 8 1 := Kp_at kI_38 8 1 (by decide)
          have rf_I_38 : FU (I_38 1 5) = FU (Ia 1 5) := by rw [r1_5_I_38]
          have lI_38 : LR I_38 := h_38.2.2.1
          have qI_38 := lI_38.1
          unfold LRf at qI_38
          have cI_38 := h_38.2.2.2
          refine rZ hX (pc := 41) hT (Nat.le_refl 0) (Nat.le_refl 0) dX7_takeComparison_41 (by omega) ?_
          exact ⟨kI_38, kJ_38, lI_38, by omega, by omega⟩
  · simp only [w32_mod] at h_5
    refine ww_iconst hX (pc := 8) (x := 0) dX7_takeComparison_8 rfl ?_
    refine rZ hX (pc := 9) hT (Nat.le_refl 0) (Nat.le_refl 0) dX7_takeComparison_9 (by decide) ?_
    exact ⟨kI_2, kJ_2, lI_2, by omega, by omega⟩
set_option maxHeartbeats 4000000 in
set_option maxRecDepth 20000 in
theorem c_X7_takeBracketed (l0 : Launch) {m : Nat} (hm : m ≤ 8) (hrec : ∀ mp, m = mp + 1 → PTest l0 mp) {Ia Ja : aI1} {Ra : aR1} {Sa : aS1} (hL : LY Ra Sa) (hI : XI Ia) (hR : LR Ia)  : CT l0 (20 * m + 127) 0 0 mX7_takeBracketed [kR (some 10), kI (8 - (m : Int))] Ia Ja Ra Sa (cI (fun x I' J' => Kp 10 15 Ia I' ∧ Kp 10 15 Ja J' ∧ LR I' ∧ I' 10 11 = Ia 10 11 ∧ (x = 0 ∨ x = 1)) Ra Sa) := by
  refine ct_in pn_X7 (Nat.le_of_ble_eq_true rfl) (fun X hX hT hIn => ?_)
  have hX : aK l0 X cX7_takeBracketed 2 RX7 (some .boolean) (20 * m + 127) 0 0 := hX
  change WW X 0 [some (kR (some 10)), some (kI (8 - (m : Int)))] [] Ia Ja Ra Sa 0 0
  obtain ⟨hn1, hn2⟩ := hI.1
  obtain ⟨hk1, hk2⟩ := hI.2.1
  obtain ⟨hf1, hf2⟩ := hI.fu
  obtain ⟨hl1, hl2⟩ := hI.2.2.2.2.2.2.1
  have hq := hR.1
  unfold LRf at hq
  refine ww_iload_n hX (pc := 0) dX7_takeBracketed_0 rfl ?_
  refine ww_bipush hX (pc := 1) (x := 8) dX7_takeBracketed_1 (by decide) ?_
  refine ww_icmp_lt hX (pc := 3) (tgt := 11) dX7_takeBracketed_3 (by decide) (fun h_3 => ?_) (fun h_3 => ?_)
  · simp only [w32_mod] at h_3
    obtain ⟨mp, rfl⟩ : ∃ mp, m = mp + 1 := ⟨m - 1, by omega⟩
    refine ww_aload_n hX (pc := 11) dX7_takeBracketed_11 rfl ?_
    refine vV0 hX (pc := 12) sX7_71 (xs_10 hL) (c_X7_advance l0 hL hI hR) (by omega) (Nat.le_refl 0) (Nat.le_refl 0) (Nat.le_of_ble_eq_true rfl) dX7_takeBracketed_12 (fun I_12 J_12 h_12 => ?_)
    have kI_12 : Kp 10 15 Ia I_12 := Kp_tr (Kp_rf (a := 10) (b := 15)) (Kp_wd h_12.1 (by decide) (by decide))
    have kJ_12 : Kp 10 15 Ja J_12 := Kp_tr (Kp_rf (a := 10) (b := 15)) (Kp_wd h_12.2.1 (by decide) (by decide))
    have r1_5_I_12 : I_12 1 5 = Ia 1 5 := Kp_at kI_12 1 5 (by decide)
    have r8_1_I_12 : I_12 8 1 = Ia 8 1 := Kp_at kI_12 8 1 (by decide)
    have rf_I_12 : FU (I_12 1 5) = FU (Ia 1 5) := by rw [r1_5_I_12]
    have lI_12 : LR I_12 := h_12.2.2.1
    have qI_12 := lI_12.1
    unfold LRf at qI_12
    have cI_12 := h_12.2.2.2
    refine ww_aload_n hX (pc := 15) dX7_takeBracketed_15 rfl ?_
    refine ww_iload_n hX (pc := 16) dX7_takeBracketed_16 rfl ?_
    refine ww_iconst hX (pc := 17) (x := 1) dX7_takeBracketed_17 rfl ?_
    refine ww_iadd hX (pc := 18) dX7_takeBracketed_18 ?_
    refine ww_toI (show (8 - ((mp + 1 : Nat) : Int)) + 1 = 8 - (mp : Int) by omega) ?_
    refine vI1 hX (pc := 19) sX7_78 (xs_10 hL) (hrec mp rfl hL (XI_kp hI kI_12 (by decide)) lI_12) (by omega) (Nat.le_refl 0) (Nat.le_refl 0) (Nat.le_of_ble_eq_true rfl) dX7_takeBracketed_19 (fun x_19 I_19 J_19 h_19 => ?_)
    have kI_19 : Kp 10 15 Ia I_19 := Kp_tr kI_12 (Kp_wd h_19.1 (by decide) (by decide))
    have kJ_19 : Kp 10 15 Ja J_19 := Kp_tr kJ_12 (Kp_wd h_19.2.1 (by decide) (by decide))
    have r1_5_I_19 : I_19 1 5 = Ia 1 5 := Kp_at kI_19 1 5 (by decide)
    have r8_1_I_19 : I_19 8 1 = Ia 8 1 := Kp_at kI_19 8 1 (by decide)
    have rf_I_19 : FU (I_19 1 5) = FU (Ia 1 5) := by rw [r1_5_I_19]
    have lI_19 : LR I_19 := h_19.2.2.1
    have qI_19 := lI_19.1
    unfold LRf at qI_19
    have cI_19 := h_19.2.2.2
    refine ww_if_eq hX (pc := 22) (tgt := 38) dX7_takeBracketed_22 (by decide) (fun h_22 => ?_) (fun h_22 => ?_)
    · simp only [w32_mod] at h_22
      refine ww_iconst hX (pc := 38) (x := 0) dX7_takeBracketed_38 rfl ?_
      refine rZ hX (pc := 39) hT (Nat.le_refl 0) (Nat.le_refl 0) dX7_takeBracketed_39 (by decide) ?_
      exact ⟨kI_19, kJ_19, lI_19, by omega, by omega⟩
    · simp only [w32_mod] at h_22
      refine ww_aload_n hX (pc := 25) dX7_takeBracketed_25 rfl ?_
      refine ww_bipush hX (pc := 26) (x := 41) dX7_takeBracketed_26 (by decide) ?_
      refine vI1 hX (pc := 28) sX7_104 (xs_10 hL) (c_X7_takeSign l0 hL (XI_kp hI kI_19 (by decide)) lI_19 (by omega) (by omega)) (by omega) (Nat.le_refl 0) (Nat.le_refl 0) (Nat.le_of_ble_eq_true rfl) dX7_takeBracketed_28 (fun x_28 I_28 J_28 h_28 => ?_)
      have kI_28 : Kp 10 15 Ia I_28 := Kp_tr kI_19 (Kp_wd h_28.1 (by decide) (by decide))
      have kJ_28 : Kp 10 15 Ja J_28 := Kp_tr kJ_19 (Kp_wd h_28.2.1 (by decide) (by decide))
      have r1_5_I_28 : I_28 1 5 = Ia 1 5 := Kp_at kI_28 1 5 (by decide)
      have r8_1_I_28 : I_28 8 1 = Ia 8 1 := Kp_at kI_28 8 1 (by decide)
      have rf_I_28 : FU (I_28 1 5) = FU (Ia 1 5) := by rw [r1_5_I_28]
      have lI_28 : LR I_28 := h_28.2.2.1
      have qI_28 := lI_28.1
      unfold LRf at qI_28
      have cI_28 := h_28.2.2.2
      refine ww_if_eq hX (pc := 31) (tgt := 38) dX7_takeBracketed_31 (by decide) (fun h_31 => ?_) (fun h_31 => ?_)
      · simp only [w32_mod] at h_31
        refine ww_iconst hX (pc := 38) (x := 0) dX7_takeBracketed_38 rfl ?_
        refine rZ hX (pc := 39) hT (Nat.le_refl 0) (Nat.le_refl 0) dX7_takeBracketed_39 (by decide) ?_
        exact ⟨kI_28, kJ_28, lI_28, by omega, by omega⟩
      · simp only [w32_mod] at h_31
        refine ww_iconst hX (pc := 34) (x := 1) dX7_takeBracketed_34 rfl ?_
        refine ww_goto hX (pc := 35) (tgt := 39) dX7_takeBracketed_35 (by decide) ?_
        refine rZ hX (pc := 39) hT (Nat.le_refl 0) (Nat.le_refl 0) dX7_takeBracketed_39 (by decide) ?_
        exact ⟨kI_28, kJ_28, lI_28, by omega, by omega⟩
  · simp only [w32_mod] at h_3
    refine ww_aload_n hX (pc := 6) dX7_takeBracketed_6 rfl ?_
    refine vI0 hX (pc := 7) sX7_68 (xs_10 hL) (c_X7_fail l0 hL hI hR) (by omega) (Nat.le_refl 0) (Nat.le_refl 0) (Nat.le_of_ble_eq_true rfl) dX7_takeBracketed_7 (fun x_7 I_7 J_7 h_7 => ?_)
    have kI_7 : Kp 10 15 Ia I_7 := Kp_tr (Kp_rf (a := 10) (b := 15)) (Kp_wd h_7.1 (by decide) (by decide))
    have kJ_7 : Kp 10 15 Ja J_7 := Kp_tr (Kp_rf (a := 10) (b := 15)) (Kp_wd h_7.2.1 (by decide) (by decide))
    have r1_5_I_7 : I_7 1 5 = Ia 1 5 := Kp_at kI_7 1 5 (by decide)
    have r8_1_I_7 : I_7 8 1 = Ia 8 1 := Kp_at kI_7 8 1 (by decide)
    have rf_I_7 : FU (I_7 1 5) = FU (Ia 1 5) := by rw [r1_5_I_7]
    have lI_7 : LR I_7 := h_7.2.2.1
    have qI_7 := lI_7.1
    unfold LRf at qI_7
    have cI_7 := h_7.2.2.2
    refine rZ hX (pc := 10) hT (Nat.le_refl 0) (Nat.le_refl 0) dX7_takeBracketed_10 (by omega) ?_
    exact ⟨kI_7, kJ_7, lI_7, by omega, by omega⟩
set_option maxHeartbeats 4000000 in
set_option maxRecDepth 20000 in
theorem c_X7_takePlain (l0 : Launch) {m : Nat} (hm : m ≤ 8) (hrec : ∀ mp, m = mp + 1 → PTest l0 mp) {Ia Ja : aI1} {Ra : aR1} {Sa : aS1} (hL : LY Ra Sa) (hI : XI Ia) (hR : LR Ia)  : CT l0 (20 * m + 128) 0 0 mX7_takePlain [kR (some 10), kI (8 - (m : Int))] Ia Ja Ra Sa (cI (fun x I' J' => Kp 10 15 Ia I' ∧ Kp 10 15 Ja J' ∧ LR I' ∧ I' 10 11 = Ia 10 11 ∧ (x = 0 ∨ x = 1)) Ra Sa) := by
  refine ct_in pn_X7 (Nat.le_of_ble_eq_true rfl) (fun X hX hT hIn => ?_)
  have hX : aK l0 X cX7_takePlain 4 RX7 (some .boolean) (20 * m + 128) 0 0 := hX
  change WW X 0 [some (kR (some 10)), some (kI (8 - (m : Int))), none, none] [] Ia Ja Ra Sa 0 0
  obtain ⟨hn1, hn2⟩ := hI.1
  obtain ⟨hk1, hk2⟩ := hI.2.1
  obtain ⟨hf1, hf2⟩ := hI.fu
  obtain ⟨hl1, hl2⟩ := hI.2.2.2.2.2.2.1
  have hq := hR.1
  unfold LRf at hq
  refine ww_iconst hX (pc := 0) (x := 0) dX7_takePlain_0 rfl ?_
  refine ww_istore_n hX (pc := 1) (lv' := [some (kR (some 10)), some (kI (8 - (m : Int))), some (kI 0), none]) dX7_takePlain_1 (by decide) rfl rfl ?_
  refine ww_iconst hX (pc := 2) (x := 0) dX7_takePlain_2 rfl ?_
  refine ww_istore_n hX (pc := 3) (lv' := [some (kR (some 10)), some (kI (8 - (m : Int))), some (kI 0), some (kI 0)]) dX7_takePlain_3 (by decide) rfl rfl ?_
  have hl_4 : ∀ (n_4 : Nat) (fl : Int) (i : Int) (I2 : aI1) (J2 : aI1), (400 - i).toNat = n_4 → (Kp 10 15 Ia I2 ∧ Kp 10 15 Ja J2 ∧ LR I2 ∧ I2 10 11 = Ia 10 11 ∧ (0 ≤ i ∧ i ≤ 400)) → WW X 4 [some (kR (some 10)), some (kI (8 - (m : Int))), some (kI fl), some (kI i)] [] I2 J2 Ra Sa 0 0 := by
    intro n_4
    induction n_4 using Nat.strongRecOn with
    | ind n_4 ih_4 =>
      intro fl i I2 J2 hm_4 hv_4
      have hq_4 := Sh0_i hm_4
      clear hm_4
      obtain ⟨kI2, kJ2, lI2, cI2, hi⟩ := hv_4
      have r1_5_I2 : I2 1 5 = Ia 1 5 := Kp_at kI2 1 5 (by decide)
      have r8_1_I2 : I2 8 1 = Ia 8 1 := Kp_at kI2 8 1 (by decide)
      have rf_I2 : FU (I2 1 5) = FU (Ia 1 5) := by rw [r1_5_I2]
      have qI2 := lI2.1
      unfold LRf at qI2
      refine ww_iload_n hX (pc := 4) dX7_takePlain_4 rfl ?_
      refine ww_sipush hX (pc := 5) (x := 400) dX7_takePlain_5 (by decide) ?_
      refine ww_icmp_ge hX (pc := 8) (tgt := 41) dX7_takePlain_8 (by decide) (fun h_8 => ?_) (fun h_8 => ?_)
      · simp only [w32_mod] at h_8
        refine ww_aload_n hX (pc := 41) dX7_takePlain_41 rfl ?_
        refine ww_getI hX (pc := 42) fX7_38 (by decide) (xs_10 hL) dX7_takePlain_42 ?_
        refine ww_bipush hX (pc := 45) (x := 40) dX7_takePlain_45 (by decide) ?_
        refine ww_icmp_ne hX (pc := 47) (tgt := 58) dX7_takePlain_47 (by decide) (fun h_47 => ?_) (fun h_47 => ?_)
        · simp only [w32_mod] at h_47
          refine ww_aload_n hX (pc := 58) dX7_takePlain_58 rfl ?_
          refine ww_iload_n hX (pc := 59) dX7_takePlain_59 rfl ?_
          refine vI1 hX (pc := 60) sX7_98 (xs_10 hL) (c_X7_takeComparison l0 (m := m) hm hL (XI_kp hI kI2 (by decide)) lI2) (by omega) (Nat.le_refl 0) (Nat.le_refl 0) (Nat.le_of_ble_eq_true rfl) dX7_takePlain_60 (fun x_60 I_60 J_60 h_60 => ?_)
          have kI_60 : Kp 10 15 Ia I_60 := Kp_tr kI2 (Kp_wd h_60.1 (by decide) (by decide))
          have kJ_60 : Kp 10 15 Ja J_60 := Kp_tr kJ2 (Kp_wd h_60.2.1 (by decide) (by decide))
          have r1_5_I_60 : I_60 1 5 = Ia 1 5 := Kp_at kI_60 1 5 (by decide)
          have r8_1_I_60 : I_60 8 1 = Ia 8 1 := Kp_at kI_60 8 1 (by decide)
          have rf_I_60 : FU (I_60 1 5) = FU (Ia 1 5) := by rw [r1_5_I_60]
          have lI_60 : LR I_60 := h_60.2.2.1
          have qI_60 := lI_60.1
          unfold LRf at qI_60
          have cI_60 := h_60.2.2.2
          refine ww_istore_n hX (pc := 63) (lv' := [some (kR (some 10)), some (kI (8 - (m : Int))), some (kI fl), some (kI x_60)]) dX7_takePlain_63 (by decide) rfl rfl ?_
          refine ww_iload_n hX (pc := 64) dX7_takePlain_64 rfl ?_
          refine ww_if_eq hX (pc := 65) (tgt := 78) dX7_takePlain_65 (by decide) (fun h_65 => ?_) (fun h_65 => ?_)
          · simp only [w32_mod] at h_65
            refine ww_iload_n hX (pc := 78) dX7_takePlain_78 rfl ?_
            refine rZ hX (pc := 79) hT (Nat.le_refl 0) (Nat.le_refl 0) dX7_takePlain_79 (by omega) ?_
            exact ⟨kI_60, kJ_60, lI_60, by omega, by omega⟩
          · simp only [w32_mod] at h_65
            refine ww_iload_n hX (pc := 68) dX7_takePlain_68 rfl ?_
            refine ww_if_eq hX (pc := 69) (tgt := 78) dX7_takePlain_69 (by decide) (fun h_69 => ?_) (fun h_69 => ?_)
            · simp only [w32_mod] at h_69
              refine ww_iload_n hX (pc := 78) dX7_takePlain_78 rfl ?_
              refine rZ hX (pc := 79) hT (Nat.le_refl 0) (Nat.le_refl 0) dX7_takePlain_79 (by omega) ?_
              exact ⟨kI_60, kJ_60, lI_60, by omega, by omega⟩
            · simp only [w32_mod] at h_69
              refine ww_aload_n hX (pc := 72) dX7_takePlain_72 rfl ?_
              refine ww_bipush hX (pc := 73) (x := (-19)) dX7_takePlain_73 (by decide) ?_
              refine vV1 hX (pc := 75) sX7_101 (xs_10 hL) (c_X7_step l0 hL (XI_kp hI kI_60 (by decide)) lI_60 (by omega) (by omega)) (by omega) (Nat.le_refl 0) (Nat.le_refl 0) (Nat.le_of_ble_eq_true rfl) dX7_takePlain_75 (fun I_75 J_75 h_75 => ?_)
              have kI_75 : Kp 10 15 Ia I_75 := Kp_tr kI_60 (Kp_wd h_75.1 (by decide) (by decide))
              have kJ_75 : Kp 10 15 Ja J_75 := Kp_tr kJ_60 (Kp_wd h_75.2.1 (by decide) (by decide))
              have r1_5_I_75 : I_75 1 5 = Ia 1 5 := Kp_at kI_75 1 5 (by decide)
              have r8_1_I_75 : I_75 8 1 = Ia 8 1 := Kp_at kI_75 8 1 (by decide)
              have rf_I_75 : FU (I_75 1 5) = FU (Ia 1 5) := by rw [r1_5_I_75]
              have lI_75 : LR I_75 := h_75.2.2.1
              have qI_75 := lI_75.1
              unfold LRf at qI_75
              have cI_75 := h_75.2.2.2
              refine ww_iload_n hX (pc := 78) dX7_takePlain_78 rfl ?_
              refine rZ hX (pc := 79) hT (Nat.le_refl 0) (Nat.le_refl 0) dX7_takePlain_79 (by omega) ?_
              exact ⟨kI_75, kJ_75, lI_75, by omega, by omega⟩
        · simp only [w32_mod] at h_47
          refine ww_aload_n hX (pc := 50) dX7_takePlain_50 rfl ?_
          refine ww_iload_n hX (pc := 51) dX7_takePlain_51 rfl ?_
          refine vI1 hX (pc := 52) sX7_95 (xs_10 hL) (c_X7_takeBracketed l0 (m := m) hm hrec hL (XI_kp hI kI2 (by decide)) lI2) (by omega) (Nat.le_refl 0) (Nat.le_refl 0) (Nat.le_of_ble_eq_true rfl) dX7_takePlain_52 (fun x_52 I_52 J_52 h_52 => ?_)
          have kI_52 : Kp 10 15 Ia I_52 := Kp_tr kI2 (Kp_wd h_52.1 (by decide) (by decide))
          have kJ_52 : Kp 10 15 Ja J_52 := Kp_tr kJ2 (Kp_wd h_52.2.1 (by decide) (by decide))
          have r1_5_I_52 : I_52 1 5 = Ia 1 5 := Kp_at kI_52 1 5 (by decide)
          have r8_1_I_52 : I_52 8 1 = Ia 8 1 := Kp_at kI_52 8 1 (by decide)
          have rf_I_52 : FU (I_52 1 5) = FU (Ia 1 5) := by rw [r1_5_I_52]
          have lI_52 : LR I_52 := h_52.2.2.1
          have qI_52 := lI_52.1
          unfold LRf at qI_52
          have cI_52 := h_52.2.2.2
          refine ww_goto hX (pc := 55) (tgt := 63) dX7_takePlain_55 (by decide) ?_
          refine ww_istore_n hX (pc := 63) (lv' := [some (kR (some 10)), some (kI (8 - (m : Int))), some (kI fl), some (kI x_52)]) dX7_takePlain_63 (by decide) rfl rfl ?_
          refine ww_iload_n hX (pc := 64) dX7_takePlain_64 rfl ?_
          refine ww_if_eq hX (pc := 65) (tgt := 78) dX7_takePlain_65 (by decide) (fun h_65 => ?_) (fun h_65 => ?_)
          · simp only [w32_mod] at h_65
            refine ww_iload_n hX (pc := 78) dX7_takePlain_78 rfl ?_
            refine rZ hX (pc := 79) hT (Nat.le_refl 0) (Nat.le_refl 0) dX7_takePlain_79 (by omega) ?_
            exact ⟨kI_52, kJ_52, lI_52, by omega, by omega⟩
          · simp only [w32_mod] at h_65
            refine ww_iload_n hX (pc := 68) dX7_takePlain_68 rfl ?_
            refine ww_if_eq hX (pc := 69) (tgt := 78) dX7_takePlain_69 (by decide) (fun h_69 => ?_) (fun h_69 => ?_)
            · simp only [w32_mod] at h_69
              refine ww_iload_n hX (pc := 78) dX7_takePlain_78 rfl ?_
              refine rZ hX (pc := 79) hT (Nat.le_refl 0) (Nat.le_refl 0) dX7_takePlain_79 (by omega) ?_
              exact ⟨kI_52, kJ_52, lI_52, by omega, by omega⟩
            · simp only [w32_mod] at h_69
              refine ww_aload_n hX (pc := 72) dX7_takePlain_72 rfl ?_
              refine ww_bipush hX (pc := 73) (x := (-19)) dX7_takePlain_73 (by decide) ?_
              refine vV1 hX (pc := 75) sX7_101 (xs_10 hL) (c_X7_step l0 hL (XI_kp hI kI_52 (by decide)) lI_52 (by omega) (by omega)) (by omega) (Nat.le_refl 0) (Nat.le_refl 0) (Nat.le_of_ble_eq_true rfl) dX7_takePlain_75 (fun I_75 J_75 h_75 => ?_)
              have kI_75 : Kp 10 15 Ia I_75 := Kp_tr kI_52 (Kp_wd h_75.1 (by decide) (by decide))
              have kJ_75 : Kp 10 15 Ja J_75 := Kp_tr kJ_52 (Kp_wd h_75.2.1 (by decide) (by decide))
              have r1_5_I_75 : I_75 1 5 = Ia 1 5 := Kp_at kI_75 1 5 (by decide)
              have r8_1_I_75 : I_75 8 1 = Ia 8 1 := Kp_at kI_75 8 1 (by decide)
              have rf_I_75 : FU (I_75 1 5) = FU (Ia 1 5) := by rw [r1_5_I_75]
              have lI_75 : LR I_75 := h_75.2.2.1
              have qI_75 := lI_75.1
              unfold LRf at qI_75
              have cI_75 := h_75.2.2.2
              refine ww_iload_n hX (pc := 78) dX7_takePlain_78 rfl ?_
              refine rZ hX (pc := 79) hT (Nat.le_refl 0) (Nat.le_refl 0) dX7_takePlain_79 (by omega) ?_
              exact ⟨kI_75, kJ_75, lI_75, by omega, by omega⟩
      · simp only [w32_mod] at h_8
        refine ww_aload_n hX (pc := 11) dX7_takePlain_11 rfl ?_
        refine ww_getI hX (pc := 12) fX7_38 (by decide) (xs_10 hL) dX7_takePlain_12 ?_
        refine ww_sipush hX (pc := 15) (x := 262) dX7_takePlain_15 (by decide) ?_
        refine ww_icmp_ne hX (pc := 18) (tgt := 41) dX7_takePlain_18 (by decide) (fun h_18 => ?_) (fun h_18 => ?_)
        · simp only [w32_mod] at h_18
          refine ww_aload_n hX (pc := 41) dX7_takePlain_41 rfl ?_
          refine ww_getI hX (pc := 42) fX7_38 (by decide) (xs_10 hL) dX7_takePlain_42 ?_
          refine ww_bipush hX (pc := 45) (x := 40) dX7_takePlain_45 (by decide) ?_
          refine ww_icmp_ne hX (pc := 47) (tgt := 58) dX7_takePlain_47 (by decide) (fun h_47 => ?_) (fun h_47 => ?_)
          · simp only [w32_mod] at h_47
            refine ww_aload_n hX (pc := 58) dX7_takePlain_58 rfl ?_
            refine ww_iload_n hX (pc := 59) dX7_takePlain_59 rfl ?_
            refine vI1 hX (pc := 60) sX7_98 (xs_10 hL) (c_X7_takeComparison l0 (m := m) hm hL (XI_kp hI kI2 (by decide)) lI2) (by omega) (Nat.le_refl 0) (Nat.le_refl 0) (Nat.le_of_ble_eq_true rfl) dX7_takePlain_60 (fun x_60 I_60 J_60 h_60 => ?_)
            have kI_60 : Kp 10 15 Ia I_60 := Kp_tr kI2 (Kp_wd h_60.1 (by decide) (by decide))
            have kJ_60 : Kp 10 15 Ja J_60 := Kp_tr kJ2 (Kp_wd h_60.2.1 (by decide) (by decide))
            have r1_5_I_60 : I_60 1 5 = Ia 1 5 := Kp_at kI_60 1 5 (by decide)
            have r8_1_I_60 : I_60 8 1 = Ia 8 1 := Kp_at kI_60 8 1 (by decide)
            have rf_I_60 : FU (I_60 1 5) = FU (Ia 1 5) := by rw [r1_5_I_60]
            have lI_60 : LR I_60 := h_60.2.2.1
            have qI_60 := lI_60.1
            unfold LRf at qI_60
            have cI_60 := h_60.2.2.2
            refine ww_istore_n hX (pc := 63) (lv' := [some (kR (some 10)), some (kI (8 - (m : Int))), some (kI fl), some (kI x_60)]) dX7_takePlain_63 (by decide) rfl rfl ?_
            refine ww_iload_n hX (pc := 64) dX7_takePlain_64 rfl ?_
            refine ww_if_eq hX (pc := 65) (tgt := 78) dX7_takePlain_65 (by decide) (fun h_65 => ?_) (fun h_65 => ?_)
            · simp only [w32_mod] at h_65
              refine ww_iload_n hX (pc := 78) dX7_takePlain_78 rfl ?_
              refine rZ hX (pc := 79) hT (Nat.le_refl 0) (Nat.le_refl 0) dX7_takePlain_79 (by omega) ?_
              exact ⟨kI_60, kJ_60, lI_60, by omega, by omega⟩
            · simp only [w32_mod] at h_65
              refine ww_iload_n hX (pc := 68) dX7_takePlain_68 rfl ?_
              refine ww_if_eq hX (pc := 69) (tgt := 78) dX7_takePlain_69 (by decide) (fun h_69 => ?_) (fun h_69 => ?_)
              · simp only [w32_mod] at h_69
                refine ww_iload_n hX (pc := 78) dX7_takePlain_78 rfl ?_
                refine rZ hX (pc := 79) hT (Nat.le_refl 0) (Nat.le_refl 0) dX7_takePlain_79 (by omega) ?_
                exact ⟨kI_60, kJ_60, lI_60, by omega, by omega⟩
              · simp only [w32_mod] at h_69
                refine ww_aload_n hX (pc := 72) dX7_takePlain_72 rfl ?_
                refine ww_bipush hX (pc := 73) (x := (-19)) dX7_takePlain_73 (by decide) ?_
                refine vV1 hX (pc := 75) sX7_101 (xs_10 hL) (c_X7_step l0 hL (XI_kp hI kI_60 (by decide)) lI_60 (by omega) (by omega)) (by omega) (Nat.le_refl 0) (Nat.le_refl 0) (Nat.le_of_ble_eq_true rfl) dX7_takePlain_75 (fun I_75 J_75 h_75 => ?_)
                have kI_75 : Kp 10 15 Ia I_75 := Kp_tr kI_60 (Kp_wd h_75.1 (by decide) (by decide))
                have kJ_75 : Kp 10 15 Ja J_75 := Kp_tr kJ_60 (Kp_wd h_75.2.1 (by decide) (by decide))
                have r1_5_I_75 : I_75 1 5 = Ia 1 5 := Kp_at kI_75 1 5 (by decide)
                have r8_1_I_75 : I_75 8 1 = Ia 8 1 := Kp_at kI_75 8 1 (by decide)
                have rf_I_75 : FU (I_75 1 5) = FU (Ia 1 5) := by rw [r1_5_I_75]
                have lI_75 : LR I_75 := h_75.2.2.1
                have qI_75 := lI_75.1
                unfold LRf at qI_75
                have cI_75 := h_75.2.2.2
                refine ww_iload_n hX (pc := 78) dX7_takePlain_78 rfl ?_
                refine rZ hX (pc := 79) hT (Nat.le_refl 0) (Nat.le_refl 0) dX7_takePlain_79 (by omega) ?_
                exact ⟨kI_75, kJ_75, lI_75, by omega, by omega⟩
          · simp only [w32_mod] at h_47
            refine ww_aload_n hX (pc := 50) dX7_takePlain_50 rfl ?_
            refine ww_iload_n hX (pc := 51) dX7_takePlain_51 rfl ?_
            refine vI1 hX (pc := 52) sX7_95 (xs_10 hL) (c_X7_takeBracketed l0 (m := m) hm hrec hL (XI_kp hI kI2 (by decide)) lI2) (by omega) (Nat.le_refl 0) (Nat.le_refl 0) (Nat.le_of_ble_eq_true rfl) dX7_takePlain_52 (fun x_52 I_52 J_52 h_52 => ?_)
            have kI_52 : Kp 10 15 Ia I_52 := Kp_tr kI2 (Kp_wd h_52.1 (by decide) (by decide))
            have kJ_52 : Kp 10 15 Ja J_52 := Kp_tr kJ2 (Kp_wd h_52.2.1 (by decide) (by decide))
            have r1_5_I_52 : I_52 1 5 = Ia 1 5 := Kp_at kI_52 1 5 (by decide)
            have r8_1_I_52 : I_52 8 1 = Ia 8 1 := Kp_at kI_52 8 1 (by decide)
            have rf_I_52 : FU (I_52 1 5) = FU (Ia 1 5) := by rw [r1_5_I_52]
            have lI_52 : LR I_52 := h_52.2.2.1
            have qI_52 := lI_52.1
            unfold LRf at qI_52
            have cI_52 := h_52.2.2.2
            refine ww_goto hX (pc := 55) (tgt := 63) dX7_takePlain_55 (by decide) ?_
            refine ww_istore_n hX (pc := 63) (lv' := [some (kR (some 10)), some (kI (8 - (m : Int))), some (kI fl), some (kI x_52)]) dX7_takePlain_63 (by decide) rfl rfl ?_
            refine ww_iload_n hX (pc := 64) dX7_takePlain_64 rfl ?_
            refine ww_if_eq hX (pc := 65) (tgt := 78) dX7_takePlain_65 (by decide) (fun h_65 => ?_) (fun h_65 => ?_)
            · simp only [w32_mod] at h_65
              refine ww_iload_n hX (pc := 78) dX7_takePlain_78 rfl ?_
              refine rZ hX (pc := 79) hT (Nat.le_refl 0) (Nat.le_refl 0) dX7_takePlain_79 (by omega) ?_
              exact ⟨kI_52, kJ_52, lI_52, by omega, by omega⟩
            · simp only [w32_mod] at h_65
              refine ww_iload_n hX (pc := 68) dX7_takePlain_68 rfl ?_
              refine ww_if_eq hX (pc := 69) (tgt := 78) dX7_takePlain_69 (by decide) (fun h_69 => ?_) (fun h_69 => ?_)
              · simp only [w32_mod] at h_69
                refine ww_iload_n hX (pc := 78) dX7_takePlain_78 rfl ?_
                refine rZ hX (pc := 79) hT (Nat.le_refl 0) (Nat.le_refl 0) dX7_takePlain_79 (by omega) ?_
                exact ⟨kI_52, kJ_52, lI_52, by omega, by omega⟩
              · simp only [w32_mod] at h_69
                refine ww_aload_n hX (pc := 72) dX7_takePlain_72 rfl ?_
                refine ww_bipush hX (pc := 73) (x := (-19)) dX7_takePlain_73 (by decide) ?_
                refine vV1 hX (pc := 75) sX7_101 (xs_10 hL) (c_X7_step l0 hL (XI_kp hI kI_52 (by decide)) lI_52 (by omega) (by omega)) (by omega) (Nat.le_refl 0) (Nat.le_refl 0) (Nat.le_of_ble_eq_true rfl) dX7_takePlain_75 (fun I_75 J_75 h_75 => ?_)
                have kI_75 : Kp 10 15 Ia I_75 := Kp_tr kI_52 (Kp_wd h_75.1 (by decide) (by decide))
                have kJ_75 : Kp 10 15 Ja J_75 := Kp_tr kJ_52 (Kp_wd h_75.2.1 (by decide) (by decide))
                have r1_5_I_75 : I_75 1 5 = Ia 1 5 := Kp_at kI_75 1 5 (by decide)
                have r8_1_I_75 : I_75 8 1 = Ia 8 1 := Kp_at kI_75 8 1 (by decide)
                have rf_I_75 : FU (I_75 1 5) = FU (Ia 1 5) := by rw [r1_5_I_75]
                have lI_75 : LR I_75 := h_75.2.2.1
                have qI_75 := lI_75.1
                unfold LRf at qI_75
                have cI_75 := h_75.2.2.2
                refine ww_iload_n hX (pc := 78) dX7_takePlain_78 rfl ?_
                refine rZ hX (pc := 79) hT (Nat.le_refl 0) (Nat.le_refl 0) dX7_takePlain_79 (by omega) ?_
                exact ⟨kI_75, kJ_75, lI_75, by omega, by omega⟩
        · simp only [w32_mod] at h_18
          refine ww_aload_n hX (pc := 21) dX7_takePlain_21 rfl ?_
          refine vV0 hX (pc := 22) sX7_71 (xs_10 hL) (c_X7_advance l0 hL (XI_kp hI kI2 (by decide)) lI2) (by omega) (Nat.le_refl 0) (Nat.le_refl 0) (Nat.le_of_ble_eq_true rfl) dX7_takePlain_22 (fun I_22 J_22 h_22 => ?_)
          have kI_22 : Kp 10 15 Ia I_22 := Kp_tr kI2 (Kp_wd h_22.1 (by decide) (by decide))
          have kJ_22 : Kp 10 15 Ja J_22 := Kp_tr kJ2 (Kp_wd h_22.2.1 (by decide) (by decide))
          have r1_5_I_22 : I_22 1 5 = Ia 1 5 := Kp_at kI_22 1 5 (by decide)
          have r8_1_I_22 : I_22 8 1 = Ia 8 1 := Kp_at kI_22 8 1 (by decide)
          have rf_I_22 : FU (I_22 1 5) = FU (Ia 1 5) := by rw [r1_5_I_22]
          have lI_22 : LR I_22 := h_22.2.2.1
          have qI_22 := lI_22.1
          unfold LRf at qI_22
          have cI_22 := h_22.2.2.2
          refine ww_iload_n hX (pc := 25) dX7_takePlain_25 rfl ?_
          refine ww_if_ne hX (pc := 26) (tgt := 33) dX7_takePlain_26 (by decide) (fun h_26 => ?_) (fun h_26 => ?_)
          · simp only [w32_mod] at h_26
            refine ww_iconst hX (pc := 33) (x := 0) dX7_takePlain_33 rfl ?_
            refine ww_istore_n hX (pc := 34) (lv' := [some (kR (some 10)), some (kI (8 - (m : Int))), some (kI 0), some (kI i)]) dX7_takePlain_34 (by decide) rfl rfl ?_
            refine ww_iinc hX (pc := 35) (lv' := [some (kR (some 10)), some (kI (8 - (m : Int))), some (kI 0), some (kI (i + 1))]) dX7_takePlain_35 rfl (by decide) rfl rfl ?_
            refine ww_goto hX (pc := 38) (tgt := 4) dX7_takePlain_38 (by decide) ?_
            exact ih_4 _ (by have hm9 := Sh0_e hq_4; omega) 0 (i + 1) I_22 J_22 rfl ⟨kI_22, kJ_22, lI_22, by omega, ⟨by omega, by omega⟩⟩
          · simp only [w32_mod] at h_26
            refine ww_iconst hX (pc := 29) (x := 1) dX7_takePlain_29 rfl ?_
            refine ww_goto hX (pc := 30) (tgt := 34) dX7_takePlain_30 (by decide) ?_
            refine ww_istore_n hX (pc := 34) (lv' := [some (kR (some 10)), some (kI (8 - (m : Int))), some (kI 1), some (kI i)]) dX7_takePlain_34 (by decide) rfl rfl ?_
            refine ww_iinc hX (pc := 35) (lv' := [some (kR (some 10)), some (kI (8 - (m : Int))), some (kI 1), some (kI (i + 1))]) dX7_takePlain_35 rfl (by decide) rfl rfl ?_
            refine ww_goto hX (pc := 38) (tgt := 4) dX7_takePlain_38 (by decide) ?_
            exact ih_4 _ (by have hm9 := Sh0_e hq_4; omega) 1 (i + 1) I_22 J_22 rfl ⟨kI_22, kJ_22, lI_22, by omega, ⟨by omega, by omega⟩⟩
  exact hl_4 _ 0 0 Ia Ja rfl ⟨(Kp_rf (a := 10) (b := 15)), (Kp_rf (a := 10) (b := 15)), hR, by omega, ⟨by omega, by omega⟩⟩
set_option maxHeartbeats 4000000 in
set_option maxRecDepth 20000 in
theorem c_X7_takeBoth (l0 : Launch) {m : Nat} (hm : m ≤ 8) (hrec : ∀ mp, m = mp + 1 → PTest l0 mp) {Ia Ja : aI1} {Ra : aR1} {Sa : aS1} (hL : LY Ra Sa) (hI : XI Ia) (hR : LR Ia)  : CT l0 (20 * m + 129) 0 0 mX7_takeBoth [kR (some 10), kI (8 - (m : Int))] Ia Ja Ra Sa (cI (fun x I' J' => Kp 10 15 Ia I' ∧ Kp 10 15 Ja J' ∧ LR I' ∧ I' 10 11 = Ia 10 11 ∧ (x = 0 ∨ x = 1)) Ra Sa) := by
  refine ct_in pn_X7 (Nat.le_of_ble_eq_true rfl) (fun X hX hT hIn => ?_)
  have hX : aK l0 X cX7_takeBoth 4 RX7 (some .boolean) (20 * m + 129) 0 0 := hX
  change WW X 0 [some (kR (some 10)), some (kI (8 - (m : Int))), none, none] [] Ia Ja Ra Sa 0 0
  obtain ⟨hn1, hn2⟩ := hI.1
  obtain ⟨hk1, hk2⟩ := hI.2.1
  obtain ⟨hf1, hf2⟩ := hI.fu
  obtain ⟨hl1, hl2⟩ := hI.2.2.2.2.2.2.1
  have hq := hR.1
  unfold LRf at hq
  refine ww_aload_n hX (pc := 0) dX7_takeBoth_0 rfl ?_
  refine ww_iload_n hX (pc := 1) dX7_takeBoth_1 rfl ?_
  refine vI1 hX (pc := 2) sX7_92 (xs_10 hL) (c_X7_takePlain l0 (m := m) hm hrec hL hI hR) (by omega) (Nat.le_refl 0) (Nat.le_refl 0) (Nat.le_of_ble_eq_true rfl) dX7_takeBoth_2 (fun x_2 I_2 J_2 h_2 => ?_)
  have kI_2 : Kp 10 15 Ia I_2 := Kp_tr (Kp_rf (a := 10) (b := 15)) (Kp_wd h_2.1 (by decide) (by decide))
  have kJ_2 : Kp 10 15 Ja J_2 := Kp_tr (Kp_rf (a := 10) (b := 15)) (Kp_wd h_2.2.1 (by decide) (by decide))
  have r1_5_I_2 : I_2 1 5 = Ia 1 5 := Kp_at kI_2 1 5 (by decide)
  have r8_1_I_2 : I_2 8 1 = Ia 8 1 := Kp_at kI_2 8 1 (by decide)
  have rf_I_2 : FU (I_2 1 5) = FU (Ia 1 5) := by rw [r1_5_I_2]
  have lI_2 : LR I_2 := h_2.2.2.1
  have qI_2 := lI_2.1
  unfold LRf at qI_2
  have cI_2 := h_2.2.2.2
  refine ww_if_ne hX (pc := 5) (tgt := 10) dX7_takeBoth_5 (by decide) (fun h_5 => ?_) (fun h_5 => ?_)
  · simp only [w32_mod] at h_5
    refine ww_iconst hX (pc := 10) (x := 0) dX7_takeBoth_10 rfl ?_
    refine ww_istore_n hX (pc := 11) (lv' := [some (kR (some 10)), some (kI (8 - (m : Int))), some (kI 0), none]) dX7_takeBoth_11 (by decide) rfl rfl ?_
    have hl_12 : ∀ (n_12 : Nat) (i : Int) (I2 : aI1) (J2 : aI1), (400 - i).toNat = n_12 → (Kp 10 15 Ia I2 ∧ Kp 10 15 Ja J2 ∧ LR I2 ∧ I2 10 11 = Ia 10 11 ∧ (0 ≤ i ∧ i ≤ 400)) → WW X 12 [some (kR (some 10)), some (kI (8 - (m : Int))), some (kI i), none] [] I2 J2 Ra Sa 0 0 := by
      intro n_12
      induction n_12 using Nat.strongRecOn with
      | ind n_12 ih_12 =>
        intro i I2 J2 hm_12 hv_12
        have hq_12 := Sh0_i hm_12
        clear hm_12
        obtain ⟨kI2, kJ2, lI2, cI2, hi⟩ := hv_12
        have r1_5_I2 : I2 1 5 = Ia 1 5 := Kp_at kI2 1 5 (by decide)
        have r8_1_I2 : I2 8 1 = Ia 8 1 := Kp_at kI2 8 1 (by decide)
        have rf_I2 : FU (I2 1 5) = FU (Ia 1 5) := by rw [r1_5_I2]
        have qI2 := lI2.1
        unfold LRf at qI2
        refine ww_iload_n hX (pc := 12) dX7_takeBoth_12 rfl ?_
        refine ww_sipush hX (pc := 13) (x := 400) dX7_takeBoth_13 (by decide) ?_
        refine ww_icmp_ge hX (pc := 16) (tgt := 61) dX7_takeBoth_16 (by decide) (fun h_16 => ?_) (fun h_16 => ?_)
        · simp only [w32_mod] at h_16
          refine ww_iconst hX (pc := 61) (x := 1) dX7_takeBoth_61 rfl ?_
          refine rZ hX (pc := 62) hT (Nat.le_refl 0) (Nat.le_refl 0) dX7_takeBoth_62 (by decide) ?_
          exact ⟨kI2, kJ2, lI2, by omega, by omega⟩
        · simp only [w32_mod] at h_16
          refine ww_aload_n hX (pc := 19) dX7_takeBoth_19 rfl ?_
          refine ww_getI hX (pc := 20) fX7_38 (by decide) (xs_10 hL) dX7_takeBoth_20 ?_
          refine ww_sipush hX (pc := 23) (x := 261) dX7_takeBoth_23 (by decide) ?_
          refine ww_icmp_ne hX (pc := 26) (tgt := 61) dX7_takeBoth_26 (by decide) (fun h_26 => ?_) (fun h_26 => ?_)
          · simp only [w32_mod] at h_26
            refine ww_iconst hX (pc := 61) (x := 1) dX7_takeBoth_61 rfl ?_
            refine rZ hX (pc := 62) hT (Nat.le_refl 0) (Nat.le_refl 0) dX7_takeBoth_62 (by decide) ?_
            exact ⟨kI2, kJ2, lI2, by omega, by omega⟩
          · simp only [w32_mod] at h_26
            refine ww_aload_n hX (pc := 29) dX7_takeBoth_29 rfl ?_
            refine vV0 hX (pc := 30) sX7_71 (xs_10 hL) (c_X7_advance l0 hL (XI_kp hI kI2 (by decide)) lI2) (by omega) (Nat.le_refl 0) (Nat.le_refl 0) (Nat.le_of_ble_eq_true rfl) dX7_takeBoth_30 (fun I_30 J_30 h_30 => ?_)
            have kI_30 : Kp 10 15 Ia I_30 := Kp_tr kI2 (Kp_wd h_30.1 (by decide) (by decide))
            have kJ_30 : Kp 10 15 Ja J_30 := Kp_tr kJ2 (Kp_wd h_30.2.1 (by decide) (by decide))
            have r1_5_I_30 : I_30 1 5 = Ia 1 5 := Kp_at kI_30 1 5 (by decide)
            have r8_1_I_30 : I_30 8 1 = Ia 8 1 := Kp_at kI_30 8 1 (by decide)
            have rf_I_30 : FU (I_30 1 5) = FU (Ia 1 5) := by rw [r1_5_I_30]
            have lI_30 : LR I_30 := h_30.2.2.1
            have qI_30 := lI_30.1
            unfold LRf at qI_30
            have cI_30 := h_30.2.2.2
            refine ww_aload_n hX (pc := 33) dX7_takeBoth_33 rfl ?_
            refine ww_bipush hX (pc := 34) (x := (-21)) dX7_takeBoth_34 (by decide) ?_
            refine vI1 hX (pc := 36) sX7_84 (xs_10 hL) (c_X7_openSkip l0 hL (XI_kp hI kI_30 (by decide)) lI_30 (by omega) (by omega)) (by omega) (Nat.le_refl 0) (Nat.le_refl 0) (Nat.le_of_ble_eq_true rfl) dX7_takeBoth_36 (fun x_36 I_36 J_36 h_36 => ?_)
            have kI_36 : Kp 10 15 Ia I_36 := Kp_tr kI_30 (Kp_wd h_36.1 (by decide) (by decide))
            have kJ_36 : Kp 10 15 Ja J_36 := Kp_tr kJ_30 (Kp_wd h_36.2.1 (by decide) (by decide))
            have r1_5_I_36 : I_36 1 5 = Ia 1 5 := Kp_at kI_36 1 5 (by decide)
            have r8_1_I_36 : I_36 8 1 = Ia 8 1 := Kp_at kI_36 8 1 (by decide)
            have rf_I_36 : FU (I_36 1 5) = FU (Ia 1 5) := by rw [r1_5_I_36]
            have lI_36 : LR I_36 := h_36.2.2.1
            have qI_36 := lI_36.1
            unfold LRf at qI_36
            have cI_36 := h_36.2.2.2
            refine ww_istore_n hX (pc := 39) (lv' := [some (kR (some 10)), some (kI (8 - (m : Int))), some (kI i), some (kI x_36)]) dX7_takeBoth_39 (by decide) rfl rfl ?_
            refine ww_aload_n hX (pc := 40) dX7_takeBoth_40 rfl ?_
            refine ww_iload_n hX (pc := 41) dX7_takeBoth_41 rfl ?_
            refine vI1 hX (pc := 42) sX7_92 (xs_10 hL) (c_X7_takePlain l0 (m := m) hm hrec hL (XI_kp hI kI_36 (by decide)) lI_36) (by omega) (Nat.le_refl 0) (Nat.le_refl 0) (Nat.le_of_ble_eq_true rfl) dX7_takeBoth_42 (fun x_42 I_42 J_42 h_42 => ?_)
            have kI_42 : Kp 10 15 Ia I_42 := Kp_tr kI_36 (Kp_wd h_42.1 (by decide) (by decide))
            have kJ_42 : Kp 10 15 Ja J_42 := Kp_tr kJ_36 (Kp_wd h_42.2.1 (by decide) (by decide))
            have r1_5_I_42 : I_42 1 5 = Ia 1 5 := Kp_at kI_42 1 5 (by decide)
            have r8_1_I_42 : I_42 8 1 = Ia 8 1 := Kp_at kI_42 8 1 (by decide)
            have rf_I_42 : FU (I_42 1 5) = FU (Ia 1 5) := by rw [r1_5_I_42]
            have lI_42 : LR I_42 := h_42.2.2.1
            have qI_42 := lI_42.1
            unfold LRf at qI_42
            have cI_42 := h_42.2.2.2
            refine ww_if_ne hX (pc := 45) (tgt := 50) dX7_takeBoth_45 (by decide) (fun h_45 => ?_) (fun h_45 => ?_)
            · simp only [w32_mod] at h_45
              refine ww_aload_n hX (pc := 50) dX7_takeBoth_50 rfl ?_
              refine ww_iload_n hX (pc := 51) dX7_takeBoth_51 rfl ?_
              refine vV1 hX (pc := 52) sX7_88 (xs_10 hL) (c_X7_closeSkip l0 hL (XI_kp hI kI_42 (by decide)) lI_42 (by omega) (by omega)) (by omega) (Nat.le_refl 0) (Nat.le_refl 0) (Nat.le_of_ble_eq_true rfl) dX7_takeBoth_52 (fun I_52 J_52 h_52 => ?_)
              have kI_52 : Kp 10 15 Ia I_52 := Kp_tr kI_42 (Kp_wd h_52.1 (by decide) (by decide))
              have kJ_52 : Kp 10 15 Ja J_52 := Kp_tr kJ_42 (Kp_wd h_52.2.1 (by decide) (by decide))
              have r1_5_I_52 : I_52 1 5 = Ia 1 5 := Kp_at kI_52 1 5 (by decide)
              have r8_1_I_52 : I_52 8 1 = Ia 8 1 := Kp_at kI_52 8 1 (by decide)
              have rf_I_52 : FU (I_52 1 5) = FU (Ia 1 5) := by rw [r1_5_I_52]
              have lI_52 : LR I_52 := h_52.2.2.1
              have qI_52 := lI_52.1
              unfold LRf at qI_52
              have cI_52 := h_52.2.2.2
              refine ww_iinc hX (pc := 55) (lv' := [some (kR (some 10)), some (kI (8 - (m : Int))), some (kI (i + 1)), some (kI x_36)]) dX7_takeBoth_55 rfl (by decide) rfl rfl ?_
              refine ww_goto hX (pc := 58) (tgt := 12) dX7_takeBoth_58 (by decide) ?_
              refine ww_sub [some (kR (some 10)), some (kI (8 - (m : Int))), some (kI (i + 1)), none] (aLe_s (aLe_s (aLe_s (aLe_n aLe_0)))) ?_
              exact ih_12 _ (by have hm9 := Sh0_e hq_12; omega) (i + 1) I_52 J_52 rfl ⟨kI_52, kJ_52, lI_52, by omega, ⟨by omega, by omega⟩⟩
            · simp only [w32_mod] at h_45
              refine ww_iconst hX (pc := 48) (x := 0) dX7_takeBoth_48 rfl ?_
              refine rZ hX (pc := 49) hT (Nat.le_refl 0) (Nat.le_refl 0) dX7_takeBoth_49 (by decide) ?_
              exact ⟨kI_42, kJ_42, lI_42, by omega, by omega⟩
    exact hl_12 _ 0 I_2 J_2 rfl ⟨kI_2, kJ_2, lI_2, by omega, ⟨by omega, by omega⟩⟩
  · simp only [w32_mod] at h_5
    refine ww_iconst hX (pc := 8) (x := 0) dX7_takeBoth_8 rfl ?_
    refine rZ hX (pc := 9) hT (Nat.le_refl 0) (Nat.le_refl 0) dX7_takeBoth_9 (by decide) ?_
    exact ⟨kI_2, kJ_2, lI_2, by omega, by omega⟩
set_option maxHeartbeats 4000000 in
set_option maxRecDepth 20000 in
theorem c_X7_takeTest (l0 : Launch) {m : Nat} (hm : m ≤ 8) (hrec : ∀ mp, m = mp + 1 → PTest l0 mp) {Ia Ja : aI1} {Ra : aR1} {Sa : aS1} (hL : LY Ra Sa) (hI : XI Ia) (hR : LR Ia)  : CT l0 (20 * m + 130) 0 0 mX7_takeTest [kR (some 10), kI (8 - (m : Int))] Ia Ja Ra Sa (cI (fun x I' J' => Kp 10 15 Ia I' ∧ Kp 10 15 Ja J' ∧ LR I' ∧ I' 10 11 = Ia 10 11 ∧ (x = 0 ∨ x = 1)) Ra Sa) := by
  refine ct_in pn_X7 (Nat.le_of_ble_eq_true rfl) (fun X hX hT hIn => ?_)
  have hX : aK l0 X cX7_takeTest 4 RX7 (some .boolean) (20 * m + 130) 0 0 := hX
  change WW X 0 [some (kR (some 10)), some (kI (8 - (m : Int))), none, none] [] Ia Ja Ra Sa 0 0
  obtain ⟨hn1, hn2⟩ := hI.1
  obtain ⟨hk1, hk2⟩ := hI.2.1
  obtain ⟨hf1, hf2⟩ := hI.fu
  obtain ⟨hl1, hl2⟩ := hI.2.2.2.2.2.2.1
  have hq := hR.1
  unfold LRf at hq
  refine ww_aload_n hX (pc := 0) dX7_takeTest_0 rfl ?_
  refine ww_iload_n hX (pc := 1) dX7_takeTest_1 rfl ?_
  refine vI1 hX (pc := 2) sX7_81 (xs_10 hL) (c_X7_takeBoth l0 (m := m) hm hrec hL hI hR) (by omega) (Nat.le_refl 0) (Nat.le_refl 0) (Nat.le_of_ble_eq_true rfl) dX7_takeTest_2 (fun x_2 I_2 J_2 h_2 => ?_)
  have kI_2 : Kp 10 15 Ia I_2 := Kp_tr (Kp_rf (a := 10) (b := 15)) (Kp_wd h_2.1 (by decide) (by decide))
  have kJ_2 : Kp 10 15 Ja J_2 := Kp_tr (Kp_rf (a := 10) (b := 15)) (Kp_wd h_2.2.1 (by decide) (by decide))
  have r1_5_I_2 : I_2 1 5 = Ia 1 5 := Kp_at kI_2 1 5 (by decide)
  have r8_1_I_2 : I_2 8 1 = Ia 8 1 := Kp_at kI_2 8 1 (by decide)
  have rf_I_2 : FU (I_2 1 5) = FU (Ia 1 5) := by rw [r1_5_I_2]
  have lI_2 : LR I_2 := h_2.2.2.1
  have qI_2 := lI_2.1
  unfold LRf at qI_2
  have cI_2 := h_2.2.2.2
  refine ww_if_ne hX (pc := 5) (tgt := 10) dX7_takeTest_5 (by decide) (fun h_5 => ?_) (fun h_5 => ?_)
  · simp only [w32_mod] at h_5
    refine ww_iconst hX (pc := 10) (x := 0) dX7_takeTest_10 rfl ?_
    refine ww_istore_n hX (pc := 11) (lv' := [some (kR (some 10)), some (kI (8 - (m : Int))), some (kI 0), none]) dX7_takeTest_11 (by decide) rfl rfl ?_
    have hl_12 : ∀ (n_12 : Nat) (i : Int) (I2 : aI1) (J2 : aI1), (400 - i).toNat = n_12 → (Kp 10 15 Ia I2 ∧ Kp 10 15 Ja J2 ∧ LR I2 ∧ I2 10 11 = Ia 10 11 ∧ (0 ≤ i ∧ i ≤ 400)) → WW X 12 [some (kR (some 10)), some (kI (8 - (m : Int))), some (kI i), none] [] I2 J2 Ra Sa 0 0 := by
      intro n_12
      induction n_12 using Nat.strongRecOn with
      | ind n_12 ih_12 =>
        intro i I2 J2 hm_12 hv_12
        have hq_12 := Sh0_i hm_12
        clear hm_12
        obtain ⟨kI2, kJ2, lI2, cI2, hi⟩ := hv_12
        have r1_5_I2 : I2 1 5 = Ia 1 5 := Kp_at kI2 1 5 (by decide)
        have r8_1_I2 : I2 8 1 = Ia 8 1 := Kp_at kI2 8 1 (by decide)
        have rf_I2 : FU (I2 1 5) = FU (Ia 1 5) := by rw [r1_5_I2]
        have qI2 := lI2.1
        unfold LRf at qI2
        refine ww_iload_n hX (pc := 12) dX7_takeTest_12 rfl ?_
        refine ww_sipush hX (pc := 13) (x := 400) dX7_takeTest_13 (by decide) ?_
        refine ww_icmp_ge hX (pc := 16) (tgt := 61) dX7_takeTest_16 (by decide) (fun h_16 => ?_) (fun h_16 => ?_)
        · simp only [w32_mod] at h_16
          refine ww_iconst hX (pc := 61) (x := 1) dX7_takeTest_61 rfl ?_
          refine rZ hX (pc := 62) hT (Nat.le_refl 0) (Nat.le_refl 0) dX7_takeTest_62 (by decide) ?_
          exact ⟨kI2, kJ2, lI2, by omega, by omega⟩
        · simp only [w32_mod] at h_16
          refine ww_aload_n hX (pc := 19) dX7_takeTest_19 rfl ?_
          refine ww_getI hX (pc := 20) fX7_38 (by decide) (xs_10 hL) dX7_takeTest_20 ?_
          refine ww_sipush hX (pc := 23) (x := 260) dX7_takeTest_23 (by decide) ?_
          refine ww_icmp_ne hX (pc := 26) (tgt := 61) dX7_takeTest_26 (by decide) (fun h_26 => ?_) (fun h_26 => ?_)
          · simp only [w32_mod] at h_26
            refine ww_iconst hX (pc := 61) (x := 1) dX7_takeTest_61 rfl ?_
            refine rZ hX (pc := 62) hT (Nat.le_refl 0) (Nat.le_refl 0) dX7_takeTest_62 (by decide) ?_
            exact ⟨kI2, kJ2, lI2, by omega, by omega⟩
          · simp only [w32_mod] at h_26
            refine ww_aload_n hX (pc := 29) dX7_takeTest_29 rfl ?_
            refine vV0 hX (pc := 30) sX7_71 (xs_10 hL) (c_X7_advance l0 hL (XI_kp hI kI2 (by decide)) lI2) (by omega) (Nat.le_refl 0) (Nat.le_refl 0) (Nat.le_of_ble_eq_true rfl) dX7_takeTest_30 (fun I_30 J_30 h_30 => ?_)
            have kI_30 : Kp 10 15 Ia I_30 := Kp_tr kI2 (Kp_wd h_30.1 (by decide) (by decide))
            have kJ_30 : Kp 10 15 Ja J_30 := Kp_tr kJ2 (Kp_wd h_30.2.1 (by decide) (by decide))
            have r1_5_I_30 : I_30 1 5 = Ia 1 5 := Kp_at kI_30 1 5 (by decide)
            have r8_1_I_30 : I_30 8 1 = Ia 8 1 := Kp_at kI_30 8 1 (by decide)
            have rf_I_30 : FU (I_30 1 5) = FU (Ia 1 5) := by rw [r1_5_I_30]
            have lI_30 : LR I_30 := h_30.2.2.1
            have qI_30 := lI_30.1
            unfold LRf at qI_30
            have cI_30 := h_30.2.2.2
            refine ww_aload_n hX (pc := 33) dX7_takeTest_33 rfl ?_
            refine ww_bipush hX (pc := 34) (x := (-20)) dX7_takeTest_34 (by decide) ?_
            refine vI1 hX (pc := 36) sX7_84 (xs_10 hL) (c_X7_openSkip l0 hL (XI_kp hI kI_30 (by decide)) lI_30 (by omega) (by omega)) (by omega) (Nat.le_refl 0) (Nat.le_refl 0) (Nat.le_of_ble_eq_true rfl) dX7_takeTest_36 (fun x_36 I_36 J_36 h_36 => ?_)
            have kI_36 : Kp 10 15 Ia I_36 := Kp_tr kI_30 (Kp_wd h_36.1 (by decide) (by decide))
            have kJ_36 : Kp 10 15 Ja J_36 := Kp_tr kJ_30 (Kp_wd h_36.2.1 (by decide) (by decide))
            have r1_5_I_36 : I_36 1 5 = Ia 1 5 := Kp_at kI_36 1 5 (by decide)
            have r8_1_I_36 : I_36 8 1 = Ia 8 1 := Kp_at kI_36 8 1 (by decide)
            have rf_I_36 : FU (I_36 1 5) = FU (Ia 1 5) := by rw [r1_5_I_36]
            have lI_36 : LR I_36 := h_36.2.2.1
            have qI_36 := lI_36.1
            unfold LRf at qI_36
            have cI_36 := h_36.2.2.2
            refine ww_istore_n hX (pc := 39) (lv' := [some (kR (some 10)), some (kI (8 - (m : Int))), some (kI i), some (kI x_36)]) dX7_takeTest_39 (by decide) rfl rfl ?_
            refine ww_aload_n hX (pc := 40) dX7_takeTest_40 rfl ?_
            refine ww_iload_n hX (pc := 41) dX7_takeTest_41 rfl ?_
            refine vI1 hX (pc := 42) sX7_81 (xs_10 hL) (c_X7_takeBoth l0 (m := m) hm hrec hL (XI_kp hI kI_36 (by decide)) lI_36) (by omega) (Nat.le_refl 0) (Nat.le_refl 0) (Nat.le_of_ble_eq_true rfl) dX7_takeTest_42 (fun x_42 I_42 J_42 h_42 => ?_)
            have kI_42 : Kp 10 15 Ia I_42 := Kp_tr kI_36 (Kp_wd h_42.1 (by decide) (by decide))
            have kJ_42 : Kp 10 15 Ja J_42 := Kp_tr kJ_36 (Kp_wd h_42.2.1 (by decide) (by decide))
            have r1_5_I_42 : I_42 1 5 = Ia 1 5 := Kp_at kI_42 1 5 (by decide)
            have r8_1_I_42 : I_42 8 1 = Ia 8 1 := Kp_at kI_42 8 1 (by decide)
            have rf_I_42 : FU (I_42 1 5) = FU (Ia 1 5) := by rw [r1_5_I_42]
            have lI_42 : LR I_42 := h_42.2.2.1
            have qI_42 := lI_42.1
            unfold LRf at qI_42
            have cI_42 := h_42.2.2.2
            refine ww_if_ne hX (pc := 45) (tgt := 50) dX7_takeTest_45 (by decide) (fun h_45 => ?_) (fun h_45 => ?_)
            · simp only [w32_mod] at h_45
              refine ww_aload_n hX (pc := 50) dX7_takeTest_50 rfl ?_
              refine ww_iload_n hX (pc := 51) dX7_takeTest_51 rfl ?_
              refine vV1 hX (pc := 52) sX7_88 (xs_10 hL) (c_X7_closeSkip l0 hL (XI_kp hI kI_42 (by decide)) lI_42 (by omega) (by omega)) (by omega) (Nat.le_refl 0) (Nat.le_refl 0) (Nat.le_of_ble_eq_true rfl) dX7_takeTest_52 (fun I_52 J_52 h_52 => ?_)
              have kI_52 : Kp 10 15 Ia I_52 := Kp_tr kI_42 (Kp_wd h_52.1 (by decide) (by decide))
              have kJ_52 : Kp 10 15 Ja J_52 := Kp_tr kJ_42 (Kp_wd h_52.2.1 (by decide) (by decide))
              have r1_5_I_52 : I_52 1 5 = Ia 1 5 := Kp_at kI_52 1 5 (by decide)
              have r8_1_I_52 : I_52 8 1 = Ia 8 1 := Kp_at kI_52 8 1 (by decide)
              have rf_I_52 : FU (I_52 1 5) = FU (Ia 1 5) := by rw [r1_5_I_52]
              have lI_52 : LR I_52 := h_52.2.2.1
              have qI_52 := lI_52.1
              unfold LRf at qI_52
              have cI_52 := h_52.2.2.2
              refine ww_iinc hX (pc := 55) (lv' := [some (kR (some 10)), some (kI (8 - (m : Int))), some (kI (i + 1)), some (kI x_36)]) dX7_takeTest_55 rfl (by decide) rfl rfl ?_
              refine ww_goto hX (pc := 58) (tgt := 12) dX7_takeTest_58 (by decide) ?_
              refine ww_sub [some (kR (some 10)), some (kI (8 - (m : Int))), some (kI (i + 1)), none] (aLe_s (aLe_s (aLe_s (aLe_n aLe_0)))) ?_
              exact ih_12 _ (by have hm9 := Sh0_e hq_12; omega) (i + 1) I_52 J_52 rfl ⟨kI_52, kJ_52, lI_52, by omega, ⟨by omega, by omega⟩⟩
            · simp only [w32_mod] at h_45
              refine ww_iconst hX (pc := 48) (x := 0) dX7_takeTest_48 rfl ?_
              refine rZ hX (pc := 49) hT (Nat.le_refl 0) (Nat.le_refl 0) dX7_takeTest_49 (by decide) ?_
              exact ⟨kI_42, kJ_42, lI_42, by omega, by omega⟩
    exact hl_12 _ 0 I_2 J_2 rfl ⟨kI_2, kJ_2, lI_2, by omega, ⟨by omega, by omega⟩⟩
  · simp only [w32_mod] at h_5
    refine ww_iconst hX (pc := 8) (x := 0) dX7_takeTest_8 rfl ?_
    refine rZ hX (pc := 9) hT (Nat.le_refl 0) (Nat.le_refl 0) dX7_takeTest_9 (by decide) ?_
    exact ⟨kI_2, kJ_2, lI_2, by omega, by omega⟩
theorem c_PTest (l0 : Launch) : ∀ m : Nat, m ≤ 8 → PTest l0 m
  | 0, h => fun hL hI hR => c_X7_takeTest l0 (m := 0) h (fun mp e => absurd e (by omega)) hL hI hR
  | m + 1, h => fun hL hI hR => c_X7_takeTest l0 (m := m + 1) h (fun mp e => by
      obtain rfl : m = mp := by omega
      exact c_PTest l0 m (by omega)) hL hI hR
set_option maxHeartbeats 4000000 in
set_option maxRecDepth 20000 in
theorem c_X7_takeClause (l0 : Launch) {Ia Ja : aI1} {Ra : aR1} {Sa : aS1} (hL : LY Ra Sa) (hI : XI Ia) (hR : LR Ia)  : CT l0 291 0 0 mX7_takeClause [kR (some 10)] Ia Ja Ra Sa (cI (fun x I' J' => Kp 10 15 Ia I' ∧ Kp 10 15 Ja J' ∧ LR I' ∧ True ∧ (x = 0 ∨ x = 1)) Ra Sa) := by
  refine ct_in pn_X7 (Nat.le_of_ble_eq_true rfl) (fun X hX hT hIn => ?_)
  have hX : aK l0 X cX7_takeClause 1 RX7 (some .boolean) 291 0 0 := hX
  change WW X 0 [some (kR (some 10))] [] Ia Ja Ra Sa 0 0
  obtain ⟨hn1, hn2⟩ := hI.1
  obtain ⟨hk1, hk2⟩ := hI.2.1
  obtain ⟨hf1, hf2⟩ := hI.fu
  obtain ⟨hl1, hl2⟩ := hI.2.2.2.2.2.2.1
  have hq := hR.1
  unfold LRf at hq
  refine ww_aload_n hX (pc := 0) dX7_takeClause_0 rfl ?_
  refine ww_getI hX (pc := 1) fX7_38 (by decide) (xs_10 hL) dX7_takeClause_1 ?_
  refine ww_sipush hX (pc := 4) (x := 258) dX7_takeClause_4 (by decide) ?_
  refine ww_icmp_ne hX (pc := 7) (tgt := 26) dX7_takeClause_7 (by decide) (fun h_7 => ?_) (fun h_7 => ?_)
  · simp only [w32_mod] at h_7
    refine ww_aload_n hX (pc := 26) dX7_takeClause_26 rfl ?_
    refine vI0 hX (pc := 27) sX7_68 (xs_10 hL) (c_X7_fail l0 hL hI hR) (by decide) (Nat.le_refl 0) (Nat.le_refl 0) (Nat.le_of_ble_eq_true rfl) dX7_takeClause_27 (fun x_27 I_27 J_27 h_27 => ?_)
    have kI_27 : Kp 10 15 Ia I_27 := Kp_tr (Kp_rf (a := 10) (b := 15)) (Kp_wd h_27.1 (by decide) (by decide))
    have kJ_27 : Kp 10 15 Ja J_27 := Kp_tr (Kp_rf (a := 10) (b := 15)) (Kp_wd h_27.2.1 (by decide) (by decide))
    have r1_5_I_27 : I_27 1 5 = Ia 1 5 := Kp_at kI_27 1 5 (by decide)
    have r8_1_I_27 : I_27 8 1 = Ia 8 1 := Kp_at kI_27 8 1 (by decide)
    have rf_I_27 : FU (I_27 1 5) = FU (Ia 1 5) := by rw [r1_5_I_27]
    have lI_27 : LR I_27 := h_27.2.2.1
    have qI_27 := lI_27.1
    unfold LRf at qI_27
    have cI_27 := h_27.2.2.2
    refine rZ hX (pc := 30) hT (Nat.le_refl 0) (Nat.le_refl 0) dX7_takeClause_30 (by omega) ?_
    exact ⟨kI_27, kJ_27, lI_27, trivial, by omega⟩
  · simp only [w32_mod] at h_7
    refine ww_iconst hX (pc := 10) (x := 2) dX7_takeClause_10 rfl ?_
    refine ww_aload_n hX (pc := 11) dX7_takeClause_11 rfl ?_
    refine ww_getI hX (pc := 12) fX7_47 (by decide) (xs_10 hL) dX7_takeClause_12 ?_
    refine ww_imul hX (pc := 15) dX7_takeClause_15 ?_
    refine ww_iconst hX (pc := 16) (x := 2) dX7_takeClause_16 rfl ?_
    refine ww_iadd hX (pc := 17) dX7_takeClause_17 ?_
    refine ww_aload_n hX (pc := 18) dX7_takeClause_18 rfl ?_
    refine ww_getR hX (pc := 19) fX7_25 (by decide) (xs_10 hL) (xr_10_5 hL) dX7_takeClause_19 ?_
    refine ww_alen hX (pc := 22) (by decide) (xs_14 hL) dX7_takeClause_22 ?_
    refine ww_icmp_lt hX (pc := 23) (tgt := 31) dX7_takeClause_23 (by decide) (fun h_23 => ?_) (fun h_23 => ?_)
    · simp only [w32_mod] at h_23
      refine ww_aload_n hX (pc := 31) dX7_takeClause_31 rfl ?_
      refine vV0 hX (pc := 32) sX7_71 (xs_10 hL) (c_X7_advance l0 hL hI hR) (by decide) (Nat.le_refl 0) (Nat.le_refl 0) (Nat.le_of_ble_eq_true rfl) dX7_takeClause_32 (fun I_32 J_32 h_32 => ?_)
      have kI_32 : Kp 10 15 Ia I_32 := Kp_tr (Kp_rf (a := 10) (b := 15)) (Kp_wd h_32.1 (by decide) (by decide))
      have kJ_32 : Kp 10 15 Ja J_32 := Kp_tr (Kp_rf (a := 10) (b := 15)) (Kp_wd h_32.2.1 (by decide) (by decide))
      have r1_5_I_32 : I_32 1 5 = Ia 1 5 := Kp_at kI_32 1 5 (by decide)
      have r8_1_I_32 : I_32 8 1 = Ia 8 1 := Kp_at kI_32 8 1 (by decide)
      have rf_I_32 : FU (I_32 1 5) = FU (Ia 1 5) := by rw [r1_5_I_32]
      have lI_32 : LR I_32 := h_32.2.2.1
      have qI_32 := lI_32.1
      unfold LRf at qI_32
      have cI_32 := h_32.2.2.2
      refine ww_aload_n hX (pc := 35) dX7_takeClause_35 rfl ?_
      refine ww_getR hX (pc := 36) fX7_25 (by decide) (xs_10 hL) (xr_10_5 hL) dX7_takeClause_36 ?_
      refine ww_iconst hX (pc := 39) (x := 2) dX7_takeClause_39 rfl ?_
      refine ww_aload_n hX (pc := 40) dX7_takeClause_40 rfl ?_
      refine ww_getI hX (pc := 41) fX7_47 (by decide) (xs_10 hL) dX7_takeClause_41 ?_
      refine ww_imul hX (pc := 44) dX7_takeClause_44 ?_
      refine ww_aload_n hX (pc := 45) dX7_takeClause_45 rfl ?_
      refine ww_getI hX (pc := 46) fX7_41 (by decide) (xs_10 hL) dX7_takeClause_46 ?_
      refine ww_iast hX (pc := 49) (xs_14 hL) (by decide) (by omega) (by omega) dX7_takeClause_49 ?_
      refine ww_nmH (fun I_49 eI_49 => ?_)
      have kI_49 : Kp 10 15 Ia I_49 := by rw [eI_49]; exact Kp_up kI_32 _ _ (by decide)
      have r1_5_I_49 : I_49 1 5 = Ia 1 5 := Kp_at kI_49 1 5 (by decide)
      have r8_1_I_49 : I_49 8 1 = Ia 8 1 := Kp_at kI_49 8 1 (by decide)
      have rf_I_49 : FU (I_49 1 5) = FU (Ia 1 5) := by rw [r1_5_I_49]
      have lI_49 : LR I_49 := by rw [eI_49]; exact LR_c14 lI_32 _ (by omega) (by omega)
      have wI_49 : I_49 10 = I_32 10 := by rw [eI_49, up2_off _ _ _ (by decide)]
      have wI_49_6 : I_49 10 6 = I_32 10 6 := by rw [wI_49]
      have wI_49_7 : I_49 10 7 = I_32 10 7 := by rw [wI_49]
      have wI_49_8 : I_49 10 8 = I_32 10 8 := by rw [wI_49]
      have wI_49_9 : I_49 10 9 = I_32 10 9 := by rw [wI_49]
      have wI_49_10 : I_49 10 10 = I_32 10 10 := by rw [wI_49]
      have wI_49_11 : I_49 10 11 = I_32 10 11 := by rw [wI_49]
      refine ww_aload_n hX (pc := 50) dX7_takeClause_50 rfl ?_
      refine ww_iconst hX (pc := 51) (x := 0) dX7_takeClause_51 rfl ?_
      refine vI1 hX (pc := 52) sX7_74 (xs_10 hL) (c_PSum l0 8 (by decide) hL (XI_kp hI kI_49 (by decide)) lI_49) (by decide) (Nat.le_refl 0) (Nat.le_refl 0) (Nat.le_of_ble_eq_true rfl) dX7_takeClause_52 (fun x_52 I_52 J_52 h_52 => ?_)
      have kI_52 : Kp 10 15 Ia I_52 := Kp_tr kI_49 (Kp_wd h_52.1 (by decide) (by decide))
      have kJ_52 : Kp 10 15 Ja J_52 := Kp_tr kJ_32 (Kp_wd h_52.2.1 (by decide) (by decide))
      have r1_5_I_52 : I_52 1 5 = Ia 1 5 := Kp_at kI_52 1 5 (by decide)
      have r8_1_I_52 : I_52 8 1 = Ia 8 1 := Kp_at kI_52 8 1 (by decide)
      have rf_I_52 : FU (I_52 1 5) = FU (Ia 1 5) := by rw [r1_5_I_52]
      have lI_52 : LR I_52 := h_52.2.2.1
      have qI_52 := lI_52.1
      unfold LRf at qI_52
      have cI_52 := h_52.2.2.2
      refine ww_if_ne hX (pc := 55) (tgt := 60) dX7_takeClause_55 (by decide) (fun h_55 => ?_) (fun h_55 => ?_)
      · simp only [w32_mod] at h_55
        refine ww_aload_n hX (pc := 60) dX7_takeClause_60 rfl ?_
        refine ww_getR hX (pc := 61) fX7_25 (by decide) (xs_10 hL) (xr_10_5 hL) dX7_takeClause_61 ?_
        refine ww_iconst hX (pc := 64) (x := 2) dX7_takeClause_64 rfl ?_
        refine ww_aload_n hX (pc := 65) dX7_takeClause_65 rfl ?_
        refine ww_getI hX (pc := 66) fX7_47 (by decide) (xs_10 hL) dX7_takeClause_66 ?_
        refine ww_imul hX (pc := 69) dX7_takeClause_69 ?_
        refine ww_iconst hX (pc := 70) (x := 1) dX7_takeClause_70 rfl ?_
        refine ww_iadd hX (pc := 71) dX7_takeClause_71 ?_
        refine ww_aload_n hX (pc := 72) dX7_takeClause_72 rfl ?_
        refine ww_getI hX (pc := 73) fX7_41 (by decide) (xs_10 hL) dX7_takeClause_73 ?_
        refine ww_iast hX (pc := 76) (xs_14 hL) (by decide) (by omega) (by omega) dX7_takeClause_76 ?_
        refine ww_nmH (fun I_76 eI_76 => ?_)
        have kI_76 : Kp 10 15 Ia I_76 := by rw [eI_76]; exact Kp_up kI_52 _ _ (by decide)
        have r1_5_I_76 : I_76 1 5 = Ia 1 5 := Kp_at kI_76 1 5 (by decide)
        have r8_1_I_76 : I_76 8 1 = Ia 8 1 := Kp_at kI_76 8 1 (by decide)
        have rf_I_76 : FU (I_76 1 5) = FU (Ia 1 5) := by rw [r1_5_I_76]
        have lI_76 : LR I_76 := by rw [eI_76]; exact LR_c14 lI_52 _ (by omega) (by omega)
        have wI_76 : I_76 10 = I_52 10 := by rw [eI_76, up2_off _ _ _ (by decide)]
        have wI_76_6 : I_76 10 6 = I_52 10 6 := by rw [wI_76]
        have wI_76_7 : I_76 10 7 = I_52 10 7 := by rw [wI_76]
        have wI_76_8 : I_76 10 8 = I_52 10 8 := by rw [wI_76]
        have wI_76_9 : I_76 10 9 = I_52 10 9 := by rw [wI_76]
        have wI_76_10 : I_76 10 10 = I_52 10 10 := by rw [wI_76]
        have wI_76_11 : I_76 10 11 = I_52 10 11 := by rw [wI_76]
        refine ww_aload_n hX (pc := 77) dX7_takeClause_77 rfl ?_
        refine ww_getI hX (pc := 78) fX7_38 (by decide) (xs_10 hL) dX7_takeClause_78 ?_
        refine ww_sipush hX (pc := 81) (x := 259) dX7_takeClause_81 (by decide) ?_
        refine ww_icmp_ne hX (pc := 84) (tgt := 101) dX7_takeClause_84 (by decide) (fun h_84 => ?_) (fun h_84 => ?_)
        · simp only [w32_mod] at h_84
          refine ww_aload_n hX (pc := 101) dX7_takeClause_101 rfl ?_
          refine ww_dupR hX (pc := 102) dX7_takeClause_102 ?_
          refine ww_getI hX (pc := 103) fX7_47 (by decide) (xs_10 hL) dX7_takeClause_103 ?_
          refine ww_iconst hX (pc := 106) (x := 1) dX7_takeClause_106 rfl ?_
          refine ww_iadd hX (pc := 107) dX7_takeClause_107 ?_
          refine ww_putI hX (pc := 108) (fun h9 => absurd h9 (by decide)) gX7_47 rfl (xs_10 hL) dX7_takeClause_108 ?_
          refine ww_nmH (fun I_108 eI_108 => ?_)
          have kI_108 : Kp 10 15 Ia I_108 := by rw [eI_108]; exact Kp_up kI_76 _ _ (by decide)
          have r1_5_I_108 : I_108 1 5 = Ia 1 5 := Kp_at kI_108 1 5 (by decide)
          have r8_1_I_108 : I_108 8 1 = Ia 8 1 := Kp_at kI_108 8 1 (by decide)
          have rf_I_108 : FU (I_108 1 5) = FU (Ia 1 5) := by rw [r1_5_I_108]
          have lI_108 : LR I_108 := by rw [eI_108]; exact LR_11 lI_76 (by omega) (by omega)
          have wI_108 := (congrFun (congrFun eI_108 10) 11).trans (up2_s _ _ _ _)
          have wI_108_6 : I_108 10 6 = I_76 10 6 := by rw [eI_108, up2_n _ _ (Or.inr (by decide))]
          have wI_108_7 : I_108 10 7 = I_76 10 7 := by rw [eI_108, up2_n _ _ (Or.inr (by decide))]
          have wI_108_8 : I_108 10 8 = I_76 10 8 := by rw [eI_108, up2_n _ _ (Or.inr (by decide))]
          have wI_108_9 : I_108 10 9 = I_76 10 9 := by rw [eI_108, up2_n _ _ (Or.inr (by decide))]
          have wI_108_10 : I_108 10 10 = I_76 10 10 := by rw [eI_108, up2_n _ _ (Or.inr (by decide))]
          refine ww_aload_n hX (pc := 111) dX7_takeClause_111 rfl ?_
          refine ww_getR hX (pc := 112) fX7_25 (by decide) (xs_10 hL) (xr_10_5 hL) dX7_takeClause_112 ?_
          refine ww_iconst hX (pc := 115) (x := 2) dX7_takeClause_115 rfl ?_
          refine ww_aload_n hX (pc := 116) dX7_takeClause_116 rfl ?_
          refine ww_getI hX (pc := 117) fX7_47 (by decide) (xs_10 hL) dX7_takeClause_117 ?_
          refine ww_imul hX (pc := 120) dX7_takeClause_120 ?_
          refine ww_aload_n hX (pc := 121) dX7_takeClause_121 rfl ?_
          refine ww_getI hX (pc := 122) fX7_41 (by decide) (xs_10 hL) dX7_takeClause_122 ?_
          refine ww_iast hX (pc := 125) (xs_14 hL) (by decide) (by omega) (by omega) dX7_takeClause_125 ?_
          refine ww_nmH (fun I_125 eI_125 => ?_)
          have kI_125 : Kp 10 15 Ia I_125 := by rw [eI_125]; exact Kp_up kI_108 _ _ (by decide)
          have r1_5_I_125 : I_125 1 5 = Ia 1 5 := Kp_at kI_125 1 5 (by decide)
          have r8_1_I_125 : I_125 8 1 = Ia 8 1 := Kp_at kI_125 8 1 (by decide)
          have rf_I_125 : FU (I_125 1 5) = FU (Ia 1 5) := by rw [r1_5_I_125]
          have lI_125 : LR I_125 := by rw [eI_125]; exact LR_c14 lI_108 _ (by omega) (by omega)
          have wI_125 : I_125 10 = I_108 10 := by rw [eI_125, up2_off _ _ _ (by decide)]
          have wI_125_6 : I_125 10 6 = I_108 10 6 := by rw [wI_125]
          have wI_125_7 : I_125 10 7 = I_108 10 7 := by rw [wI_125]
          have wI_125_8 : I_125 10 8 = I_108 10 8 := by rw [wI_125]
          have wI_125_9 : I_125 10 9 = I_108 10 9 := by rw [wI_125]
          have wI_125_10 : I_125 10 10 = I_108 10 10 := by rw [wI_125]
          have wI_125_11 : I_125 10 11 = I_108 10 11 := by rw [wI_125]
          refine ww_iconst hX (pc := 126) (x := 1) dX7_takeClause_126 rfl ?_
          refine rZ hX (pc := 127) hT (Nat.le_refl 0) (Nat.le_refl 0) dX7_takeClause_127 (by decide) ?_
          exact ⟨kI_125, kJ_52, lI_125, trivial, by omega⟩
        · simp only [w32_mod] at h_84
          refine ww_aload_n hX (pc := 87) dX7_takeClause_87 rfl ?_
          refine vV0 hX (pc := 88) sX7_71 (xs_10 hL) (c_X7_advance l0 hL (XI_kp hI kI_76 (by decide)) lI_76) (by decide) (Nat.le_refl 0) (Nat.le_refl 0) (Nat.le_of_ble_eq_true rfl) dX7_takeClause_88 (fun I_88 J_88 h_88 => ?_)
          have kI_88 : Kp 10 15 Ia I_88 := Kp_tr kI_76 (Kp_wd h_88.1 (by decide) (by decide))
          have kJ_88 : Kp 10 15 Ja J_88 := Kp_tr kJ_52 (Kp_wd h_88.2.1 (by decide) (by decide))
          have r1_5_I_88 : I_88 1 5 = Ia 1 5 := Kp_at kI_88 1 5 (by decide)
          have r8_1_I_88 : I_88 8 1 = Ia 8 1 := Kp_at kI_88 8 1 (by decide)
          have rf_I_88 : FU (I_88 1 5) = FU (Ia 1 5) := by rw [r1_5_I_88]
          have lI_88 : LR I_88 := h_88.2.2.1
          have qI_88 := lI_88.1
          unfold LRf at qI_88
          have cI_88 := h_88.2.2.2
          refine ww_aload_n hX (pc := 91) dX7_takeClause_91 rfl ?_
          refine ww_iconst hX (pc := 92) (x := 0) dX7_takeClause_92 rfl ?_
          refine vI1 hX (pc := 93) sX7_78 (xs_10 hL) (c_PTest l0 8 (by decide) hL (XI_kp hI kI_88 (by decide)) lI_88) (by decide) (Nat.le_refl 0) (Nat.le_refl 0) (Nat.le_of_ble_eq_true rfl) dX7_takeClause_93 (fun x_93 I_93 J_93 h_93 => ?_)
          have kI_93 : Kp 10 15 Ia I_93 := Kp_tr kI_88 (Kp_wd h_93.1 (by decide) (by decide))
          have kJ_93 : Kp 10 15 Ja J_93 := Kp_tr kJ_88 (Kp_wd h_93.2.1 (by decide) (by decide))
          have r1_5_I_93 : I_93 1 5 = Ia 1 5 := Kp_at kI_93 1 5 (by decide)
          have r8_1_I_93 : I_93 8 1 = Ia 8 1 := Kp_at kI_93 8 1 (by decide)
          have rf_I_93 : FU (I_93 1 5) = FU (Ia 1 5) := by rw [r1_5_I_93]
          have lI_93 : LR I_93 := h_93.2.2.1
          have qI_93 := lI_93.1
          unfold LRf at qI_93
          have cI_93 := h_93.2.2.2
          refine ww_if_ne hX (pc := 96) (tgt := 101) dX7_takeClause_96 (by decide) (fun h_96 => ?_) (fun h_96 => ?_)
          · simp only [w32_mod] at h_96
            refine ww_aload_n hX (pc := 101) dX7_takeClause_101 rfl ?_
            refine ww_dupR hX (pc := 102) dX7_takeClause_102 ?_
            refine ww_getI hX (pc := 103) fX7_47 (by decide) (xs_10 hL) dX7_takeClause_103 ?_
            refine ww_iconst hX (pc := 106) (x := 1) dX7_takeClause_106 rfl ?_
            refine ww_iadd hX (pc := 107) dX7_takeClause_107 ?_
            refine ww_putI hX (pc := 108) (fun h9 => absurd h9 (by decide)) gX7_47 rfl (xs_10 hL) dX7_takeClause_108 ?_
            refine ww_nmH (fun I_108 eI_108 => ?_)
            have kI_108 : Kp 10 15 Ia I_108 := by rw [eI_108]; exact Kp_up kI_93 _ _ (by decide)
            have r1_5_I_108 : I_108 1 5 = Ia 1 5 := Kp_at kI_108 1 5 (by decide)
            have r8_1_I_108 : I_108 8 1 = Ia 8 1 := Kp_at kI_108 8 1 (by decide)
            have rf_I_108 : FU (I_108 1 5) = FU (Ia 1 5) := by rw [r1_5_I_108]
            have lI_108 : LR I_108 := by rw [eI_108]; exact LR_11 lI_93 (by omega) (by omega)
            have wI_108 := (congrFun (congrFun eI_108 10) 11).trans (up2_s _ _ _ _)
            have wI_108_6 : I_108 10 6 = I_93 10 6 := by rw [eI_108, up2_n _ _ (Or.inr (by decide))]
            have wI_108_7 : I_108 10 7 = I_93 10 7 := by rw [eI_108, up2_n _ _ (Or.inr (by decide))]
            have wI_108_8 : I_108 10 8 = I_93 10 8 := by rw [eI_108, up2_n _ _ (Or.inr (by decide))]
            have wI_108_9 : I_108 10 9 = I_93 10 9 := by rw [eI_108, up2_n _ _ (Or.inr (by decide))]
            have wI_108_10 : I_108 10 10 = I_93 10 10 := by rw [eI_108, up2_n _ _ (Or.inr (by decide))]
            refine ww_aload_n hX (pc := 111) dX7_takeClause_111 rfl ?_
            refine ww_getR hX (pc := 112) fX7_25 (by decide) (xs_10 hL) (xr_10_5 hL) dX7_takeClause_112 ?_
            refine ww_iconst hX (pc := 115) (x := 2) dX7_takeClause_115 rfl ?_
            refine ww_aload_n hX (pc := 116) dX7_takeClause_116 rfl ?_
            refine ww_getI hX (pc := 117) fX7_47 (by decide) (xs_10 hL) dX7_takeClause_117 ?_
            refine ww_imul hX (pc := 120) dX7_takeClause_120 ?_
            refine ww_aload_n hX (pc := 121) dX7_takeClause_121 rfl ?_
            refine ww_getI hX (pc := 122) fX7_41 (by decide) (xs_10 hL) dX7_takeClause_122 ?_
            refine ww_iast hX (pc := 125) (xs_14 hL) (by decide) (by omega) (by omega) dX7_takeClause_125 ?_
            refine ww_nmH (fun I_125 eI_125 => ?_)
            have kI_125 : Kp 10 15 Ia I_125 := by rw [eI_125]; exact Kp_up kI_108 _ _ (by decide)
            have r1_5_I_125 : I_125 1 5 = Ia 1 5 := Kp_at kI_125 1 5 (by decide)
            have r8_1_I_125 : I_125 8 1 = Ia 8 1 := Kp_at kI_125 8 1 (by decide)
            have rf_I_125 : FU (I_125 1 5) = FU (Ia 1 5) := by rw [r1_5_I_125]
            have lI_125 : LR I_125 := by rw [eI_125]; exact LR_c14 lI_108 _ (by omega) (by omega)
            have wI_125 : I_125 10 = I_108 10 := by rw [eI_125, up2_off _ _ _ (by decide)]
            have wI_125_6 : I_125 10 6 = I_108 10 6 := by rw [wI_125]
            have wI_125_7 : I_125 10 7 = I_108 10 7 := by rw [wI_125]
            have wI_125_8 : I_125 10 8 = I_108 10 8 := by rw [wI_125]
            have wI_125_9 : I_125 10 9 = I_108 10 9 := by rw [wI_125]
            have wI_125_10 : I_125 10 10 = I_108 10 10 := by rw [wI_125]
            have wI_125_11 : I_125 10 11 = I_108 10 11 := by rw [wI_125]
            refine ww_iconst hX (pc := 126) (x := 1) dX7_takeClause_126 rfl ?_
            refine rZ hX (pc := 127) hT (Nat.le_refl 0) (Nat.le_refl 0) dX7_takeClause_127 (by decide) ?_
            exact ⟨kI_125, kJ_93, lI_125, trivial, by omega⟩
          · simp only [w32_mod] at h_96
            refine ww_iconst hX (pc := 99) (x := 0) dX7_takeClause_99 rfl ?_
            refine rZ hX (pc := 100) hT (Nat.le_refl 0) (Nat.le_refl 0) dX7_takeClause_100 (by decide) ?_
            exact ⟨kI_93, kJ_93, lI_93, trivial, by omega⟩
      · simp only [w32_mod] at h_55
        refine ww_iconst hX (pc := 58) (x := 0) dX7_takeClause_58 rfl ?_
        refine rZ hX (pc := 59) hT (Nat.le_refl 0) (Nat.le_refl 0) dX7_takeClause_59 (by decide) ?_
        exact ⟨kI_52, kJ_52, lI_52, trivial, by omega⟩
    · simp only [w32_mod] at h_23
      refine ww_aload_n hX (pc := 26) dX7_takeClause_26 rfl ?_
      refine vI0 hX (pc := 27) sX7_68 (xs_10 hL) (c_X7_fail l0 hL hI hR) (by decide) (Nat.le_refl 0) (Nat.le_refl 0) (Nat.le_of_ble_eq_true rfl) dX7_takeClause_27 (fun x_27 I_27 J_27 h_27 => ?_)
      have kI_27 : Kp 10 15 Ia I_27 := Kp_tr (Kp_rf (a := 10) (b := 15)) (Kp_wd h_27.1 (by decide) (by decide))
      have kJ_27 : Kp 10 15 Ja J_27 := Kp_tr (Kp_rf (a := 10) (b := 15)) (Kp_wd h_27.2.1 (by decide) (by decide))
      have r1_5_I_27 : I_27 1 5 = Ia 1 5 := Kp_at kI_27 1 5 (by decide)
      have r8_1_I_27 : I_27 8 1 = Ia 8 1 := Kp_at kI_27 8 1 (by decide)
      have rf_I_27 : FU (I_27 1 5) = FU (Ia 1 5) := by rw [r1_5_I_27]
      have lI_27 : LR I_27 := h_27.2.2.1
      have qI_27 := lI_27.1
      unfold LRf at qI_27
      have cI_27 := h_27.2.2.2
      refine rZ hX (pc := 30) hT (Nat.le_refl 0) (Nat.le_refl 0) dX7_takeClause_30 (by omega) ?_
      exact ⟨kI_27, kJ_27, lI_27, trivial, by omega⟩
set_option maxHeartbeats 4000000 in
set_option maxRecDepth 20000 in
theorem c_X7_takeClauses (l0 : Launch) {Ia Ja : aI1} {Ra : aR1} {Sa : aS1} (hL : LY Ra Sa) (hI : XI Ia) (hR : LR Ia)  : CT l0 292 0 0 mX7_takeClauses [kR (some 10)] Ia Ja Ra Sa (cI (fun x I' J' => Kp 10 15 Ia I' ∧ Kp 10 15 Ja J' ∧ LR I' ∧ True ∧ (x = 0 ∨ x = 1)) Ra Sa) := by
  refine ct_in pn_X7 (Nat.le_of_ble_eq_true rfl) (fun X hX hT hIn => ?_)
  have hX : aK l0 X cX7_takeClauses 2 RX7 (some .boolean) 292 0 0 := hX
  change WW X 0 [some (kR (some 10)), none] [] Ia Ja Ra Sa 0 0
  obtain ⟨hn1, hn2⟩ := hI.1
  obtain ⟨hk1, hk2⟩ := hI.2.1
  obtain ⟨hf1, hf2⟩ := hI.fu
  obtain ⟨hl1, hl2⟩ := hI.2.2.2.2.2.2.1
  have hq := hR.1
  unfold LRf at hq
  refine ww_iconst hX (pc := 0) (x := 0) dX7_takeClauses_0 rfl ?_
  refine ww_istore_n hX (pc := 1) (lv' := [some (kR (some 10)), some (kI 0)]) dX7_takeClauses_1 (by decide) rfl rfl ?_
  have hl_2 : ∀ (n_2 : Nat) (i : Int) (I2 : aI1) (J2 : aI1), (12 - i).toNat = n_2 → (Kp 10 15 Ia I2 ∧ Kp 10 15 Ja J2 ∧ LR I2 ∧ True ∧ (0 ≤ i ∧ i ≤ 12)) → WW X 2 [some (kR (some 10)), some (kI i)] [] I2 J2 Ra Sa 0 0 := by
    intro n_2
    induction n_2 using Nat.strongRecOn with
    | ind n_2 ih_2 =>
      intro i I2 J2 hm_2 hv_2
      have hq_2 := Sh0_i hm_2
      clear hm_2
      obtain ⟨kI2, kJ2, lI2, cI2, hi⟩ := hv_2
      have r1_5_I2 : I2 1 5 = Ia 1 5 := Kp_at kI2 1 5 (by decide)
      have r8_1_I2 : I2 8 1 = Ia 8 1 := Kp_at kI2 8 1 (by decide)
      have rf_I2 : FU (I2 1 5) = FU (Ia 1 5) := by rw [r1_5_I2]
      have qI2 := lI2.1
      unfold LRf at qI2
      refine ww_iload_n hX (pc := 2) dX7_takeClauses_2 rfl ?_
      refine ww_bipush hX (pc := 3) (x := 12) dX7_takeClauses_3 (by decide) ?_
      refine ww_icmp_ge hX (pc := 5) (tgt := 53) dX7_takeClauses_5 (by decide) (fun h_5 => ?_) (fun h_5 => ?_)
      · simp only [w32_mod] at h_5
        refine ww_aload_n hX (pc := 53) dX7_takeClauses_53 rfl ?_
        refine vI0 hX (pc := 54) sX7_68 (xs_10 hL) (c_X7_fail l0 hL (XI_kp hI kI2 (by decide)) lI2) (by decide) (Nat.le_refl 0) (Nat.le_refl 0) (Nat.le_of_ble_eq_true rfl) dX7_takeClauses_54 (fun x_54 I_54 J_54 h_54 => ?_)
        have kI_54 : Kp 10 15 Ia I_54 := Kp_tr kI2 (Kp_wd h_54.1 (by decide) (by decide))
        have kJ_54 : Kp 10 15 Ja J_54 := Kp_tr kJ2 (Kp_wd h_54.2.1 (by decide) (by decide))
        have r1_5_I_54 : I_54 1 5 = Ia 1 5 := Kp_at kI_54 1 5 (by decide)
        have r8_1_I_54 : I_54 8 1 = Ia 8 1 := Kp_at kI_54 8 1 (by decide)
        have rf_I_54 : FU (I_54 1 5) = FU (Ia 1 5) := by rw [r1_5_I_54]
        have lI_54 : LR I_54 := h_54.2.2.1
        have qI_54 := lI_54.1
        unfold LRf at qI_54
        have cI_54 := h_54.2.2.2
        refine rZ hX (pc := 57) hT (Nat.le_refl 0) (Nat.le_refl 0) dX7_takeClauses_57 (by omega) ?_
        exact ⟨kI_54, kJ_54, lI_54, trivial, by omega⟩
      · simp only [w32_mod] at h_5
        refine ww_aload_n hX (pc := 8) dX7_takeClauses_8 rfl ?_
        refine vI0 hX (pc := 9) sX7_65 (xs_10 hL) (c_X7_takeClause l0 hL (XI_kp hI kI2 (by decide)) lI2) (by decide) (Nat.le_refl 0) (Nat.le_refl 0) (Nat.le_of_ble_eq_true rfl) dX7_takeClauses_9 (fun x_9 I_9 J_9 h_9 => ?_)
        have kI_9 : Kp 10 15 Ia I_9 := Kp_tr kI2 (Kp_wd h_9.1 (by decide) (by decide))
        have kJ_9 : Kp 10 15 Ja J_9 := Kp_tr kJ2 (Kp_wd h_9.2.1 (by decide) (by decide))
        have r1_5_I_9 : I_9 1 5 = Ia 1 5 := Kp_at kI_9 1 5 (by decide)
        have r8_1_I_9 : I_9 8 1 = Ia 8 1 := Kp_at kI_9 8 1 (by decide)
        have rf_I_9 : FU (I_9 1 5) = FU (Ia 1 5) := by rw [r1_5_I_9]
        have lI_9 : LR I_9 := h_9.2.2.1
        have qI_9 := lI_9.1
        unfold LRf at qI_9
        have cI_9 := h_9.2.2.2
        refine ww_if_ne hX (pc := 12) (tgt := 17) dX7_takeClauses_12 (by decide) (fun h_12 => ?_) (fun h_12 => ?_)
        · simp only [w32_mod] at h_12
          refine ww_aload_n hX (pc := 17) dX7_takeClauses_17 rfl ?_
          refine ww_getI hX (pc := 18) fX7_38 (by decide) (xs_10 hL) dX7_takeClauses_18 ?_
          refine ww_sipush hX (pc := 21) (x := 256) dX7_takeClauses_21 (by decide) ?_
          refine ww_icmp_ne hX (pc := 24) (tgt := 29) dX7_takeClauses_24 (by decide) (fun h_24 => ?_) (fun h_24 => ?_)
          · simp only [w32_mod] at h_24
            refine ww_aload_n hX (pc := 29) dX7_takeClauses_29 rfl ?_
            refine ww_getI hX (pc := 30) fX7_38 (by decide) (xs_10 hL) dX7_takeClauses_30 ?_
            refine ww_bipush hX (pc := 33) (x := 59) dX7_takeClauses_33 (by decide) ?_
            refine ww_icmp_eq hX (pc := 35) (tgt := 43) dX7_takeClauses_35 (by decide) (fun h_35 => ?_) (fun h_35 => ?_)
            · simp only [w32_mod] at h_35
              refine ww_aload_n hX (pc := 43) dX7_takeClauses_43 rfl ?_
              refine vV0 hX (pc := 44) sX7_71 (xs_10 hL) (c_X7_advance l0 hL (XI_kp hI kI_9 (by decide)) lI_9) (by decide) (Nat.le_refl 0) (Nat.le_refl 0) (Nat.le_of_ble_eq_true rfl) dX7_takeClauses_44 (fun I_44 J_44 h_44 => ?_)
              have kI_44 : Kp 10 15 Ia I_44 := Kp_tr kI_9 (Kp_wd h_44.1 (by decide) (by decide))
              have kJ_44 : Kp 10 15 Ja J_44 := Kp_tr kJ_9 (Kp_wd h_44.2.1 (by decide) (by decide))
              have r1_5_I_44 : I_44 1 5 = Ia 1 5 := Kp_at kI_44 1 5 (by decide)
              have r8_1_I_44 : I_44 8 1 = Ia 8 1 := Kp_at kI_44 8 1 (by decide)
              have rf_I_44 : FU (I_44 1 5) = FU (Ia 1 5) := by rw [r1_5_I_44]
              have lI_44 : LR I_44 := h_44.2.2.1
              have qI_44 := lI_44.1
              unfold LRf at qI_44
              have cI_44 := h_44.2.2.2
              refine ww_iinc hX (pc := 47) (lv' := [some (kR (some 10)), some (kI (i + 1))]) dX7_takeClauses_47 rfl (by decide) rfl rfl ?_
              refine ww_goto hX (pc := 50) (tgt := 2) dX7_takeClauses_50 (by decide) ?_
              exact ih_2 _ (by have hm9 := Sh0_e hq_2; omega) (i + 1) I_44 J_44 rfl ⟨kI_44, kJ_44, lI_44, trivial, ⟨by omega, by omega⟩⟩
            · simp only [w32_mod] at h_35
              refine ww_aload_n hX (pc := 38) dX7_takeClauses_38 rfl ?_
              refine vI0 hX (pc := 39) sX7_68 (xs_10 hL) (c_X7_fail l0 hL (XI_kp hI kI_9 (by decide)) lI_9) (by decide) (Nat.le_refl 0) (Nat.le_refl 0) (Nat.le_of_ble_eq_true rfl) dX7_takeClauses_39 (fun x_39 I_39 J_39 h_39 => ?_)
              have kI_39 : Kp 10 15 Ia I_39 := Kp_tr kI_9 (Kp_wd h_39.1 (by decide) (by decide))
              have kJ_39 : Kp 10 15 Ja J_39 := Kp_tr kJ_9 (Kp_wd h_39.2.1 (by decide) (by decide))
              have r1_5_I_39 : I_39 1 5 = Ia 1 5 := Kp_at kI_39 1 5 (by decide)
              have r8_1_I_39 : I_39 8 1 = Ia 8 1 := Kp_at kI_39 8 1 (by decide)
              have rf_I_39 : FU (I_39 1 5) = FU (Ia 1 5) := by rw [r1_5_I_39]
              have lI_39 : LR I_39 := h_39.2.2.1
              have qI_39 := lI_39.1
              unfold LRf at qI_39
              have cI_39 := h_39.2.2.2
              refine rZ hX (pc := 42) hT (Nat.le_refl 0) (Nat.le_refl 0) dX7_takeClauses_42 (by omega) ?_
              exact ⟨kI_39, kJ_39, lI_39, trivial, by omega⟩
          · simp only [w32_mod] at h_24
            refine ww_iconst hX (pc := 27) (x := 1) dX7_takeClauses_27 rfl ?_
            refine rZ hX (pc := 28) hT (Nat.le_refl 0) (Nat.le_refl 0) dX7_takeClauses_28 (by decide) ?_
            exact ⟨kI_9, kJ_9, lI_9, trivial, by omega⟩
        · simp only [w32_mod] at h_12
          refine ww_iconst hX (pc := 15) (x := 0) dX7_takeClauses_15 rfl ?_
          refine rZ hX (pc := 16) hT (Nat.le_refl 0) (Nat.le_refl 0) dX7_takeClauses_16 (by decide) ?_
          exact ⟨kI_9, kJ_9, lI_9, trivial, by omega⟩
  exact hl_2 _ 0 Ia Ja rfl ⟨(Kp_rf (a := 10) (b := 15)), (Kp_rf (a := 10) (b := 15)), hR, trivial, ⟨by omega, by omega⟩⟩
set_option maxHeartbeats 4000000 in
set_option maxRecDepth 20000 in
theorem c_X7_findTokens (l0 : Launch) {Ia Ja : aI1} {Ra : aR1} {Sa : aS1} (hL : LY Ra Sa) (hI : XI Ia) (hR : LR Ia)  : CT l0 8 0 0 mX7_findTokens [kR (some 10)] Ia Ja Ra Sa (cV (fun I' J' => Kp 10 15 Ia I' ∧ Kp 10 15 Ja J' ∧ LR I' ∧ True) Ra Sa) := by
  refine ct_in pn_X7 (Nat.le_of_ble_eq_true rfl) (fun X hX hT hIn => ?_)
  have hX : aK l0 X cX7_findTokens 3 RX7 none 8 0 0 := hX
  change WW X 0 [some (kR (some 10)), none, none] [] Ia Ja Ra Sa 0 0
  obtain ⟨hn1, hn2⟩ := hI.1
  obtain ⟨hk1, hk2⟩ := hI.2.1
  obtain ⟨hf1, hf2⟩ := hI.fu
  obtain ⟨hl1, hl2⟩ := hI.2.2.2.2.2.2.1
  have hq := hR.1
  unfold LRf at hq
  refine ww_aload_n hX (pc := 0) dX7_findTokens_0 rfl ?_
  refine ww_iconst hX (pc := 1) (x := 0) dX7_findTokens_1 rfl ?_
  refine ww_putI hX (pc := 2) (fun h9 => absurd h9 (by decide)) gX7_116 rfl (xs_10 hL) dX7_findTokens_2 ?_
  refine ww_nmH (fun I_2 eI_2 => ?_)
  have kI_2 : Kp 10 15 Ia I_2 := by rw [eI_2]; exact Kp_up (Kp_rf (a := 10) (b := 15)) _ _ (by decide)
  have r1_5_I_2 : I_2 1 5 = Ia 1 5 := Kp_at kI_2 1 5 (by decide)
  have r8_1_I_2 : I_2 8 1 = Ia 8 1 := Kp_at kI_2 8 1 (by decide)
  have rf_I_2 : FU (I_2 1 5) = FU (Ia 1 5) := by rw [r1_5_I_2]
  have lI_2 : LR I_2 := by rw [eI_2]; exact LR_6 hR (by omega) (by omega)
  have wI_2 := (congrFun (congrFun eI_2 10) 6).trans (up2_s _ _ _ _)
  have wI_2_7 : I_2 10 7 = Ia 10 7 := by rw [eI_2, up2_n _ _ (Or.inr (by decide))]
  have wI_2_8 : I_2 10 8 = Ia 10 8 := by rw [eI_2, up2_n _ _ (Or.inr (by decide))]
  have wI_2_9 : I_2 10 9 = Ia 10 9 := by rw [eI_2, up2_n _ _ (Or.inr (by decide))]
  have wI_2_10 : I_2 10 10 = Ia 10 10 := by rw [eI_2, up2_n _ _ (Or.inr (by decide))]
  have wI_2_11 : I_2 10 11 = Ia 10 11 := by rw [eI_2, up2_n _ _ (Or.inr (by decide))]
  refine ww_aload_n hX (pc := 5) dX7_findTokens_5 rfl ?_
  refine ww_iconst hX (pc := 6) (x := 0) dX7_findTokens_6 rfl ?_
  refine vI1 hX (pc := 7) sX7_125 (xs_10 hL) (c_X7_skipBlanks l0 hL (XI_kp hI kI_2 (by decide)) (by omega) (by omega)) (by decide) (Nat.le_refl 0) (Nat.le_refl 0) (Nat.le_of_ble_eq_true rfl) dX7_findTokens_7 (fun x_7 I_7 J_7 h_7 => ?_)
  obtain ⟨rfl, rfl, h_7⟩ := h_7
  refine ww_istore_n hX (pc := 10) (lv' := [some (kR (some 10)), some (kI x_7), none]) dX7_findTokens_10 (by decide) rfl rfl ?_
  have hl_11 : ∀ (n_11 : Nat) (q : Int) (I2 : aI1) (J2 : aI1), (Ia 8 1 - q).toNat = n_11 → (Kp 10 15 Ia I2 ∧ Kp 10 15 Ja J2 ∧ LR I2 ∧ True ∧ (0 ≤ q ∧ q ≤ Ia 8 1)) → WW X 11 [some (kR (some 10)), some (kI q), none] [] I2 J2 Ra Sa 0 0 := by
    intro n_11
    induction n_11 using Nat.strongRecOn with
    | ind n_11 ih_11 =>
      intro q I2 J2 hm_11 hv_11
      have hq_11 := Sh0_i hm_11
      clear hm_11
      obtain ⟨kI2, kJ2, lI2, cI2, hq9⟩ := hv_11
      have r1_5_I2 : I2 1 5 = Ia 1 5 := Kp_at kI2 1 5 (by decide)
      have r8_1_I2 : I2 8 1 = Ia 8 1 := Kp_at kI2 8 1 (by decide)
      have rf_I2 : FU (I2 1 5) = FU (Ia 1 5) := by rw [r1_5_I2]
      have qI2 := lI2.1
      unfold LRf at qI2
      refine ww_iload_n hX (pc := 11) dX7_findTokens_11 rfl ?_
      refine ww_aload_n hX (pc := 12) dX7_findTokens_12 rfl ?_
      refine ww_getR hX (pc := 13) fX7_28 (by decide) (xs_10 hL) (xr_10_1 hL) dX7_findTokens_13 ?_
      refine ww_getI hX (pc := 16) fX7_128 (by decide) (xs_8 hL) dX7_findTokens_16 ?_
      refine ww_icmp_ge hX (pc := 19) (tgt := 82) dX7_findTokens_19 (by decide) (fun h_19 => ?_) (fun h_19 => ?_)
      · simp only [w32_mod] at h_19
        refine ww_aload_n hX (pc := 82) dX7_findTokens_82 rfl ?_
        refine ww_getR hX (pc := 83) fX7_19 (by decide) (xs_10 hL) (xr_10_3 hL) dX7_findTokens_83 ?_
        refine ww_aload_n hX (pc := 86) dX7_findTokens_86 rfl ?_
        refine ww_getI hX (pc := 87) fX7_116 (by decide) (xs_10 hL) dX7_findTokens_87 ?_
        refine ww_aload_n hX (pc := 90) dX7_findTokens_90 rfl ?_
        refine ww_getR hX (pc := 91) fX7_28 (by decide) (xs_10 hL) (xr_10_1 hL) dX7_findTokens_91 ?_
        refine ww_getI hX (pc := 94) fX7_128 (by decide) (xs_8 hL) dX7_findTokens_94 ?_
        refine ww_iast hX (pc := 97) (xs_12 hL) (by decide) (by omega) (by omega) dX7_findTokens_97 ?_
        refine ww_nmH (fun I_97 eI_97 => ?_)
        have kI_97 : Kp 10 15 Ia I_97 := by rw [eI_97]; exact Kp_up kI2 _ _ (by decide)
        have r1_5_I_97 : I_97 1 5 = Ia 1 5 := Kp_at kI_97 1 5 (by decide)
        have r8_1_I_97 : I_97 8 1 = Ia 8 1 := Kp_at kI_97 8 1 (by decide)
        have rf_I_97 : FU (I_97 1 5) = FU (Ia 1 5) := by rw [r1_5_I_97]
        have lI_97 : LR I_97 := by rw [eI_97]; exact LR_c12 lI2 _
        have wI_97 : I_97 10 = I2 10 := by rw [eI_97, up2_off _ _ _ (by decide)]
        have wI_97_6 : I_97 10 6 = I2 10 6 := by rw [wI_97]
        have wI_97_7 : I_97 10 7 = I2 10 7 := by rw [wI_97]
        have wI_97_8 : I_97 10 8 = I2 10 8 := by rw [wI_97]
        have wI_97_9 : I_97 10 9 = I2 10 9 := by rw [wI_97]
        have wI_97_10 : I_97 10 10 = I2 10 10 := by rw [wI_97]
        have wI_97_11 : I_97 10 11 = I2 10 11 := by rw [wI_97]
        refine ww_aload_n hX (pc := 98) dX7_findTokens_98 rfl ?_
        refine ww_getR hX (pc := 99) fX7_15 (by decide) (xs_10 hL) (xr_10_2 hL) dX7_findTokens_99 ?_
        refine ww_aload_n hX (pc := 102) dX7_findTokens_102 rfl ?_
        refine ww_getI hX (pc := 103) fX7_116 (by decide) (xs_10 hL) dX7_findTokens_103 ?_
        refine ww_sipush hX (pc := 106) (x := 256) dX7_findTokens_106 (by decide) ?_
        refine ww_iast hX (pc := 109) (xs_11 hL) (by decide) (by omega) (by omega) dX7_findTokens_109 ?_
        refine ww_nmH (fun I_109 eI_109 => ?_)
        have kI_109 : Kp 10 15 Ia I_109 := by rw [eI_109]; exact Kp_up kI_97 _ _ (by decide)
        have r1_5_I_109 : I_109 1 5 = Ia 1 5 := Kp_at kI_109 1 5 (by decide)
        have r8_1_I_109 : I_109 8 1 = Ia 8 1 := Kp_at kI_109 8 1 (by decide)
        have rf_I_109 : FU (I_109 1 5) = FU (Ia 1 5) := by rw [r1_5_I_109]
        have lI_109 : LR I_109 := by rw [eI_109]; exact LR_c11 lI_97 _ (by omega) (by omega)
        have wI_109 : I_109 10 = I_97 10 := by rw [eI_109, up2_off _ _ _ (by decide)]
        have wI_109_6 : I_109 10 6 = I_97 10 6 := by rw [wI_109]
        have wI_109_7 : I_109 10 7 = I_97 10 7 := by rw [wI_109]
        have wI_109_8 : I_109 10 8 = I_97 10 8 := by rw [wI_109]
        have wI_109_9 : I_109 10 9 = I_97 10 9 := by rw [wI_109]
        have wI_109_10 : I_109 10 10 = I_97 10 10 := by rw [wI_109]
        have wI_109_11 : I_109 10 11 = I_97 10 11 := by rw [wI_109]
        refine rV hX (pc := 110) hT (Nat.le_refl 0) (Nat.le_refl 0) dX7_findTokens_110 ?_
        exact ⟨kI_109, kJ2, lI_109, trivial⟩
      · simp only [w32_mod] at h_19
        refine ww_aload_n hX (pc := 22) dX7_findTokens_22 rfl ?_
        refine ww_getI hX (pc := 23) fX7_116 (by decide) (xs_10 hL) dX7_findTokens_23 ?_
        refine ww_sipush hX (pc := 26) (x := 400) dX7_findTokens_26 (by decide) ?_
        refine ww_icmp_ge hX (pc := 29) (tgt := 82) dX7_findTokens_29 (by decide) (fun h_29 => ?_) (fun h_29 => ?_)
        · simp only [w32_mod] at h_29
          refine ww_aload_n hX (pc := 82) dX7_findTokens_82 rfl ?_
          refine ww_getR hX (pc := 83) fX7_19 (by decide) (xs_10 hL) (xr_10_3 hL) dX7_findTokens_83 ?_
          refine ww_aload_n hX (pc := 86) dX7_findTokens_86 rfl ?_
          refine ww_getI hX (pc := 87) fX7_116 (by decide) (xs_10 hL) dX7_findTokens_87 ?_
          refine ww_aload_n hX (pc := 90) dX7_findTokens_90 rfl ?_
          refine ww_getR hX (pc := 91) fX7_28 (by decide) (xs_10 hL) (xr_10_1 hL) dX7_findTokens_91 ?_
          refine ww_getI hX (pc := 94) fX7_128 (by decide) (xs_8 hL) dX7_findTokens_94 ?_
          refine ww_iast hX (pc := 97) (xs_12 hL) (by decide) (by omega) (by omega) dX7_findTokens_97 ?_
          refine ww_nmH (fun I_97 eI_97 => ?_)
          have kI_97 : Kp 10 15 Ia I_97 := by rw [eI_97]; exact Kp_up kI2 _ _ (by decide)
          have r1_5_I_97 : I_97 1 5 = Ia 1 5 := Kp_at kI_97 1 5 (by decide)
          have r8_1_I_97 : I_97 8 1 = Ia 8 1 := Kp_at kI_97 8 1 (by decide)
          have rf_I_97 : FU (I_97 1 5) = FU (Ia 1 5) := by rw [r1_5_I_97]
          have lI_97 : LR I_97 := by rw [eI_97]; exact LR_c12 lI2 _
          have wI_97 : I_97 10 = I2 10 := by rw [eI_97, up2_off _ _ _ (by decide)]
          have wI_97_6 : I_97 10 6 = I2 10 6 := by rw [wI_97]
          have wI_97_7 : I_97 10 7 = I2 10 7 := by rw [wI_97]
          have wI_97_8 : I_97 10 8 = I2 10 8 := by rw [wI_97]
          have wI_97_9 : I_97 10 9 = I2 10 9 := by rw [wI_97]
          have wI_97_10 : I_97 10 10 = I2 10 10 := by rw [wI_97]
          have wI_97_11 : I_97 10 11 = I2 10 11 := by rw [wI_97]
          refine ww_aload_n hX (pc := 98) dX7_findTokens_98 rfl ?_
          refine ww_getR hX (pc := 99) fX7_15 (by decide) (xs_10 hL) (xr_10_2 hL) dX7_findTokens_99 ?_
          refine ww_aload_n hX (pc := 102) dX7_findTokens_102 rfl ?_
          refine ww_getI hX (pc := 103) fX7_116 (by decide) (xs_10 hL) dX7_findTokens_103 ?_
          refine ww_sipush hX (pc := 106) (x := 256) dX7_findTokens_106 (by decide) ?_
          refine ww_iast hX (pc := 109) (xs_11 hL) (by decide) (by omega) (by omega) dX7_findTokens_109 ?_
          refine ww_nmH (fun I_109 eI_109 => ?_)
          have kI_109 : Kp 10 15 Ia I_109 := by rw [eI_109]; exact Kp_up kI_97 _ _ (by decide)
          have r1_5_I_109 : I_109 1 5 = Ia 1 5 := Kp_at kI_109 1 5 (by decide)
          have r8_1_I_109 : I_109 8 1 = Ia 8 1 := Kp_at kI_109 8 1 (by decide)
          have rf_I_109 : FU (I_109 1 5) = FU (Ia 1 5) := by rw [r1_5_I_109]
          have lI_109 : LR I_109 := by rw [eI_109]; exact LR_c11 lI_97 _ (by omega) (by omega)
          have wI_109 : I_109 10 = I_97 10 := by rw [eI_109, up2_off _ _ _ (by decide)]
          have wI_109_6 : I_109 10 6 = I_97 10 6 := by rw [wI_109]
          have wI_109_7 : I_109 10 7 = I_97 10 7 := by rw [wI_109]
          have wI_109_8 : I_109 10 8 = I_97 10 8 := by rw [wI_109]
          have wI_109_9 : I_109 10 9 = I_97 10 9 := by rw [wI_109]
          have wI_109_10 : I_109 10 10 = I_97 10 10 := by rw [wI_109]
          have wI_109_11 : I_109 10 11 = I_97 10 11 := by rw [wI_109]
          refine rV hX (pc := 110) hT (Nat.le_refl 0) (Nat.le_refl 0) dX7_findTokens_110 ?_
          exact ⟨kI_109, kJ2, lI_109, trivial⟩
        · simp only [w32_mod] at h_29
          refine ww_aload_n hX (pc := 32) dX7_findTokens_32 rfl ?_
          refine ww_iload_n hX (pc := 33) dX7_findTokens_33 rfl ?_
          refine vI1 hX (pc := 34) sX7_133 (xs_10 hL) (c_X7_stopOf l0 hL (XI_kp hI kI2 (by decide)) (by omega) (by omega)) (by decide) (Nat.le_refl 0) (Nat.le_refl 0) (Nat.le_of_ble_eq_true rfl) dX7_findTokens_34 (fun x_34 I_34 J_34 h_34 => ?_)
          obtain ⟨rfl, rfl, h_34⟩ := h_34
          refine ww_istore_n hX (pc := 37) (lv' := [some (kR (some 10)), some (kI q), some (kI x_34)]) dX7_findTokens_37 (by decide) rfl rfl ?_
          refine ww_aload_n hX (pc := 38) dX7_findTokens_38 rfl ?_
          refine ww_getR hX (pc := 39) fX7_19 (by decide) (xs_10 hL) (xr_10_3 hL) dX7_findTokens_39 ?_
          refine ww_aload_n hX (pc := 42) dX7_findTokens_42 rfl ?_
          refine ww_getI hX (pc := 43) fX7_116 (by decide) (xs_10 hL) dX7_findTokens_43 ?_
          refine ww_iload_n hX (pc := 46) dX7_findTokens_46 rfl ?_
          refine ww_iast hX (pc := 47) (xs_12 hL) (by decide) (by omega) (by omega) dX7_findTokens_47 ?_
          refine ww_nmH (fun I_47 eI_47 => ?_)
          have kI_47 : Kp 10 15 Ia I_47 := by rw [eI_47]; exact Kp_up kI2 _ _ (by decide)
          have r1_5_I_47 : I_47 1 5 = Ia 1 5 := Kp_at kI_47 1 5 (by decide)
          have r8_1_I_47 : I_47 8 1 = Ia 8 1 := Kp_at kI_47 8 1 (by decide)
          have rf_I_47 : FU (I_47 1 5) = FU (Ia 1 5) := by rw [r1_5_I_47]
          have lI_47 : LR I_47 := by rw [eI_47]; exact LR_c12 lI2 _
          have wI_47 : I_47 10 = I2 10 := by rw [eI_47, up2_off _ _ _ (by decide)]
          have wI_47_6 : I_47 10 6 = I2 10 6 := by rw [wI_47]
          have wI_47_7 : I_47 10 7 = I2 10 7 := by rw [wI_47]
          have wI_47_8 : I_47 10 8 = I2 10 8 := by rw [wI_47]
          have wI_47_9 : I_47 10 9 = I2 10 9 := by rw [wI_47]
          have wI_47_10 : I_47 10 10 = I2 10 10 := by rw [wI_47]
          have wI_47_11 : I_47 10 11 = I2 10 11 := by rw [wI_47]
          refine ww_aload_n hX (pc := 48) dX7_findTokens_48 rfl ?_
          refine ww_getR hX (pc := 49) fX7_15 (by decide) (xs_10 hL) (xr_10_2 hL) dX7_findTokens_49 ?_
          refine ww_aload_n hX (pc := 52) dX7_findTokens_52 rfl ?_
          refine ww_getI hX (pc := 53) fX7_116 (by decide) (xs_10 hL) dX7_findTokens_53 ?_
          refine ww_aload_n hX (pc := 56) dX7_findTokens_56 rfl ?_
          refine ww_iload_n hX (pc := 57) dX7_findTokens_57 rfl ?_
          refine ww_iload_n hX (pc := 58) dX7_findTokens_58 rfl ?_
          refine vI2 hX (pc := 59) sX7_136 (xs_10 hL) (c_X7_kindOf l0 hL (XI_kp hI kI_47 (by decide)) (by omega) (by omega) (by omega) (by rw [show I_47 9 = I2 9 by rw [eI_47, up2_off _ _ _ (by decide)]]; exact h_34.2)) (by decide) (Nat.le_refl 0) (Nat.le_refl 0) (Nat.le_of_ble_eq_true rfl) dX7_findTokens_59 (fun x_59 I_59 J_59 h_59 => ?_)
          obtain ⟨rfl, rfl, h_59⟩ := h_59
          refine ww_iast hX (pc := 62) (xs_11 hL) (by decide) (by omega) (by omega) dX7_findTokens_62 ?_
          refine ww_nmH (fun I_62 eI_62 => ?_)
          have kI_62 : Kp 10 15 Ia I_62 := by rw [eI_62]; exact Kp_up kI_47 _ _ (by decide)
          have r1_5_I_62 : I_62 1 5 = Ia 1 5 := Kp_at kI_62 1 5 (by decide)
          have r8_1_I_62 : I_62 8 1 = Ia 8 1 := Kp_at kI_62 8 1 (by decide)
          have rf_I_62 : FU (I_62 1 5) = FU (Ia 1 5) := by rw [r1_5_I_62]
          have lI_62 : LR I_62 := by rw [eI_62]; exact LR_c11 lI_47 _ (by omega) (by omega)
          have wI_62 : I_62 10 = I_47 10 := by rw [eI_62, up2_off _ _ _ (by decide)]
          have wI_62_6 : I_62 10 6 = I_47 10 6 := by rw [wI_62]
          have wI_62_7 : I_62 10 7 = I_47 10 7 := by rw [wI_62]
          have wI_62_8 : I_62 10 8 = I_47 10 8 := by rw [wI_62]
          have wI_62_9 : I_62 10 9 = I_47 10 9 := by rw [wI_62]
          have wI_62_10 : I_62 10 10 = I_47 10 10 := by rw [wI_62]
          have wI_62_11 : I_62 10 11 = I_47 10 11 := by rw [wI_62]
          refine ww_aload_n hX (pc := 63) dX7_findTokens_63 rfl ?_
          refine ww_dupR hX (pc := 64) dX7_findTokens_64 ?_
          refine ww_getI hX (pc := 65) fX7_116 (by decide) (xs_10 hL) dX7_findTokens_65 ?_
          refine ww_iconst hX (pc := 68) (x := 1) dX7_findTokens_68 rfl ?_
          refine ww_iadd hX (pc := 69) dX7_findTokens_69 ?_
          refine ww_putI hX (pc := 70) (fun h9 => absurd h9 (by decide)) gX7_116 rfl (xs_10 hL) dX7_findTokens_70 ?_
          refine ww_nmH (fun I_70 eI_70 => ?_)
          have kI_70 : Kp 10 15 Ia I_70 := by rw [eI_70]; exact Kp_up kI_62 _ _ (by decide)
          have r1_5_I_70 : I_70 1 5 = Ia 1 5 := Kp_at kI_70 1 5 (by decide)
          have r8_1_I_70 : I_70 8 1 = Ia 8 1 := Kp_at kI_70 8 1 (by decide)
          have rf_I_70 : FU (I_70 1 5) = FU (Ia 1 5) := by rw [r1_5_I_70]
          have lI_70 : LR I_70 := by rw [eI_70]; exact LR_6 lI_62 (by omega) (by omega)
          have wI_70 := (congrFun (congrFun eI_70 10) 6).trans (up2_s _ _ _ _)
          have wI_70_7 : I_70 10 7 = I_62 10 7 := by rw [eI_70, up2_n _ _ (Or.inr (by decide))]
          have wI_70_8 : I_70 10 8 = I_62 10 8 := by rw [eI_70, up2_n _ _ (Or.inr (by decide))]
          have wI_70_9 : I_70 10 9 = I_62 10 9 := by rw [eI_70, up2_n _ _ (Or.inr (by decide))]
          have wI_70_10 : I_70 10 10 = I_62 10 10 := by rw [eI_70, up2_n _ _ (Or.inr (by decide))]
          have wI_70_11 : I_70 10 11 = I_62 10 11 := by rw [eI_70, up2_n _ _ (Or.inr (by decide))]
          refine ww_aload_n hX (pc := 73) dX7_findTokens_73 rfl ?_
          refine ww_iload_n hX (pc := 74) dX7_findTokens_74 rfl ?_
          refine vI1 hX (pc := 75) sX7_125 (xs_10 hL) (c_X7_skipBlanks l0 hL (XI_kp hI kI_70 (by decide)) (by omega) (by omega)) (by decide) (Nat.le_refl 0) (Nat.le_refl 0) (Nat.le_of_ble_eq_true rfl) dX7_findTokens_75 (fun x_75 I_75 J_75 h_75 => ?_)
          obtain ⟨rfl, rfl, h_75⟩ := h_75
          refine ww_istore_n hX (pc := 78) (lv' := [some (kR (some 10)), some (kI x_75), some (kI x_34)]) dX7_findTokens_78 (by decide) rfl rfl ?_
          refine ww_goto hX (pc := 79) (tgt := 11) dX7_findTokens_79 (by decide) ?_
          refine ww_sub [some (kR (some 10)), some (kI x_75), none] (aLe_s (aLe_s (aLe_n aLe_0))) ?_
          exact ih_11 _ (by have hm9 := Sh0_e hq_11; omega) x_75 I_70 J2 rfl ⟨kI_70, kJ2, lI_70, trivial, ⟨by omega, by omega⟩⟩
  exact hl_11 _ x_7 I_2 Ja rfl ⟨kI_2, (Kp_rf (a := 10) (b := 15)), lI_2, trivial, ⟨by omega, by omega⟩⟩
