set_option maxHeartbeats 4000000 in
set_option maxRecDepth 20000 in
theorem c9_X11_faults (l0 : Launch) {Ia Ja : aI1} {Ra : aR1} {Sa : aS1} (hL : LY Ra Sa) (hQ : RX Ia) (hP : PI Ia) {vl pl : Nat → Int} {T : Nat} (hk : zRL Ia vl pl T)  : CT l0 1 0 0 mX11_faults [kR (some 49)] Ia Ja Ra Sa (cV (fun I' J' => Ch [] [18] Ia I' ∧ Kp 49 49 Ja J' ∧ RX I' ∧ PI I' ∧ I' 49 16 = Ia 49 16 ∧ I' 49 17 = Ia 49 17 ∧ zFT pl Ia I') Ra Sa) := by
  refine ct_in pn_X11 (Nat.le_of_ble_eq_true rfl) (fun X hX hT hIn => ?_)
  have hX : aK l0 X cX11_faults 1 RX11 none 1 0 0 := hX
  change WW X 0 [some (kR (some 49))] [] Ia Ja Ra Sa 0 0
  have qIa := RX_w hQ
  have oIa := PI_o hP
  have tIa := PI_t hP
  refine ww_aload_n hX (pc := 0) dX11_faults_0 rfl ?_
  refine vI0 hX (pc := 1) sX11_158 (xs_49 hL) (c_X11_fine l0 hL hQ  hP) (by decide) (Nat.le_refl 0) (Nat.le_refl 0) (Nat.le_of_ble_eq_true rfl) dX11_faults_1 (fun x_1 I_1 J_1 h_1 => ?_)
  obtain ⟨rfl, rfl, h_1⟩ := h_1
  refine ww_if_eq hX (pc := 4) (tgt := 20) dX11_faults_4 (by decide) (fun h_4 => ?_) (fun h_4 => ?_)
  · simp only [w32_mod] at h_4
    have nb := FN_0 h_1.2 (by omega)
    refine rV hX (pc := 20) hT (Nat.le_refl 0) (Nat.le_refl 0) dX11_faults_20 ?_
    exact ⟨Ch_rf, (Kp_rf (a := 49) (b := 49)), hQ, hP, by omega, by omega, zFT_n nb⟩
  · simp only [w32_mod] at h_4
    have bb := FN_1 h_1.2 (by omega)
    refine ww_aload_n hX (pc := 7) dX11_faults_7 rfl ?_
    refine ww_aload_n hX (pc := 8) dX11_faults_8 rfl ?_
    refine ww_getR hX (pc := 9) fX11_49 (by decide) (xs_49 hL) (xr_49_14 hL) dX11_faults_9 ?_
    refine ww_aload_n hX (pc := 12) dX11_faults_12 rfl ?_
    refine ww_getI hX (pc := 13) fX11_162 (by decide) (xs_49 hL) dX11_faults_13 ?_
    refine ww_iald hX (pc := 16) (xs_59 hL) (by decide) (by omega) (by omega) dX11_faults_16 ?_
    refine ww_putI hX (pc := 17) (fun h9 => absurd h9 (by decide)) gX11_155 rfl (xs_49 hL) dX11_faults_17 ?_
    refine ww_nmH (fun I_17 eI_17 => ?_)
    have kI_17 : Ch [] [18] Ia I_17 := by rw [eI_17]; exact Ch_f Ch_rf (by decide)
    have cI_17 : RX I_17 := by rw [eI_17]; exact RX_f hQ (by decide)
    have qI_17 := RX_w cI_17
    have f15_I_17 : I_17 49 15 = Ia 49 15 := by rw [eI_17, up2_n _ _ (Or.inr (by decide))]
    have f16_I_17 : I_17 49 16 = Ia 49 16 := by rw [eI_17, up2_n _ _ (Or.inr (by decide))]
    have f17_I_17 : I_17 49 17 = Ia 49 17 := by rw [eI_17, up2_n _ _ (Or.inr (by decide))]
    have w18 : I_17 49 18 = Ia 59 (Ia 49 16).toNat := by rw [eI_17, up2_s]
    have pI_17 : PI I_17 := by rw [eI_17]; exact PI_f hP (by decide) (fun h => absurd h (by decide)) (fun _ => ⟨by omega, by omega⟩)
    have oI_17 := PI_o pI_17
    refine rV hX (pc := 20) hT (Nat.le_refl 0) (Nat.le_refl 0) dX11_faults_20 ?_
    exact ⟨kI_17, (Kp_rf (a := 49) (b := 49)), cI_17, pI_17, by omega, by omega, zFT_f bb (w18.trans (zRL_p hk hP).2.1)⟩
set_option maxHeartbeats 4000000 in
set_option maxRecDepth 20000 in
theorem c9_X11_must (l0 : Launch) {Ia Ja : aI1} {Ra : aR1} {Sa : aS1} (hL : LY Ra Sa) (hQ : RX Ia) {r : Int} (hP : PI Ia) {c : Nat → Int} (hc : pvw Ia = c) {vl pl : Nat → Int} {T : Nat} (hk : zRL Ia vl pl T) (hr0 : 1 ≤ r) (hr1 : r ≤ 400)  : CT l0 2 0 0 mX11_must [kR (some 49), kI r] Ia Ja Ra Sa (cV (fun I' J' => Ch [] [16, 18] Ia I' ∧ Kp 49 49 Ja J' ∧ RX I' ∧ PI I' ∧ Ia 49 16 ≤ I' 49 16 ∧ zMS c pl r T Ia I') Ra Sa) := by
  refine ct_in pn_X11 (Nat.le_of_ble_eq_true rfl) (fun X hX hT hIn => ?_)
  have hX : aK l0 X cX11_must 2 RX11 none 2 0 0 := hX
  change WW X 0 [some (kR (some 49)), some (kI r)] [] Ia Ja Ra Sa 0 0
  have qIa := RX_w hQ
  have oIa := PI_o hP
  have tIa := PI_t hP
  have atIa := pvw_at hP hc
  refine ww_aload_n hX (pc := 0) dX11_must_0 rfl ?_
  refine ww_iload_n hX (pc := 1) dX11_must_1 rfl ?_
  refine vI1 hX (pc := 2) sX11_165 (xs_49 hL) (c9_X11_takes0 l0 hL hQ  hP hc (by omega) (by omega)) (by decide) (Nat.le_refl 0) (Nat.le_refl 0) (Nat.le_of_ble_eq_true rfl) dX11_must_2 (fun x_2 I_2 J_2 h_2 => ?_)
  have kJ_2 : Kp 49 49 Ja J_2 := Kp_tr (Kp_rf (a := 49) (b := 49)) h_2.2.1
  have kI_2 : Ch [] [16, 18] Ia I_2 := Ch_tr Ch_rf (Ch_wd h_2.1 (by decide) (by decide))
  have cI_2 : RX I_2 := h_2.2.2.1
  have qI_2 := RX_w cI_2
  have f15_I_2 : I_2 49 15 = Ia 49 15 := h_2.1.2 15 (by decide)
  have f17_I_2 : I_2 49 17 = Ia 49 17 := h_2.1.2 17 (by decide)
  have f18_I_2 : I_2 49 18 = Ia 49 18 := h_2.1.2 18 (by decide)
  have pI_2 : PI I_2 := h_2.2.2.2.1
  have oI_2 := PI_o pI_2
  have yI_2 := h_2.2.2.2.2
  refine ww_if_ne hX (pc := 5) (tgt := 12) dX11_must_5 (by decide) (fun h_5 => ?_) (fun h_5 => ?_)
  · simp only [w32_mod] at h_5
    have s2 := TK_1 yI_2.2.2.2 (by omega)
    refine rV hX (pc := 12) hT (Nat.le_refl 0) (Nat.le_refl 0) dX11_must_12 ?_
    exact ⟨kI_2, kJ_2, cI_2, pI_2, by omega, zMS_1 s2 f17_I_2 (by omega) hk.1 (PI_lt hP (by have h8 := s2.2.1; omega))⟩
  · simp only [w32_mod] at h_5
    obtain ⟨z2, n2⟩ := TK_0 yI_2.2.2.2 (by omega)
    refine ww_aload_n hX (pc := 8) dX11_must_8 rfl ?_
    refine vV0 hX (pc := 9) sX11_168 (xs_49 hL) (c9_X11_faults l0 hL cI_2  pI_2 (zRL_tr kI_2 (by decide) (by decide) (by decide) hk)) (by decide) (Nat.le_refl 0) (Nat.le_refl 0) (Nat.le_of_ble_eq_true rfl) dX11_must_9 (fun I_9 J_9 h_9 => ?_)
    have kJ_9 : Kp 49 49 Ja J_9 := Kp_tr kJ_2 h_9.2.1
    have kI_9 : Ch [] [16, 18] Ia I_9 := Ch_tr kI_2 (Ch_wd h_9.1 (by decide) (by decide))
    have cI_9 : RX I_9 := h_9.2.2.1
    have qI_9 := RX_w cI_9
    have f15_I_9 : I_9 49 15 = I_2 49 15 := h_9.1.2 15 (by decide)
    have f16_I_9 : I_9 49 16 = I_2 49 16 := h_9.1.2 16 (by decide)
    have f17_I_9 : I_9 49 17 = I_2 49 17 := h_9.1.2 17 (by decide)
    have pI_9 : PI I_9 := h_9.2.2.2.1
    have oI_9 := PI_o pI_9
    have yI_9 := h_9.2.2.2.2
    refine rV hX (pc := 12) hT (Nat.le_refl 0) (Nat.le_refl 0) dX11_must_12 ?_
    exact ⟨kI_9, kJ_9, cI_9, pI_9, by omega, zMS_0 z2 (by omega) n2 yI_9.2.2 (zRL_pp hk)⟩
