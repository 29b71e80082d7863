set_option maxHeartbeats 4000000 in
set_option maxRecDepth 20000 in
theorem c9_X11_takes0 (l0 : Launch) {Ia Ja : aI1} {Ra : aR1} {Sa : aS1} (hL : LY Ra Sa) (hQ : RX Ia) {r : Int} (hP : PI Ia) {c : Nat → Int} (hc : pvw Ia = c) (hr0 : 1 ≤ r) (hr1 : r ≤ 400)  : CT l0 1 0 0 mX11_takes0 [kR (some 49), kI r] Ia Ja Ra Sa (cI (fun x I' J' => Ch [] [16] Ia I' ∧ Kp 49 49 Ja J' ∧ RX I' ∧ PI I' ∧ (0 ≤ x ∧ x ≤ 1) ∧ I' 49 18 = Ia 49 18 ∧ (Ia 49 16 ≤ I' 49 16 ∧ I' 49 16 ≤ Ia 49 16 + 1) ∧ TK x c r Ia I') Ra Sa) := by
  refine ct_in pn_X11 (Nat.le_of_ble_eq_true rfl) (fun X hX hT hIn => ?_)
  have hX : aK l0 X cX11_takes0 3 RX11 (some .boolean) 1 0 0 := hX
  change WW X 0 [some (kR (some 49)), some (kI r), none] [] Ia Ja Ra Sa 0 0
  have qIa := RX_w hQ
  have oIa := PI_o hP
  have tIa := PI_t hP
  have atIa := pvw_at hP hc
  refine ww_aload_n hX (pc := 0) dX11_takes0_0 rfl ?_
  refine vI0 hX (pc := 1) sX11_158 (xs_49 hL) (c_X11_fine l0 hL hQ  hP) (by decide) (Nat.le_refl 0) (Nat.le_refl 0) (Nat.le_of_ble_eq_true rfl) dX11_takes0_1 (fun x_1 I_1 J_1 h_1 => ?_)
  obtain ⟨rfl, rfl, h_1⟩ := h_1
  refine ww_if_eq hX (pc := 4) (tgt := 24) dX11_takes0_4 (by decide) (fun h_4 => ?_) (fun h_4 => ?_)
  · simp only [w32_mod] at h_4
    have nb := FN_0 h_1.2 (by omega)
    refine ww_iconst hX (pc := 24) (x := 0) dX11_takes0_24 rfl ?_
    refine ww_istore_n hX (pc := 25) (lv' := [some (kR (some 49)), some (kI r), some (kI 0)]) dX11_takes0_25 (by decide) rfl rfl ?_
    refine ww_iload_n hX (pc := 26) dX11_takes0_26 rfl ?_
    refine ww_if_eq hX (pc := 27) (tgt := 40) dX11_takes0_27 (by decide) (fun h_27 => ?_) (fun h_27 => ?_)
    · simp only [w32_mod] at h_27
      refine ww_iload_n hX (pc := 40) dX11_takes0_40 rfl ?_
      refine rZ hX (pc := 41) hT (Nat.le_refl 0) (Nat.le_refl 0) dX11_takes0_41 (by decide) ?_
      exact ⟨Ch_rf, (Kp_rf (a := 49) (b := 49)), hQ, hP, by omega, by omega, by omega, ⟨fun h => absurd h (by decide), fun _ => ⟨by omega, fun g => absurd g nb⟩⟩⟩
    · simp only [w32_mod] at h_27
      exfalso
      omega
  · simp only [w32_mod] at h_4
    have bb := FN_1 h_1.2 (by omega)
    refine ww_aload_n hX (pc := 7) dX11_takes0_7 rfl ?_
    refine ww_getR hX (pc := 8) fX11_43 (by decide) (xs_49 hL) (xr_49_12 hL) dX11_takes0_8 ?_
    refine ww_aload_n hX (pc := 11) dX11_takes0_11 rfl ?_
    refine ww_getI hX (pc := 12) fX11_162 (by decide) (xs_49 hL) dX11_takes0_12 ?_
    refine ww_iald hX (pc := 15) (xs_57 hL) (by decide) (by omega) (by omega) dX11_takes0_15 ?_
    refine ww_iload_n hX (pc := 16) dX11_takes0_16 rfl ?_
    refine ww_icmp_ne hX (pc := 17) (tgt := 24) dX11_takes0_17 (by decide) (fun h_17 => ?_) (fun h_17 => ?_)
    · simp only [w32_mod] at h_17
      refine ww_iconst hX (pc := 24) (x := 0) dX11_takes0_24 rfl ?_
      refine ww_istore_n hX (pc := 25) (lv' := [some (kR (some 49)), some (kI r), some (kI 0)]) dX11_takes0_25 (by decide) rfl rfl ?_
      refine ww_iload_n hX (pc := 26) dX11_takes0_26 rfl ?_
      refine ww_if_eq hX (pc := 27) (tgt := 40) dX11_takes0_27 (by decide) (fun h_27 => ?_) (fun h_27 => ?_)
      · simp only [w32_mod] at h_27
        refine ww_iload_n hX (pc := 40) dX11_takes0_40 rfl ?_
        refine rZ hX (pc := 41) hT (Nat.le_refl 0) (Nat.le_refl 0) dX11_takes0_41 (by decide) ?_
        exact ⟨Ch_rf, (Kp_rf (a := 49) (b := 49)), hQ, hP, by omega, by omega, by omega, ⟨fun h => absurd h (by decide), fun _ => ⟨by omega, fun g => (by omega)⟩⟩⟩
      · simp only [w32_mod] at h_27
        exfalso
        omega
    · simp only [w32_mod] at h_17
      refine ww_iconst hX (pc := 20) (x := 1) dX11_takes0_20 rfl ?_
      refine ww_goto hX (pc := 21) (tgt := 25) dX11_takes0_21 (by decide) ?_
      refine ww_istore_n hX (pc := 25) (lv' := [some (kR (some 49)), some (kI r), some (kI 1)]) dX11_takes0_25 (by decide) rfl rfl ?_
      refine ww_iload_n hX (pc := 26) dX11_takes0_26 rfl ?_
      refine ww_if_eq hX (pc := 27) (tgt := 40) dX11_takes0_27 (by decide) (fun h_27 => ?_) (fun h_27 => ?_)
      · simp only [w32_mod] at h_27
        exfalso
        omega
      · simp only [w32_mod] at h_27
        refine ww_aload_n hX (pc := 30) dX11_takes0_30 rfl ?_
        refine ww_dupR hX (pc := 31) dX11_takes0_31 ?_
        refine ww_getI hX (pc := 32) fX11_162 (by decide) (xs_49 hL) dX11_takes0_32 ?_
        refine ww_iconst hX (pc := 35) (x := 1) dX11_takes0_35 rfl ?_
        refine ww_iadd hX (pc := 36) dX11_takes0_36 ?_
        refine ww_putI hX (pc := 37) (fun h9 => absurd h9 (by decide)) gX11_162 rfl (xs_49 hL) dX11_takes0_37 ?_
        have lt37 := PI_lt hP (by omega)
        refine ww_nmH (fun I_37 eI_37 => ?_)
        have kI_37 : Ch [] [16] Ia I_37 := by rw [eI_37]; exact Ch_f Ch_rf (by decide)
        have cI_37 : RX I_37 := by rw [eI_37]; exact RX_f hQ (by decide)
        have qI_37 := RX_w cI_37
        have f15_I_37 : I_37 49 15 = Ia 49 15 := by rw [eI_37, up2_n _ _ (Or.inr (by decide))]
        have f17_I_37 : I_37 49 17 = Ia 49 17 := by rw [eI_37, up2_n _ _ (Or.inr (by decide))]
        have f18_I_37 : I_37 49 18 = Ia 49 18 := by rw [eI_37, up2_n _ _ (Or.inr (by decide))]
        have w16 : I_37 49 16 = Ia 49 16 + 1 := by rw [eI_37, up2_s]
        have pI_37 : PI I_37 := by rw [eI_37]; exact PI_f hP (by decide) (fun _ => ⟨by omega, by omega⟩) (fun h => absurd h (by decide))
        have oI_37 := PI_o pI_37
        refine ww_iload_n hX (pc := 40) dX11_takes0_40 rfl ?_
        refine rZ hX (pc := 41) hT (Nat.le_refl 0) (Nat.le_refl 0) dX11_takes0_41 (by decide) ?_
        exact ⟨kI_37, (Kp_rf (a := 49) (b := 49)), cI_37, pI_37, by omega, by omega, by omega, ⟨fun _ => ⟨bb, by omega, w16⟩, fun h => absurd h (by decide)⟩⟩
