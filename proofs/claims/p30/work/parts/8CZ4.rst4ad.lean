set_option maxHeartbeats 4000000 in
set_option maxRecDepth 20000 in
theorem c9_X11_leaf (l0 : Launch) {Ia Ja : aI1} {Ra : aR1} {Sa : aS1} (hL : LY Ra Sa) (hQ : RX Ia) (hP : PI Ia) {vl pl : Nat → Int} {T : Nat} (hk : zRL Ia vl pl T) (hz : 1 ≤ Ia 57 (Ia 49 16).toNat) (hb : Ia 49 18 = -1)  : CT l0 2 0 0 mX11_leaf [kR (some 49)] Ia Ja Ra Sa (cV (fun I' J' => Ch [] [16, 17, 18] Ia I' ∧ Kp 49 49 Ja J' ∧ RX I' ∧ PI I' ∧ Ia 49 16 ≤ I' 49 16 ∧ zLf6 pl T Ia I') Ra Sa) := by
  refine ct_in pn_X11 (Nat.le_of_ble_eq_true rfl) (fun X hX hT hIn => ?_)
  have hX : aK l0 X cX11_leaf 1 RX11 none 2 0 0 := hX
  change WW X 0 [some (kR (some 49))] [] Ia Ja Ra Sa 0 0
  have qIa := RX_w hQ
  have oIa := PI_o hP
  have tIa := PI_t hP
  refine ww_aload_n hX (pc := 0) dX11_leaf_0 rfl ?_
  refine ww_getI hX (pc := 1) fX11_171 (by decide) (xs_49 hL) dX11_leaf_1 ?_
  refine ww_bipush hX (pc := 4) (x := 50) dX11_leaf_4 (by decide) ?_
  refine ww_icmp_ne hX (pc := 6) (tgt := 13) dX11_leaf_6 (by decide) (fun h_6 => ?_) (fun h_6 => ?_)
  · simp only [w32_mod] at h_6
    refine ww_aload_n hX (pc := 13) dX11_leaf_13 rfl ?_
    refine ww_dupR hX (pc := 14) dX11_leaf_14 ?_
    refine ww_getI hX (pc := 15) fX11_171 (by decide) (xs_49 hL) dX11_leaf_15 ?_
    refine ww_iconst hX (pc := 18) (x := 1) dX11_leaf_18 rfl ?_
    refine ww_iadd hX (pc := 19) dX11_leaf_19 ?_
    refine ww_putI hX (pc := 20) (fun h9 => absurd h9 (by decide)) gX11_171 rfl (xs_49 hL) dX11_leaf_20 ?_
    refine ww_nmH (fun I_20 eI_20 => ?_)
    have kI_20 : Ch [] [16, 17, 18] Ia I_20 := by rw [eI_20]; exact Ch_f Ch_rf (by decide)
    have cI_20 : RX I_20 := by rw [eI_20]; exact RX_f hQ (by decide)
    have qI_20 := RX_w cI_20
    have f15_I_20 : I_20 49 15 = Ia 49 15 := by rw [eI_20, up2_n _ _ (Or.inr (by decide))]
    have f16_I_20 : I_20 49 16 = Ia 49 16 := by rw [eI_20, up2_n _ _ (Or.inr (by decide))]
    have f18_I_20 : I_20 49 18 = Ia 49 18 := by rw [eI_20, up2_n _ _ (Or.inr (by decide))]
    have w17 : I_20 49 17 = Ia 49 17 + 1 := by rw [eI_20, up2_s]
    have h57 : I_20 57 = Ia 57 := by rw [eI_20, up2_off _ _ _ (by decide)]
    have hpv : Ia 57 = Ia 57 := rfl
    have hz2 : 1 ≤ I_20 57 (I_20 49 16).toNat := by rw [h57, hpv, show I_20 49 16 = Ia 49 16 by omega]; exact hz
    have pI_20 : PI I_20 := by rw [eI_20]; exact PI_f hP (by decide) (fun h => absurd h (by decide)) (fun h => absurd h (by decide))
    have oI_20 := PI_o pI_20
    refine ww_aload_n hX (pc := 23) dX11_leaf_23 rfl ?_
    refine vI0 hX (pc := 24) sX11_158 (xs_49 hL) (c_X11_fine l0 hL cI_20  pI_20) (by decide) (Nat.le_refl 0) (Nat.le_refl 0) (Nat.le_of_ble_eq_true rfl) dX11_leaf_24 (fun x_24 I_24 J_24 h_24 => ?_)
    obtain ⟨rfl, rfl, h_24⟩ := h_24
    refine ww_if_eq hX (pc := 27) (tgt := 40) dX11_leaf_27 (by decide) (fun h_27 => ?_) (fun h_27 => ?_)
    · simp only [w32_mod] at h_27
      exfalso
      exact FN_0 h_24.2 (by omega) (by omega)
    · simp only [w32_mod] at h_27
      have bb := FN_1 h_24.2 (by omega)
      refine ww_aload_n hX (pc := 30) dX11_leaf_30 rfl ?_
      refine ww_dupR hX (pc := 31) dX11_leaf_31 ?_
      refine ww_getI hX (pc := 32) fX11_162 (by decide) (xs_49 hL) dX11_leaf_32 ?_
      refine ww_iconst hX (pc := 35) (x := 1) dX11_leaf_35 rfl ?_
      refine ww_iadd hX (pc := 36) dX11_leaf_36 ?_
      refine ww_putI hX (pc := 37) (fun h9 => absurd h9 (by decide)) gX11_162 rfl (xs_49 hL) dX11_leaf_37 ?_
      have lt37 := PI_lt pI_20 (by omega)
      refine ww_nmH (fun I_37 eI_37 => ?_)
      have kI_37 : Ch [] [16, 17, 18] Ia I_37 := by rw [eI_37]; exact Ch_f kI_20 (by decide)
      have cI_37 : RX I_37 := by rw [eI_37]; exact RX_f cI_20 (by decide)
      have qI_37 := RX_w cI_37
      have f15_I_37 : I_37 49 15 = I_20 49 15 := by rw [eI_37, up2_n _ _ (Or.inr (by decide))]
      have f17_I_37 : I_37 49 17 = I_20 49 17 := by rw [eI_37, up2_n _ _ (Or.inr (by decide))]
      have f18_I_37 : I_37 49 18 = I_20 49 18 := by rw [eI_37, up2_n _ _ (Or.inr (by decide))]
      have w16 : I_37 49 16 = I_20 49 16 + 1 := by rw [eI_37, up2_s]
      have pI_37 : PI I_37 := by rw [eI_37]; exact PI_f pI_20 (by decide) (fun _ => ⟨by omega, by omega⟩) (fun h => absurd h (by decide))
      have oI_37 := PI_o pI_37
      refine rV hX (pc := 40) hT (Nat.le_refl 0) (Nat.le_refl 0) dX11_leaf_40 ?_
      exact ⟨kI_37, (Kp_rf (a := 49) (b := 49)), cI_37, pI_37, by omega, zLf6_1 (fun l9 g1 g2 g3 => by omega) (by omega) (by omega) (by omega) hk.1 (PI_lt hP hz)⟩
  · simp only [w32_mod] at h_6
    refine ww_aload_n hX (pc := 9) dX11_leaf_9 rfl ?_
    refine vV0 hX (pc := 10) sX11_168 (xs_49 hL) (c9_X11_faults l0 hL hQ  hP hk) (by decide) (Nat.le_refl 0) (Nat.le_refl 0) (Nat.le_of_ble_eq_true rfl) dX11_leaf_10 (fun I_10 J_10 h_10 => ?_)
    have kJ_10 : Kp 49 49 Ja J_10 := Kp_tr (Kp_rf (a := 49) (b := 49)) h_10.2.1
    have kI_10 : Ch [] [16, 17, 18] Ia I_10 := Ch_tr Ch_rf (Ch_wd h_10.1 (by decide) (by decide))
    have cI_10 : RX I_10 := h_10.2.2.1
    have qI_10 := RX_w cI_10
    have f15_I_10 : I_10 49 15 = Ia 49 15 := h_10.1.2 15 (by decide)
    have f16_I_10 : I_10 49 16 = Ia 49 16 := h_10.1.2 16 (by decide)
    have f17_I_10 : I_10 49 17 = Ia 49 17 := h_10.1.2 17 (by decide)
    have pI_10 : PI I_10 := h_10.2.2.2.1
    have oI_10 := PI_o pI_10
    have yI_10 := h_10.2.2.2.2
    refine ww_aload_n hX (pc := 13) dX11_leaf_13 rfl ?_
    refine ww_dupR hX (pc := 14) dX11_leaf_14 ?_
    refine ww_getI hX (pc := 15) fX11_171 (by decide) (xs_49 hL) dX11_leaf_15 ?_
    refine ww_iconst hX (pc := 18) (x := 1) dX11_leaf_18 rfl ?_
    refine ww_iadd hX (pc := 19) dX11_leaf_19 ?_
    refine ww_putI hX (pc := 20) (fun h9 => absurd h9 (by decide)) gX11_171 rfl (xs_49 hL) dX11_leaf_20 ?_
    refine ww_nmH (fun I_20 eI_20 => ?_)
    have kI_20 : Ch [] [16, 17, 18] Ia I_20 := by rw [eI_20]; exact Ch_f kI_10 (by decide)
    have cI_20 : RX I_20 := by rw [eI_20]; exact RX_f cI_10 (by decide)
    have qI_20 := RX_w cI_20
    have f15_I_20 : I_20 49 15 = I_10 49 15 := by rw [eI_20, up2_n _ _ (Or.inr (by decide))]
    have f16_I_20 : I_20 49 16 = I_10 49 16 := by rw [eI_20, up2_n _ _ (Or.inr (by decide))]
    have f18_I_20 : I_20 49 18 = I_10 49 18 := by rw [eI_20, up2_n _ _ (Or.inr (by decide))]
    have w17 : I_20 49 17 = I_10 49 17 + 1 := by rw [eI_20, up2_s]
    have h57 : I_20 57 = I_10 57 := by rw [eI_20, up2_off _ _ _ (by decide)]
    have hpv : I_10 57 = Ia 57 := h_10.1.1 57 (by decide) (by decide)
    have hz2 : 1 ≤ I_20 57 (I_20 49 16).toNat := by rw [h57, hpv, show I_20 49 16 = Ia 49 16 by omega]; exact hz
    have pI_20 : PI I_20 := by rw [eI_20]; exact PI_f pI_10 (by decide) (fun h => absurd h (by decide)) (fun h => absurd h (by decide))
    have oI_20 := PI_o pI_20
    refine ww_aload_n hX (pc := 23) dX11_leaf_23 rfl ?_
    refine vI0 hX (pc := 24) sX11_158 (xs_49 hL) (c_X11_fine l0 hL cI_20  pI_20) (by decide) (Nat.le_refl 0) (Nat.le_refl 0) (Nat.le_of_ble_eq_true rfl) dX11_leaf_24 (fun x_24 I_24 J_24 h_24 => ?_)
    obtain ⟨rfl, rfl, h_24⟩ := h_24
    refine ww_if_eq hX (pc := 27) (tgt := 40) dX11_leaf_27 (by decide) (fun h_27 => ?_) (fun h_27 => ?_)
    · simp only [w32_mod] at h_27
      refine rV hX (pc := 40) hT (Nat.le_refl 0) (Nat.le_refl 0) dX11_leaf_40 ?_
      exact ⟨kI_20, kJ_10, cI_20, pI_20, by omega, zLf6_0 (fun l9 g1 g2 => by omega) yI_10.2.2 (by omega) (zRL_pp hk)⟩
    · simp only [w32_mod] at h_27
      have bb := FN_1 h_24.2 (by omega)
      exfalso
      have h8 := yI_10.2.2.2 hb
      have h7 := (zRL_p hk hP).2.2.1
      omega
