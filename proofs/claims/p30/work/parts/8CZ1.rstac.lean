set_option maxHeartbeats 4000000 in
set_option maxRecDepth 20000 in
theorem c9_X11_oil (l0 : Launch) {Ia Ja : aI1} {Ra : aR1} {Sa : aS1} (hL : LY Ra Sa) (hQ : RX Ia) {a b : Int} (ha0 : -2147483648 ≤ a) (ha1 : a < 2147483648) (hb0 : -2147483648 ≤ b) (hb1 : b < 2147483648)  : CT l0 2 0 0 mX11_oil [kR (some 49), kI a, kI b] Ia Ja Ra Sa (cI (fun x I' J' => (Ch [50, 51] [0, 1] Ia I' ∧ Kp 49 73 Ja J' ∧ RX I' ∧ (¬ (0 ≤ a ∧ a < Ia 51 304 ∧ 0 ≤ b ∧ b ≤ 99) → x = -1 ∧ I' 51 = Ia 51) ∧ ((0 ≤ a ∧ a < Ia 51 304 ∧ 0 ≤ b ∧ b ≤ 99) → x = Ia 51 (256 + a.toNat) ∧ I' 51 = up1 (Ia 51) (256 + a.toNat) b)) ∧ ((0 ≤ a ∧ a < Ia 51 304 ∧ 0 ≤ b ∧ b ≤ 99) → GQ9 Ia I') ∧ (¬ (0 ≤ a ∧ a < Ia 51 304 ∧ 0 ≤ b ∧ b ≤ 99) → RQ9 x Ia I' Ja J')) Ra Sa) := by
  refine ct_in pn_X11 (Nat.le_of_ble_eq_true rfl) (fun X hX hT hIn => ?_)
  have hX : aK l0 X cX11_oil 4 RX11 (some .int) 2 0 0 := hX
  change WW X 0 [some (kR (some 49)), some (kI a), some (kI b), none] [] Ia Ja Ra Sa 0 0
  have qIa := RX_o hQ
  refine ww_aload_n hX (pc := 0) dX11_oil_0 rfl ?_
  refine ww_iload_n hX (pc := 1) dX11_oil_1 rfl ?_
  refine vI1 hX (pc := 2) sX11_116 (xs_49 hL) (c_X11_isLamp l0 hL hQ (by omega) (by omega)) (by decide) (Nat.le_refl 0) (Nat.le_refl 0) (Nat.le_of_ble_eq_true rfl) dX11_oil_2 (fun x_2 I_2 J_2 h_2 => ?_)
  obtain ⟨rfl, rfl, h_2⟩ := h_2
  refine ww_if_eq hX (pc := 5) (tgt := 18) dX11_oil_5 (by decide) (fun h_5 => ?_) (fun h_5 => ?_)
  · simp only [w32_mod] at h_5
    refine ww_aload_n hX (pc := 18) dX11_oil_18 rfl ?_
    refine ww_iconst hX (pc := 19) (x := (-1)) dX11_oil_19 rfl ?_
    refine vI1 hX (pc := 20) sX11_105 (xs_49 hL) (n9_X11_refuses l0 hL hQ (by omega) (by omega)) (by decide) (Nat.le_refl 0) (Nat.le_refl 0) (Nat.le_of_ble_eq_true rfl) dX11_oil_20 (fun x_20 I_20 J_20 h_20 => ?_)
    obtain ⟨h_20, qxI_20⟩ := h_20
    have kJ_20 : Kp 49 73 Ja J_20 := Kp_tr (Kp_rf (a := 49) (b := 73)) h_20.2.1
    have kI_20 : Ch [50, 51] [0, 1] Ia I_20 := Ch_tr Ch_rf (Ch_wd h_20.1 (by decide) (by decide))
    have cI_20 : RX I_20 := h_20.2.2.1
    have qI_20 := RX_o cI_20
    have r304_I_20 : I_20 51 304 = Ia 51 304 := by rw [h_20.1.1 51 (by decide) (by decide)]
    have r305_I_20 : I_20 51 305 = Ia 51 305 := by rw [h_20.1.1 51 (by decide) (by decide)]
    have rf_I_20 : FU (I_20 51 304) = FU (Ia 51 304) := by rw [r304_I_20]
    have xv20 := h_20.2.2.2
    refine rI hX (pc := 23) hT (Nat.le_refl 0) (Nat.le_refl 0) dX11_oil_23 ?_
    exact ⟨⟨kI_20, kJ_20, cI_20, (fun _ => ⟨xv20, h_20.1.1 51 (by decide) (by decide)⟩), (fun h9 => absurd h9 (by omega))⟩, ⟨(fun h9 => absurd h9 (by omega)), (fun _ => RQ9_tr BK9_rf TK9_rf qxI_20)⟩⟩
  · simp only [w32_mod] at h_5
    have k_2 := h_2.2.mp (by omega)
    clear h_2
    refine ww_iload_n hX (pc := 8) dX11_oil_8 rfl ?_
    refine ww_iconst hX (pc := 9) (x := 0) dX11_oil_9 rfl ?_
    refine ww_bipush hX (pc := 10) (x := 99) dX11_oil_10 (by decide) ?_
    refine sI3 hX (pc := 12) sX11_101 (c_X11_lies l0 (by omega) (by omega) (by omega) (by omega) (by omega) (by omega)) (by decide) (Nat.le_refl 0) (Nat.le_refl 0) (Nat.le_of_ble_eq_true rfl) dX11_oil_12 (fun x_12 I_12 J_12 h_12 => ?_)
    obtain ⟨rfl, rfl, h_12⟩ := h_12
    refine ww_if_ne hX (pc := 15) (tgt := 24) dX11_oil_15 (by decide) (fun h_15 => ?_) (fun h_15 => ?_)
    · simp only [w32_mod] at h_15
      have k_12 := h_12.2.mp (by omega)
      clear h_12
      refine ww_aload_n hX (pc := 24) dX11_oil_24 rfl ?_
      refine ww_getR hX (pc := 25) fX11_20 (by decide) (xs_49 hL) (xr_49_3 hL) dX11_oil_25 ?_
      refine ww_sipush hX (pc := 28) (x := 256) dX11_oil_28 (by decide) ?_
      refine ww_iload_n hX (pc := 31) dX11_oil_31 rfl ?_
      refine ww_iadd hX (pc := 32) dX11_oil_32 ?_
      refine ww_iald hX (pc := 33) (xs_51 hL) (by decide) (by omega) (by omega) dX11_oil_33 ?_
      refine ww_nmI (fun v_34 hv_34 => ?_)
      refine ww_istore_n hX (pc := 34) (lv' := [some (kR (some 49)), some (kI a), some (kI b), some (kI v_34)]) dX11_oil_34 (by decide) rfl rfl ?_
      refine ww_aload_n hX (pc := 35) dX11_oil_35 rfl ?_
      refine ww_getR hX (pc := 36) fX11_20 (by decide) (xs_49 hL) (xr_49_3 hL) dX11_oil_36 ?_
      refine ww_sipush hX (pc := 39) (x := 256) dX11_oil_39 (by decide) ?_
      refine ww_iload_n hX (pc := 42) dX11_oil_42 rfl ?_
      refine ww_iadd hX (pc := 43) dX11_oil_43 ?_
      refine ww_iload_n hX (pc := 44) dX11_oil_44 rfl ?_
      refine ww_iast hX (pc := 45) (xs_51 hL) (by decide) (by omega) (by omega) dX11_oil_45 ?_
      refine ww_nmH (fun I_45 eI_45 => ?_)
      have kI_45 : Ch [50, 51] [0, 1] Ia I_45 := by rw [eI_45]; exact Ch_r Ch_rf (by decide) (by decide)
      have cI_45 : RX I_45 := by rw [eI_45]; exact RX_lo hQ (by omega)
      have qI_45 := RX_o cI_45
      have r304_I_45 : I_45 51 304 = Ia 51 304 := by rw [eI_45, up2_n _ _ (Or.inr (by omega))]
      have r305_I_45 : I_45 51 305 = Ia 51 305 := by rw [eI_45, up2_n _ _ (Or.inr (by omega))]
      have rf_I_45 : FU (I_45 51 304) = FU (Ia 51 304) := by rw [r304_I_45]
      have g45 : I_45 51 = up1 (Ia 51) (256 + a.toNat) b := by rw [eI_45, up2_row, show (256 + a).toNat = 256 + a.toNat by omega]
      have bkI_45 : BK9 Ia I_45 := by rw [eI_45]; exact BK9_up BK9_rf (by decide)
      have tkI_45 : TK9 Ia I_45 Ja Ja := by rw [eI_45]; exact TK9_up TK9_rf (by decide)
      refine ww_aload_n hX (pc := 46) dX11_oil_46 rfl ?_
      refine ww_iload_n hX (pc := 47) dX11_oil_47 rfl ?_
      refine vI1 hX (pc := 48) sX11_109 (xs_49 hL) (n9_X11_good l0 hL cI_45) (by decide) (Nat.le_refl 0) (Nat.le_refl 0) (Nat.le_of_ble_eq_true rfl) dX11_oil_48 (fun x_48 I_48 J_48 h_48 => ?_)
      obtain ⟨h_48, qxI_48⟩ := h_48
      have kJ_48 : Kp 49 73 Ja J_48 := Kp_tr (Kp_rf (a := 49) (b := 73)) h_48.2.1
      have kI_48 : Ch [50, 51] [0, 1] Ia I_48 := Ch_tr kI_45 (Ch_wd h_48.1 (by decide) (by decide))
      have cI_48 : RX I_48 := h_48.2.2.1
      have qI_48 := RX_o cI_48
      have r304_I_48 : I_48 51 304 = I_45 51 304 := by rw [h_48.1.1 51 (by decide) (by decide)]
      have r305_I_48 : I_48 51 305 = I_45 51 305 := by rw [h_48.1.1 51 (by decide) (by decide)]
      have rf_I_48 : FU (I_48 51 304) = FU (I_45 51 304) := by rw [r304_I_48]
      have xv48 := h_48.2.2.2
      refine rI hX (pc := 51) hT (Nat.le_refl 0) (Nat.le_refl 0) dX11_oil_51 ?_
      exact ⟨⟨kI_48, kJ_48, cI_48, (fun h9 => absurd (by omega) h9), (fun _ => ⟨by rw [xv48, hv_34]; exact congrArg _ (by omega), by rw [h_48.1.1 51 (by decide) (by decide), g45]⟩)⟩, ⟨(fun _ => GQ9_tr bkI_45 qxI_48), (fun h9 => absurd (by omega) h9)⟩⟩
    · simp only [w32_mod] at h_15
      refine ww_aload_n hX (pc := 18) dX11_oil_18 rfl ?_
      refine ww_iconst hX (pc := 19) (x := (-1)) dX11_oil_19 rfl ?_
      refine vI1 hX (pc := 20) sX11_105 (xs_49 hL) (n9_X11_refuses l0 hL hQ (by omega) (by omega)) (by decide) (Nat.le_refl 0) (Nat.le_refl 0) (Nat.le_of_ble_eq_true rfl) dX11_oil_20 (fun x_20 I_20 J_20 h_20 => ?_)
      obtain ⟨h_20, qxI_20⟩ := h_20
      have kJ_20 : Kp 49 73 Ja J_20 := Kp_tr (Kp_rf (a := 49) (b := 73)) h_20.2.1
      have kI_20 : Ch [50, 51] [0, 1] Ia I_20 := Ch_tr Ch_rf (Ch_wd h_20.1 (by decide) (by decide))
      have cI_20 : RX I_20 := h_20.2.2.1
      have qI_20 := RX_o cI_20
      have r304_I_20 : I_20 51 304 = Ia 51 304 := by rw [h_20.1.1 51 (by decide) (by decide)]
      have r305_I_20 : I_20 51 305 = Ia 51 305 := by rw [h_20.1.1 51 (by decide) (by decide)]
      have rf_I_20 : FU (I_20 51 304) = FU (Ia 51 304) := by rw [r304_I_20]
      have xv20 := h_20.2.2.2
      refine rI hX (pc := 23) hT (Nat.le_refl 0) (Nat.le_refl 0) dX11_oil_23 ?_
      exact ⟨⟨kI_20, kJ_20, cI_20, (fun _ => ⟨xv20, h_20.1.1 51 (by decide) (by decide)⟩), (fun h9 => absurd h9 (by omega))⟩, ⟨(fun h9 => absurd h9 (by omega)), (fun _ => RQ9_tr BK9_rf TK9_rf qxI_20)⟩⟩
set_option maxHeartbeats 4000000 in
set_option maxRecDepth 20000 in
theorem c9_X11_broken (l0 : Launch) {Ia Ja : aI1} {Ra : aR1} {Sa : aS1} (hL : LY Ra Sa) (hQ : RX Ia) {a b : Int} (ha0 : -2147483648 ≤ a) (ha1 : a < 2147483648) (hb0 : -2147483648 ≤ b) (hb1 : b < 2147483648)  : CT l0 2 0 0 mX11_broken [kR (some 49), kI a, kI b] Ia Ja Ra Sa (cI (fun x I' J' => (Ch [50, 51] [0, 1] Ia I' ∧ Kp 49 73 Ja J' ∧ RX I' ∧ (¬ (0 ≤ a ∧ a < Ia 51 304 ∧ 0 ≤ b ∧ b ≤ 1) → x = -1 ∧ I' 51 = Ia 51) ∧ ((0 ≤ a ∧ a < Ia 51 304 ∧ 0 ≤ b ∧ b ≤ 1) → x = i_and (i_shr (Ia 51 306) a) 1 ∧ I' 51 = up1 (Ia 51) 306 (i_or (i_and (Ia 51 306) (i_xor (i_shl 1 a) (-1))) (i_shl b a)))) ∧ ((0 ≤ a ∧ a < Ia 51 304 ∧ 0 ≤ b ∧ b ≤ 1) → GQ9 Ia I') ∧ (¬ (0 ≤ a ∧ a < Ia 51 304 ∧ 0 ≤ b ∧ b ≤ 1) → RQ9 x Ia I' Ja J')) Ra Sa) := by
  refine ct_in pn_X11 (Nat.le_of_ble_eq_true rfl) (fun X hX hT hIn => ?_)
  have hX : aK l0 X cX11_broken 4 RX11 (some .int) 2 0 0 := hX
  change WW X 0 [some (kR (some 49)), some (kI a), some (kI b), none] [] Ia Ja Ra Sa 0 0
  have qIa := RX_o hQ
  refine ww_aload_n hX (pc := 0) dX11_broken_0 rfl ?_
  refine ww_iload_n hX (pc := 1) dX11_broken_1 rfl ?_
  refine vI1 hX (pc := 2) sX11_116 (xs_49 hL) (c_X11_isLamp l0 hL hQ (by omega) (by omega)) (by decide) (Nat.le_refl 0) (Nat.le_refl 0) (Nat.le_of_ble_eq_true rfl) dX11_broken_2 (fun x_2 I_2 J_2 h_2 => ?_)
  obtain ⟨rfl, rfl, h_2⟩ := h_2
  refine ww_if_eq hX (pc := 5) (tgt := 17) dX11_broken_5 (by decide) (fun h_5 => ?_) (fun h_5 => ?_)
  · simp only [w32_mod] at h_5
    refine ww_aload_n hX (pc := 17) dX11_broken_17 rfl ?_
    refine ww_iconst hX (pc := 18) (x := (-1)) dX11_broken_18 rfl ?_
    refine vI1 hX (pc := 19) sX11_105 (xs_49 hL) (n9_X11_refuses l0 hL hQ (by omega) (by omega)) (by decide) (Nat.le_refl 0) (Nat.le_refl 0) (Nat.le_of_ble_eq_true rfl) dX11_broken_19 (fun x_19 I_19 J_19 h_19 => ?_)
    obtain ⟨h_19, qxI_19⟩ := h_19
    have kJ_19 : Kp 49 73 Ja J_19 := Kp_tr (Kp_rf (a := 49) (b := 73)) h_19.2.1
    have kI_19 : Ch [50, 51] [0, 1] Ia I_19 := Ch_tr Ch_rf (Ch_wd h_19.1 (by decide) (by decide))
    have cI_19 : RX I_19 := h_19.2.2.1
    have qI_19 := RX_o cI_19
    have r304_I_19 : I_19 51 304 = Ia 51 304 := by rw [h_19.1.1 51 (by decide) (by decide)]
    have r305_I_19 : I_19 51 305 = Ia 51 305 := by rw [h_19.1.1 51 (by decide) (by decide)]
    have rf_I_19 : FU (I_19 51 304) = FU (Ia 51 304) := by rw [r304_I_19]
    have xv19 := h_19.2.2.2
    refine rI hX (pc := 22) hT (Nat.le_refl 0) (Nat.le_refl 0) dX11_broken_22 ?_
    exact ⟨⟨kI_19, kJ_19, cI_19, (fun _ => ⟨xv19, h_19.1.1 51 (by decide) (by decide)⟩), (fun h9 => absurd h9 (by omega))⟩, ⟨(fun h9 => absurd h9 (by omega)), (fun _ => RQ9_tr BK9_rf TK9_rf qxI_19)⟩⟩
  · simp only [w32_mod] at h_5
    have k_2 := h_2.2.mp (by omega)
    clear h_2
    refine ww_iload_n hX (pc := 8) dX11_broken_8 rfl ?_
    refine ww_iconst hX (pc := 9) (x := 0) dX11_broken_9 rfl ?_
    refine ww_iconst hX (pc := 10) (x := 1) dX11_broken_10 rfl ?_
    refine sI3 hX (pc := 11) sX11_101 (c_X11_lies l0 (by omega) (by omega) (by omega) (by omega) (by omega) (by omega)) (by decide) (Nat.le_refl 0) (Nat.le_refl 0) (Nat.le_of_ble_eq_true rfl) dX11_broken_11 (fun x_11 I_11 J_11 h_11 => ?_)
    obtain ⟨rfl, rfl, h_11⟩ := h_11
    refine ww_if_ne hX (pc := 14) (tgt := 23) dX11_broken_14 (by decide) (fun h_14 => ?_) (fun h_14 => ?_)
    · simp only [w32_mod] at h_14
      have k_11 := h_11.2.mp (by omega)
      clear h_11
      refine ww_aload_n hX (pc := 23) dX11_broken_23 rfl ?_
      refine ww_getR hX (pc := 24) fX11_20 (by decide) (xs_49 hL) (xr_49_3 hL) dX11_broken_24 ?_
      refine ww_sipush hX (pc := 27) (x := 306) dX11_broken_27 (by decide) ?_
      refine ww_iald hX (pc := 30) (xs_51 hL) (by decide) (by omega) (by omega) dX11_broken_30 ?_
      refine ww_toI (b := Ia 51 306) rfl ?_
      refine ww_iload_n hX (pc := 31) dX11_broken_31 rfl ?_
      refine ww_ishr hX (pc := 32) dX11_broken_32 ?_
      refine ww_iconst hX (pc := 33) (x := 1) dX11_broken_33 rfl ?_
      refine ww_iand hX (pc := 34) dX11_broken_34 ?_
      refine ww_nmI (fun v_35 hv_35 => ?_)
      refine ww_istore_n hX (pc := 35) (lv' := [some (kR (some 49)), some (kI a), some (kI b), some (kI v_35)]) dX11_broken_35 (by decide) rfl rfl ?_
      refine ww_aload_n hX (pc := 36) dX11_broken_36 rfl ?_
      refine ww_getR hX (pc := 37) fX11_20 (by decide) (xs_49 hL) (xr_49_3 hL) dX11_broken_37 ?_
      refine ww_sipush hX (pc := 40) (x := 306) dX11_broken_40 (by decide) ?_
      refine ww_aload_n hX (pc := 43) dX11_broken_43 rfl ?_
      refine ww_getR hX (pc := 44) fX11_20 (by decide) (xs_49 hL) (xr_49_3 hL) dX11_broken_44 ?_
      refine ww_sipush hX (pc := 47) (x := 306) dX11_broken_47 (by decide) ?_
      refine ww_iald hX (pc := 50) (xs_51 hL) (by decide) (by omega) (by omega) dX11_broken_50 ?_
      refine ww_toI (b := Ia 51 306) rfl ?_
      refine ww_iconst hX (pc := 51) (x := 1) dX11_broken_51 rfl ?_
      refine ww_iload_n hX (pc := 52) dX11_broken_52 rfl ?_
      refine ww_ishl hX (pc := 53) dX11_broken_53 ?_
      refine ww_iconst hX (pc := 54) (x := (-1)) dX11_broken_54 rfl ?_
      refine ww_ixor hX (pc := 55) dX11_broken_55 ?_
      refine ww_iand hX (pc := 56) dX11_broken_56 ?_
      refine ww_iload_n hX (pc := 57) dX11_broken_57 rfl ?_
      refine ww_iload_n hX (pc := 58) dX11_broken_58 rfl ?_
      refine ww_ishl hX (pc := 59) dX11_broken_59 ?_
      refine ww_ior hX (pc := 60) dX11_broken_60 ?_
      refine ww_iast hX (pc := 61) (xs_51 hL) (by decide) (by omega) (by omega) dX11_broken_61 ?_
      refine ww_nmH (fun I_61 eI_61 => ?_)
      have kI_61 : Ch [50, 51] [0, 1] Ia I_61 := by rw [eI_61]; exact Ch_r Ch_rf (by decide) (by decide)
      have cI_61 : RX I_61 := by rw [eI_61]; exact RX_lo hQ (by decide)
      have qI_61 := RX_o cI_61
      have r304_I_61 : I_61 51 304 = Ia 51 304 := by rw [eI_61, up2_n _ _ (Or.inr (by decide))]
      have r305_I_61 : I_61 51 305 = Ia 51 305 := by rw [eI_61, up2_n _ _ (Or.inr (by decide))]
      have rf_I_61 : FU (I_61 51 304) = FU (Ia 51 304) := by rw [r304_I_61]
      have g61 : I_61 51 = up1 (Ia 51) 306 (i_or (i_and (Ia 51 306) (i_xor (i_shl 1 a) (-1))) (i_shl b a)) := by rw [eI_61, up2_row]; rfl
      have bkI_61 : BK9 Ia I_61 := by rw [eI_61]; exact BK9_up BK9_rf (by decide)
      have tkI_61 : TK9 Ia I_61 Ja Ja := by rw [eI_61]; exact TK9_up TK9_rf (by decide)
      refine ww_aload_n hX (pc := 62) dX11_broken_62 rfl ?_
      refine ww_iload_n hX (pc := 63) dX11_broken_63 rfl ?_
      refine vI1 hX (pc := 64) sX11_109 (xs_49 hL) (n9_X11_good l0 hL cI_61) (by decide) (Nat.le_refl 0) (Nat.le_refl 0) (Nat.le_of_ble_eq_true rfl) dX11_broken_64 (fun x_64 I_64 J_64 h_64 => ?_)
      obtain ⟨h_64, qxI_64⟩ := h_64
      have kJ_64 : Kp 49 73 Ja J_64 := Kp_tr (Kp_rf (a := 49) (b := 73)) h_64.2.1
      have kI_64 : Ch [50, 51] [0, 1] Ia I_64 := Ch_tr kI_61 (Ch_wd h_64.1 (by decide) (by decide))
      have cI_64 : RX I_64 := h_64.2.2.1
      have qI_64 := RX_o cI_64
      have r304_I_64 : I_64 51 304 = I_61 51 304 := by rw [h_64.1.1 51 (by decide) (by decide)]
      have r305_I_64 : I_64 51 305 = I_61 51 305 := by rw [h_64.1.1 51 (by decide) (by decide)]
      have rf_I_64 : FU (I_64 51 304) = FU (I_61 51 304) := by rw [r304_I_64]
      have xv64 := h_64.2.2.2
      refine rI hX (pc := 67) hT (Nat.le_refl 0) (Nat.le_refl 0) dX11_broken_67 ?_
      exact ⟨⟨kI_64, kJ_64, cI_64, (fun h9 => absurd (by omega) h9), (fun _ => ⟨by rw [xv64, hv_35], by rw [h_64.1.1 51 (by decide) (by decide), g61]⟩)⟩, ⟨(fun _ => GQ9_tr bkI_61 qxI_64), (fun h9 => absurd (by omega) h9)⟩⟩
    · simp only [w32_mod] at h_14
      refine ww_aload_n hX (pc := 17) dX11_broken_17 rfl ?_
      refine ww_iconst hX (pc := 18) (x := (-1)) dX11_broken_18 rfl ?_
      refine vI1 hX (pc := 19) sX11_105 (xs_49 hL) (n9_X11_refuses l0 hL hQ (by omega) (by omega)) (by decide) (Nat.le_refl 0) (Nat.le_refl 0) (Nat.le_of_ble_eq_true rfl) dX11_broken_19 (fun x_19 I_19 J_19 h_19 => ?_)
      obtain ⟨h_19, qxI_19⟩ := h_19
      have kJ_19 : Kp 49 73 Ja J_19 := Kp_tr (Kp_rf (a := 49) (b := 73)) h_19.2.1
      have kI_19 : Ch [50, 51] [0, 1] Ia I_19 := Ch_tr Ch_rf (Ch_wd h_19.1 (by decide) (by decide))
      have cI_19 : RX I_19 := h_19.2.2.1
      have qI_19 := RX_o cI_19
      have r304_I_19 : I_19 51 304 = Ia 51 304 := by rw [h_19.1.1 51 (by decide) (by decide)]
      have r305_I_19 : I_19 51 305 = Ia 51 305 := by rw [h_19.1.1 51 (by decide) (by decide)]
      have rf_I_19 : FU (I_19 51 304) = FU (Ia 51 304) := by rw [r304_I_19]
      have xv19 := h_19.2.2.2
      refine rI hX (pc := 22) hT (Nat.le_refl 0) (Nat.le_refl 0) dX11_broken_22 ?_
      exact ⟨⟨kI_19, kJ_19, cI_19, (fun _ => ⟨xv19, h_19.1.1 51 (by decide) (by decide)⟩), (fun h9 => absurd h9 (by omega))⟩, ⟨(fun h9 => absurd h9 (by omega)), (fun _ => RQ9_tr BK9_rf TK9_rf qxI_19)⟩⟩
set_option maxHeartbeats 4000000 in
set_option maxRecDepth 20000 in
theorem c9_X11_read (l0 : Launch) {Ia Ja : aI1} {Ra : aR1} {Sa : aS1} (hL : LY Ra Sa) (hQ : RX Ia) {a b : Int} (ha0 : -2147483648 ≤ a) (ha1 : a < 2147483648) (hb0 : -2147483648 ≤ b) (hb1 : b < 2147483648)  : CT l0 2 0 0 mX11_read [kR (some 49), kI a, kI b] Ia Ja Ra Sa (cI (fun x I' J' => (Ch [50, 51] [0, 1] Ia I' ∧ Kp 49 73 Ja J' ∧ RX I' ∧ (¬ (0 ≤ a ∧ a ≤ FU (Ia 51 304) ∧ (b = -1 ∨ (0 ≤ b ∧ b < Ia 51 305))) → x = -1 ∧ I' 51 = Ia 51) ∧ ((0 ≤ a ∧ a ≤ FU (Ia 51 304) ∧ (b = -1 ∨ (0 ≤ b ∧ b < Ia 51 305))) → x = Ia 51 a.toNat ∧ I' 51 = up1 (Ia 51) a.toNat b)) ∧ ((0 ≤ a ∧ a ≤ FU (Ia 51 304) ∧ (b = -1 ∨ (0 ≤ b ∧ b < Ia 51 305))) → GQ9 Ia I') ∧ (¬ (0 ≤ a ∧ a ≤ FU (Ia 51 304) ∧ (b = -1 ∨ (0 ≤ b ∧ b < Ia 51 305))) → RQ9 x Ia I' Ja J')) Ra Sa) := by
  refine ct_in pn_X11 (Nat.le_of_ble_eq_true rfl) (fun X hX hT hIn => ?_)
  have hX : aK l0 X cX11_read 4 RX11 (some .int) 2 0 0 := hX
  change WW X 0 [some (kR (some 49)), some (kI a), some (kI b), none] [] Ia Ja Ra Sa 0 0
  have qIa := RX_o hQ
  refine ww_aload_n hX (pc := 0) dX11_read_0 rfl ?_
  refine ww_iload_n hX (pc := 1) dX11_read_1 rfl ?_
  refine vI1 hX (pc := 2) sX11_120 (xs_49 hL) (c_X11_isState l0 hL hQ (by omega) (by omega)) (by decide) (Nat.le_refl 0) (Nat.le_refl 0) (Nat.le_of_ble_eq_true rfl) dX11_read_2 (fun x_2 I_2 J_2 h_2 => ?_)
  obtain ⟨rfl, rfl, h_2⟩ := h_2
  refine ww_if_eq hX (pc := 5) (tgt := 21) dX11_read_5 (by decide) (fun h_5 => ?_) (fun h_5 => ?_)
  · simp only [w32_mod] at h_5
    refine ww_aload_n hX (pc := 21) dX11_read_21 rfl ?_
    refine ww_iconst hX (pc := 22) (x := (-1)) dX11_read_22 rfl ?_
    refine vI1 hX (pc := 23) sX11_105 (xs_49 hL) (n9_X11_refuses l0 hL hQ (by omega) (by omega)) (by decide) (Nat.le_refl 0) (Nat.le_refl 0) (Nat.le_of_ble_eq_true rfl) dX11_read_23 (fun x_23 I_23 J_23 h_23 => ?_)
    obtain ⟨h_23, qxI_23⟩ := h_23
    have kJ_23 : Kp 49 73 Ja J_23 := Kp_tr (Kp_rf (a := 49) (b := 73)) h_23.2.1
    have kI_23 : Ch [50, 51] [0, 1] Ia I_23 := Ch_tr Ch_rf (Ch_wd h_23.1 (by decide) (by decide))
    have cI_23 : RX I_23 := h_23.2.2.1
    have qI_23 := RX_o cI_23
    have r304_I_23 : I_23 51 304 = Ia 51 304 := by rw [h_23.1.1 51 (by decide) (by decide)]
    have r305_I_23 : I_23 51 305 = Ia 51 305 := by rw [h_23.1.1 51 (by decide) (by decide)]
    have rf_I_23 : FU (I_23 51 304) = FU (Ia 51 304) := by rw [r304_I_23]
    have xv23 := h_23.2.2.2
    refine rI hX (pc := 26) hT (Nat.le_refl 0) (Nat.le_refl 0) dX11_read_26 ?_
    exact ⟨⟨kI_23, kJ_23, cI_23, (fun _ => ⟨xv23, h_23.1.1 51 (by decide) (by decide)⟩), (fun h9 => absurd h9 (by omega))⟩, ⟨(fun h9 => absurd h9 (by omega)), (fun _ => RQ9_tr BK9_rf TK9_rf qxI_23)⟩⟩
  · simp only [w32_mod] at h_5
    have k_2 := h_2.2.mp (by omega)
    clear h_2
    refine ww_iload_n hX (pc := 8) dX11_read_8 rfl ?_
    refine ww_iconst hX (pc := 9) (x := (-1)) dX11_read_9 rfl ?_
    refine ww_icmp_eq hX (pc := 10) (tgt := 27) dX11_read_10 (by decide) (fun h_10 => ?_) (fun h_10 => ?_)
    · simp only [w32_mod] at h_10
      refine ww_aload_n hX (pc := 27) dX11_read_27 rfl ?_
      refine ww_iload_n hX (pc := 28) dX11_read_28 rfl ?_
      refine vI1 hX (pc := 29) sX11_126 (xs_49 hL) (c_X11_readOf l0 hL hQ (by omega) (by omega)) (by decide) (Nat.le_refl 0) (Nat.le_refl 0) (Nat.le_of_ble_eq_true rfl) dX11_read_29 (fun x_29 I_29 J_29 h_29 => ?_)
      obtain ⟨rfl, rfl, h_29⟩ := h_29
      refine ww_istore_n hX (pc := 32) (lv' := [some (kR (some 49)), some (kI a), some (kI b), some (kI x_29)]) dX11_read_32 (by decide) rfl rfl ?_
      refine ww_aload_n hX (pc := 33) dX11_read_33 rfl ?_
      refine ww_getR hX (pc := 34) fX11_20 (by decide) (xs_49 hL) (xr_49_3 hL) dX11_read_34 ?_
      refine ww_iconst hX (pc := 37) (x := 0) dX11_read_37 rfl ?_
      refine ww_iload_n hX (pc := 38) dX11_read_38 rfl ?_
      refine ww_iadd hX (pc := 39) dX11_read_39 ?_
      refine ww_iload_n hX (pc := 40) dX11_read_40 rfl ?_
      refine ww_iast hX (pc := 41) (xs_51 hL) (by decide) (by omega) (by omega) dX11_read_41 ?_
      refine ww_nmH (fun I_41 eI_41 => ?_)
      have kI_41 : Ch [50, 51] [0, 1] Ia I_41 := by rw [eI_41]; exact Ch_r Ch_rf (by decide) (by decide)
      have cI_41 : RX I_41 := by rw [eI_41]; exact RX_lo hQ (by omega)
      have qI_41 := RX_o cI_41
      have r304_I_41 : I_41 51 304 = Ia 51 304 := by rw [eI_41, up2_n _ _ (Or.inr (by omega))]
      have r305_I_41 : I_41 51 305 = Ia 51 305 := by rw [eI_41, up2_n _ _ (Or.inr (by omega))]
      have rf_I_41 : FU (I_41 51 304) = FU (Ia 51 304) := by rw [r304_I_41]
      have g41 : I_41 51 = up1 (Ia 51) a.toNat b := by rw [eI_41, up2_row, show (0 + a).toNat = a.toNat by omega]
      have bkI_41 : BK9 Ia I_41 := by rw [eI_41]; exact BK9_up BK9_rf (by decide)
      have tkI_41 : TK9 Ia I_41 Ja Ja := by rw [eI_41]; exact TK9_up TK9_rf (by decide)
      refine ww_aload_n hX (pc := 42) dX11_read_42 rfl ?_
      refine ww_iload_n hX (pc := 43) dX11_read_43 rfl ?_
      refine vI1 hX (pc := 44) sX11_109 (xs_49 hL) (n9_X11_good l0 hL cI_41) (by decide) (Nat.le_refl 0) (Nat.le_refl 0) (Nat.le_of_ble_eq_true rfl) dX11_read_44 (fun x_44 I_44 J_44 h_44 => ?_)
      obtain ⟨h_44, qxI_44⟩ := h_44
      have kJ_44 : Kp 49 73 Ja J_44 := Kp_tr (Kp_rf (a := 49) (b := 73)) h_44.2.1
      have kI_44 : Ch [50, 51] [0, 1] Ia I_44 := Ch_tr kI_41 (Ch_wd h_44.1 (by decide) (by decide))
      have cI_44 : RX I_44 := h_44.2.2.1
      have qI_44 := RX_o cI_44
      have r304_I_44 : I_44 51 304 = I_41 51 304 := by rw [h_44.1.1 51 (by decide) (by decide)]
      have r305_I_44 : I_44 51 305 = I_41 51 305 := by rw [h_44.1.1 51 (by decide) (by decide)]
      have rf_I_44 : FU (I_44 51 304) = FU (I_41 51 304) := by rw [r304_I_44]
      have xv44 := h_44.2.2.2
      refine rI hX (pc := 47) hT (Nat.le_refl 0) (Nat.le_refl 0) dX11_read_47 ?_
      exact ⟨⟨kI_44, kJ_44, cI_44, (fun h9 => absurd (by omega) h9), (fun _ => ⟨by rw [xv44]; exact h_29, by rw [h_44.1.1 51 (by decide) (by decide), g41]⟩)⟩, ⟨(fun _ => GQ9_tr bkI_41 qxI_44), (fun h9 => absurd (by omega) h9)⟩⟩
    · simp only [w32_mod] at h_10
      refine ww_aload_n hX (pc := 13) dX11_read_13 rfl ?_
      refine ww_iload_n hX (pc := 14) dX11_read_14 rfl ?_
      refine vI1 hX (pc := 15) sX11_123 (xs_49 hL) (c_X11_isNews l0 hL hQ (by omega) (by omega)) (by decide) (Nat.le_refl 0) (Nat.le_refl 0) (Nat.le_of_ble_eq_true rfl) dX11_read_15 (fun x_15 I_15 J_15 h_15 => ?_)
      obtain ⟨rfl, rfl, h_15⟩ := h_15
      refine ww_if_ne hX (pc := 18) (tgt := 27) dX11_read_18 (by decide) (fun h_18 => ?_) (fun h_18 => ?_)
      · simp only [w32_mod] at h_18
        have k_15 := h_15.2.mp (by omega)
        clear h_15
        refine ww_aload_n hX (pc := 27) dX11_read_27 rfl ?_
        refine ww_iload_n hX (pc := 28) dX11_read_28 rfl ?_
        refine vI1 hX (pc := 29) sX11_126 (xs_49 hL) (c_X11_readOf l0 hL hQ (by omega) (by omega)) (by decide) (Nat.le_refl 0) (Nat.le_refl 0) (Nat.le_of_ble_eq_true rfl) dX11_read_29 (fun x_29 I_29 J_29 h_29 => ?_)
        obtain ⟨rfl, rfl, h_29⟩ := h_29
        refine ww_istore_n hX (pc := 32) (lv' := [some (kR (some 49)), some (kI a), some (kI b), some (kI x_29)]) dX11_read_32 (by decide) rfl rfl ?_
        refine ww_aload_n hX (pc := 33) dX11_read_33 rfl ?_
        refine ww_getR hX (pc := 34) fX11_20 (by decide) (xs_49 hL) (xr_49_3 hL) dX11_read_34 ?_
        refine ww_iconst hX (pc := 37) (x := 0) dX11_read_37 rfl ?_
        refine ww_iload_n hX (pc := 38) dX11_read_38 rfl ?_
        refine ww_iadd hX (pc := 39) dX11_read_39 ?_
        refine ww_iload_n hX (pc := 40) dX11_read_40 rfl ?_
        refine ww_iast hX (pc := 41) (xs_51 hL) (by decide) (by omega) (by omega) dX11_read_41 ?_
        refine ww_nmH (fun I_41 eI_41 => ?_)
        have kI_41 : Ch [50, 51] [0, 1] Ia I_41 := by rw [eI_41]; exact Ch_r Ch_rf (by decide) (by decide)
        have cI_41 : RX I_41 := by rw [eI_41]; exact RX_lo hQ (by omega)
        have qI_41 := RX_o cI_41
        have r304_I_41 : I_41 51 304 = Ia 51 304 := by rw [eI_41, up2_n _ _ (Or.inr (by omega))]
        have r305_I_41 : I_41 51 305 = Ia 51 305 := by rw [eI_41, up2_n _ _ (Or.inr (by omega))]
        have rf_I_41 : FU (I_41 51 304) = FU (Ia 51 304) := by rw [r304_I_41]
        have g41 : I_41 51 = up1 (Ia 51) a.toNat b := by rw [eI_41, up2_row, show (0 + a).toNat = a.toNat by omega]
        have bkI_41 : BK9 Ia I_41 := by rw [eI_41]; exact BK9_up BK9_rf (by decide)
        have tkI_41 : TK9 Ia I_41 Ja Ja := by rw [eI_41]; exact TK9_up TK9_rf (by decide)
        refine ww_aload_n hX (pc := 42) dX11_read_42 rfl ?_
        refine ww_iload_n hX (pc := 43) dX11_read_43 rfl ?_
        refine vI1 hX (pc := 44) sX11_109 (xs_49 hL) (n9_X11_good l0 hL cI_41) (by decide) (Nat.le_refl 0) (Nat.le_refl 0) (Nat.le_of_ble_eq_true rfl) dX11_read_44 (fun x_44 I_44 J_44 h_44 => ?_)
        obtain ⟨h_44, qxI_44⟩ := h_44
        have kJ_44 : Kp 49 73 Ja J_44 := Kp_tr (Kp_rf (a := 49) (b := 73)) h_44.2.1
        have kI_44 : Ch [50, 51] [0, 1] Ia I_44 := Ch_tr kI_41 (Ch_wd h_44.1 (by decide) (by decide))
        have cI_44 : RX I_44 := h_44.2.2.1
        have qI_44 := RX_o cI_44
        have r304_I_44 : I_44 51 304 = I_41 51 304 := by rw [h_44.1.1 51 (by decide) (by decide)]
        have r305_I_44 : I_44 51 305 = I_41 51 305 := by rw [h_44.1.1 51 (by decide) (by decide)]
        have rf_I_44 : FU (I_44 51 304) = FU (I_41 51 304) := by rw [r304_I_44]
        have xv44 := h_44.2.2.2
        refine rI hX (pc := 47) hT (Nat.le_refl 0) (Nat.le_refl 0) dX11_read_47 ?_
        exact ⟨⟨kI_44, kJ_44, cI_44, (fun h9 => absurd (by omega) h9), (fun _ => ⟨by rw [xv44]; exact h_29, by rw [h_44.1.1 51 (by decide) (by decide), g41]⟩)⟩, ⟨(fun _ => GQ9_tr bkI_41 qxI_44), (fun h9 => absurd (by omega) h9)⟩⟩
      · simp only [w32_mod] at h_18
        refine ww_aload_n hX (pc := 21) dX11_read_21 rfl ?_
        refine ww_iconst hX (pc := 22) (x := (-1)) dX11_read_22 rfl ?_
        refine vI1 hX (pc := 23) sX11_105 (xs_49 hL) (n9_X11_refuses l0 hL hQ (by omega) (by omega)) (by decide) (Nat.le_refl 0) (Nat.le_refl 0) (Nat.le_of_ble_eq_true rfl) dX11_read_23 (fun x_23 I_23 J_23 h_23 => ?_)
        obtain ⟨h_23, qxI_23⟩ := h_23
        have kJ_23 : Kp 49 73 Ja J_23 := Kp_tr (Kp_rf (a := 49) (b := 73)) h_23.2.1
        have kI_23 : Ch [50, 51] [0, 1] Ia I_23 := Ch_tr Ch_rf (Ch_wd h_23.1 (by decide) (by decide))
        have cI_23 : RX I_23 := h_23.2.2.1
        have qI_23 := RX_o cI_23
        have r304_I_23 : I_23 51 304 = Ia 51 304 := by rw [h_23.1.1 51 (by decide) (by decide)]
        have r305_I_23 : I_23 51 305 = Ia 51 305 := by rw [h_23.1.1 51 (by decide) (by decide)]
        have rf_I_23 : FU (I_23 51 304) = FU (Ia 51 304) := by rw [r304_I_23]
        have xv23 := h_23.2.2.2
        refine rI hX (pc := 26) hT (Nat.le_refl 0) (Nat.le_refl 0) dX11_read_26 ?_
        exact ⟨⟨kI_23, kJ_23, cI_23, (fun _ => ⟨xv23, h_23.1.1 51 (by decide) (by decide)⟩), (fun h9 => absurd h9 (by omega))⟩, ⟨(fun h9 => absurd h9 (by omega)), (fun _ => RQ9_tr BK9_rf TK9_rf qxI_23)⟩⟩
set_option maxHeartbeats 4000000 in
set_option maxRecDepth 20000 in
theorem c9_X11_empties (l0 : Launch) {Ia Ja : aI1} {Ra : aR1} {Sa : aS1} (hL : LY Ra Sa) (hQ : RX Ia)  : CT l0 0 0 0 mX11_empties [kR (some 49)] Ia Ja Ra Sa (cV (fun I' J' => (Ch [51] [] Ia I' ∧ Kp 49 73 Ja J' ∧ RX I' ∧ I' 51 = EMr (Ia 51)) ∧ QK9 Ia I' Ja J') Ra Sa) := by
  refine ct_in pn_X11 (Nat.le_of_ble_eq_true rfl) (fun X hX hT hIn => ?_)
  have hX : aK l0 X cX11_empties 2 RX11 none 0 0 0 := hX
  change WW X 0 [some (kR (some 49)), none] [] Ia Ja Ra Sa 0 0
  have qIa := RX_o hQ
  refine ww_iconst hX (pc := 0) (x := 0) dX11_empties_0 rfl ?_
  refine ww_istore_n hX (pc := 1) (lv' := [some (kR (some 49)), some (kI 0)]) dX11_empties_1 (by decide) rfl rfl ?_
  have hl_2 : ∀ (n_2 : Nat) (i : Int) (I2 : aI1) (J2 : aI1), (256 - i).toNat = n_2 → (BK9 Ia I2 ∧ TK9 Ia I2 Ja J2 ∧ (Ch [51] [] Ia I2 ∧ RX I2 ∧ Kp 49 73 Ja J2 ∧ I2 51 304 = Ia 51 304 ∧ I2 51 305 = Ia 51 305 ∧ (0 ≤ i ∧ i ≤ 256) ∧ (∀ j : Nat, I2 51 j = if (j : Int) < i then -1 else Ia 51 j))) → WW X 2 [some (kR (some 49)), some (kI i)] [] I2 J2 Ra Sa 0 0 := by
    intro n_2
    induction n_2 using Nat.strongRecOn with
    | ind n_2 ih_2 =>
      intro i I2 J2 hm_2 hv_2
      have hq_2 := Sh0_i hm_2
      clear hm_2
      obtain ⟨bkl2, tkl2, hv_2⟩ := hv_2
      obtain ⟨kI2, cI2, kJ2, r304_I2, r305_I2, hv, hej⟩ := hv_2
      have qI2 := RX_o cI2
      have rf_I2 : FU (I2 51 304) = FU (Ia 51 304) := by rw [r304_I2]
      refine ww_iload_n hX (pc := 2) dX11_empties_2 rfl ?_
      refine ww_sipush hX (pc := 3) (x := 256) dX11_empties_3 (by decide) ?_
      refine ww_icmp_ge hX (pc := 6) (tgt := 24) dX11_empties_6 (by decide) (fun h_6 => ?_) (fun h_6 => ?_)
      · simp only [w32_mod] at h_6
        refine ww_aload_n hX (pc := 24) dX11_empties_24 rfl ?_
        refine ww_getR hX (pc := 25) fX11_20 (by decide) (xs_49 hL) (xr_49_3 hL) dX11_empties_25 ?_
        refine ww_sipush hX (pc := 28) (x := 307) dX11_empties_28 (by decide) ?_
        refine ww_iconst hX (pc := 31) (x := 0) dX11_empties_31 rfl ?_
        refine ww_iast hX (pc := 32) (xs_51 hL) (by decide) (by omega) (by omega) dX11_empties_32 ?_
        refine ww_nmH (fun I_32 eI_32 => ?_)
        have kI_32 : Ch [51] [] Ia I_32 := by rw [eI_32]; exact Ch_r kI2 (by decide) (by decide)
        have cI_32 : RX I_32 := by rw [eI_32]; exact RX_307 cI2 (by omega) (by omega)
        have qI_32 := RX_o cI_32
        have r304_I_32 : I_32 51 304 = I2 51 304 := by rw [eI_32, up2_n _ _ (Or.inr (by decide))]
        have r305_I_32 : I_32 51 305 = I2 51 305 := by rw [eI_32, up2_n _ _ (Or.inr (by decide))]
        have rf_I_32 : FU (I_32 51 304) = FU (I2 51 304) := by rw [r304_I_32]
        have bkI_32 : BK9 Ia I_32 := by rw [eI_32]; exact BK9_up bkl2 (by decide)
        have tkI_32 : TK9 Ia I_32 Ja J2 := by rw [eI_32]; exact TK9_up tkl2 (by decide)
        refine ww_aload_n hX (pc := 33) dX11_empties_33 rfl ?_
        refine ww_getR hX (pc := 34) fX11_20 (by decide) (xs_49 hL) (xr_49_3 hL) dX11_empties_34 ?_
        refine ww_sipush hX (pc := 37) (x := 308) dX11_empties_37 (by decide) ?_
        refine ww_iconst hX (pc := 40) (x := 0) dX11_empties_40 rfl ?_
        refine ww_iast hX (pc := 41) (xs_51 hL) (by decide) (by omega) (by omega) dX11_empties_41 ?_
        refine ww_nmH (fun I_41 eI_41 => ?_)
        have kI_41 : Ch [51] [] Ia I_41 := by rw [eI_41]; exact Ch_r kI_32 (by decide) (by decide)
        have cI_41 : RX I_41 := by rw [eI_41]; exact RX_308 cI_32 (by omega) (by omega)
        have qI_41 := RX_o cI_41
        have r304_I_41 : I_41 51 304 = I_32 51 304 := by rw [eI_41, up2_n _ _ (Or.inr (by decide))]
        have r305_I_41 : I_41 51 305 = I_32 51 305 := by rw [eI_41, up2_n _ _ (Or.inr (by decide))]
        have rf_I_41 : FU (I_41 51 304) = FU (I_32 51 304) := by rw [r304_I_41]
        have bkI_41 : BK9 Ia I_41 := by rw [eI_41]; exact BK9_up bkI_32 (by decide)
        have tkI_41 : TK9 Ia I_41 Ja J2 := by rw [eI_41]; exact TK9_up tkI_32 (by decide)
        refine ww_aload_n hX (pc := 42) dX11_empties_42 rfl ?_
        refine ww_getR hX (pc := 43) fX11_20 (by decide) (xs_49 hL) (xr_49_3 hL) dX11_empties_43 ?_
        refine ww_sipush hX (pc := 46) (x := 309) dX11_empties_46 (by decide) ?_
        refine ww_iconst hX (pc := 49) (x := 0) dX11_empties_49 rfl ?_
        refine ww_iast hX (pc := 50) (xs_51 hL) (by decide) (by omega) (by omega) dX11_empties_50 ?_
        refine ww_nmH (fun I_50 eI_50 => ?_)
        have kI_50 : Ch [51] [] Ia I_50 := by rw [eI_50]; exact Ch_r kI_41 (by decide) (by decide)
        have cI_50 : RX I_50 := by rw [eI_50]; exact RX_309 cI_41 (by omega) (by omega)
        have qI_50 := RX_o cI_50
        have r304_I_50 : I_50 51 304 = I_41 51 304 := by rw [eI_50, up2_n _ _ (Or.inr (by decide))]
        have r305_I_50 : I_50 51 305 = I_41 51 305 := by rw [eI_50, up2_n _ _ (Or.inr (by decide))]
        have rf_I_50 : FU (I_50 51 304) = FU (I_41 51 304) := by rw [r304_I_50]
        have bkI_50 : BK9 Ia I_50 := by rw [eI_50]; exact BK9_up bkI_41 (by decide)
        have tkI_50 : TK9 Ia I_50 Ja J2 := by rw [eI_50]; exact TK9_up tkI_41 (by decide)
        refine rV hX (pc := 51) hT (Nat.le_refl 0) (Nat.le_refl 0) dX11_empties_51 ?_
        exact ⟨⟨kI_50, kJ2, cI_50, (by
            rw [eI_50, up2_row, eI_41, up2_row, eI_32, up2_row]
            funext j
            by_cases e1 : j = 309
            · subst e1; exact (up1_s _ _ _).trans (EMr_z (by decide)).symm
            · by_cases e2 : j = 308
              · subst e2; exact (up1_n _ _ (by decide)).trans ((up1_s _ _ _).trans (EMr_z (by decide)).symm)
              · by_cases e3 : j = 307
                · subst e3; exact (up1_n _ _ (by decide)).trans ((up1_n _ _ (by decide)).trans ((up1_s _ _ _).trans (EMr_z (by decide)).symm))
                · refine (up1_n _ _ e1).trans ((up1_n _ _ e2).trans ((up1_n _ _ e3).trans ?_))
                  rw [hej j]
                  by_cases e4 : j < 256
                  · rw [if_pos (by omega), EMr_c e4]
                  · rw [if_neg (by omega), EMr_o (by omega) (by omega)])⟩, bkI_50, tkI_50⟩
      · simp only [w32_mod] at h_6
        refine ww_aload_n hX (pc := 9) dX11_empties_9 rfl ?_
        refine ww_getR hX (pc := 10) fX11_20 (by decide) (xs_49 hL) (xr_49_3 hL) dX11_empties_10 ?_
        refine ww_iconst hX (pc := 13) (x := 0) dX11_empties_13 rfl ?_
        refine ww_iload_n hX (pc := 14) dX11_empties_14 rfl ?_
        refine ww_iadd hX (pc := 15) dX11_empties_15 ?_
        refine ww_iconst hX (pc := 16) (x := (-1)) dX11_empties_16 rfl ?_
        refine ww_iast hX (pc := 17) (xs_51 hL) (by decide) (by omega) (by omega) dX11_empties_17 ?_
        refine ww_nmH (fun I_17 eI_17 => ?_)
        have kI_17 : Ch [51] [] Ia I_17 := by rw [eI_17]; exact Ch_r kI2 (by decide) (by decide)
        have cI_17 : RX I_17 := by rw [eI_17]; exact RX_lo cI2 (by omega)
        have qI_17 := RX_o cI_17
        have r304_I_17 : I_17 51 304 = I2 51 304 := by rw [eI_17, up2_n _ _ (Or.inr (by omega))]
        have r305_I_17 : I_17 51 305 = I2 51 305 := by rw [eI_17, up2_n _ _ (Or.inr (by omega))]
        have rf_I_17 : FU (I_17 51 304) = FU (I2 51 304) := by rw [r304_I_17]
        have t17 : ∀ j : Nat, I_17 51 j = if (j : Int) < i + 1 then -1 else Ia 51 j := fun j => by
          rw [eI_17, up2_row]
          by_cases e9 : j = (0 + i).toNat
          · rw [e9, up1_s, if_pos (by omega)]
          · rw [up1_n _ _ e9, hej j]
            by_cases e8 : (j : Int) < i
            · rw [if_pos e8, if_pos (by omega)]
            · rw [if_neg e8, if_neg (by omega)]
        have bkI_17 : BK9 Ia I_17 := by rw [eI_17]; exact BK9_up bkl2 (by decide)
        have tkI_17 : TK9 Ia I_17 Ja J2 := by rw [eI_17]; exact TK9_up tkl2 (by decide)
        refine ww_iinc hX (pc := 18) (lv' := [some (kR (some 49)), some (kI (i + 1))]) dX11_empties_18 rfl (by decide) rfl rfl ?_
        refine ww_goto hX (pc := 21) (tgt := 2) dX11_empties_21 (by decide) ?_
        exact ih_2 _ (by have hm9 := Sh0_e hq_2; omega) (i + 1) I_17 J2 rfl ⟨bkI_17, tkI_17, ⟨kI_17, cI_17, kJ2, by omega, by omega, ⟨by omega, by omega⟩, t17⟩⟩
  exact hl_2 _ 0 Ia Ja rfl ⟨BK9_rf, TK9_rf, ⟨Ch_rf, hQ, (Kp_rf (a := 49) (b := 73)), rfl, rfl, ⟨by omega, by omega⟩, fun j => by rw [if_neg (by omega)]⟩⟩
