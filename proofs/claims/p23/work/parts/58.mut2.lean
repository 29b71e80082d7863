theorem RX_n {I : aI1} (h : RX I) : (1 ≤ I 51 304 ∧ I 51 304 ≤ 8) ∧ (2 ≤ I 51 305 ∧ I 51 305 ≤ 8) ∧ (1 ≤ FU (I 51 304) ∧ FU (I 51 304) ≤ 255) := by
  have hf := FU_r h.1.1.1 h.1.1.2
  exact ⟨h.1.1, h.1.2.1, hf.1, hf.2.1⟩
set_option maxHeartbeats 4000000 in
set_option maxRecDepth 20000 in
theorem c_X11_night (l0 : Launch) {Ia Ja : aI1} {Ra : aR1} {Sa : aS1} (hL : LY Ra Sa) (hQ : RX Ia) {a b c : Int} (ha0 : -2147483648 ≤ a) (ha1 : a < 2147483648) (hb0 : -2147483648 ≤ b) (hb1 : b < 2147483648) (hc0 : -2147483648 ≤ c) (hc1 : c < 2147483648)  : CT l0 5 0 0 mX11_night [kR (some 49), kI a, kI b, kI c] Ia Ja Ra Sa (cI (fun x I' J' => Ch [50, 61, 72] [0, 1, 25, 39, 40, 41] Ia I' ∧ Kp 49 73 Ja J' ∧ RX I' ∧ True) Ra Sa) := by
  refine ct_in pn_X11 (Nat.le_of_ble_eq_true rfl) (fun X hX hT hIn => ?_)
  have hX : aK l0 X cX11_night 7 RX11 (some .int) 5 0 0 := hX
  change WW X 0 [some (kR (some 49)), some (kI a), some (kI b), some (kI c), none, none, none] [] Ia Ja Ra Sa 0 0
  have qIa := RX_n hQ
  refine ww_iload_n hX (pc := 0) dX11_night_0 rfl ?_
  refine ww_iconst hX (pc := 1) (x := 0) dX11_night_1 rfl ?_
  refine ww_ldc hX (pc := 2) (x := 1000000) dX11_night_2 tb_1327 ?_
  refine sI3 hX (pc := 4) sX11_101 (c_X11_lies l0 (by omega) (by omega) (by omega) (by omega) (by omega) (by omega)) (by decide) (Nat.le_refl 0) (Nat.le_refl 0) (Nat.le_of_ble_eq_true rfl) dX11_night_4 (fun x_4 I_4 J_4 h_4 => ?_)
  obtain ⟨rfl, rfl, h_4⟩ := h_4
  refine ww_if_eq hX (pc := 7) (tgt := 27) dX11_night_7 (by decide) (fun h_7 => ?_) (fun h_7 => ?_)
  · simp only [w32_mod] at h_7
    refine ww_aload_n hX (pc := 27) dX11_night_27 rfl ?_
    refine ww_iconst hX (pc := 28) (x := (-1)) dX11_night_28 rfl ?_
    refine vI1 hX (pc := 29) sX11_105 (xs_49 hL) (c_X11_refuses l0 hL hQ (by omega) (by omega)) (by decide) (Nat.le_refl 0) (Nat.le_refl 0) (Nat.le_of_ble_eq_true rfl) dX11_night_29 (fun x_29 I_29 J_29 h_29 => ?_)
    have kJ_29 : Kp 49 73 Ja J_29 := Kp_tr (Kp_rf (a := 49) (b := 73)) h_29.2.1
    have kI_29 : Ch [50, 61, 72] [0, 1, 25, 39, 40, 41] Ia I_29 := Ch_tr Ch_rf (Ch_wd h_29.1 (by decide) (by decide))
    have cI_29 : RX I_29 := h_29.2.2.1
    have qI_29 := RX_n cI_29
    have r304_I_29 : I_29 51 304 = Ia 51 304 := by rw [h_29.1.1 51 (by decide) (by decide)]
    have r305_I_29 : I_29 51 305 = Ia 51 305 := by rw [h_29.1.1 51 (by decide) (by decide)]
    have f39_I_29 : I_29 49 39 = Ia 49 39 := h_29.1.2 39 (by decide)
    have f40_I_29 : I_29 49 40 = Ia 49 40 := h_29.1.2 40 (by decide)
    have f41_I_29 : I_29 49 41 = Ia 49 41 := h_29.1.2 41 (by decide)
    have rf_I_29 : FU (I_29 51 304) = FU (Ia 51 304) := by rw [r304_I_29]
    refine rI hX (pc := 32) hT (Nat.le_refl 0) (Nat.le_refl 0) dX11_night_32 ?_
    exact ⟨kI_29, kJ_29, cI_29, trivial⟩
  · simp only [w32_mod] at h_7
    refine ww_iload_n hX (pc := 10) dX11_night_10 rfl ?_
    refine ww_iconst hX (pc := 11) (x := 0) dX11_night_11 rfl ?_
    refine ww_bipush hX (pc := 12) (x := 24) dX11_night_12 (by decide) ?_
    refine sI3 hX (pc := 14) sX11_101 (c_X11_lies l0 (by omega) (by omega) (by omega) (by omega) (by omega) (by omega)) (by decide) (Nat.le_refl 0) (Nat.le_refl 0) (Nat.le_of_ble_eq_true rfl) dX11_night_14 (fun x_14 I_14 J_14 h_14 => ?_)
    obtain ⟨rfl, rfl, h_14⟩ := h_14
    refine ww_if_eq hX (pc := 17) (tgt := 27) dX11_night_17 (by decide) (fun h_17 => ?_) (fun h_17 => ?_)
    · simp only [w32_mod] at h_17
      refine ww_aload_n hX (pc := 27) dX11_night_27 rfl ?_
      refine ww_iconst hX (pc := 28) (x := (-1)) dX11_night_28 rfl ?_
      refine vI1 hX (pc := 29) sX11_105 (xs_49 hL) (c_X11_refuses l0 hL hQ (by omega) (by omega)) (by decide) (Nat.le_refl 0) (Nat.le_refl 0) (Nat.le_of_ble_eq_true rfl) dX11_night_29 (fun x_29 I_29 J_29 h_29 => ?_)
      have kJ_29 : Kp 49 73 Ja J_29 := Kp_tr (Kp_rf (a := 49) (b := 73)) h_29.2.1
      have kI_29 : Ch [50, 61, 72] [0, 1, 25, 39, 40, 41] Ia I_29 := Ch_tr Ch_rf (Ch_wd h_29.1 (by decide) (by decide))
      have cI_29 : RX I_29 := h_29.2.2.1
      have qI_29 := RX_n cI_29
      have r304_I_29 : I_29 51 304 = Ia 51 304 := by rw [h_29.1.1 51 (by decide) (by decide)]
      have r305_I_29 : I_29 51 305 = Ia 51 305 := by rw [h_29.1.1 51 (by decide) (by decide)]
      have f39_I_29 : I_29 49 39 = Ia 49 39 := h_29.1.2 39 (by decide)
      have f40_I_29 : I_29 49 40 = Ia 49 40 := h_29.1.2 40 (by decide)
      have f41_I_29 : I_29 49 41 = Ia 49 41 := h_29.1.2 41 (by decide)
      have rf_I_29 : FU (I_29 51 304) = FU (Ia 51 304) := by rw [r304_I_29]
      refine rI hX (pc := 32) hT (Nat.le_refl 0) (Nat.le_refl 0) dX11_night_32 ?_
      exact ⟨kI_29, kJ_29, cI_29, trivial⟩
    · simp only [w32_mod] at h_17
      refine ww_iload_n hX (pc := 20) dX11_night_20 rfl ?_
      refine sI1 hX (pc := 21) sX11_308 (c_X11_isManner l0 (by omega) (by omega)) (by decide) (Nat.le_refl 0) (Nat.le_refl 0) (Nat.le_of_ble_eq_true rfl) dX11_night_21 (fun x_21 I_21 J_21 h_21 => ?_)
      obtain ⟨rfl, rfl, h_21⟩ := h_21
      refine ww_if_ne hX (pc := 24) (tgt := 33) dX11_night_24 (by decide) (fun h_24 => ?_) (fun h_24 => ?_)
      · simp only [w32_mod] at h_24
        refine ww_aload_n hX (pc := 33) dX11_night_33 rfl ?_
        refine vV0 hX (pc := 34) sX11_294 (xs_49 hL) (c_X11_looks l0 hL hQ ) (by decide) (Nat.le_refl 0) (Nat.le_refl 0) (Nat.le_of_ble_eq_true rfl) dX11_night_34 (fun I_34 J_34 h_34 => ?_)
        have kJ_34 : Kp 49 73 Ja J_34 := Kp_tr (Kp_rf (a := 49) (b := 73)) h_34.2.1
        have kI_34 : Ch [50, 61, 72] [0, 1, 25, 39, 40, 41] Ia I_34 := Ch_tr Ch_rf (Ch_wd h_34.1 (by decide) (by decide))
        have cI_34 : RX I_34 := h_34.2.2.1
        have qI_34 := RX_n cI_34
        have r304_I_34 : I_34 51 304 = Ia 51 304 := by rw [h_34.1.1 51 (by decide) (by decide)]
        have r305_I_34 : I_34 51 305 = Ia 51 305 := by rw [h_34.1.1 51 (by decide) (by decide)]
        have f39_I_34 : I_34 49 39 = Ia 49 39 := h_34.1.2 39 (by decide)
        have f40_I_34 : I_34 49 40 = Ia 49 40 := h_34.1.2 40 (by decide)
        have f41_I_34 : I_34 49 41 = Ia 49 41 := h_34.1.2 41 (by decide)
        have rf_I_34 : FU (I_34 51 304) = FU (Ia 51 304) := by rw [r304_I_34]
        refine ww_aload_n hX (pc := 37) dX11_night_37 rfl ?_
        refine ww_iload_n hX (pc := 38) dX11_night_38 rfl ?_
        refine ww_putI hX (pc := 39) (fun h9 => absurd h9 (by decide)) gX11_344 rfl (xs_49 hL) dX11_night_39 ?_
        refine ww_nmH (fun I_39 eI_39 => ?_)
        have kI_39 : Ch [50, 61, 72] [0, 1, 25, 39, 40, 41] Ia I_39 := by rw [eI_39]; exact Ch_f kI_34 (by decide)
        have cI_39 : RX I_39 := by rw [eI_39]; exact RX_f cI_34 (by decide)
        have qI_39 := RX_n cI_39
        have r304_I_39 : I_39 51 304 = I_34 51 304 := by rw [eI_39, up2_off _ _ _ (by decide)]
        have r305_I_39 : I_39 51 305 = I_34 51 305 := by rw [eI_39, up2_off _ _ _ (by decide)]
        have f39_I_39 : I_39 49 39 = I_34 49 39 := by rw [eI_39, up2_n _ _ (Or.inr (by decide))]
        have f40_I_39 : I_39 49 40 = I_34 49 40 := by rw [eI_39, up2_n _ _ (Or.inr (by decide))]
        have rf_I_39 : FU (I_39 51 304) = FU (I_34 51 304) := by rw [r304_I_39]
        have f41 : I_39 49 41 = a := by rw [eI_39, up2_s]
        refine ww_aload_n hX (pc := 42) dX11_night_42 rfl ?_
        refine ww_iconst hX (pc := 43) (x := 0) dX11_night_43 rfl ?_
        refine ww_putI hX (pc := 44) (fun h9 => absurd h9 (by decide)) gX11_95 rfl (xs_49 hL) dX11_night_44 ?_
        refine ww_nmH (fun I_44 eI_44 => ?_)
        have kI_44 : Ch [50, 61, 72] [0, 1, 25, 39, 40, 41] Ia I_44 := by rw [eI_44]; exact Ch_f kI_39 (by decide)
        have cI_44 : RX I_44 := by rw [eI_44]; exact RX_39 cI_39 (by omega) (by omega)
        have qI_44 := RX_n cI_44
        have r304_I_44 : I_44 51 304 = I_39 51 304 := by rw [eI_44, up2_off _ _ _ (by decide)]
        have r305_I_44 : I_44 51 305 = I_39 51 305 := by rw [eI_44, up2_off _ _ _ (by decide)]
        have f40_I_44 : I_44 49 40 = I_39 49 40 := by rw [eI_44, up2_n _ _ (Or.inr (by decide))]
        have f41_I_44 : I_44 49 41 = I_39 49 41 := by rw [eI_44, up2_n _ _ (Or.inr (by decide))]
        have rf_I_44 : FU (I_44 51 304) = FU (I_39 51 304) := by rw [r304_I_44]
        have f39 : I_44 49 39 = 0 := by rw [eI_44, up2_s]
        refine ww_aload_n hX (pc := 47) dX11_night_47 rfl ?_
        refine ww_iconst hX (pc := 48) (x := (-1)) dX11_night_48 rfl ?_
        refine ww_putI hX (pc := 49) (fun h9 => absurd h9 (by decide)) gX11_347 rfl (xs_49 hL) dX11_night_49 ?_
        refine ww_nmH (fun I_49 eI_49 => ?_)
        have kI_49 : Ch [50, 61, 72] [0, 1, 25, 39, 40, 41] Ia I_49 := by rw [eI_49]; exact Ch_f kI_44 (by decide)
        have cI_49 : RX I_49 := by rw [eI_49]; exact RX_f cI_44 (by decide)
        have qI_49 := RX_n cI_49
        have r304_I_49 : I_49 51 304 = I_44 51 304 := by rw [eI_49, up2_off _ _ _ (by decide)]
        have r305_I_49 : I_49 51 305 = I_44 51 305 := by rw [eI_49, up2_off _ _ _ (by decide)]
        have f39_I_49 : I_49 49 39 = I_44 49 39 := by rw [eI_49, up2_n _ _ (Or.inr (by decide))]
        have f41_I_49 : I_49 49 41 = I_44 49 41 := by rw [eI_49, up2_n _ _ (Or.inr (by decide))]
        have rf_I_49 : FU (I_49 51 304) = FU (I_44 51 304) := by rw [r304_I_49]
        have f40 : I_49 49 40 = -1 := by rw [eI_49, up2_s]
        refine ww_iconst hX (pc := 52) (x := 0) dX11_night_52 rfl ?_
        refine ww_istore hX (pc := 53) (lv' := [some (kR (some 49)), some (kI a), some (kI b), some (kI c), some (kI 0), none, none]) dX11_night_53 (by decide) rfl rfl ?_
        have hl_55 : ∀ (n_55 : Nat) (sa : Int) (I55 : aI1) (J55 : aI1), (2 * (24 - I55 49 39) - I55 49 40).toNat = n_55 → (Ch [50, 61, 72] [0, 1, 25, 39, 40, 41] Ia I55 ∧ RX I55 ∧ Kp 49 73 Ja J55 ∧ I55 51 304 = I_49 51 304 ∧ I55 51 305 = I_49 51 305 ∧ (0 ≤ sa ∧ sa ≤ 255) ∧ (0 ≤ I55 49 39 ∧ I55 49 39 ≤ 24) ∧ (-1 ≤ I55 49 40 ∧ I55 49 40 ≤ 8) ∧ (0 ≤ I55 49 41 ∧ I55 49 41 ≤ 1000003)) → WW X 55 [some (kR (some 49)), some (kI a), some (kI b), some (kI c), some (kI sa), none, none] [] I55 J55 Ra Sa 0 0 := by
          intro n_55
          induction n_55 using Nat.strongRecOn with
          | ind n_55 ih_55 =>
            intro sa I55 J55 hm_55 hv_55
            obtain ⟨kI55, cI55, kJ55, r304_I55, r305_I55, hv, hv1, hv2, hv3⟩ := hv_55
            have qI55 := RX_n cI55
            have rf_I55 : FU (I55 51 304) = FU (I_49 51 304) := by rw [r304_I55]
            refine ww_aload_n hX (pc := 55) dX11_night_55 rfl ?_
            refine ww_getI hX (pc := 56) fX11_95 (by decide) (xs_49 hL) dX11_night_56 ?_
            refine ww_iload_n hX (pc := 59) dX11_night_59 rfl ?_
            refine ww_icmp_ge hX (pc := 60) (tgt := 162) dX11_night_60 (by decide) (fun h_60 => ?_) (fun h_60 => ?_)
            · simp only [w32_mod] at h_60
              refine ww_aload_n hX (pc := 162) dX11_night_162 rfl ?_
              refine ww_aload_n hX (pc := 163) dX11_night_163 rfl ?_
              refine ww_getI hX (pc := 164) fX11_95 (by decide) (xs_49 hL) dX11_night_164 ?_
              refine vI1 hX (pc := 167) sX11_109 (xs_49 hL) (c_X11_good l0 hL cI55 ) (by decide) (Nat.le_refl 0) (Nat.le_refl 0) (Nat.le_of_ble_eq_true rfl) dX11_night_167 (fun x_167 I_167 J_167 h_167 => ?_)
              have kJ_167 : Kp 49 73 Ja J_167 := Kp_tr kJ55 h_167.2.1
              have kI_167 : Ch [50, 61, 72] [0, 1, 25, 39, 40, 41] Ia I_167 := Ch_tr kI55 (Ch_wd h_167.1 (by decide) (by decide))
              have cI_167 : RX I_167 := h_167.2.2.1
              have qI_167 := RX_n cI_167
              have r304_I_167 : I_167 51 304 = I55 51 304 := by rw [h_167.1.1 51 (by decide) (by decide)]
              have r305_I_167 : I_167 51 305 = I55 51 305 := by rw [h_167.1.1 51 (by decide) (by decide)]
              have f39_I_167 : I_167 49 39 = I55 49 39 := h_167.1.2 39 (by decide)
              have f40_I_167 : I_167 49 40 = I55 49 40 := h_167.1.2 40 (by decide)
              have f41_I_167 : I_167 49 41 = I55 49 41 := h_167.1.2 41 (by decide)
              have rf_I_167 : FU (I_167 51 304) = FU (I55 51 304) := by rw [r304_I_167]
              refine rI hX (pc := 170) hT (Nat.le_refl 0) (Nat.le_refl 0) dX11_night_170 ?_
              exact ⟨kI_167, kJ_167, cI_167, trivial⟩
            · simp only [w32_mod] at h_60
              refine ww_aload_n hX (pc := 63) dX11_night_63 rfl ?_
              refine ww_getI hX (pc := 64) fX11_347 (by decide) (xs_49 hL) dX11_night_64 ?_
              refine ww_iconst hX (pc := 67) (x := (-1)) dX11_night_67 rfl ?_
              refine ww_icmp_ne hX (pc := 68) (tgt := 162) dX11_night_68 (by decide) (fun h_68 => ?_) (fun h_68 => ?_)
              · simp only [w32_mod] at h_68
                refine ww_aload_n hX (pc := 162) dX11_night_162 rfl ?_
                refine ww_aload_n hX (pc := 163) dX11_night_163 rfl ?_
                refine ww_getI hX (pc := 164) fX11_95 (by decide) (xs_49 hL) dX11_night_164 ?_
                refine vI1 hX (pc := 167) sX11_109 (xs_49 hL) (c_X11_good l0 hL cI55 ) (by decide) (Nat.le_refl 0) (Nat.le_refl 0) (Nat.le_of_ble_eq_true rfl) dX11_night_167 (fun x_167 I_167 J_167 h_167 => ?_)
                have kJ_167 : Kp 49 73 Ja J_167 := Kp_tr kJ55 h_167.2.1
                have kI_167 : Ch [50, 61, 72] [0, 1, 25, 39, 40, 41] Ia I_167 := Ch_tr kI55 (Ch_wd h_167.1 (by decide) (by decide))
                have cI_167 : RX I_167 := h_167.2.2.1
                have qI_167 := RX_n cI_167
                have r304_I_167 : I_167 51 304 = I55 51 304 := by rw [h_167.1.1 51 (by decide) (by decide)]
                have r305_I_167 : I_167 51 305 = I55 51 305 := by rw [h_167.1.1 51 (by decide) (by decide)]
                have f39_I_167 : I_167 49 39 = I55 49 39 := h_167.1.2 39 (by decide)
                have f40_I_167 : I_167 49 40 = I55 49 40 := h_167.1.2 40 (by decide)
                have f41_I_167 : I_167 49 41 = I55 49 41 := h_167.1.2 41 (by decide)
                have rf_I_167 : FU (I_167 51 304) = FU (I55 51 304) := by rw [r304_I_167]
                refine rI hX (pc := 170) hT (Nat.le_refl 0) (Nat.le_refl 0) dX11_night_170 ?_
                exact ⟨kI_167, kJ_167, cI_167, trivial⟩
              · simp only [w32_mod] at h_68
                refine ww_aload_n hX (pc := 71) dX11_night_71 rfl ?_
                refine ww_ldc2 hX (pc := 72) (x := 1103) dX11_night_72 tb_1615 ?_
                refine ww_aload_n hX (pc := 75) dX11_night_75 rfl ?_
                refine ww_getI hX (pc := 76) fX11_344 (by decide) (xs_49 hL) dX11_night_76 ?_
                refine ww_i2l hX (pc := 79) dX11_night_79 ?_
                refine ww_lmul hX (pc := 80) dX11_night_80 ?_
                refine ww_ldc2 hX (pc := 81) (x := 12345) dX11_night_81 tb_1616 ?_
                refine ww_ladd hX (pc := 84) dX11_night_84 ?_
                refine ww_ldc2 hX (pc := 85) (x := 1000003) dX11_night_85 tb_1617 ?_
                refine ww_lrem hX (pc := 88) dX11_night_88 (by decide) ?_
                refine ww_l2i hX (pc := 89) dX11_night_89 ?_
                refine ww_putI hX (pc := 90) (fun h9 => absurd h9 (by decide)) gX11_344 rfl (xs_49 hL) dX11_night_90 ?_
                refine ww_nmH (fun I_90 eI_90 => ?_)
                have kI_90 : Ch [50, 61, 72] [0, 1, 25, 39, 40, 41] Ia I_90 := by rw [eI_90]; exact Ch_f kI55 (by decide)
                have cI_90 : RX I_90 := by rw [eI_90]; exact RX_f cI55 (by decide)
                have qI_90 := RX_n cI_90
                have r304_I_90 : I_90 51 304 = I55 51 304 := by rw [eI_90, up2_off _ _ _ (by decide)]
                have r305_I_90 : I_90 51 305 = I55 51 305 := by rw [eI_90, up2_off _ _ _ (by decide)]
                have f39_I_90 : I_90 49 39 = I55 49 39 := by rw [eI_90, up2_n _ _ (Or.inr (by decide))]
                have f40_I_90 : I_90 49 40 = I55 49 40 := by rw [eI_90, up2_n _ _ (Or.inr (by decide))]
                have rf_I_90 : FU (I_90 51 304) = FU (I55 51 304) := by rw [r304_I_90]
                have f41 : I_90 49 41 = l_rem (1103 * w32 (I55 49 41) + 12345) 1000003 := by rw [eI_90, up2_s]
                rw [w32_id (by omega) (by omega), l_rem_v (by omega) (by omega) (by decide) (by decide)] at f41
                refine ww_aload_n hX (pc := 93) dX11_night_93 rfl ?_
                refine ww_getI hX (pc := 94) fX11_344 (by decide) (xs_49 hL) dX11_night_94 ?_
                refine ww_aload_n hX (pc := 97) dX11_night_97 rfl ?_
                refine ww_getR hX (pc := 98) fX11_20 (by decide) (xs_49 hL) (xr_49_3 hL) dX11_night_98 ?_
                refine ww_sipush hX (pc := 101) (x := 305) dX11_night_101 (by decide) ?_
                refine ww_iald hX (pc := 104) (xs_51 hL) (by decide) (by omega) (by omega) dX11_night_104 ?_
                refine ww_toI (b := I_90 51 305) rfl ?_
                refine ww_irem hX (pc := 105) dX11_night_105 (by rw [w32_id (by omega) (by omega)]; omega) ?_
                refine ww_nmI (fun v_106 hv_106 => ?_)
                refine ww_istore hX (pc := 106) (lv' := [some (kR (some 49)), some (kI a), some (kI b), some (kI c), some (kI sa), some (kI v_106), none]) dX11_night_106 (by decide) rfl rfl ?_
                rw [i_rem_v (by omega) (by omega) (by omega) (by omega)] at hv_106
                have hx1 := Int.emod_nonneg (I_90 49 41) (show I_90 51 305 ≠ 0 by omega)
                have hx2 := Int.emod_lt_of_pos (I_90 49 41) (show 0 < I_90 51 305 by omega)
                refine ww_aload_n hX (pc := 108) dX11_night_108 rfl ?_
                refine ww_iload hX (pc := 109) dX11_night_109 rfl ?_
                refine ww_iload hX (pc := 111) dX11_night_111 rfl ?_
                refine ww_iload_n hX (pc := 113) dX11_night_113 rfl ?_
                refine vI3 hX (pc := 114) sX11_311 (xs_49 hL) (c_X11_nextOf l0 hL cI_90 (by omega) (by omega)) (by decide) (Nat.le_refl 0) (Nat.le_refl 0) (Nat.le_of_ble_eq_true rfl) dX11_night_114 (fun x_114 I_114 J_114 h_114 => ?_)
                obtain ⟨rfl, rfl, h_114⟩ := h_114
                refine ww_istore hX (pc := 117) (lv' := [some (kR (some 49)), some (kI a), some (kI b), some (kI c), some (kI sa), some (kI v_106), some (kI x_114)]) dX11_night_117 (by decide) rfl rfl ?_
                refine ww_iload hX (pc := 119) dX11_night_119 rfl ?_
                refine ww_iconst hX (pc := 121) (x := (-1)) dX11_night_121 rfl ?_
                refine ww_icmp_ne hX (pc := 122) (tgt := 134) dX11_night_122 (by decide) (fun h_122 => ?_) (fun h_122 => ?_)
                · simp only [w32_mod] at h_122
                  refine ww_iload hX (pc := 134) dX11_night_134 rfl ?_
                  refine ww_istore hX (pc := 136) (lv' := [some (kR (some 49)), some (kI a), some (kI b), some (kI c), some (kI x_114), some (kI v_106), some (kI x_114)]) dX11_night_136 (by decide) rfl rfl ?_
                  refine ww_aload_n hX (pc := 138) dX11_night_138 rfl ?_
                  refine ww_getR hX (pc := 139) fX11_92 (by decide) (xs_49 hL) (xr_49_38 hL) dX11_night_139 ?_
                  refine ww_aload_n hX (pc := 142) dX11_night_142 rfl ?_
                  refine ww_getI hX (pc := 143) fX11_95 (by decide) (xs_49 hL) dX11_night_143 ?_
                  refine ww_iload hX (pc := 146) dX11_night_146 rfl ?_
                  refine ww_iast hX (pc := 148) (xs_72 hL) (by decide) (by omega) (by omega) dX11_night_148 ?_
                  refine ww_nmH (fun I_148 eI_148 => ?_)
                  have kI_148 : Ch [50, 61, 72] [0, 1, 25, 39, 40, 41] Ia I_148 := by rw [eI_148]; exact Ch_r kI_90 (by decide) (by decide)
                  have cI_148 : RX I_148 := by rw [eI_148]; exact RX_r cI_90 (by decide)
                  have qI_148 := RX_n cI_148
                  have r304_I_148 : I_148 51 304 = I_90 51 304 := by rw [eI_148, up2_off _ _ _ (by decide)]
                  have r305_I_148 : I_148 51 305 = I_90 51 305 := by rw [eI_148, up2_off _ _ _ (by decide)]
                  have f39_I_148 : I_148 49 39 = I_90 49 39 := by rw [eI_148, up2_off _ _ _ (by decide)]
                  have f40_I_148 : I_148 49 40 = I_90 49 40 := by rw [eI_148, up2_off _ _ _ (by decide)]
                  have f41_I_148 : I_148 49 41 = I_90 49 41 := by rw [eI_148, up2_off _ _ _ (by decide)]
                  have rf_I_148 : FU (I_148 51 304) = FU (I_90 51 304) := by rw [r304_I_148]
                  refine ww_aload_n hX (pc := 149) dX11_night_149 rfl ?_
                  refine ww_dupR hX (pc := 150) dX11_night_150 ?_
                  refine ww_getI hX (pc := 151) fX11_95 (by decide) (xs_49 hL) dX11_night_151 ?_
                  refine ww_iconst hX (pc := 154) (x := 1) dX11_night_154 rfl ?_
                  refine ww_iadd hX (pc := 155) dX11_night_155 ?_
                  refine ww_putI hX (pc := 156) (fun h9 => absurd h9 (by decide)) gX11_95 rfl (xs_49 hL) dX11_night_156 ?_
                  refine ww_nmH (fun I_156 eI_156 => ?_)
                  have kI_156 : Ch [50, 61, 72] [0, 1, 25, 39, 40, 41] Ia I_156 := by rw [eI_156]; exact Ch_f kI_148 (by decide)
                  have cI_156 : RX I_156 := by rw [eI_156]; exact RX_39 cI_148 (by omega) (by omega)
                  have qI_156 := RX_n cI_156
                  have r304_I_156 : I_156 51 304 = I_148 51 304 := by rw [eI_156, up2_off _ _ _ (by decide)]
                  have r305_I_156 : I_156 51 305 = I_148 51 305 := by rw [eI_156, up2_off _ _ _ (by decide)]
                  have f40_I_156 : I_156 49 40 = I_148 49 40 := by rw [eI_156, up2_n _ _ (Or.inr (by decide))]
                  have f41_I_156 : I_156 49 41 = I_148 49 41 := by rw [eI_156, up2_n _ _ (Or.inr (by decide))]
                  have rf_I_156 : FU (I_156 51 304) = FU (I_148 51 304) := by rw [r304_I_156]
                  have f39b : I_156 49 39 = I_148 49 39 + 1 := by rw [eI_156, up2_s]
                  refine ww_goto hX (pc := 159) (tgt := 55) dX11_night_159 (by decide) ?_
                  refine ww_sub [some (kR (some 49)), some (kI a), some (kI b), some (kI c), some (kI x_114), none, none] (aLe_s (aLe_s (aLe_s (aLe_s (aLe_s (aLe_n (aLe_n aLe_0))))))) ?_
                  exact ih_55 _ (by omega) x_114 I_156 J55 rfl ⟨kI_156, cI_156, kJ55, by omega, by omega, by omega, by omega, by omega, by omega⟩
                · simp only [w32_mod] at h_122
                  refine ww_aload_n hX (pc := 125) dX11_night_125 rfl ?_
                  refine ww_iload hX (pc := 126) dX11_night_126 rfl ?_
                  refine ww_putI hX (pc := 128) (fun h9 => absurd h9 (by decide)) gX11_347 rfl (xs_49 hL) dX11_night_128 ?_
                  refine ww_nmH (fun I_128 eI_128 => ?_)
                  have kI_128 : Ch [50, 61, 72] [0, 1, 25, 39, 40, 41] Ia I_128 := by rw [eI_128]; exact Ch_f kI_90 (by decide)
                  have cI_128 : RX I_128 := by rw [eI_128]; exact RX_f cI_90 (by decide)
                  have qI_128 := RX_n cI_128
                  have r304_I_128 : I_128 51 304 = I_90 51 304 := by rw [eI_128, up2_off _ _ _ (by decide)]
                  have r305_I_128 : I_128 51 305 = I_90 51 305 := by rw [eI_128, up2_off _ _ _ (by decide)]
                  have f39_I_128 : I_128 49 39 = I_90 49 39 := by rw [eI_128, up2_n _ _ (Or.inr (by decide))]
                  have f41_I_128 : I_128 49 41 = I_90 49 41 := by rw [eI_128, up2_n _ _ (Or.inr (by decide))]
                  have rf_I_128 : FU (I_128 51 304) = FU (I_90 51 304) := by rw [r304_I_128]
                  have f40b : I_128 49 40 = v_106 := by rw [eI_128, up2_s]
                  refine ww_goto hX (pc := 131) (tgt := 55) dX11_night_131 (by decide) ?_
                  refine ww_sub [some (kR (some 49)), some (kI a), some (kI b), some (kI c), some (kI sa), none, none] (aLe_s (aLe_s (aLe_s (aLe_s (aLe_s (aLe_n (aLe_n aLe_0))))))) ?_
                  exact ih_55 _ (by omega) sa I_128 J55 rfl ⟨kI_128, cI_128, kJ55, by omega, by omega, by omega, by omega, by omega, by omega⟩
        exact hl_55 _ 0 I_49 J_34 rfl ⟨kI_49, cI_49, kJ_34, rfl, rfl, by omega, by omega, by omega, by omega⟩
      · simp only [w32_mod] at h_24
        refine ww_aload_n hX (pc := 27) dX11_night_27 rfl ?_
        refine ww_iconst hX (pc := 28) (x := (-1)) dX11_night_28 rfl ?_
        refine vI1 hX (pc := 29) sX11_105 (xs_49 hL) (c_X11_refuses l0 hL hQ (by omega) (by omega)) (by decide) (Nat.le_refl 0) (Nat.le_refl 0) (Nat.le_of_ble_eq_true rfl) dX11_night_29 (fun x_29 I_29 J_29 h_29 => ?_)
        have kJ_29 : Kp 49 73 Ja J_29 := Kp_tr (Kp_rf (a := 49) (b := 73)) h_29.2.1
        have kI_29 : Ch [50, 61, 72] [0, 1, 25, 39, 40, 41] Ia I_29 := Ch_tr Ch_rf (Ch_wd h_29.1 (by decide) (by decide))
        have cI_29 : RX I_29 := h_29.2.2.1
        have qI_29 := RX_n cI_29
        have r304_I_29 : I_29 51 304 = Ia 51 304 := by rw [h_29.1.1 51 (by decide) (by decide)]
        have r305_I_29 : I_29 51 305 = Ia 51 305 := by rw [h_29.1.1 51 (by decide) (by decide)]
        have f39_I_29 : I_29 49 39 = Ia 49 39 := h_29.1.2 39 (by decide)
        have f40_I_29 : I_29 49 40 = Ia 49 40 := h_29.1.2 40 (by decide)
        have f41_I_29 : I_29 49 41 = Ia 49 41 := h_29.1.2 41 (by decide)
        have rf_I_29 : FU (I_29 51 304) = FU (Ia 51 304) := by rw [r304_I_29]
        refine rI hX (pc := 32) hT (Nat.le_refl 0) (Nat.le_refl 0) dX11_night_32 ?_
        exact ⟨kI_29, kJ_29, cI_29, trivial⟩
set_option maxHeartbeats 4000000 in
set_option maxRecDepth 20000 in
theorem c_X11_codes0 (l0 : Launch) {Ia Ja : aI1} {Ra : aR1} {Sa : aS1} (hL : LY Ra Sa) (hQ : RX Ia) {a b c : Int} (ha0 : 1 ≤ a) (ha1 : a ≤ 3) (hb0 : 2 ≤ b) (hb1 : b ≤ 4)  : CT l0 3 0 0 mX11_codes0 [kR (some 49), kI a, kI b, kI c] Ia Ja Ra Sa (cV (fun I' J' => Ch [51, 61, 65, 66] [25, 31] Ia I' ∧ Kp 49 73 Ja J' ∧ RX I' ∧ I' 51 304 = Ia 51 304 ∧ I' 51 305 = Ia 51 305) Ra Sa) := by
  refine ct_in pn_X11 (Nat.le_of_ble_eq_true rfl) (fun X hX hT hIn => ?_)
  have hX : aK l0 X cX11_codes0 10 RX11 none 3 0 0 := hX
  change WW X 0 [some (kR (some 49)), some (kI a), some (kI b), some (kI c), none, none, none, none, none, none] [] Ia Ja Ra Sa 0 0
  have qIa := RX_s hQ
  refine ww_iconst hX (pc := 0) (x := 0) dX11_codes0_0 rfl ?_
  refine ww_istore hX (pc := 1) (lv' := [some (kR (some 49)), some (kI a), some (kI b), some (kI c), some (kI 0), none, none, none, none, none]) dX11_codes0_1 (by decide) rfl rfl ?_
  have hl_3 : ∀ (n_3 : Nat) (i : Int) (I3 : aI1) (J3 : aI1), (256 - i).toNat = n_3 → (Ch [51, 61, 65, 66] [25, 31] Ia I3 ∧ RX I3 ∧ Kp 49 73 Ja J3 ∧ I3 51 304 = Ia 51 304 ∧ I3 51 305 = Ia 51 305 ∧ (0 ≤ i ∧ i ≤ 256)) → WW X 3 [some (kR (some 49)), some (kI a), some (kI b), some (kI c), some (kI i), none, none, none, none, none] [] I3 J3 Ra Sa 0 0 := by
    intro n_3
    induction n_3 using Nat.strongRecOn with
    | ind n_3 ih_3 =>
      intro i I3 J3 hm_3 hv_3
      obtain ⟨kI3, cI3, kJ3, r304_I3, r305_I3, hv⟩ := hv_3
      have qI3 := RX_s cI3
      have rf_I3 : FU (I3 51 304) = FU (Ia 51 304) := by rw [r304_I3]
      refine ww_iload hX (pc := 3) dX11_codes0_3 rfl ?_
      refine ww_sipush hX (pc := 5) (x := 256) dX11_codes0_5 (by decide) ?_
      refine ww_icmp_ge hX (pc := 8) (tgt := 30) dX11_codes0_8 (by decide) (fun h_8 => ?_) (fun h_8 => ?_)
      · simp only [w32_mod] at h_8
        refine ww_aload_n hX (pc := 30) dX11_codes0_30 rfl ?_
        refine ww_getR hX (pc := 31) fX11_20 (by decide) (xs_49 hL) (xr_49_3 hL) dX11_codes0_31 ?_
        refine ww_sipush hX (pc := 34) (x := 304) dX11_codes0_34 (by decide) ?_
        refine ww_iald hX (pc := 37) (xs_51 hL) (by decide) (by omega) (by omega) dX11_codes0_37 ?_
        refine ww_toI (b := I3 51 304) rfl ?_
        refine ww_nmI (fun v_38 hv_38 => ?_)
        refine ww_istore hX (pc := 38) (lv' := [some (kR (some 49)), some (kI a), some (kI b), some (kI c), some (kI v_38), none, none, none, none, none]) dX11_codes0_38 (by decide) rfl rfl ?_
        refine ww_aload_n hX (pc := 40) dX11_codes0_40 rfl ?_
        refine ww_getR hX (pc := 41) fX11_20 (by decide) (xs_49 hL) (xr_49_3 hL) dX11_codes0_41 ?_
        refine ww_sipush hX (pc := 44) (x := 305) dX11_codes0_44 (by decide) ?_
        refine ww_iald hX (pc := 47) (xs_51 hL) (by decide) (by omega) (by omega) dX11_codes0_47 ?_
        refine ww_toI (b := I3 51 305) rfl ?_
        refine ww_nmI (fun v_48 hv_48 => ?_)
        refine ww_istore hX (pc := 48) (lv' := [some (kR (some 49)), some (kI a), some (kI b), some (kI c), some (kI v_38), some (kI v_48), none, none, none, none]) dX11_codes0_48 (by decide) rfl rfl ?_
        refine ww_aload_n hX (pc := 50) dX11_codes0_50 rfl ?_
        refine ww_getR hX (pc := 51) fX11_20 (by decide) (xs_49 hL) (xr_49_3 hL) dX11_codes0_51 ?_
        refine ww_sipush hX (pc := 54) (x := 304) dX11_codes0_54 (by decide) ?_
        refine ww_iload_n hX (pc := 57) dX11_codes0_57 rfl ?_
        refine ww_iast hX (pc := 58) (xs_51 hL) (by decide) (by omega) (by omega) dX11_codes0_58 ?_
        refine ww_nmH (fun I_58 eI_58 => ?_)
        have kI_58 : Ch [51, 61, 65, 66] [25, 31] Ia I_58 := by rw [eI_58]; exact Ch_r kI3 (by decide) (by decide)
        have cI_58 : RX I_58 := by rw [eI_58]; exact RX_304 cI3 (by omega) (by omega)
        have qI_58 := RX_s cI_58
        have r305_I_58 : I_58 51 305 = I3 51 305 := by rw [eI_58, up2_n _ _ (Or.inr (by decide))]
        have n304 : I_58 51 304 = a := by rw [eI_58]; exact up2_s _ _ _ _
        have hf7 : FU (I_58 51 304) ≤ 7 := FU_3 (by omega) (by omega)
        refine ww_aload_n hX (pc := 59) dX11_codes0_59 rfl ?_
        refine ww_getR hX (pc := 60) fX11_20 (by decide) (xs_49 hL) (xr_49_3 hL) dX11_codes0_60 ?_
        refine ww_sipush hX (pc := 63) (x := 305) dX11_codes0_63 (by decide) ?_
        refine ww_iload_n hX (pc := 66) dX11_codes0_66 rfl ?_
        refine ww_iast hX (pc := 67) (xs_51 hL) (by decide) (by omega) (by omega) dX11_codes0_67 ?_
        refine ww_nmH (fun I_67 eI_67 => ?_)
        have kI_67 : Ch [51, 61, 65, 66] [25, 31] Ia I_67 := by rw [eI_67]; exact Ch_r kI_58 (by decide) (by decide)
        have cI_67 : RX I_67 := by rw [eI_67]; exact RX_305 cI_58 (by omega) (by omega)
        have qI_67 := RX_s cI_67
        have r304_I_67 : I_67 51 304 = I_58 51 304 := by rw [eI_67, up2_n _ _ (Or.inr (by decide))]
        have rf_I_67 : FU (I_67 51 304) = FU (I_58 51 304) := by rw [r304_I_67]
        have n305 : I_67 51 305 = b := by rw [eI_67]; exact up2_s _ _ _ _
        refine ww_iconst hX (pc := 68) (x := 1) dX11_codes0_68 rfl ?_
        refine ww_istore hX (pc := 69) (lv' := [some (kR (some 49)), some (kI a), some (kI b), some (kI c), some (kI v_38), some (kI v_48), some (kI 1), none, none, none]) dX11_codes0_69 (by decide) rfl rfl ?_
        refine ww_iconst hX (pc := 71) (x := 0) dX11_codes0_71 rfl ?_
        refine ww_istore hX (pc := 72) (lv' := [some (kR (some 49)), some (kI a), some (kI b), some (kI c), some (kI v_38), some (kI v_48), some (kI 1), some (kI 0), none, none]) dX11_codes0_72 (by decide) rfl rfl ?_
        have hl_74 : ∀ (n_74 : Nat) (al : Int) (i7 : Int), (256 - i7).toNat = n_74 → ((0 ≤ i7 ∧ i7 ≤ 256)) → WW X 74 [some (kR (some 49)), some (kI a), some (kI b), some (kI c), some (kI v_38), some (kI v_48), some (kI al), some (kI i7), none, none] [] I_67 J3 Ra Sa 0 0 := by
          intro n_74
          induction n_74 using Nat.strongRecOn with
          | ind n_74 ih_74 =>
            intro al i7 hm_74 hv_74
            have hv7 := hv_74
            refine ww_iload hX (pc := 74) dX11_codes0_74 rfl ?_
            refine ww_aload_n hX (pc := 76) dX11_codes0_76 rfl ?_
            refine vI0 hX (pc := 77) sX11_112 (xs_49 hL) (c_X11_states l0 hL cI_67 ) (by decide) (Nat.le_refl 0) (Nat.le_refl 0) (Nat.le_of_ble_eq_true rfl) dX11_codes0_77 (fun x_77 I_77 J_77 h_77 => ?_)
            obtain ⟨rfl, rfl, h_77⟩ := h_77
            refine ww_icmp_ge hX (pc := 80) (tgt := 95) dX11_codes0_80 (by decide) (fun h_80 => ?_) (fun h_80 => ?_)
            · simp only [w32_mod] at h_80
              refine ww_aload_n hX (pc := 95) dX11_codes0_95 rfl ?_
              refine ww_iconst hX (pc := 96) (x := 0) dX11_codes0_96 rfl ?_
              refine ww_putI hX (pc := 97) (fun h9 => absurd h9 (by decide)) gX11_324 rfl (xs_49 hL) dX11_codes0_97 ?_
              refine ww_nmH (fun I_97 eI_97 => ?_)
              have kI_97 : Ch [51, 61, 65, 66] [25, 31] Ia I_97 := by rw [eI_97]; exact Ch_f kI_67 (by decide)
              have cI_97 : RX I_97 := by rw [eI_97]; exact RX_f cI_67 (by decide)
              have qI_97 := RX_s cI_97
              have r304_I_97 : I_97 51 304 = I_67 51 304 := by rw [eI_97, up2_off _ _ _ (by decide)]
              have r305_I_97 : I_97 51 305 = I_67 51 305 := by rw [eI_97, up2_off _ _ _ (by decide)]
              have rf_I_97 : FU (I_97 51 304) = FU (I_67 51 304) := by rw [r304_I_97]
              refine ww_iconst hX (pc := 100) (x := 0) dX11_codes0_100 rfl ?_
              refine ww_istore hX (pc := 101) (lv' := [some (kR (some 49)), some (kI a), some (kI b), some (kI c), some (kI v_38), some (kI v_48), some (kI al), some (kI 0), none, none]) dX11_codes0_101 (by decide) rfl rfl ?_
              have hl_103 : ∀ (n_103 : Nat) (cc9 : Int) (I103 : aI1) (J103 : aI1), ((al + 2147483648) % 4294967296 - 2147483648 - cc9).toNat = n_103 → (Ch [51, 61, 65, 66] [25, 31] Ia I103 ∧ RX I103 ∧ Kp 49 73 Ja J103 ∧ I103 51 304 = I_97 51 304 ∧ I103 51 305 = I_97 51 305 ∧ (0 ≤ cc9 ∧ cc9 ≤ 2147483647)) → WW X 103 [some (kR (some 49)), some (kI a), some (kI b), some (kI c), some (kI v_38), some (kI v_48), some (kI al), some (kI cc9), none, none] [] I103 J103 Ra Sa 0 0 := by
                intro n_103
                induction n_103 using Nat.strongRecOn with
                | ind n_103 ih_103 =>
                  intro cc9 I103 J103 hm_103 hv_103
                  obtain ⟨kI103, cI103, kJ103, r304_I103, r305_I103, hu⟩ := hv_103
                  have qI103 := RX_s cI103
                  have rf_I103 : FU (I103 51 304) = FU (I_97 51 304) := by rw [r304_I103]
                  refine ww_iload hX (pc := 103) dX11_codes0_103 rfl ?_
                  refine ww_iload hX (pc := 105) dX11_codes0_105 rfl ?_
                  refine ww_icmp_ge hX (pc := 107) (tgt := 224) dX11_codes0_107 (by decide) (fun h_107 => ?_) (fun h_107 => ?_)
                  · simp only [w32_mod] at h_107
                    refine ww_aload_n hX (pc := 224) dX11_codes0_224 rfl ?_
                    refine ww_getR hX (pc := 225) fX11_20 (by decide) (xs_49 hL) (xr_49_3 hL) dX11_codes0_225 ?_
                    refine ww_sipush hX (pc := 228) (x := 304) dX11_codes0_228 (by decide) ?_
                    refine ww_iload hX (pc := 231) dX11_codes0_231 rfl ?_
                    refine ww_iast hX (pc := 233) (xs_51 hL) (by decide) (by omega) (by omega) dX11_codes0_233 ?_
                    refine ww_nmH (fun I_233 eI_233 => ?_)
                    have kI_233 : Ch [51, 61, 65, 66] [25, 31] Ia I_233 := by rw [eI_233]; exact Ch_r kI103 (by decide) (by decide)
                    have cI_233 : RX I_233 := by rw [eI_233]; exact RX_304 cI103 (by omega) (by omega)
                    have qI_233 := RX_s cI_233
                    have r305_I_233 : I_233 51 305 = I103 51 305 := by rw [eI_233, up2_n _ _ (Or.inr (by decide))]
                    have m304 : I_233 51 304 = v_38 := by rw [eI_233]; exact up2_s _ _ _ _
                    refine ww_aload_n hX (pc := 234) dX11_codes0_234 rfl ?_
                    refine ww_getR hX (pc := 235) fX11_20 (by decide) (xs_49 hL) (xr_49_3 hL) dX11_codes0_235 ?_
                    refine ww_sipush hX (pc := 238) (x := 305) dX11_codes0_238 (by decide) ?_
                    refine ww_iload hX (pc := 241) dX11_codes0_241 rfl ?_
                    refine ww_iast hX (pc := 243) (xs_51 hL) (by decide) (by omega) (by omega) dX11_codes0_243 ?_
                    refine ww_nmH (fun I_243 eI_243 => ?_)
                    have kI_243 : Ch [51, 61, 65, 66] [25, 31] Ia I_243 := by rw [eI_243]; exact Ch_r kI_233 (by decide) (by decide)
                    have cI_243 : RX I_243 := by rw [eI_243]; exact RX_305 cI_233 (by omega) (by omega)
                    have qI_243 := RX_s cI_243
                    have r304_I_243 : I_243 51 304 = I_233 51 304 := by rw [eI_243, up2_n _ _ (Or.inr (by decide))]
                    have rf_I_243 : FU (I_243 51 304) = FU (I_233 51 304) := by rw [r304_I_243]
                    have m305 : I_243 51 305 = v_48 := by rw [eI_243]; exact up2_s _ _ _ _
                    refine ww_iconst hX (pc := 244) (x := 0) dX11_codes0_244 rfl ?_
                    refine ww_istore hX (pc := 245) (lv' := [some (kR (some 49)), some (kI a), some (kI b), some (kI c), some (kI v_38), some (kI v_48), some (kI al), some (kI 0), none, none]) dX11_codes0_245 (by decide) rfl rfl ?_
                    have hl_247 : ∀ (n_247 : Nat) (q : Int) (I247 : aI1) (J247 : aI1), (256 - q).toNat = n_247 → (Ch [51, 61, 65, 66] [25, 31] Ia I247 ∧ RX I247 ∧ Kp 49 73 Ja J247 ∧ I247 51 304 = I_243 51 304 ∧ I247 51 305 = I_243 51 305 ∧ (0 ≤ q ∧ q ≤ 256)) → WW X 247 [some (kR (some 49)), some (kI a), some (kI b), some (kI c), some (kI v_38), some (kI v_48), some (kI al), some (kI q), none, none] [] I247 J247 Ra Sa 0 0 := by
                      intro n_247
                      induction n_247 using Nat.strongRecOn with
                      | ind n_247 ih_247 =>
                        intro q I247 J247 hm_247 hv_247
                        obtain ⟨kI247, cI247, kJ247, r304_I247, r305_I247, hw⟩ := hv_247
                        have qI247 := RX_s cI247
                        have rf_I247 : FU (I247 51 304) = FU (I_243 51 304) := by rw [r304_I247]
                        refine ww_iload hX (pc := 247) dX11_codes0_247 rfl ?_
                        refine ww_sipush hX (pc := 249) (x := 256) dX11_codes0_249 (by decide) ?_
                        refine ww_icmp_ge hX (pc := 252) (tgt := 277) dX11_codes0_252 (by decide) (fun h_252 => ?_) (fun h_252 => ?_)
                        · simp only [w32_mod] at h_252
                          refine ww_aload_n hX (pc := 277) dX11_codes0_277 rfl ?_
                          refine ww_iconst hX (pc := 278) (x := (-1)) dX11_codes0_278 rfl ?_
                          refine ww_putI hX (pc := 279) (fun h9 => absurd h9 (by decide)) gX11_62 rfl (xs_49 hL) dX11_codes0_279 ?_
                          refine ww_nmH (fun I_279 eI_279 => ?_)
                          have kI_279 : Ch [51, 61, 65, 66] [25, 31] Ia I_279 := by rw [eI_279]; exact Ch_f kI247 (by decide)
                          have cI_279 : RX I_279 := by rw [eI_279]; exact RX_f cI247 (by decide)
                          have qI_279 := RX_s cI_279
                          have r304_I_279 : I_279 51 304 = I247 51 304 := by rw [eI_279, up2_off _ _ _ (by decide)]
                          have r305_I_279 : I_279 51 305 = I247 51 305 := by rw [eI_279, up2_off _ _ _ (by decide)]
                          have rf_I_279 : FU (I_279 51 304) = FU (I247 51 304) := by rw [r304_I_279]
                          refine rV hX (pc := 282) hT (Nat.le_refl 0) (Nat.le_refl 0) dX11_codes0_282 ?_
                          exact ⟨kI_279, kJ247, cI_279, by omega, by omega⟩
                        · simp only [w32_mod] at h_252
                          refine ww_aload_n hX (pc := 255) dX11_codes0_255 rfl ?_
                          refine ww_getR hX (pc := 256) fX11_20 (by decide) (xs_49 hL) (xr_49_3 hL) dX11_codes0_256 ?_
                          refine ww_iconst hX (pc := 259) (x := 0) dX11_codes0_259 rfl ?_
                          refine ww_iload hX (pc := 260) dX11_codes0_260 rfl ?_
                          refine ww_iadd hX (pc := 262) dX11_codes0_262 ?_
                          refine ww_aload_n hX (pc := 263) dX11_codes0_263 rfl ?_
                          refine ww_getR hX (pc := 264) fX11_71 (by decide) (xs_49 hL) (xr_49_29 hL) dX11_codes0_264 ?_
                          refine ww_iload hX (pc := 267) dX11_codes0_267 rfl ?_
                          refine ww_iald hX (pc := 269) (xs_65 hL) (by decide) (by omega) (by omega) dX11_codes0_269 ?_
                          refine ww_iast hX (pc := 270) (xs_51 hL) (by decide) (by omega) (by omega) dX11_codes0_270 ?_
                          refine ww_nmH (fun I_270 eI_270 => ?_)
                          have kI_270 : Ch [51, 61, 65, 66] [25, 31] Ia I_270 := by rw [eI_270]; exact Ch_r kI247 (by decide) (by decide)
                          have cI_270 : RX I_270 := by rw [eI_270]; exact RX_lo cI247 (by omega)
                          have qI_270 := RX_s cI_270
                          have r304_I_270 : I_270 51 304 = I247 51 304 := by rw [eI_270, up2_n _ _ (Or.inr (by omega))]
                          have r305_I_270 : I_270 51 305 = I247 51 305 := by rw [eI_270, up2_n _ _ (Or.inr (by omega))]
                          have rf_I_270 : FU (I_270 51 304) = FU (I247 51 304) := by rw [r304_I_270]
                          refine ww_iinc hX (pc := 271) (lv' := [some (kR (some 49)), some (kI a), some (kI b), some (kI c), some (kI v_38), some (kI v_48), some (kI al), some (kI (q + 1)), none, none]) dX11_codes0_271 rfl (by decide) rfl rfl ?_
                          refine ww_goto hX (pc := 274) (tgt := 247) dX11_codes0_274 (by decide) ?_
                          exact ih_247 _ (by omega) (q + 1) I_270 J247 rfl ⟨kI_270, cI_270, kJ247, by omega, by omega, by omega⟩
                    exact hl_247 _ 0 I_243 J103 rfl ⟨kI_243, cI_243, kJ103, rfl, rfl, by omega⟩
                  · simp only [w32_mod] at h_107
                    refine ww_iload hX (pc := 110) dX11_codes0_110 rfl ?_
                    refine ww_istore hX (pc := 112) (lv' := [some (kR (some 49)), some (kI a), some (kI b), some (kI c), some (kI v_38), some (kI v_48), some (kI al), some (kI cc9), some (kI cc9), none]) dX11_codes0_112 (by decide) rfl rfl ?_
                    refine ww_aload_n hX (pc := 114) dX11_codes0_114 rfl ?_
                    refine vI0 hX (pc := 115) sX11_112 (xs_49 hL) (c_X11_states l0 hL cI103 ) (by decide) (Nat.le_refl 0) (Nat.le_refl 0) (Nat.le_of_ble_eq_true rfl) dX11_codes0_115 (fun x_115 I_115 J_115 h_115 => ?_)
                    obtain ⟨rfl, rfl, h_115⟩ := h_115
                    refine ww_iconst hX (pc := 118) (x := 1) dX11_codes0_118 rfl ?_
                    refine ww_isub hX (pc := 119) dX11_codes0_119 ?_
                    refine ww_nmI (fun v_120 hv_120 => ?_)
                    refine ww_istore hX (pc := 120) (lv' := [some (kR (some 49)), some (kI a), some (kI b), some (kI c), some (kI v_38), some (kI v_48), some (kI al), some (kI cc9), some (kI cc9), some (kI v_120)]) dX11_codes0_120 (by decide) rfl rfl ?_
                    have hl_122 : ∀ (n_122 : Nat) (re : Int) (q : Int) (I122 : aI1) (J122 : aI1), (q + 1).toNat = n_122 → (Ch [51, 61, 65, 66] [25, 31] Ia I122 ∧ RX I122 ∧ Kp 49 73 Ja J122 ∧ I122 51 304 = I103 51 304 ∧ I122 51 305 = I103 51 305 ∧ (-1 ≤ q ∧ q ≤ 255)) → WW X 122 [some (kR (some 49)), some (kI a), some (kI b), some (kI c), some (kI v_38), some (kI v_48), some (kI al), some (kI cc9), some (kI re), some (kI q)] [] I122 J122 Ra Sa 0 0 := by
                      intro n_122
                      induction n_122 using Nat.strongRecOn with
                      | ind n_122 ih_122 =>
                        intro re q I122 J122 hm_122 hv_122
                        obtain ⟨kI122, cI122, kJ122, r304_I122, r305_I122, hw⟩ := hv_122
                        have qI122 := RX_s cI122
                        have rf_I122 : FU (I122 51 304) = FU (I103 51 304) := by rw [r304_I122]
                        refine ww_iload hX (pc := 122) dX11_codes0_122 rfl ?_
                        refine ww_if_lt hX (pc := 124) (tgt := 152) dX11_codes0_124 (by decide) (fun h_124 => ?_) (fun h_124 => ?_)
                        · simp only [w32_mod] at h_124
                          refine ww_aload_n hX (pc := 152) dX11_codes0_152 rfl ?_
                          refine ww_iconst hX (pc := 153) (x := 0) dX11_codes0_153 rfl ?_
                          refine vV1 hX (pc := 154) sX11_285 (xs_49 hL) (c_X11_lasts0 l0 hL cI122 ) (by decide) (Nat.le_refl 0) (Nat.le_refl 0) (Nat.le_of_ble_eq_true rfl) dX11_codes0_154 (fun I_154 J_154 h_154 => ?_)
                          have kJ_154 : Kp 49 73 Ja J_154 := Kp_tr kJ122 h_154.2.1
                          have kI_154 : Ch [51, 61, 65, 66] [25, 31] Ia I_154 := Ch_tr kI122 (Ch_wd h_154.1 (by decide) (by decide))
                          have cI_154 : RX I_154 := h_154.2.2.1
                          have qI_154 := RX_s cI_154
                          have r304_I_154 : I_154 51 304 = I122 51 304 := by rw [h_154.1.1 51 (by decide) (by decide)]
                          have r305_I_154 : I_154 51 305 = I122 51 305 := by rw [h_154.1.1 51 (by decide) (by decide)]
                          have rf_I_154 : FU (I_154 51 304) = FU (I122 51 304) := by rw [r304_I_154]
                          refine ww_aload_n hX (pc := 157) dX11_codes0_157 rfl ?_
                          refine ww_getR hX (pc := 158) fX11_55 (by decide) (xs_49 hL) (xr_49_23 hL) dX11_codes0_158 ?_
                          refine ww_iconst hX (pc := 161) (x := 0) dX11_codes0_161 rfl ?_
                          refine ww_iald hX (pc := 162) (xs_61 hL) (by decide) (by omega) (by omega) dX11_codes0_162 ?_
                          refine ww_toI (b := I_154 61 0) rfl ?_
                          refine ww_iload_n hX (pc := 163) dX11_codes0_163 rfl ?_
                          refine ww_icmp_ge hX (pc := 164) (tgt := 170) dX11_codes0_164 (by decide) (fun h_164 => ?_) (fun h_164 => ?_)
                          · simp only [w32_mod] at h_164
                            refine ww_aload_n hX (pc := 170) dX11_codes0_170 rfl ?_
                            refine ww_getI hX (pc := 171) fX11_324 (by decide) (xs_49 hL) dX11_codes0_171 ?_
                            refine ww_if_ne hX (pc := 174) (tgt := 208) dX11_codes0_174 (by decide) (fun h_174 => ?_) (fun h_174 => ?_)
                            · simp only [w32_mod] at h_174
                              refine ww_aload_n hX (pc := 208) dX11_codes0_208 rfl ?_
                              refine ww_dupR hX (pc := 209) dX11_codes0_209 ?_
                              refine ww_getI hX (pc := 210) fX11_324 (by decide) (xs_49 hL) dX11_codes0_210 ?_
                              refine ww_iconst hX (pc := 213) (x := 1) dX11_codes0_213 rfl ?_
                              refine ww_iadd hX (pc := 214) dX11_codes0_214 ?_
                              refine ww_putI hX (pc := 215) (fun h9 => absurd h9 (by decide)) gX11_324 rfl (xs_49 hL) dX11_codes0_215 ?_
                              refine ww_nmH (fun I_215 eI_215 => ?_)
                              have kI_215 : Ch [51, 61, 65, 66] [25, 31] Ia I_215 := by rw [eI_215]; exact Ch_f kI_154 (by decide)
                              have cI_215 : RX I_215 := by rw [eI_215]; exact RX_f cI_154 (by decide)
                              have qI_215 := RX_s cI_215
                              have r304_I_215 : I_215 51 304 = I_154 51 304 := by rw [eI_215, up2_off _ _ _ (by decide)]
                              have r305_I_215 : I_215 51 305 = I_154 51 305 := by rw [eI_215, up2_off _ _ _ (by decide)]
                              have rf_I_215 : FU (I_215 51 304) = FU (I_154 51 304) := by rw [r304_I_215]
                              refine ww_iinc hX (pc := 218) (lv' := [some (kR (some 49)), some (kI a), some (kI b), some (kI c), some (kI v_38), some (kI v_48), some (kI al), some (kI (cc9 + 1)), some (kI re), some (kI q)]) dX11_codes0_218 rfl (by decide) rfl rfl ?_
                              refine ww_goto hX (pc := 221) (tgt := 103) dX11_codes0_221 (by decide) ?_
                              refine ww_sub [some (kR (some 49)), some (kI a), some (kI b), some (kI c), some (kI v_38), some (kI v_48), some (kI al), some (kI (cc9 + 1)), none, none] (aLe_s (aLe_s (aLe_s (aLe_s (aLe_s (aLe_s (aLe_s (aLe_s (aLe_n (aLe_n aLe_0)))))))))) ?_
                              exact ih_103 _ (by omega) (cc9 + 1) I_215 J_154 rfl ⟨kI_215, cI_215, kJ_154, by omega, by omega, by omega⟩
                            · simp only [w32_mod] at h_174
                              refine ww_iconst hX (pc := 177) (x := 0) dX11_codes0_177 rfl ?_
                              refine ww_istore hX (pc := 178) (lv' := [some (kR (some 49)), some (kI a), some (kI b), some (kI c), some (kI v_38), some (kI v_48), some (kI al), some (kI cc9), some (kI re), some (kI 0)]) dX11_codes0_178 (by decide) rfl rfl ?_
                              have hl_180 : ∀ (n_180 : Nat) (q : Int) (I180 : aI1) (J180 : aI1), (8 - q).toNat = n_180 → (Ch [51, 61, 65, 66] [25, 31] Ia I180 ∧ RX I180 ∧ Kp 49 73 Ja J180 ∧ I180 51 304 = I_154 51 304 ∧ I180 51 305 = I_154 51 305 ∧ (0 ≤ q ∧ q ≤ 8)) → WW X 180 [some (kR (some 49)), some (kI a), some (kI b), some (kI c), some (kI v_38), some (kI v_48), some (kI al), some (kI cc9), some (kI re), some (kI q)] [] I180 J180 Ra Sa 0 0 := by
                                intro n_180
                                induction n_180 using Nat.strongRecOn with
                                | ind n_180 ih_180 =>
                                  intro q I180 J180 hm_180 hv_180
                                  obtain ⟨kI180, cI180, kJ180, r304_I180, r305_I180, hw⟩ := hv_180
                                  have qI180 := RX_s cI180
                                  have rf_I180 : FU (I180 51 304) = FU (I_154 51 304) := by rw [r304_I180]
                                  refine ww_iload hX (pc := 180) dX11_codes0_180 rfl ?_
                                  refine ww_aload_n hX (pc := 182) dX11_codes0_182 rfl ?_
                                  refine vI0 hX (pc := 183) sX11_112 (xs_49 hL) (c_X11_states l0 hL cI180 ) (by decide) (Nat.le_refl 0) (Nat.le_refl 0) (Nat.le_of_ble_eq_true rfl) dX11_codes0_183 (fun x_183 I_183 J_183 h_183 => ?_)
                                  obtain ⟨rfl, rfl, h_183⟩ := h_183
                                  refine ww_icmp_ge hX (pc := 186) (tgt := 208) dX11_codes0_186 (by decide) (fun h_186 => ?_) (fun h_186 => ?_)
                                  · simp only [w32_mod] at h_186
                                    refine ww_aload_n hX (pc := 208) dX11_codes0_208 rfl ?_
                                    refine ww_dupR hX (pc := 209) dX11_codes0_209 ?_
                                    refine ww_getI hX (pc := 210) fX11_324 (by decide) (xs_49 hL) dX11_codes0_210 ?_
                                    refine ww_iconst hX (pc := 213) (x := 1) dX11_codes0_213 rfl ?_
                                    refine ww_iadd hX (pc := 214) dX11_codes0_214 ?_
                                    refine ww_putI hX (pc := 215) (fun h9 => absurd h9 (by decide)) gX11_324 rfl (xs_49 hL) dX11_codes0_215 ?_
                                    refine ww_nmH (fun I_215 eI_215 => ?_)
                                    have kI_215 : Ch [51, 61, 65, 66] [25, 31] Ia I_215 := by rw [eI_215]; exact Ch_f kI180 (by decide)
                                    have cI_215 : RX I_215 := by rw [eI_215]; exact RX_f cI180 (by decide)
                                    have qI_215 := RX_s cI_215
                                    have r304_I_215 : I_215 51 304 = I180 51 304 := by rw [eI_215, up2_off _ _ _ (by decide)]
                                    have r305_I_215 : I_215 51 305 = I180 51 305 := by rw [eI_215, up2_off _ _ _ (by decide)]
                                    have rf_I_215 : FU (I_215 51 304) = FU (I180 51 304) := by rw [r304_I_215]
                                    refine ww_iinc hX (pc := 218) (lv' := [some (kR (some 49)), some (kI a), some (kI b), some (kI c), some (kI v_38), some (kI v_48), some (kI al), some (kI (cc9 + 1)), some (kI re), some (kI q)]) dX11_codes0_218 rfl (by decide) rfl rfl ?_
                                    refine ww_goto hX (pc := 221) (tgt := 103) dX11_codes0_221 (by decide) ?_
                                    refine ww_sub [some (kR (some 49)), some (kI a), some (kI b), some (kI c), some (kI v_38), some (kI v_48), some (kI al), some (kI (cc9 + 1)), none, none] (aLe_s (aLe_s (aLe_s (aLe_s (aLe_s (aLe_s (aLe_s (aLe_s (aLe_n (aLe_n aLe_0)))))))))) ?_
                                    exact ih_103 _ (by omega) (cc9 + 1) I_215 J180 rfl ⟨kI_215, cI_215, kJ180, by omega, by omega, by omega⟩
                                  · simp only [w32_mod] at h_186
                                    refine ww_aload_n hX (pc := 189) dX11_codes0_189 rfl ?_
                                    refine ww_getR hX (pc := 190) fX11_74 (by decide) (xs_49 hL) (xr_49_30 hL) dX11_codes0_190 ?_
                                    refine ww_iload hX (pc := 193) dX11_codes0_193 rfl ?_
                                    refine ww_aload_n hX (pc := 195) dX11_codes0_195 rfl ?_
                                    refine ww_iload hX (pc := 196) dX11_codes0_196 rfl ?_
                                    refine vI1 hX (pc := 198) sX11_126 (xs_49 hL) (c_X11_readOf l0 hL cI180 (by omega) (by omega)) (by decide) (Nat.le_refl 0) (Nat.le_refl 0) (Nat.le_of_ble_eq_true rfl) dX11_codes0_198 (fun x_198 I_198 J_198 h_198 => ?_)
                                    obtain ⟨rfl, rfl, h_198⟩ := h_198
                                    refine ww_iast hX (pc := 201) (xs_66 hL) (by decide) (by omega) (by omega) dX11_codes0_201 ?_
                                    refine ww_nmH (fun I_201 eI_201 => ?_)
                                    have kI_201 : Ch [51, 61, 65, 66] [25, 31] Ia I_201 := by rw [eI_201]; exact Ch_r kI180 (by decide) (by decide)
                                    have cI_201 : RX I_201 := by rw [eI_201]; exact RX_r cI180 (by decide)
                                    have qI_201 := RX_s cI_201
                                    have r304_I_201 : I_201 51 304 = I180 51 304 := by rw [eI_201, up2_off _ _ _ (by decide)]
                                    have r305_I_201 : I_201 51 305 = I180 51 305 := by rw [eI_201, up2_off _ _ _ (by decide)]
                                    have rf_I_201 : FU (I_201 51 304) = FU (I180 51 304) := by rw [r304_I_201]
                                    refine ww_iinc hX (pc := 202) (lv' := [some (kR (some 49)), some (kI a), some (kI b), some (kI c), some (kI v_38), some (kI v_48), some (kI al), some (kI cc9), some (kI re), some (kI (q + 1))]) dX11_codes0_202 rfl (by decide) rfl rfl ?_
                                    refine ww_goto hX (pc := 205) (tgt := 180) dX11_codes0_205 (by decide) ?_
                                    exact ih_180 _ (by omega) (q + 1) I_201 J180 rfl ⟨kI_201, cI_201, kJ180, by omega, by omega, by omega⟩
                              exact hl_180 _ 0 I_154 J_154 rfl ⟨kI_154, cI_154, kJ_154, rfl, rfl, by omega⟩
                          · simp only [w32_mod] at h_164
                            refine ww_goto hX (pc := 167) (tgt := 218) dX11_codes0_167 (by decide) ?_
                            refine ww_iinc hX (pc := 218) (lv' := [some (kR (some 49)), some (kI a), some (kI b), some (kI c), some (kI v_38), some (kI v_48), some (kI al), some (kI (cc9 + 1)), some (kI re), some (kI q)]) dX11_codes0_218 rfl (by decide) rfl rfl ?_
                            refine ww_goto hX (pc := 221) (tgt := 103) dX11_codes0_221 (by decide) ?_
                            refine ww_sub [some (kR (some 49)), some (kI a), some (kI b), some (kI c), some (kI v_38), some (kI v_48), some (kI al), some (kI (cc9 + 1)), none, none] (aLe_s (aLe_s (aLe_s (aLe_s (aLe_s (aLe_s (aLe_s (aLe_s (aLe_n (aLe_n aLe_0)))))))))) ?_
                            exact ih_103 _ (by omega) (cc9 + 1) I_154 J_154 rfl ⟨kI_154, cI_154, kJ_154, by omega, by omega, by omega⟩
                        · simp only [w32_mod] at h_124
                          refine ww_aload_n hX (pc := 127) dX11_codes0_127 rfl ?_
                          refine ww_getR hX (pc := 128) fX11_20 (by decide) (xs_49 hL) (xr_49_3 hL) dX11_codes0_128 ?_
                          refine ww_iconst hX (pc := 131) (x := 0) dX11_codes0_131 rfl ?_
                          refine ww_iload hX (pc := 132) dX11_codes0_132 rfl ?_
                          refine ww_iadd hX (pc := 134) dX11_codes0_134 ?_
                          refine ww_iload hX (pc := 135) dX11_codes0_135 rfl ?_
                          refine ww_iload_n hX (pc := 137) dX11_codes0_137 rfl ?_
                          refine ww_irem hX (pc := 138) dX11_codes0_138 (by rw [w32_id (by omega) (by omega)]; omega) ?_
                          refine ww_iast hX (pc := 139) (xs_51 hL) (by decide) (by omega) (by omega) dX11_codes0_139 ?_
                          refine ww_nmH (fun I_139 eI_139 => ?_)
                          have kI_139 : Ch [51, 61, 65, 66] [25, 31] Ia I_139 := by rw [eI_139]; exact Ch_r kI122 (by decide) (by decide)
                          have cI_139 : RX I_139 := by rw [eI_139]; exact RX_lo cI122 (by omega)
                          have qI_139 := RX_s cI_139
                          have r304_I_139 : I_139 51 304 = I122 51 304 := by rw [eI_139, up2_n _ _ (Or.inr (by omega))]
                          have r305_I_139 : I_139 51 305 = I122 51 305 := by rw [eI_139, up2_n _ _ (Or.inr (by omega))]
                          have rf_I_139 : FU (I_139 51 304) = FU (I122 51 304) := by rw [r304_I_139]
                          refine ww_iload hX (pc := 140) dX11_codes0_140 rfl ?_
                          refine ww_iload_n hX (pc := 142) dX11_codes0_142 rfl ?_
                          refine ww_idiv hX (pc := 143) dX11_codes0_143 (by rw [w32_id (by omega) (by omega)]; omega) ?_
                          refine ww_nmI (fun v_144 hv_144 => ?_)
                          refine ww_istore hX (pc := 144) (lv' := [some (kR (some 49)), some (kI a), some (kI b), some (kI c), some (kI v_38), some (kI v_48), some (kI al), some (kI cc9), some (kI v_144), some (kI q)]) dX11_codes0_144 (by decide) rfl rfl ?_
                          refine ww_iinc hX (pc := 146) (lv' := [some (kR (some 49)), some (kI a), some (kI b), some (kI c), some (kI v_38), some (kI v_48), some (kI al), some (kI cc9), some (kI v_144), some (kI (q + (-1)))]) dX11_codes0_146 rfl (by decide) rfl rfl ?_
                          refine ww_goto hX (pc := 149) (tgt := 122) dX11_codes0_149 (by decide) ?_
                          exact ih_122 _ (by omega) v_144 (q + (-1)) I_139 J122 rfl ⟨kI_139, cI_139, kJ122, by omega, by omega, by omega⟩
                    exact hl_122 _ cc9 v_120 I103 J103 rfl ⟨kI103, cI103, kJ103, rfl, rfl, by omega⟩
              exact hl_103 _ 0 I_97 J3 rfl ⟨kI_97, cI_97, kJ3, rfl, rfl, by omega⟩
            · simp only [w32_mod] at h_80
              refine ww_iload hX (pc := 83) dX11_codes0_83 rfl ?_
              refine ww_iload_n hX (pc := 85) dX11_codes0_85 rfl ?_
              refine ww_imul hX (pc := 86) dX11_codes0_86 ?_
              refine ww_nmI (fun v_87 hv_87 => ?_)
              refine ww_istore hX (pc := 87) (lv' := [some (kR (some 49)), some (kI a), some (kI b), some (kI c), some (kI v_38), some (kI v_48), some (kI v_87), some (kI i7), none, none]) dX11_codes0_87 (by decide) rfl rfl ?_
              refine ww_iinc hX (pc := 89) (lv' := [some (kR (some 49)), some (kI a), some (kI b), some (kI c), some (kI v_38), some (kI v_48), some (kI v_87), some (kI (i7 + 1)), none, none]) dX11_codes0_89 rfl (by decide) rfl rfl ?_
              refine ww_goto hX (pc := 92) (tgt := 74) dX11_codes0_92 (by decide) ?_
              exact ih_74 _ (by omega) v_87 (i7 + 1) rfl (by omega)
        exact hl_74 _ 1 0 rfl (by omega)
      · simp only [w32_mod] at h_8
        refine ww_aload_n hX (pc := 11) dX11_codes0_11 rfl ?_
        refine ww_getR hX (pc := 12) fX11_71 (by decide) (xs_49 hL) (xr_49_29 hL) dX11_codes0_12 ?_
        refine ww_iload hX (pc := 15) dX11_codes0_15 rfl ?_
        refine ww_aload_n hX (pc := 17) dX11_codes0_17 rfl ?_
        refine ww_iload hX (pc := 18) dX11_codes0_18 rfl ?_
        refine vI1 hX (pc := 20) sX11_126 (xs_49 hL) (c_X11_readOf l0 hL cI3 (by omega) (by omega)) (by decide) (Nat.le_refl 0) (Nat.le_refl 0) (Nat.le_of_ble_eq_true rfl) dX11_codes0_20 (fun x_20 I_20 J_20 h_20 => ?_)
        obtain ⟨rfl, rfl, h_20⟩ := h_20
        refine ww_iast hX (pc := 23) (xs_65 hL) (by decide) (by omega) (by omega) dX11_codes0_23 ?_
        refine ww_nmH (fun I_23 eI_23 => ?_)
        have kI_23 : Ch [51, 61, 65, 66] [25, 31] Ia I_23 := by rw [eI_23]; exact Ch_r kI3 (by decide) (by decide)
        have cI_23 : RX I_23 := by rw [eI_23]; exact RX_r cI3 (by decide)
        have qI_23 := RX_s cI_23
        have r304_I_23 : I_23 51 304 = I3 51 304 := by rw [eI_23, up2_off _ _ _ (by decide)]
        have r305_I_23 : I_23 51 305 = I3 51 305 := by rw [eI_23, up2_off _ _ _ (by decide)]
        have rf_I_23 : FU (I_23 51 304) = FU (I3 51 304) := by rw [r304_I_23]
        refine ww_iinc hX (pc := 24) (lv' := [some (kR (some 49)), some (kI a), some (kI b), some (kI c), some (kI (i + 1)), none, none, none, none, none]) dX11_codes0_24 rfl (by decide) rfl rfl ?_
        refine ww_goto hX (pc := 27) (tgt := 3) dX11_codes0_27 (by decide) ?_
        exact ih_3 _ (by omega) (i + 1) I_23 J3 rfl ⟨kI_23, cI_23, kJ3, by omega, by omega, by omega⟩
  exact hl_3 _ 0 Ia Ja rfl ⟨Ch_rf, hQ, (Kp_rf (a := 49) (b := 73)), rfl, rfl, by omega⟩
set_option maxHeartbeats 4000000 in
set_option maxRecDepth 20000 in
theorem c_X11_codes (l0 : Launch) {Ia Ja : aI1} {Ra : aR1} {Sa : aS1} (hL : LY Ra Sa) (hQ : RX Ia) {a b c : Int} (ha0 : -2147483648 ≤ a) (ha1 : a < 2147483648) (hb0 : -2147483648 ≤ b) (hb1 : b < 2147483648) (hc0 : -2147483648 ≤ c) (hc1 : c < 2147483648)  : CT l0 4 0 0 mX11_codes [kR (some 49), kI a, kI b, kI c] Ia Ja Ra Sa (cI (fun x I' J' => Ch [51, 61, 65, 66] [25, 31] Ia I' ∧ Kp 49 73 Ja J' ∧ RX I' ∧ True) Ra Sa) := by
  refine ct_in pn_X11 (Nat.le_of_ble_eq_true rfl) (fun X hX hT hIn => ?_)
  have hX : aK l0 X cX11_codes 4 RX11 (some .int) 4 0 0 := hX
  change WW X 0 [some (kR (some 49)), some (kI a), some (kI b), some (kI c)] [] Ia Ja Ra Sa 0 0
  have qIa := RX_o hQ
  refine ww_iload_n hX (pc := 0) dX11_codes_0 rfl ?_
  refine ww_iload_n hX (pc := 1) dX11_codes_1 rfl ?_
  refine ww_iload_n hX (pc := 2) dX11_codes_2 rfl ?_
  refine sI3 hX (pc := 3) sX11_327 (c_X11_areCodes l0 (by omega) (by omega) (by omega) (by omega) (by omega) (by omega)) (by decide) (Nat.le_refl 0) (Nat.le_refl 0) (Nat.le_of_ble_eq_true rfl) dX11_codes_3 (fun x_3 I_3 J_3 h_3 => ?_)
  obtain ⟨rfl, rfl, h_3⟩ := h_3
  refine ww_if_ne hX (pc := 6) (tgt := 11) dX11_codes_6 (by decide) (fun h_6 => ?_) (fun h_6 => ?_)
  · simp only [w32_mod] at h_6
    refine ww_aload_n hX (pc := 11) dX11_codes_11 rfl ?_
    refine ww_iload_n hX (pc := 12) dX11_codes_12 rfl ?_
    refine ww_iload_n hX (pc := 13) dX11_codes_13 rfl ?_
    refine ww_iload_n hX (pc := 14) dX11_codes_14 rfl ?_
    refine vV3 hX (pc := 15) sX11_330 (xs_49 hL) (c_X11_codes0 l0 hL hQ (by omega) (by omega) (by omega) (by omega)) (by decide) (Nat.le_refl 0) (Nat.le_refl 0) (Nat.le_of_ble_eq_true rfl) dX11_codes_15 (fun I_15 J_15 h_15 => ?_)
    have kJ_15 : Kp 49 73 Ja J_15 := Kp_tr (Kp_rf (a := 49) (b := 73)) h_15.2.1
    have kI_15 : Ch [51, 61, 65, 66] [25, 31] Ia I_15 := Ch_tr Ch_rf (Ch_wd h_15.1 (by decide) (by decide))
    have cI_15 : RX I_15 := h_15.2.2.1
    have qI_15 := RX_o cI_15
    refine ww_aload_n hX (pc := 18) dX11_codes_18 rfl ?_
    refine ww_getI hX (pc := 19) fX11_324 (by decide) (xs_49 hL) dX11_codes_19 ?_
    refine rI hX (pc := 22) hT (Nat.le_refl 0) (Nat.le_refl 0) dX11_codes_22 ?_
    exact ⟨kI_15, kJ_15, cI_15, trivial⟩
  · simp only [w32_mod] at h_6
    refine ww_iconst hX (pc := 9) (x := (-1)) dX11_codes_9 rfl ?_
    refine rI hX (pc := 10) hT (Nat.le_refl 0) (Nat.le_refl 0) dX11_codes_10 ?_
    exact ⟨Ch_rf, (Kp_rf (a := 49) (b := 73)), hQ, trivial⟩
set_option maxHeartbeats 4000000 in
set_option maxRecDepth 20000 in
theorem c_X11_make (l0 : Launch) {Ia Ja : aI1} {Ra : aR1} {Sa : aS1} (hL : LY Ra Sa) (hQ : RX Ia) {a b c : Int} (ha0 : -2147483648 ≤ a) (ha1 : a < 2147483648) (hb0 : -2147483648 ≤ b) (hb1 : b < 2147483648) (hc0 : -2147483648 ≤ c) (hc1 : c < 2147483648)  : CT l0 4 0 0 mX11_make [kR (some 49), kI a, kI b, kI c] Ia Ja Ra Sa (cI (fun x I' J' => Ch [50, 51, 61, 65, 66] [0, 1, 25, 31] Ia I' ∧ Kp 49 73 Ja J' ∧ RX I' ∧ True) Ra Sa) := by
  refine ct_in pn_X11 (Nat.le_of_ble_eq_true rfl) (fun X hX hT hIn => ?_)
  have hX : aK l0 X cX11_make 5 RX11 (some .int) 4 0 0 := hX
  change WW X 0 [some (kR (some 49)), some (kI a), some (kI b), some (kI c), none] [] Ia Ja Ra Sa 0 0
  have qIa := RX_o hQ
  refine ww_iload_n hX (pc := 0) dX11_make_0 rfl ?_
  refine ww_iload_n hX (pc := 1) dX11_make_1 rfl ?_
  refine ww_iload_n hX (pc := 2) dX11_make_2 rfl ?_
  refine sI3 hX (pc := 3) sX11_327 (c_X11_areCodes l0 (by omega) (by omega) (by omega) (by omega) (by omega) (by omega)) (by decide) (Nat.le_refl 0) (Nat.le_refl 0) (Nat.le_of_ble_eq_true rfl) dX11_make_3 (fun x_3 I_3 J_3 h_3 => ?_)
  obtain ⟨rfl, rfl, h_3⟩ := h_3
  refine ww_if_ne hX (pc := 6) (tgt := 15) dX11_make_6 (by decide) (fun h_6 => ?_) (fun h_6 => ?_)
  · simp only [w32_mod] at h_6
    refine ww_iload_n hX (pc := 15) dX11_make_15 rfl ?_
    refine ww_aload_n hX (pc := 16) dX11_make_16 rfl ?_
    refine ww_getR hX (pc := 17) fX11_20 (by decide) (xs_49 hL) (xr_49_3 hL) dX11_make_17 ?_
    refine ww_sipush hX (pc := 20) (x := 304) dX11_make_20 (by decide) ?_
    refine ww_iald hX (pc := 23) (xs_51 hL) (by decide) (by omega) (by omega) dX11_make_23 ?_
    refine ww_toI (b := Ia 51 304) rfl ?_
    refine ww_icmp_ne hX (pc := 24) (tgt := 39) dX11_make_24 (by decide) (fun h_24 => ?_) (fun h_24 => ?_)
    · simp only [w32_mod] at h_24
      refine ww_aload_n hX (pc := 39) dX11_make_39 rfl ?_
      refine ww_bipush hX (pc := 40) (x := (-3)) dX11_make_40 (by decide) ?_
      refine vI1 hX (pc := 42) sX11_105 (xs_49 hL) (c_X11_refuses l0 hL hQ (by omega) (by omega)) (by decide) (Nat.le_refl 0) (Nat.le_refl 0) (Nat.le_of_ble_eq_true rfl) dX11_make_42 (fun x_42 I_42 J_42 h_42 => ?_)
      have kJ_42 : Kp 49 73 Ja J_42 := Kp_tr (Kp_rf (a := 49) (b := 73)) h_42.2.1
      have kI_42 : Ch [50, 51, 61, 65, 66] [0, 1, 25, 31] Ia I_42 := Ch_tr Ch_rf (Ch_wd h_42.1 (by decide) (by decide))
      have cI_42 : RX I_42 := h_42.2.2.1
      have qI_42 := RX_o cI_42
      have r304_I_42 : I_42 51 304 = Ia 51 304 := by rw [h_42.1.1 51 (by decide) (by decide)]
      have r305_I_42 : I_42 51 305 = Ia 51 305 := by rw [h_42.1.1 51 (by decide) (by decide)]
      have rf_I_42 : FU (I_42 51 304) = FU (Ia 51 304) := by rw [r304_I_42]
      refine rI hX (pc := 45) hT (Nat.le_refl 0) (Nat.le_refl 0) dX11_make_45 ?_
      exact ⟨kI_42, kJ_42, cI_42, trivial⟩
    · simp only [w32_mod] at h_24
      refine ww_iload_n hX (pc := 27) dX11_make_27 rfl ?_
      refine ww_aload_n hX (pc := 28) dX11_make_28 rfl ?_
      refine ww_getR hX (pc := 29) fX11_20 (by decide) (xs_49 hL) (xr_49_3 hL) dX11_make_29 ?_
      refine ww_sipush hX (pc := 32) (x := 305) dX11_make_32 (by decide) ?_
      refine ww_iald hX (pc := 35) (xs_51 hL) (by decide) (by omega) (by omega) dX11_make_35 ?_
      refine ww_toI (b := Ia 51 305) rfl ?_
      refine ww_icmp_eq hX (pc := 36) (tgt := 46) dX11_make_36 (by decide) (fun h_36 => ?_) (fun h_36 => ?_)
      · simp only [w32_mod] at h_36
        refine ww_aload_n hX (pc := 46) dX11_make_46 rfl ?_
        refine ww_iload_n hX (pc := 47) dX11_make_47 rfl ?_
        refine ww_iload_n hX (pc := 48) dX11_make_48 rfl ?_
        refine ww_iload_n hX (pc := 49) dX11_make_49 rfl ?_
        refine vV3 hX (pc := 50) sX11_330 (xs_49 hL) (c_X11_codes0 l0 hL hQ (by omega) (by omega) (by omega) (by omega)) (by decide) (Nat.le_refl 0) (Nat.le_refl 0) (Nat.le_of_ble_eq_true rfl) dX11_make_50 (fun I_50 J_50 h_50 => ?_)
        have kJ_50 : Kp 49 73 Ja J_50 := Kp_tr (Kp_rf (a := 49) (b := 73)) h_50.2.1
        have kI_50 : Ch [50, 51, 61, 65, 66] [0, 1, 25, 31] Ia I_50 := Ch_tr Ch_rf (Ch_wd h_50.1 (by decide) (by decide))
        have cI_50 : RX I_50 := h_50.2.2.1
        have qI_50 := RX_o cI_50
        have hf7 : FU (I_50 51 304) ≤ 7 := FU_3 (by omega) (by omega)
        refine ww_aload_n hX (pc := 53) dX11_make_53 rfl ?_
        refine ww_getI hX (pc := 54) fX11_324 (by decide) (xs_49 hL) dX11_make_54 ?_
        refine ww_if_ne hX (pc := 57) (tgt := 67) dX11_make_57 (by decide) (fun h_57 => ?_) (fun h_57 => ?_)
        · simp only [w32_mod] at h_57
          refine ww_iconst hX (pc := 67) (x := 0) dX11_make_67 rfl ?_
          refine ww_istore hX (pc := 68) (lv' := [some (kR (some 49)), some (kI a), some (kI b), some (kI c), some (kI 0)]) dX11_make_68 (by decide) rfl rfl ?_
          have hl_70 : ∀ (n_70 : Nat) (i : Int) (I70 : aI1) (J70 : aI1), (8 - i).toNat = n_70 → (Ch [50, 51, 61, 65, 66] [0, 1, 25, 31] Ia I70 ∧ RX I70 ∧ Kp 49 73 Ja J70 ∧ I70 51 304 = I_50 51 304 ∧ I70 51 305 = I_50 51 305 ∧ (0 ≤ i ∧ i ≤ 8)) → WW X 70 [some (kR (some 49)), some (kI a), some (kI b), some (kI c), some (kI i)] [] I70 J70 Ra Sa 0 0 := by
            intro n_70
            induction n_70 using Nat.strongRecOn with
            | ind n_70 ih_70 =>
              intro i I70 J70 hm_70 hv_70
              obtain ⟨kI70, cI70, kJ70, r304_I70, r305_I70, hv⟩ := hv_70
              have qI70 := RX_o cI70
              have rf_I70 : FU (I70 51 304) = FU (I_50 51 304) := by rw [r304_I70]
              refine ww_iload hX (pc := 70) dX11_make_70 rfl ?_
              refine ww_aload_n hX (pc := 72) dX11_make_72 rfl ?_
              refine vI0 hX (pc := 73) sX11_112 (xs_49 hL) (c_X11_states l0 hL cI70 ) (by decide) (Nat.le_refl 0) (Nat.le_refl 0) (Nat.le_of_ble_eq_true rfl) dX11_make_73 (fun x_73 I_73 J_73 h_73 => ?_)
              obtain ⟨rfl, rfl, h_73⟩ := h_73
              refine ww_icmp_ge hX (pc := 76) (tgt := 101) dX11_make_76 (by decide) (fun h_76 => ?_) (fun h_76 => ?_)
              · simp only [w32_mod] at h_76
                refine ww_aload_n hX (pc := 101) dX11_make_101 rfl ?_
                refine ww_iconst hX (pc := 102) (x := 0) dX11_make_102 rfl ?_
                refine vI1 hX (pc := 103) sX11_109 (xs_49 hL) (c_X11_good l0 hL cI70 ) (by decide) (Nat.le_refl 0) (Nat.le_refl 0) (Nat.le_of_ble_eq_true rfl) dX11_make_103 (fun x_103 I_103 J_103 h_103 => ?_)
                have kJ_103 : Kp 49 73 Ja J_103 := Kp_tr kJ70 h_103.2.1
                have kI_103 : Ch [50, 51, 61, 65, 66] [0, 1, 25, 31] Ia I_103 := Ch_tr kI70 (Ch_wd h_103.1 (by decide) (by decide))
                have cI_103 : RX I_103 := h_103.2.2.1
                have qI_103 := RX_o cI_103
                have r304_I_103 : I_103 51 304 = I70 51 304 := by rw [h_103.1.1 51 (by decide) (by decide)]
                have r305_I_103 : I_103 51 305 = I70 51 305 := by rw [h_103.1.1 51 (by decide) (by decide)]
                have rf_I_103 : FU (I_103 51 304) = FU (I70 51 304) := by rw [r304_I_103]
                refine rI hX (pc := 106) hT (Nat.le_refl 0) (Nat.le_refl 0) dX11_make_106 ?_
                exact ⟨kI_103, kJ_103, cI_103, trivial⟩
              · simp only [w32_mod] at h_76
                refine ww_aload_n hX (pc := 79) dX11_make_79 rfl ?_
                refine ww_getR hX (pc := 80) fX11_20 (by decide) (xs_49 hL) (xr_49_3 hL) dX11_make_80 ?_
                refine ww_iconst hX (pc := 83) (x := 0) dX11_make_83 rfl ?_
                refine ww_iload hX (pc := 84) dX11_make_84 rfl ?_
                refine ww_iadd hX (pc := 86) dX11_make_86 ?_
                refine ww_aload_n hX (pc := 87) dX11_make_87 rfl ?_
                refine ww_getR hX (pc := 88) fX11_74 (by decide) (xs_49 hL) (xr_49_30 hL) dX11_make_88 ?_
                refine ww_iload hX (pc := 91) dX11_make_91 rfl ?_
                refine ww_iald hX (pc := 93) (xs_66 hL) (by decide) (by omega) (by omega) dX11_make_93 ?_
                refine ww_iast hX (pc := 94) (xs_51 hL) (by decide) (by omega) (by omega) dX11_make_94 ?_
                refine ww_nmH (fun I_94 eI_94 => ?_)
                have kI_94 : Ch [50, 51, 61, 65, 66] [0, 1, 25, 31] Ia I_94 := by rw [eI_94]; exact Ch_r kI70 (by decide) (by decide)
                have cI_94 : RX I_94 := by rw [eI_94]; exact RX_lo cI70 (by omega)
                have qI_94 := RX_o cI_94
                have r304_I_94 : I_94 51 304 = I70 51 304 := by rw [eI_94, up2_n _ _ (Or.inr (by omega))]
                have r305_I_94 : I_94 51 305 = I70 51 305 := by rw [eI_94, up2_n _ _ (Or.inr (by omega))]
                have rf_I_94 : FU (I_94 51 304) = FU (I70 51 304) := by rw [r304_I_94]
                refine ww_iinc hX (pc := 95) (lv' := [some (kR (some 49)), some (kI a), some (kI b), some (kI c), some (kI (i + 1))]) dX11_make_95 rfl (by decide) rfl rfl ?_
                refine ww_goto hX (pc := 98) (tgt := 70) dX11_make_98 (by decide) ?_
                exact ih_70 _ (by omega) (i + 1) I_94 J70 rfl ⟨kI_94, cI_94, kJ70, by omega, by omega, by omega⟩
          exact hl_70 _ 0 I_50 J_50 rfl ⟨kI_50, cI_50, kJ_50, rfl, rfl, by omega⟩
        · simp only [w32_mod] at h_57
          refine ww_aload_n hX (pc := 60) dX11_make_60 rfl ?_
          refine ww_bipush hX (pc := 61) (x := (-3)) dX11_make_61 (by decide) ?_
          refine vI1 hX (pc := 63) sX11_105 (xs_49 hL) (c_X11_refuses l0 hL cI_50 (by omega) (by omega)) (by decide) (Nat.le_refl 0) (Nat.le_refl 0) (Nat.le_of_ble_eq_true rfl) dX11_make_63 (fun x_63 I_63 J_63 h_63 => ?_)
          have kJ_63 : Kp 49 73 Ja J_63 := Kp_tr kJ_50 h_63.2.1
          have kI_63 : Ch [50, 51, 61, 65, 66] [0, 1, 25, 31] Ia I_63 := Ch_tr kI_50 (Ch_wd h_63.1 (by decide) (by decide))
          have cI_63 : RX I_63 := h_63.2.2.1
          have qI_63 := RX_o cI_63
          have r304_I_63 : I_63 51 304 = I_50 51 304 := by rw [h_63.1.1 51 (by decide) (by decide)]
          have r305_I_63 : I_63 51 305 = I_50 51 305 := by rw [h_63.1.1 51 (by decide) (by decide)]
          have rf_I_63 : FU (I_63 51 304) = FU (I_50 51 304) := by rw [r304_I_63]
          refine rI hX (pc := 66) hT (Nat.le_refl 0) (Nat.le_refl 0) dX11_make_66 ?_
          exact ⟨kI_63, kJ_63, cI_63, trivial⟩
      · simp only [w32_mod] at h_36
        refine ww_aload_n hX (pc := 39) dX11_make_39 rfl ?_
        refine ww_bipush hX (pc := 40) (x := (-3)) dX11_make_40 (by decide) ?_
        refine vI1 hX (pc := 42) sX11_105 (xs_49 hL) (c_X11_refuses l0 hL hQ (by omega) (by omega)) (by decide) (Nat.le_refl 0) (Nat.le_refl 0) (Nat.le_of_ble_eq_true rfl) dX11_make_42 (fun x_42 I_42 J_42 h_42 => ?_)
        have kJ_42 : Kp 49 73 Ja J_42 := Kp_tr (Kp_rf (a := 49) (b := 73)) h_42.2.1
        have kI_42 : Ch [50, 51, 61, 65, 66] [0, 1, 25, 31] Ia I_42 := Ch_tr Ch_rf (Ch_wd h_42.1 (by decide) (by decide))
        have cI_42 : RX I_42 := h_42.2.2.1
        have qI_42 := RX_o cI_42
        have r304_I_42 : I_42 51 304 = Ia 51 304 := by rw [h_42.1.1 51 (by decide) (by decide)]
        have r305_I_42 : I_42 51 305 = Ia 51 305 := by rw [h_42.1.1 51 (by decide) (by decide)]
        have rf_I_42 : FU (I_42 51 304) = FU (Ia 51 304) := by rw [r304_I_42]
        refine rI hX (pc := 45) hT (Nat.le_refl 0) (Nat.le_refl 0) dX11_make_45 ?_
        exact ⟨kI_42, kJ_42, cI_42, trivial⟩
  · simp only [w32_mod] at h_6
    refine ww_aload_n hX (pc := 9) dX11_make_9 rfl ?_
    refine ww_iconst hX (pc := 10) (x := (-1)) dX11_make_10 rfl ?_
    refine vI1 hX (pc := 11) sX11_105 (xs_49 hL) (c_X11_refuses l0 hL hQ (by omega) (by omega)) (by decide) (Nat.le_refl 0) (Nat.le_refl 0) (Nat.le_of_ble_eq_true rfl) dX11_make_11 (fun x_11 I_11 J_11 h_11 => ?_)
    have kJ_11 : Kp 49 73 Ja J_11 := Kp_tr (Kp_rf (a := 49) (b := 73)) h_11.2.1
    have kI_11 : Ch [50, 51, 61, 65, 66] [0, 1, 25, 31] Ia I_11 := Ch_tr Ch_rf (Ch_wd h_11.1 (by decide) (by decide))
    have cI_11 : RX I_11 := h_11.2.2.1
    have qI_11 := RX_o cI_11
    have r304_I_11 : I_11 51 304 = Ia 51 304 := by rw [h_11.1.1 51 (by decide) (by decide)]
    have r305_I_11 : I_11 51 305 = Ia 51 305 := by rw [h_11.1.1 51 (by decide) (by decide)]
    have rf_I_11 : FU (I_11 51 304) = FU (Ia 51 304) := by rw [r304_I_11]
    refine rI hX (pc := 14) hT (Nat.le_refl 0) (Nat.le_refl 0) dX11_make_14 ?_
    exact ⟨kI_11, kJ_11, cI_11, trivial⟩
