set_option maxHeartbeats 4000000 in
set_option maxRecDepth 20000 in
theorem c9_X11_takes0 (l0 : Launch) {Ia Ja : aI1} {Ra : aR1} {Sa : aS1} (hL : LY Ra Sa) (hQ : RX Ia) {r : Int} (hP : PI Ia) {c : Nat → Int} (hc : pvw Ia = c) (hr0 : 1 ≤ r) (hr1 : r ≤ 400)  : CT l0 1 0 0 mX11_takes0 [kR (some 49), kI r] Ia Ja Ra Sa (cI (fun x I' J' => Ch [] [16] Ia I' ∧ Kp 49 49 Ja J' ∧ RX I' ∧ PI I' ∧ (0 ≤ x ∧ x ≤ 1) ∧ I' 49 18 = Ia 49 18 ∧ (Ia 49 16 ≤ I' 49 16 ∧ I' 49 16 ≤ Ia 49 16 + 1) ∧ TK x c r Ia I') Ra Sa) := by
  refine ct_in pn_X11 (Nat.le_of_ble_eq_true rfl) (fun X hX hT hIn => ?_)
  have hX : aK l0 X cX11_takes0 3 RX11 (some .boolean) 1 0 0 := hX
  change WW X 0 [some (kR (some 49)), some (kI r), none] [] Ia Ja Ra Sa 0 0
  have qIa := RX_w hQ
  have oIa := PI_o hP
  have tIa := PI_t hP
  have atIa := pvw_at hP hc
  refine ww_aload_n hX (pc := 0) dX11_takes0_0 rfl ?_
  refine vI0 hX (pc := 1) sX11_158 (xs_49 hL) (c_X11_fine l0 hL hQ  hP) (by decide) (Nat.le_refl 0) (Nat.le_refl 0) (Nat.le_of_ble_eq_true rfl) dX11_takes0_1 (fun x_1 I_1 J_1 h_1 => ?_)
  obtain ⟨rfl, rfl, h_1⟩ := h_1
  refine ww_if_eq hX (pc := 4) (tgt := 24) dX11_takes0_4 (by decide) (fun h_4 => ?_) (fun h_4 => ?_)
  · simp only [w32_mod] at h_4
    have nb := FN_0 h_1.2 (by omega)
    refine ww_iconst hX (pc := 24) (x := 0) dX11_takes0_24 rfl ?_
    refine ww_istore_n hX (pc := 25) (lv' := [some (kR (some 49)), some (kI r), some (kI 0)]) dX11_takes0_25 (by decide) rfl rfl ?_
    refine ww_iload_n hX (pc := 26) dX11_takes0_26 rfl ?_
    refine ww_if_eq hX (pc := 27) (tgt := 40) dX11_takes0_27 (by decide) (fun h_27 => ?_) (fun h_27 => ?_)
    · simp only [w32_mod] at h_27
      refine ww_iload_n hX (pc := 40) dX11_takes0_40 rfl ?_
      refine rZ hX (pc := 41) hT (Nat.le_refl 0) (Nat.le_refl 0) dX11_takes0_41 (by decide) ?_
      exact ⟨Ch_rf, (Kp_rf (a := 49) (b := 49)), hQ, hP, by omega, by omega, by omega, ⟨fun h => absurd h (by decide), fun _ => ⟨by omega, fun g => absurd g nb⟩⟩⟩
    · simp only [w32_mod] at h_27
      exfalso
      omega
  · simp only [w32_mod] at h_4
    have bb := FN_1 h_1.2 (by omega)
    refine ww_aload_n hX (pc := 7) dX11_takes0_7 rfl ?_
    refine ww_getR hX (pc := 8) fX11_43 (by decide) (xs_49 hL) (xr_49_12 hL) dX11_takes0_8 ?_
    refine ww_aload_n hX (pc := 11) dX11_takes0_11 rfl ?_
    refine ww_getI hX (pc := 12) fX11_162 (by decide) (xs_49 hL) dX11_takes0_12 ?_
    refine ww_iald hX (pc := 15) (xs_57 hL) (by decide) (by omega) (by omega) dX11_takes0_15 ?_
    refine ww_iload_n hX (pc := 16) dX11_takes0_16 rfl ?_
    refine ww_icmp_ne hX (pc := 17) (tgt := 24) dX11_takes0_17 (by decide) (fun h_17 => ?_) (fun h_17 => ?_)
    · simp only [w32_mod] at h_17
      refine ww_iconst hX (pc := 24) (x := 0) dX11_takes0_24 rfl ?_
      refine ww_istore_n hX (pc := 25) (lv' := [some (kR (some 49)), some (kI r), some (kI 0)]) dX11_takes0_25 (by decide) rfl rfl ?_
      refine ww_iload_n hX (pc := 26) dX11_takes0_26 rfl ?_
      refine ww_if_eq hX (pc := 27) (tgt := 40) dX11_takes0_27 (by decide) (fun h_27 => ?_) (fun h_27 => ?_)
      · simp only [w32_mod] at h_27
        refine ww_iload_n hX (pc := 40) dX11_takes0_40 rfl ?_
        refine rZ hX (pc := 41) hT (Nat.le_refl 0) (Nat.le_refl 0) dX11_takes0_41 (by decide) ?_
        exact ⟨Ch_rf, (Kp_rf (a := 49) (b := 49)), hQ, hP, by omega, by omega, by omega, ⟨fun h => absurd h (by decide), fun _ => ⟨by omega, fun g => (by omega)⟩⟩⟩
      · simp only [w32_mod] at h_27
        exfalso
        omega
    · simp only [w32_mod] at h_17
      refine ww_iconst hX (pc := 20) (x := 1) dX11_takes0_20 rfl ?_
      refine ww_goto hX (pc := 21) (tgt := 25) dX11_takes0_21 (by decide) ?_
      refine ww_istore_n hX (pc := 25) (lv' := [some (kR (some 49)), some (kI r), some (kI 1)]) dX11_takes0_25 (by decide) rfl rfl ?_
      refine ww_iload_n hX (pc := 26) dX11_takes0_26 rfl ?_
      refine ww_if_eq hX (pc := 27) (tgt := 40) dX11_takes0_27 (by decide) (fun h_27 => ?_) (fun h_27 => ?_)
      · simp only [w32_mod] at h_27
        exfalso
        omega
      · simp only [w32_mod] at h_27
        refine ww_aload_n hX (pc := 30) dX11_takes0_30 rfl ?_
        refine ww_dupR hX (pc := 31) dX11_takes0_31 ?_
        refine ww_getI hX (pc := 32) fX11_162 (by decide) (xs_49 hL) dX11_takes0_32 ?_
        refine ww_iconst hX (pc := 35) (x := 1) dX11_takes0_35 rfl ?_
        refine ww_iadd hX (pc := 36) dX11_takes0_36 ?_
        refine ww_putI hX (pc := 37) (fun h9 => absurd h9 (by decide)) gX11_162 rfl (xs_49 hL) dX11_takes0_37 ?_
        have lt37 := PI_lt hP (by omega)
        refine ww_nmH (fun I_37 eI_37 => ?_)
        have kI_37 : Ch [] [16] Ia I_37 := by rw [eI_37]; exact Ch_f Ch_rf (by decide)
        have cI_37 : RX I_37 := by rw [eI_37]; exact RX_f hQ (by decide)
        have qI_37 := RX_w cI_37
        have f15_I_37 : I_37 49 15 = Ia 49 15 := by rw [eI_37, up2_n _ _ (Or.inr (by decide))]
        have f17_I_37 : I_37 49 17 = Ia 49 17 := by rw [eI_37, up2_n _ _ (Or.inr (by decide))]
        have f18_I_37 : I_37 49 18 = Ia 49 18 := by rw [eI_37, up2_n _ _ (Or.inr (by decide))]
        have w16 : I_37 49 16 = Ia 49 16 + 1 := by rw [eI_37, up2_s]
        have pI_37 : PI I_37 := by rw [eI_37]; exact PI_f hP (by decide) (fun _ => ⟨by omega, by omega⟩) (fun h => absurd h (by decide))
        have oI_37 := PI_o pI_37
        refine ww_iload_n hX (pc := 40) dX11_takes0_40 rfl ?_
        refine rZ hX (pc := 41) hT (Nat.le_refl 0) (Nat.le_refl 0) dX11_takes0_41 (by decide) ?_
        exact ⟨kI_37, (Kp_rf (a := 49) (b := 49)), cI_37, pI_37, by omega, by omega, by omega, ⟨fun _ => ⟨bb, by omega, w16⟩, fun h => absurd h (by decide)⟩⟩
set_option maxHeartbeats 4000000 in
set_option maxRecDepth 20000 in
theorem c9_X11_splits (l0 : Launch) {Ia Ja : aI1} {Ra : aR1} {Sa : aS1} (hL : LY Ra Sa) (hQ : RX Ia) {a : Int} (ha0 : 0 ≤ a) (ha1 : a ≤ 400) {f : Nat → Int} {N : Nat} (hw : WD Ia) (hf : zTB f N (Ia 55)) (haN : a = N)  : CT l0 2 0 0 mX11_splits [kR (some 49), kI a] Ia Ja Ra Sa (cV (fun I' J' => Ch [57, 58, 59] [15] Ia I' ∧ Kp 49 49 Ja J' ∧ RX I' ∧ (0 ≤ I' 49 15 ∧ I' 49 15 ≤ 400) ∧ RG (I' 57) (I' 49 15 + 1) ∧ RG (I' 59) (I' 49 15 + 1) ∧ I' 57 (I' 49 15).toNat = 0 ∧ I' 49 15 = (zTk f N 0).length ∧ (∀ t, t ≤ (zTk f N 0).length → I' 57 t = zCd f (zTk f N 0) t ∧ I' 58 t = zVl f (zTk f N 0) t ∧ I' 59 t = zPc N (zTk f N 0) t)) Ra Sa) := by
  refine ct_in pn_X11 (Nat.le_of_ble_eq_true rfl) (fun X hX hT hIn => ?_)
  have hX : aK l0 X cX11_splits 6 RX11 none 2 0 0 := hX
  change WW X 0 [some (kR (some 49)), some (kI a), none, none, none, none] [] Ia Ja Ra Sa 0 0
  have qIa := RX_w hQ
  refine ww_aload_n hX (pc := 0) dX11_splits_0 rfl ?_
  refine ww_iconst hX (pc := 1) (x := 0) dX11_splits_1 rfl ?_
  refine ww_putI hX (pc := 2) (fun h9 => absurd h9 (by decide)) gX11_142 rfl (xs_49 hL) dX11_splits_2 ?_
  refine ww_nmH (fun I_2 eI_2 => ?_)
  have kI_2 : Ch [57, 58, 59] [15] Ia I_2 := by rw [eI_2]; exact Ch_f Ch_rf (by decide)
  have cI_2 : RX I_2 := by rw [eI_2]; exact RX_f hQ (by decide)
  have qI_2 := RX_w cI_2
  have w15_0 : I_2 49 15 = 0 := by rw [eI_2, up2_s]
  refine ww_iconst hX (pc := 5) (x := 0) dX11_splits_5 rfl ?_
  refine ww_istore_n hX (pc := 6) (lv' := [some (kR (some 49)), some (kI a), some (kI 0), none, none, none]) dX11_splits_6 (by decide) rfl rfl ?_
  have hl_7 : ∀ (n_7 : Nat) (k : Int) (I7 : aI1) (J7 : aI1), (a - k).toNat = n_7 → (Ch [57, 58, 59] [15] Ia I7 ∧ RX I7 ∧ Kp 49 49 Ja J7 ∧ (0 ≤ k ∧ k ≤ a) ∧ (0 ≤ I7 49 15 ∧ I7 49 15 ≤ k) ∧ RG (I7 57) (I7 49 15) ∧ RG (I7 59) (I7 49 15) ∧ ∃ dn : List (Nat × Nat), zTk f N 0 = dn ++ zTk f N k.toNat ∧ I7 49 15 = dn.length ∧ zRo f dn (I7 57) (I7 58) (I7 59)) → WW X 7 [some (kR (some 49)), some (kI a), some (kI k), none, none, none] [] I7 J7 Ra Sa 0 0 := by
    intro n_7
    induction n_7 using Nat.strongRecOn with
    | ind n_7 ih_7 =>
      intro k I7 J7 hm_7 hv_7
      have hq_7 := Sh0_i hm_7
      clear hm_7
      obtain ⟨kI7, cI7, kJ7, hv, hv1, hg57, hg59, dn, ht9, hd15, hdn⟩ := hv_7
      have qI7 := RX_w cI7
      have y55 : I7 55 = Ia 55 := kI7.1 55 (by decide) (by decide)
      refine ww_iload_n hX (pc := 7) dX11_splits_7 rfl ?_
      refine ww_iload_n hX (pc := 8) dX11_splits_8 rfl ?_
      refine ww_icmp_ge hX (pc := 9) (tgt := 263) dX11_splits_9 (by decide) (fun h_9 => ?_) (fun h_9 => ?_)
      · simp only [w32_mod] at h_9
        refine ww_aload_n hX (pc := 263) dX11_splits_263 rfl ?_
        refine ww_getR hX (pc := 264) fX11_49 (by decide) (xs_49 hL) (xr_49_14 hL) dX11_splits_264 ?_
        refine ww_aload_n hX (pc := 267) dX11_splits_267 rfl ?_
        refine ww_getI hX (pc := 268) fX11_142 (by decide) (xs_49 hL) dX11_splits_268 ?_
        refine ww_iload_n hX (pc := 271) dX11_splits_271 rfl ?_
        refine ww_iast hX (pc := 272) (xs_59 hL) (by decide) (by omega) (by omega) dX11_splits_272 ?_
        refine ww_nmH (fun I_272 eI_272 => ?_)
        have kI_272 : Ch [57, 58, 59] [15] Ia I_272 := by rw [eI_272]; exact Ch_r kI7 (by decide) (by decide)
        have cI_272 : RX I_272 := by rw [eI_272]; exact RX_r cI7 (by decide)
        have qI_272 := RX_w cI_272
        have f15_I_272 : I_272 49 15 = I7 49 15 := by rw [eI_272, up2_off _ _ _ (by decide)]
        have y59 : RG (I_272 59) (I7 49 15 + 1) := by rw [eI_272, up2_row]; exact RG_up hg59 (by omega) (by omega) (by omega)
        refine ww_aload_n hX (pc := 273) dX11_splits_273 rfl ?_
        refine ww_getR hX (pc := 274) fX11_43 (by decide) (xs_49 hL) (xr_49_12 hL) dX11_splits_274 ?_
        refine ww_aload_n hX (pc := 277) dX11_splits_277 rfl ?_
        refine ww_getI hX (pc := 278) fX11_142 (by decide) (xs_49 hL) dX11_splits_278 ?_
        refine ww_iconst hX (pc := 281) (x := 0) dX11_splits_281 rfl ?_
        refine ww_iast hX (pc := 282) (xs_57 hL) (by decide) (by omega) (by omega) dX11_splits_282 ?_
        refine ww_nmH (fun I_282 eI_282 => ?_)
        have kI_282 : Ch [57, 58, 59] [15] Ia I_282 := by rw [eI_282]; exact Ch_r kI_272 (by decide) (by decide)
        have cI_282 : RX I_282 := by rw [eI_282]; exact RX_r cI_272 (by decide)
        have qI_282 := RX_w cI_282
        have f15_I_282 : I_282 49 15 = I_272 49 15 := by rw [eI_282, up2_off _ _ _ (by decide)]
        have y57 : RG (I_282 57) (I7 49 15 + 1) := by rw [eI_282, up2_row, show I_272 49 15 = I7 49 15 by omega, show I_272 57 = I7 57 by rw [eI_272, up2_off _ _ _ (by decide)]]; exact RG_up hg57 (by omega) (by omega) (by omega)
        have y0 : I_282 57 (I7 49 15).toNat = 0 := by rw [eI_282, show I_272 49 15 = I7 49 15 by omega, up2_s]
        refine ww_aload_n hX (pc := 283) dX11_splits_283 rfl ?_
        refine ww_getR hX (pc := 284) fX11_46 (by decide) (xs_49 hL) (xr_49_13 hL) dX11_splits_284 ?_
        refine ww_aload_n hX (pc := 287) dX11_splits_287 rfl ?_
        refine ww_getI hX (pc := 288) fX11_142 (by decide) (xs_49 hL) dX11_splits_288 ?_
        refine ww_iconst hX (pc := 291) (x := 0) dX11_splits_291 rfl ?_
        refine ww_iast hX (pc := 292) (xs_58 hL) (by decide) (by omega) (by omega) dX11_splits_292 ?_
        refine ww_nmH (fun I_292 eI_292 => ?_)
        have kI_292 : Ch [57, 58, 59] [15] Ia I_292 := by rw [eI_292]; exact Ch_r kI_282 (by decide) (by decide)
        have cI_292 : RX I_292 := by rw [eI_292]; exact RX_r cI_282 (by decide)
        have qI_292 := RX_w cI_292
        have f15_I_292 : I_292 49 15 = I_282 49 15 := by rw [eI_292, up2_off _ _ _ (by decide)]
        have z15 : I_292 49 15 = I7 49 15 := by omega
        have z57 : RG (I_292 57) (I_292 49 15 + 1) := by rw [z15, eI_292, up2_off _ _ _ (by decide)]; exact y57
        have z59 : RG (I_292 59) (I_292 49 15 + 1) := by rw [z15, eI_292, up2_off _ _ _ (by decide), eI_282, up2_off _ _ _ (by decide)]; exact y59
        have z0 : I_292 57 (I_292 49 15).toNat = 0 := by rw [z15, eI_292, up2_off _ _ _ (by decide)]; exact y0
        rw [zTk_0 (n := N) (k := k.toNat) (by omega), List.append_nil] at ht9
        have zT15 : I_292 49 15 = (zTk f N 0).length := by rw [ht9]; omega
        have zTal := zRo_fin hdn (v := a) (n := N) (by omega)
        rw [← show I_292 57 = up1 (I7 57) dn.length 0 by rw [eI_292, up2_off _ _ _ (by decide), eI_282, up2_row, show (I_272 49 15).toNat = dn.length by omega, eI_272, up2_off _ _ _ (by decide)], ← show I_292 58 = up1 (I7 58) dn.length 0 by rw [eI_292, up2_row, show (I_282 49 15).toNat = dn.length by omega, eI_282, up2_off _ _ _ (by decide), eI_272, up2_off _ _ _ (by decide)], ← show I_292 59 = up1 (I7 59) dn.length a by rw [eI_292, up2_off _ _ _ (by decide), eI_282, up2_off _ _ _ (by decide), eI_272, up2_row, show (I7 49 15).toNat = dn.length by omega], ← ht9] at zTal
        refine rV hX (pc := 293) hT (Nat.le_refl 0) (Nat.le_refl 0) dX11_splits_293 ?_
        exact ⟨kI_292, kJ7, cI_292, ⟨by omega, by omega⟩, z57, z59, z0, zT15, zTal⟩
      · simp only [w32_mod] at h_9
        refine ww_aload_n hX (pc := 12) dX11_splits_12 rfl ?_
        refine ww_getR hX (pc := 13) fX11_34 (by decide) (xs_49 hL) (xr_49_8 hL) dX11_splits_13 ?_
        refine ww_iload_n hX (pc := 16) dX11_splits_16 rfl ?_
        refine ww_bald hX (pc := 17) (xs_55 hL) (by decide) (by omega) (by omega) dX11_splits_17 ?_
        have hb9 := hf k.toNat (by omega)
        rw [← y55] at hb9
        have hkb := zKl_B hb9
        refine ww_nmI (fun v_18 hv_18 => ?_)
        refine ww_istore_n hX (pc := 18) (lv' := [some (kR (some 49)), some (kI a), some (kI k), some (kI v_18), none, none]) dX11_splits_18 (by decide) rfl rfl ?_
        refine ww_iload_n hX (pc := 19) dX11_splits_19 rfl ?_
        refine ww_bipush hX (pc := 20) (x := 32) dX11_splits_20 (by decide) ?_
        refine ww_icmp_ne hX (pc := 22) (tgt := 31) dX11_splits_22 (by decide) (fun h_22 => ?_) (fun h_22 => ?_)
        · simp only [w32_mod] at h_22
          refine ww_iload_n hX (pc := 31) dX11_splits_31 rfl ?_
          refine ww_iconst hX (pc := 32) (x := 1) dX11_splits_32 rfl ?_
          refine ww_iadd hX (pc := 33) dX11_splits_33 ?_
          refine ww_nmI (fun v_34 hv_34 => ?_)
          refine ww_istore hX (pc := 34) (lv' := [some (kR (some 49)), some (kI a), some (kI k), some (kI v_18), some (kI v_34), none]) dX11_splits_34 (by decide) rfl rfl ?_
          have hj_100 : ∀ (u9 : Int), (k + 1 ≤ u9 ∧ u9 ≤ a ∧ u9.toNat = zSt f N k.toNat) → WW X 100 [some (kR (some 49)), some (kI a), some (kI k), some (kI v_18), some (kI u9), none] [] I7 J7 Ra Sa 0 0 := by
            intro u9 hv_100
            obtain ⟨hu1, hu2, hst9⟩ := hv_100
            refine ww_aload_n hX (pc := 100) dX11_splits_100 rfl ?_
            refine ww_getR hX (pc := 101) fX11_49 (by decide) (xs_49 hL) (xr_49_14 hL) dX11_splits_101 ?_
            refine ww_aload_n hX (pc := 104) dX11_splits_104 rfl ?_
            refine ww_getI hX (pc := 105) fX11_142 (by decide) (xs_49 hL) dX11_splits_105 ?_
            refine ww_iload_n hX (pc := 108) dX11_splits_108 rfl ?_
            refine ww_iast hX (pc := 109) (xs_59 hL) (by decide) (by omega) (by omega) dX11_splits_109 ?_
            refine ww_nmH (fun I_109 eI_109 => ?_)
            have kI_109 : Ch [57, 58, 59] [15] Ia I_109 := by rw [eI_109]; exact Ch_r kI7 (by decide) (by decide)
            have cI_109 : RX I_109 := by rw [eI_109]; exact RX_r cI7 (by decide)
            have qI_109 := RX_w cI_109
            have f15_I_109 : I_109 49 15 = I7 49 15 := by rw [eI_109, up2_off _ _ _ (by decide)]
            have g59 : RG (I_109 59) (I7 49 15 + 1) := by rw [eI_109, up2_row]; exact RG_up hg59 (by omega) (by omega) (by omega)
            refine ww_aload_n hX (pc := 110) dX11_splits_110 rfl ?_
            refine ww_getR hX (pc := 111) fX11_46 (by decide) (xs_49 hL) (xr_49_13 hL) dX11_splits_111 ?_
            refine ww_aload_n hX (pc := 114) dX11_splits_114 rfl ?_
            refine ww_getI hX (pc := 115) fX11_142 (by decide) (xs_49 hL) dX11_splits_115 ?_
            refine ww_iconst hX (pc := 118) (x := 0) dX11_splits_118 rfl ?_
            refine ww_iast hX (pc := 119) (xs_58 hL) (by decide) (by omega) (by omega) dX11_splits_119 ?_
            refine ww_nmH (fun I_119 eI_119 => ?_)
            have kI_119 : Ch [57, 58, 59] [15] Ia I_119 := by rw [eI_119]; exact Ch_r kI_109 (by decide) (by decide)
            have cI_119 : RX I_119 := by rw [eI_119]; exact RX_r cI_109 (by decide)
            have qI_119 := RX_w cI_119
            have f15_I_119 : I_119 49 15 = I_109 49 15 := by rw [eI_119, up2_off _ _ _ (by decide)]
            have hwc : WD I_119 := fun i hi => by rw [kI_119.1 54 (by decide) (by decide)]; exact hw i hi
            have hfc : zTB f N (I_119 55) := by rw [kI_119.1 55 (by decide) (by decide)]; exact hf
            refine ww_aload_n hX (pc := 120) dX11_splits_120 rfl ?_
            refine ww_getR hX (pc := 121) fX11_43 (by decide) (xs_49 hL) (xr_49_12 hL) dX11_splits_121 ?_
            refine ww_aload_n hX (pc := 124) dX11_splits_124 rfl ?_
            refine ww_getI hX (pc := 125) fX11_142 (by decide) (xs_49 hL) dX11_splits_125 ?_
            refine ww_iload_n hX (pc := 128) dX11_splits_128 rfl ?_
            refine sI1 hX (pc := 129) sX11_145 (c_X11_isSmall l0 (by omega) (by omega)) (by decide) (Nat.le_refl 0) (Nat.le_refl 0) (Nat.le_of_ble_eq_true rfl) dX11_splits_129 (fun x_129 I_129 J_129 h_129 => ?_)
            obtain ⟨rfl, rfl, h_129⟩ := h_129
            refine ww_if_eq hX (pc := 132) (tgt := 145) dX11_splits_132 (by decide) (fun h_132 => ?_) (fun h_132 => ?_)
            · simp only [w32_mod] at h_132
              refine ww_iload_n hX (pc := 145) dX11_splits_145 rfl ?_
              refine sI1 hX (pc := 146) sX11_148 (c_X11_isDigit l0 (by omega) (by omega)) (by decide) (Nat.le_refl 0) (Nat.le_refl 0) (Nat.le_of_ble_eq_true rfl) dX11_splits_146 (fun x_146 I_146 J_146 h_146 => ?_)
              obtain ⟨rfl, rfl, h_146⟩ := h_146
              refine ww_if_eq hX (pc := 149) (tgt := 157) dX11_splits_149 (by decide) (fun h_149 => ?_) (fun h_149 => ?_)
              · simp only [w32_mod] at h_149
                have hk0 : zKl (f k.toNat) = 0 := by have k3 := zKl_r (f k.toNat); have kq := hkb; unfold KLb at kq; omega
                refine ww_bipush hX (pc := 157) (x := 100) dX11_splits_157 (by decide) ?_
                refine ww_iload_n hX (pc := 159) dX11_splits_159 rfl ?_
                refine ww_sipush hX (pc := 160) (x := 255) dX11_splits_160 (by decide) ?_
                refine ww_iand hX (pc := 163) dX11_splits_163 ?_
                have hia : 0 ≤ i_and v_18 255 ∧ i_and v_18 255 ≤ 255 := by rw [i_and_comm]; exact i_and_le (by decide) (by decide) _
                refine ww_iadd hX (pc := 164) dX11_splits_164 ?_
                refine ww_iast hX (pc := 165) (xs_57 hL) (by decide) (by omega) (by omega) dX11_splits_165 ?_
                refine ww_nmH (fun I_165 eI_165 => ?_)
                have kI_165 : Ch [57, 58, 59] [15] Ia I_165 := by rw [eI_165]; exact Ch_r kI_119 (by decide) (by decide)
                have cI_165 : RX I_165 := by rw [eI_165]; exact RX_r cI_119 (by decide)
                have qI_165 := RX_w cI_165
                have f15_I_165 : I_165 49 15 = I_119 49 15 := by rw [eI_165, up2_off _ _ _ (by decide)]
                have g57 : RG (I_165 57) (I7 49 15 + 1) := by rw [eI_165, up2_row, show I_119 49 15 = I7 49 15 by omega, show I_119 57 = I7 57 by rw [eI_119, up2_off _ _ _ (by decide), eI_109, up2_off _ _ _ (by decide)]]; exact RG_up hg57 (by omega) (by omega) (by omega)
                have g59b : RG (I_165 59) (I7 49 15 + 1) := by rw [eI_165, up2_off _ _ _ (by decide), eI_119, up2_off _ _ _ (by decide)]; exact g59
                have w57 : I_165 57 = up1 (I7 57) dn.length (zCo f k.toNat (zSt f N k.toNat)) := by
                  rw [eI_165, up2_row, show (I_119 49 15).toNat = dn.length by omega, show I_119 57 = I7 57 by rw [eI_119, up2_off _ _ _ (by decide), eI_109, up2_off _ _ _ (by decide)]]
                  exact congrArg (up1 (I7 57) dn.length) (by rw [zCo_0 hk0, iand255]; omega)
                have w58 : I_165 58 = up1 (I7 58) dn.length 0 := by rw [eI_165, up2_off _ _ _ (by decide), eI_119, up2_row, show (I_109 49 15).toNat = dn.length by omega, eI_109, up2_off _ _ _ (by decide)]
                have w59 : I_165 59 = up1 (I7 59) dn.length k := by rw [eI_165, up2_off _ _ _ (by decide), eI_119, up2_off _ _ _ (by decide), eI_109, up2_row, show (I7 49 15).toNat = dn.length by omega]
                refine ww_iload_n hX (pc := 166) dX11_splits_166 rfl ?_
                refine ww_istore hX (pc := 167) (lv' := [some (kR (some 49)), some (kI a), some (kI k), some (kI v_18), some (kI u9), some (kI k)]) dX11_splits_167 (by decide) rfl rfl ?_
                have hl_169 : ∀ (n_169 : Nat) (q : Int) (I169 : aI1) (J169 : aI1), (400 - q).toNat = n_169 → (Ch [57, 58, 59] [15] Ia I169 ∧ RX I169 ∧ Kp 49 49 Ja J169 ∧ I169 49 15 = I_165 49 15 ∧ ((k ≤ q ∧ q ≤ u9) ∧ I169 57 = I_165 57 ∧ I169 59 = I_165 59 ∧ I169 58 = up1 (I7 58) dn.length (zNu f k.toNat (q - k).toNat) ∧ (zKl (f k.toNat) = 2 ∨ q = k))) → WW X 169 [some (kR (some 49)), some (kI a), some (kI k), some (kI v_18), some (kI u9), some (kI q)] [] I169 J169 Ra Sa 0 0 := by
                  intro n_169
                  induction n_169 using Nat.strongRecOn with
                  | ind n_169 ih_169 =>
                    intro q I169 J169 hm_169 hv_169
                    have hq_169 := Sh0_i hm_169
                    clear hm_169
                    obtain ⟨kI169, cI169, kJ169, f15_I169, hq, hr57, hr59, hr58, hqd⟩ := hv_169
                    have qI169 := RX_w cI169
                    have hval : I169 58 dn.length = zNu f k.toNat (q - k).toNat := by rw [hr58, up1_s]
                    have hval2 : I169 58 (I169 49 15).toNat = zNu f k.toNat (q - k).toNat := by rw [show (I169 49 15).toNat = dn.length by omega]; exact hval
                    refine ww_iload hX (pc := 169) dX11_splits_169 rfl ?_
                    refine ww_iload hX (pc := 171) dX11_splits_171 rfl ?_
                    refine ww_icmp_ge hX (pc := 173) (tgt := 247) dX11_splits_173 (by decide) (fun h_173 => ?_) (fun h_173 => ?_)
                    · simp only [w32_mod] at h_173
                      refine ww_aload_n hX (pc := 247) dX11_splits_247 rfl ?_
                      refine ww_dupR hX (pc := 248) dX11_splits_248 ?_
                      refine ww_getI hX (pc := 249) fX11_142 (by decide) (xs_49 hL) dX11_splits_249 ?_
                      refine ww_iconst hX (pc := 252) (x := 1) dX11_splits_252 rfl ?_
                      refine ww_iadd hX (pc := 253) dX11_splits_253 ?_
                      refine ww_putI hX (pc := 254) (fun h9 => absurd h9 (by decide)) gX11_142 rfl (xs_49 hL) dX11_splits_254 ?_
                      refine ww_nmH (fun I_254 eI_254 => ?_)
                      have kI_254 : Ch [57, 58, 59] [15] Ia I_254 := by rw [eI_254]; exact Ch_f kI169 (by decide)
                      have cI_254 : RX I_254 := by rw [eI_254]; exact RX_f cI169 (by decide)
                      have qI_254 := RX_w cI_254
                      have w15 : I_254 49 15 = I7 49 15 + 1 := by
                        have h9 : I_254 49 15 = I169 49 15 + 1 := by rw [eI_254, up2_s]
                        omega
                      have g57c : RG (I_254 57) (I_254 49 15) := by rw [w15, eI_254, up2_off _ _ _ (by decide), hr57]; exact g57
                      have g59c : RG (I_254 59) (I_254 49 15) := by rw [w15, eI_254, up2_off _ _ _ (by decide), hr59]; exact g59b
                      have hva : zNu f k.toNat (q - k).toNat = zVa f k.toNat (zSt f N k.toNat) := by
                        by_cases h9 : zKl (f k.toNat) = 2
                        · rw [zVa_2 h9, show (q - k).toNat = zSt f N k.toNat - k.toNat by first | omega | (have kq := hkb; unfold KLb at kq; omega) | (have kq := hk7; unfold KLb at kq; omega)]
                        · rw [zVa_0 h9, show (q - k).toNat = 0 by omega]
                          rfl
                      have hdn2 : zRo f (dn ++ [(k.toNat, zSt f N k.toNat)]) (I_254 57) (I_254 58) (I_254 59) := by
                        rw [eI_254, up2_off _ _ _ (by decide), up2_off _ _ _ (by decide), up2_off _ _ _ (by decide), hr57, hr58, hr59, w57, w59]
                        exact zRo_ad hdn rfl hva (by omega)
                      refine ww_iload hX (pc := 257) dX11_splits_257 rfl ?_
                      refine ww_istore_n hX (pc := 259) (lv' := [some (kR (some 49)), some (kI a), some (kI u9), some (kI v_18), some (kI u9), some (kI q)]) dX11_splits_259 (by decide) rfl rfl ?_
                      refine ww_goto hX (pc := 260) (tgt := 7) dX11_splits_260 (by decide) ?_
                      refine ww_sub [some (kR (some 49)), some (kI a), some (kI u9), none, none, none] (aLe_s (aLe_s (aLe_s (aLe_n (aLe_n (aLe_n aLe_0)))))) ?_
                      exact ih_7 _ (by have hm9 := Sh0_e hq_7; omega) u9 I_254 J169 rfl ⟨kI_254, cI_254, kJ169, ⟨by omega, by omega⟩, ⟨by omega, by omega⟩, g57c, g59c, dn ++ [(k.toNat, zSt f N k.toNat)], (by rw [ht9, zTk_t (by omega) (by omega), List.append_assoc, List.singleton_append, hst9]), (by rw [List.length_append, List.length_singleton]; omega), hdn2⟩
                    · simp only [w32_mod] at h_173
                      refine ww_iload_n hX (pc := 176) dX11_splits_176 rfl ?_
                      refine sI1 hX (pc := 177) sX11_148 (c_X11_isDigit l0 (by omega) (by omega)) (by decide) (Nat.le_refl 0) (Nat.le_refl 0) (Nat.le_of_ble_eq_true rfl) dX11_splits_177 (fun x_177 I_177 J_177 h_177 => ?_)
                      obtain ⟨rfl, rfl, h_177⟩ := h_177
                      refine ww_if_eq hX (pc := 180) (tgt := 247) dX11_splits_180 (by decide) (fun h_180 => ?_) (fun h_180 => ?_)
                      · simp only [w32_mod] at h_180
                        refine ww_aload_n hX (pc := 247) dX11_splits_247 rfl ?_
                        refine ww_dupR hX (pc := 248) dX11_splits_248 ?_
                        refine ww_getI hX (pc := 249) fX11_142 (by decide) (xs_49 hL) dX11_splits_249 ?_
                        refine ww_iconst hX (pc := 252) (x := 1) dX11_splits_252 rfl ?_
                        refine ww_iadd hX (pc := 253) dX11_splits_253 ?_
                        refine ww_putI hX (pc := 254) (fun h9 => absurd h9 (by decide)) gX11_142 rfl (xs_49 hL) dX11_splits_254 ?_
                        refine ww_nmH (fun I_254 eI_254 => ?_)
                        have kI_254 : Ch [57, 58, 59] [15] Ia I_254 := by rw [eI_254]; exact Ch_f kI169 (by decide)
                        have cI_254 : RX I_254 := by rw [eI_254]; exact RX_f cI169 (by decide)
                        have qI_254 := RX_w cI_254
                        have w15 : I_254 49 15 = I7 49 15 + 1 := by
                          have h9 : I_254 49 15 = I169 49 15 + 1 := by rw [eI_254, up2_s]
                          omega
                        have g57c : RG (I_254 57) (I_254 49 15) := by rw [w15, eI_254, up2_off _ _ _ (by decide), hr57]; exact g57
                        have g59c : RG (I_254 59) (I_254 49 15) := by rw [w15, eI_254, up2_off _ _ _ (by decide), hr59]; exact g59b
                        have hva : zNu f k.toNat (q - k).toNat = zVa f k.toNat (zSt f N k.toNat) := by
                          by_cases h9 : zKl (f k.toNat) = 2
                          · rw [zVa_2 h9, show (q - k).toNat = zSt f N k.toNat - k.toNat by first | omega | (have kq := hkb; unfold KLb at kq; omega) | (have kq := hk7; unfold KLb at kq; omega)]
                          · rw [zVa_0 h9, show (q - k).toNat = 0 by omega]
                            rfl
                        have hdn2 : zRo f (dn ++ [(k.toNat, zSt f N k.toNat)]) (I_254 57) (I_254 58) (I_254 59) := by
                          rw [eI_254, up2_off _ _ _ (by decide), up2_off _ _ _ (by decide), up2_off _ _ _ (by decide), hr57, hr58, hr59, w57, w59]
                          exact zRo_ad hdn rfl hva (by omega)
                        refine ww_iload hX (pc := 257) dX11_splits_257 rfl ?_
                        refine ww_istore_n hX (pc := 259) (lv' := [some (kR (some 49)), some (kI a), some (kI u9), some (kI v_18), some (kI u9), some (kI q)]) dX11_splits_259 (by decide) rfl rfl ?_
                        refine ww_goto hX (pc := 260) (tgt := 7) dX11_splits_260 (by decide) ?_
                        refine ww_sub [some (kR (some 49)), some (kI a), some (kI u9), none, none, none] (aLe_s (aLe_s (aLe_s (aLe_n (aLe_n (aLe_n aLe_0)))))) ?_
                        exact ih_7 _ (by have hm9 := Sh0_e hq_7; omega) u9 I_254 J169 rfl ⟨kI_254, cI_254, kJ169, ⟨by omega, by omega⟩, ⟨by omega, by omega⟩, g57c, g59c, dn ++ [(k.toNat, zSt f N k.toNat)], (by rw [ht9, zTk_t (by omega) (by omega), List.append_assoc, List.singleton_append, hst9]), (by rw [List.length_append, List.length_singleton]; omega), hdn2⟩
                      · simp only [w32_mod] at h_180
                        have k_177 := h_177.2.mp (by omega)
                        clear h_177
                        have hq2 := zSt_all (f := f) (n := N) (k := k.toNat) (q := q.toNat) (by omega) (by omega)
                        have hb7 := hf q.toNat (by omega)
                        rw [← (kI169.1 55 (by decide) (by decide) : I169 55 = Ia 55)] at hb7
                        have hk7 := zKl_B hb7
                        have hzr := zNu_r (f := f) (a := k.toNat) (q - k).toNat (fun i hi => zKl_2.mp ((zSt_all (n := N) (k := k.toNat) (by omega) (by omega)).trans (hkb.2.mpr (by omega))))
                        refine ww_aload_n hX (pc := 183) dX11_splits_183 rfl ?_
                        refine ww_getR hX (pc := 184) fX11_46 (by decide) (xs_49 hL) (xr_49_13 hL) dX11_splits_184 ?_
                        refine ww_aload_n hX (pc := 187) dX11_splits_187 rfl ?_
                        refine ww_getI hX (pc := 188) fX11_142 (by decide) (xs_49 hL) dX11_splits_188 ?_
                        refine ww_aload_n hX (pc := 191) dX11_splits_191 rfl ?_
                        refine ww_getR hX (pc := 192) fX11_46 (by decide) (xs_49 hL) (xr_49_13 hL) dX11_splits_192 ?_
                        refine ww_aload_n hX (pc := 195) dX11_splits_195 rfl ?_
                        refine ww_getI hX (pc := 196) fX11_142 (by decide) (xs_49 hL) dX11_splits_196 ?_
                        refine ww_iald hX (pc := 199) (xs_58 hL) (by decide) (by omega) (by omega) dX11_splits_199 ?_
                        refine ww_ldc hX (pc := 200) (x := 1000000) dX11_splits_200 tb_1327 ?_
                        refine ww_icmp_le hX (pc := 202) (tgt := 217) dX11_splits_202 (by decide) (fun h_202 => ?_) (fun h_202 => ?_)
                        · simp only [w32_mod] at h_202
                          refine ww_bipush hX (pc := 217) (x := 10) dX11_splits_217 (by decide) ?_
                          refine ww_aload_n hX (pc := 219) dX11_splits_219 rfl ?_
                          refine ww_getR hX (pc := 220) fX11_46 (by decide) (xs_49 hL) (xr_49_13 hL) dX11_splits_220 ?_
                          refine ww_aload_n hX (pc := 223) dX11_splits_223 rfl ?_
                          refine ww_getI hX (pc := 224) fX11_142 (by decide) (xs_49 hL) dX11_splits_224 ?_
                          refine ww_iald hX (pc := 227) (xs_58 hL) (by decide) (by omega) (by omega) dX11_splits_227 ?_
                          refine ww_imul hX (pc := 228) dX11_splits_228 ?_
                          refine ww_aload_n hX (pc := 229) dX11_splits_229 rfl ?_
                          refine ww_getR hX (pc := 230) fX11_34 (by decide) (xs_49 hL) (xr_49_8 hL) dX11_splits_230 ?_
                          refine ww_iload hX (pc := 233) dX11_splits_233 rfl ?_
                          refine ww_bald hX (pc := 235) (xs_55 hL) (by decide) (by omega) (by omega) dX11_splits_235 ?_
                          refine ww_iadd hX (pc := 236) dX11_splits_236 ?_
                          refine ww_bipush hX (pc := 237) (x := 48) dX11_splits_237 (by decide) ?_
                          refine ww_isub hX (pc := 239) dX11_splits_239 ?_
                          refine ww_iast hX (pc := 240) (xs_58 hL) (by decide) (by omega) (by omega) dX11_splits_240 ?_
                          refine ww_nmH (fun I_240 eI_240 => ?_)
                          have kI_240 : Ch [57, 58, 59] [15] Ia I_240 := by rw [eI_240]; exact Ch_r kI169 (by decide) (by decide)
                          have cI_240 : RX I_240 := by rw [eI_240]; exact RX_r cI169 (by decide)
                          have qI_240 := RX_w cI_240
                          have f15_I_240 : I_240 49 15 = I169 49 15 := by rw [eI_240, up2_off _ _ _ (by decide)]
                          have y58b : I_240 58 = up1 (I7 58) dn.length (zNu f k.toNat (q + 1 - k).toNat) := by
                            rw [eI_240, up2_row]
                            refine (congrArg (fun F => up1 F _ _) hr58).trans ?_
                            rw [show (I169 49 15).toNat = dn.length by omega, up1_up1]
                            refine congrArg (up1 (I7 58) dn.length) ?_
                            rw [show (q + 1 - k).toNat = (q - k).toNat + 1 by omega]
                            exact (by rw [zNu_f (by omega), show k.toNat + (q - k).toNat = q.toNat by omega]; have kq := hkb; have kr := hk7; unfold KLb at kq kr; omega)
                          refine ww_iinc hX (pc := 241) (lv' := [some (kR (some 49)), some (kI a), some (kI k), some (kI v_18), some (kI u9), some (kI (q + 1))]) dX11_splits_241 rfl (by decide) rfl rfl ?_
                          refine ww_goto hX (pc := 244) (tgt := 169) dX11_splits_244 (by decide) ?_
                          exact ih_169 _ (by have hm9 := Sh0_e hq_169; omega) (q + 1) I_240 J169 rfl ⟨kI_240, cI_240, kJ169, by omega, ⟨by omega, by omega⟩, by rw [eI_240, up2_off _ _ _ (by decide)]; exact hr57, by rw [eI_240, up2_off _ _ _ (by decide)]; exact hr59, y58b, Or.inl (hkb.2.mpr (by omega))⟩
                        · simp only [w32_mod] at h_202
                          refine ww_aload_n hX (pc := 205) dX11_splits_205 rfl ?_
                          refine ww_getR hX (pc := 206) fX11_46 (by decide) (xs_49 hL) (xr_49_13 hL) dX11_splits_206 ?_
                          refine ww_aload_n hX (pc := 209) dX11_splits_209 rfl ?_
                          refine ww_getI hX (pc := 210) fX11_142 (by decide) (xs_49 hL) dX11_splits_210 ?_
                          refine ww_iald hX (pc := 213) (xs_58 hL) (by decide) (by omega) (by omega) dX11_splits_213 ?_
                          refine ww_goto hX (pc := 214) (tgt := 240) dX11_splits_214 (by decide) ?_
                          refine ww_iast hX (pc := 240) (xs_58 hL) (by decide) (by omega) (by omega) dX11_splits_240 ?_
                          refine ww_nmH (fun I_240 eI_240 => ?_)
                          have kI_240 : Ch [57, 58, 59] [15] Ia I_240 := by rw [eI_240]; exact Ch_r kI169 (by decide) (by decide)
                          have cI_240 : RX I_240 := by rw [eI_240]; exact RX_r cI169 (by decide)
                          have qI_240 := RX_w cI_240
                          have f15_I_240 : I_240 49 15 = I169 49 15 := by rw [eI_240, up2_off _ _ _ (by decide)]
                          have y58b : I_240 58 = up1 (I7 58) dn.length (zNu f k.toNat (q + 1 - k).toNat) := by
                            rw [eI_240, up2_row]
                            refine (congrArg (fun F => up1 F _ _) hr58).trans ?_
                            rw [show (I169 49 15).toNat = dn.length by omega, up1_up1]
                            refine congrArg (up1 (I7 58) dn.length) ?_
                            rw [show (q + 1 - k).toNat = (q - k).toNat + 1 by omega]
                            exact (by rw [zNu_t (by omega)]; omega)
                          refine ww_iinc hX (pc := 241) (lv' := [some (kR (some 49)), some (kI a), some (kI k), some (kI v_18), some (kI u9), some (kI (q + 1))]) dX11_splits_241 rfl (by decide) rfl rfl ?_
                          refine ww_goto hX (pc := 244) (tgt := 169) dX11_splits_244 (by decide) ?_
                          exact ih_169 _ (by have hm9 := Sh0_e hq_169; omega) (q + 1) I_240 J169 rfl ⟨kI_240, cI_240, kJ169, by omega, ⟨by omega, by omega⟩, by rw [eI_240, up2_off _ _ _ (by decide)]; exact hr57, by rw [eI_240, up2_off _ _ _ (by decide)]; exact hr59, y58b, Or.inl (hkb.2.mpr (by omega))⟩
                exact hl_169 _ k I_165 J7 rfl ⟨kI_165, cI_165, kJ7, rfl, ⟨by omega, by omega⟩, rfl, rfl, (by rw [w58, show (k - k).toNat = 0 by omega]; rfl), Or.inr rfl⟩
              · simp only [w32_mod] at h_149
                have k_146 := h_146.2.mp (by omega)
                clear h_146
                refine ww_bipush hX (pc := 152) (x := 50) dX11_splits_152 (by decide) ?_
                refine ww_goto hX (pc := 154) (tgt := 165) dX11_splits_154 (by decide) ?_
                refine ww_iast hX (pc := 165) (xs_57 hL) (by decide) (by omega) (by omega) dX11_splits_165 ?_
                refine ww_nmH (fun I_165 eI_165 => ?_)
                have kI_165 : Ch [57, 58, 59] [15] Ia I_165 := by rw [eI_165]; exact Ch_r kI_119 (by decide) (by decide)
                have cI_165 : RX I_165 := by rw [eI_165]; exact RX_r cI_119 (by decide)
                have qI_165 := RX_w cI_165
                have f15_I_165 : I_165 49 15 = I_119 49 15 := by rw [eI_165, up2_off _ _ _ (by decide)]
                have g57 : RG (I_165 57) (I7 49 15 + 1) := by rw [eI_165, up2_row, show I_119 49 15 = I7 49 15 by omega, show I_119 57 = I7 57 by rw [eI_119, up2_off _ _ _ (by decide), eI_109, up2_off _ _ _ (by decide)]]; exact RG_up hg57 (by omega) (by omega) (by omega)
                have g59b : RG (I_165 59) (I7 49 15 + 1) := by rw [eI_165, up2_off _ _ _ (by decide), eI_119, up2_off _ _ _ (by decide)]; exact g59
                have w57 : I_165 57 = up1 (I7 57) dn.length (zCo f k.toNat (zSt f N k.toNat)) := by
                  rw [eI_165, up2_row, show (I_119 49 15).toNat = dn.length by omega, show I_119 57 = I7 57 by rw [eI_119, up2_off _ _ _ (by decide), eI_109, up2_off _ _ _ (by decide)]]
                  exact congrArg (up1 (I7 57) dn.length) ((zCo_2 (hkb.2.mpr (by omega))).symm)
                have w58 : I_165 58 = up1 (I7 58) dn.length 0 := by rw [eI_165, up2_off _ _ _ (by decide), eI_119, up2_row, show (I_109 49 15).toNat = dn.length by omega, eI_109, up2_off _ _ _ (by decide)]
                have w59 : I_165 59 = up1 (I7 59) dn.length k := by rw [eI_165, up2_off _ _ _ (by decide), eI_119, up2_off _ _ _ (by decide), eI_109, up2_row, show (I7 49 15).toNat = dn.length by omega]
                refine ww_iload_n hX (pc := 166) dX11_splits_166 rfl ?_
                refine ww_istore hX (pc := 167) (lv' := [some (kR (some 49)), some (kI a), some (kI k), some (kI v_18), some (kI u9), some (kI k)]) dX11_splits_167 (by decide) rfl rfl ?_
                have hl_169 : ∀ (n_169 : Nat) (q : Int) (I169 : aI1) (J169 : aI1), (400 - q).toNat = n_169 → (Ch [57, 58, 59] [15] Ia I169 ∧ RX I169 ∧ Kp 49 49 Ja J169 ∧ I169 49 15 = I_165 49 15 ∧ ((k ≤ q ∧ q ≤ u9) ∧ I169 57 = I_165 57 ∧ I169 59 = I_165 59 ∧ I169 58 = up1 (I7 58) dn.length (zNu f k.toNat (q - k).toNat) ∧ (zKl (f k.toNat) = 2 ∨ q = k))) → WW X 169 [some (kR (some 49)), some (kI a), some (kI k), some (kI v_18), some (kI u9), some (kI q)] [] I169 J169 Ra Sa 0 0 := by
                  intro n_169
                  induction n_169 using Nat.strongRecOn with
                  | ind n_169 ih_169 =>
                    intro q I169 J169 hm_169 hv_169
                    have hq_169 := Sh0_i hm_169
                    clear hm_169
                    obtain ⟨kI169, cI169, kJ169, f15_I169, hq, hr57, hr59, hr58, hqd⟩ := hv_169
                    have qI169 := RX_w cI169
                    have hval : I169 58 dn.length = zNu f k.toNat (q - k).toNat := by rw [hr58, up1_s]
                    have hval2 : I169 58 (I169 49 15).toNat = zNu f k.toNat (q - k).toNat := by rw [show (I169 49 15).toNat = dn.length by omega]; exact hval
                    refine ww_iload hX (pc := 169) dX11_splits_169 rfl ?_
                    refine ww_iload hX (pc := 171) dX11_splits_171 rfl ?_
                    refine ww_icmp_ge hX (pc := 173) (tgt := 247) dX11_splits_173 (by decide) (fun h_173 => ?_) (fun h_173 => ?_)
                    · simp only [w32_mod] at h_173
                      refine ww_aload_n hX (pc := 247) dX11_splits_247 rfl ?_
                      refine ww_dupR hX (pc := 248) dX11_splits_248 ?_
                      refine ww_getI hX (pc := 249) fX11_142 (by decide) (xs_49 hL) dX11_splits_249 ?_
                      refine ww_iconst hX (pc := 252) (x := 1) dX11_splits_252 rfl ?_
                      refine ww_iadd hX (pc := 253) dX11_splits_253 ?_
                      refine ww_putI hX (pc := 254) (fun h9 => absurd h9 (by decide)) gX11_142 rfl (xs_49 hL) dX11_splits_254 ?_
                      refine ww_nmH (fun I_254 eI_254 => ?_)
                      have kI_254 : Ch [57, 58, 59] [15] Ia I_254 := by rw [eI_254]; exact Ch_f kI169 (by decide)
                      have cI_254 : RX I_254 := by rw [eI_254]; exact RX_f cI169 (by decide)
                      have qI_254 := RX_w cI_254
                      have w15 : I_254 49 15 = I7 49 15 + 1 := by
                        have h9 : I_254 49 15 = I169 49 15 + 1 := by rw [eI_254, up2_s]
                        omega
                      have g57c : RG (I_254 57) (I_254 49 15) := by rw [w15, eI_254, up2_off _ _ _ (by decide), hr57]; exact g57
                      have g59c : RG (I_254 59) (I_254 49 15) := by rw [w15, eI_254, up2_off _ _ _ (by decide), hr59]; exact g59b
                      have hva : zNu f k.toNat (q - k).toNat = zVa f k.toNat (zSt f N k.toNat) := by
                        by_cases h9 : zKl (f k.toNat) = 2
                        · rw [zVa_2 h9, show (q - k).toNat = zSt f N k.toNat - k.toNat by first | omega | (have kq := hkb; unfold KLb at kq; omega) | (have kq := hk7; unfold KLb at kq; omega)]
                        · rw [zVa_0 h9, show (q - k).toNat = 0 by omega]
                          rfl
                      have hdn2 : zRo f (dn ++ [(k.toNat, zSt f N k.toNat)]) (I_254 57) (I_254 58) (I_254 59) := by
                        rw [eI_254, up2_off _ _ _ (by decide), up2_off _ _ _ (by decide), up2_off _ _ _ (by decide), hr57, hr58, hr59, w57, w59]
                        exact zRo_ad hdn rfl hva (by omega)
                      refine ww_iload hX (pc := 257) dX11_splits_257 rfl ?_
                      refine ww_istore_n hX (pc := 259) (lv' := [some (kR (some 49)), some (kI a), some (kI u9), some (kI v_18), some (kI u9), some (kI q)]) dX11_splits_259 (by decide) rfl rfl ?_
                      refine ww_goto hX (pc := 260) (tgt := 7) dX11_splits_260 (by decide) ?_
                      refine ww_sub [some (kR (some 49)), some (kI a), some (kI u9), none, none, none] (aLe_s (aLe_s (aLe_s (aLe_n (aLe_n (aLe_n aLe_0)))))) ?_
                      exact ih_7 _ (by have hm9 := Sh0_e hq_7; omega) u9 I_254 J169 rfl ⟨kI_254, cI_254, kJ169, ⟨by omega, by omega⟩, ⟨by omega, by omega⟩, g57c, g59c, dn ++ [(k.toNat, zSt f N k.toNat)], (by rw [ht9, zTk_t (by omega) (by omega), List.append_assoc, List.singleton_append, hst9]), (by rw [List.length_append, List.length_singleton]; omega), hdn2⟩
                    · simp only [w32_mod] at h_173
                      refine ww_iload_n hX (pc := 176) dX11_splits_176 rfl ?_
                      refine sI1 hX (pc := 177) sX11_148 (c_X11_isDigit l0 (by omega) (by omega)) (by decide) (Nat.le_refl 0) (Nat.le_refl 0) (Nat.le_of_ble_eq_true rfl) dX11_splits_177 (fun x_177 I_177 J_177 h_177 => ?_)
                      obtain ⟨rfl, rfl, h_177⟩ := h_177
                      refine ww_if_eq hX (pc := 180) (tgt := 247) dX11_splits_180 (by decide) (fun h_180 => ?_) (fun h_180 => ?_)
                      · simp only [w32_mod] at h_180
                        refine ww_aload_n hX (pc := 247) dX11_splits_247 rfl ?_
                        refine ww_dupR hX (pc := 248) dX11_splits_248 ?_
                        refine ww_getI hX (pc := 249) fX11_142 (by decide) (xs_49 hL) dX11_splits_249 ?_
                        refine ww_iconst hX (pc := 252) (x := 1) dX11_splits_252 rfl ?_
                        refine ww_iadd hX (pc := 253) dX11_splits_253 ?_
                        refine ww_putI hX (pc := 254) (fun h9 => absurd h9 (by decide)) gX11_142 rfl (xs_49 hL) dX11_splits_254 ?_
                        refine ww_nmH (fun I_254 eI_254 => ?_)
                        have kI_254 : Ch [57, 58, 59] [15] Ia I_254 := by rw [eI_254]; exact Ch_f kI169 (by decide)
                        have cI_254 : RX I_254 := by rw [eI_254]; exact RX_f cI169 (by decide)
                        have qI_254 := RX_w cI_254
                        have w15 : I_254 49 15 = I7 49 15 + 1 := by
                          have h9 : I_254 49 15 = I169 49 15 + 1 := by rw [eI_254, up2_s]
                          omega
                        have g57c : RG (I_254 57) (I_254 49 15) := by rw [w15, eI_254, up2_off _ _ _ (by decide), hr57]; exact g57
                        have g59c : RG (I_254 59) (I_254 49 15) := by rw [w15, eI_254, up2_off _ _ _ (by decide), hr59]; exact g59b
                        have hva : zNu f k.toNat (q - k).toNat = zVa f k.toNat (zSt f N k.toNat) := by
                          by_cases h9 : zKl (f k.toNat) = 2
                          · rw [zVa_2 h9, show (q - k).toNat = zSt f N k.toNat - k.toNat by first | omega | (have kq := hkb; unfold KLb at kq; omega) | (have kq := hk7; unfold KLb at kq; omega)]
                          · rw [zVa_0 h9, show (q - k).toNat = 0 by omega]
                            rfl
                        have hdn2 : zRo f (dn ++ [(k.toNat, zSt f N k.toNat)]) (I_254 57) (I_254 58) (I_254 59) := by
                          rw [eI_254, up2_off _ _ _ (by decide), up2_off _ _ _ (by decide), up2_off _ _ _ (by decide), hr57, hr58, hr59, w57, w59]
                          exact zRo_ad hdn rfl hva (by omega)
                        refine ww_iload hX (pc := 257) dX11_splits_257 rfl ?_
                        refine ww_istore_n hX (pc := 259) (lv' := [some (kR (some 49)), some (kI a), some (kI u9), some (kI v_18), some (kI u9), some (kI q)]) dX11_splits_259 (by decide) rfl rfl ?_
                        refine ww_goto hX (pc := 260) (tgt := 7) dX11_splits_260 (by decide) ?_
                        refine ww_sub [some (kR (some 49)), some (kI a), some (kI u9), none, none, none] (aLe_s (aLe_s (aLe_s (aLe_n (aLe_n (aLe_n aLe_0)))))) ?_
                        exact ih_7 _ (by have hm9 := Sh0_e hq_7; omega) u9 I_254 J169 rfl ⟨kI_254, cI_254, kJ169, ⟨by omega, by omega⟩, ⟨by omega, by omega⟩, g57c, g59c, dn ++ [(k.toNat, zSt f N k.toNat)], (by rw [ht9, zTk_t (by omega) (by omega), List.append_assoc, List.singleton_append, hst9]), (by rw [List.length_append, List.length_singleton]; omega), hdn2⟩
                      · simp only [w32_mod] at h_180
                        have k_177 := h_177.2.mp (by omega)
                        clear h_177
                        have hq2 := zSt_all (f := f) (n := N) (k := k.toNat) (q := q.toNat) (by omega) (by omega)
                        have hb7 := hf q.toNat (by omega)
                        rw [← (kI169.1 55 (by decide) (by decide) : I169 55 = Ia 55)] at hb7
                        have hk7 := zKl_B hb7
                        have hzr := zNu_r (f := f) (a := k.toNat) (q - k).toNat (fun i hi => zKl_2.mp ((zSt_all (n := N) (k := k.toNat) (by omega) (by omega)).trans (hkb.2.mpr (by omega))))
                        refine ww_aload_n hX (pc := 183) dX11_splits_183 rfl ?_
                        refine ww_getR hX (pc := 184) fX11_46 (by decide) (xs_49 hL) (xr_49_13 hL) dX11_splits_184 ?_
                        refine ww_aload_n hX (pc := 187) dX11_splits_187 rfl ?_
                        refine ww_getI hX (pc := 188) fX11_142 (by decide) (xs_49 hL) dX11_splits_188 ?_
                        refine ww_aload_n hX (pc := 191) dX11_splits_191 rfl ?_
                        refine ww_getR hX (pc := 192) fX11_46 (by decide) (xs_49 hL) (xr_49_13 hL) dX11_splits_192 ?_
                        refine ww_aload_n hX (pc := 195) dX11_splits_195 rfl ?_
                        refine ww_getI hX (pc := 196) fX11_142 (by decide) (xs_49 hL) dX11_splits_196 ?_
                        refine ww_iald hX (pc := 199) (xs_58 hL) (by decide) (by omega) (by omega) dX11_splits_199 ?_
                        refine ww_ldc hX (pc := 200) (x := 1000000) dX11_splits_200 tb_1327 ?_
                        refine ww_icmp_le hX (pc := 202) (tgt := 217) dX11_splits_202 (by decide) (fun h_202 => ?_) (fun h_202 => ?_)
                        · simp only [w32_mod] at h_202
                          refine ww_bipush hX (pc := 217) (x := 10) dX11_splits_217 (by decide) ?_
                          refine ww_aload_n hX (pc := 219) dX11_splits_219 rfl ?_
                          refine ww_getR hX (pc := 220) fX11_46 (by decide) (xs_49 hL) (xr_49_13 hL) dX11_splits_220 ?_
                          refine ww_aload_n hX (pc := 223) dX11_splits_223 rfl ?_
                          refine ww_getI hX (pc := 224) fX11_142 (by decide) (xs_49 hL) dX11_splits_224 ?_
                          refine ww_iald hX (pc := 227) (xs_58 hL) (by decide) (by omega) (by omega) dX11_splits_227 ?_
                          refine ww_imul hX (pc := 228) dX11_splits_228 ?_
                          refine ww_aload_n hX (pc := 229) dX11_splits_229 rfl ?_
                          refine ww_getR hX (pc := 230) fX11_34 (by decide) (xs_49 hL) (xr_49_8 hL) dX11_splits_230 ?_
                          refine ww_iload hX (pc := 233) dX11_splits_233 rfl ?_
                          refine ww_bald hX (pc := 235) (xs_55 hL) (by decide) (by omega) (by omega) dX11_splits_235 ?_
                          refine ww_iadd hX (pc := 236) dX11_splits_236 ?_
                          refine ww_bipush hX (pc := 237) (x := 48) dX11_splits_237 (by decide) ?_
                          refine ww_isub hX (pc := 239) dX11_splits_239 ?_
                          refine ww_iast hX (pc := 240) (xs_58 hL) (by decide) (by omega) (by omega) dX11_splits_240 ?_
                          refine ww_nmH (fun I_240 eI_240 => ?_)
                          have kI_240 : Ch [57, 58, 59] [15] Ia I_240 := by rw [eI_240]; exact Ch_r kI169 (by decide) (by decide)
                          have cI_240 : RX I_240 := by rw [eI_240]; exact RX_r cI169 (by decide)
                          have qI_240 := RX_w cI_240
                          have f15_I_240 : I_240 49 15 = I169 49 15 := by rw [eI_240, up2_off _ _ _ (by decide)]
                          have y58b : I_240 58 = up1 (I7 58) dn.length (zNu f k.toNat (q + 1 - k).toNat) := by
                            rw [eI_240, up2_row]
                            refine (congrArg (fun F => up1 F _ _) hr58).trans ?_
                            rw [show (I169 49 15).toNat = dn.length by omega, up1_up1]
                            refine congrArg (up1 (I7 58) dn.length) ?_
                            rw [show (q + 1 - k).toNat = (q - k).toNat + 1 by omega]
                            exact (by rw [zNu_f (by omega), show k.toNat + (q - k).toNat = q.toNat by omega]; have kq := hkb; have kr := hk7; unfold KLb at kq kr; omega)
                          refine ww_iinc hX (pc := 241) (lv' := [some (kR (some 49)), some (kI a), some (kI k), some (kI v_18), some (kI u9), some (kI (q + 1))]) dX11_splits_241 rfl (by decide) rfl rfl ?_
                          refine ww_goto hX (pc := 244) (tgt := 169) dX11_splits_244 (by decide) ?_
                          exact ih_169 _ (by have hm9 := Sh0_e hq_169; omega) (q + 1) I_240 J169 rfl ⟨kI_240, cI_240, kJ169, by omega, ⟨by omega, by omega⟩, by rw [eI_240, up2_off _ _ _ (by decide)]; exact hr57, by rw [eI_240, up2_off _ _ _ (by decide)]; exact hr59, y58b, Or.inl (hkb.2.mpr (by omega))⟩
                        · simp only [w32_mod] at h_202
                          refine ww_aload_n hX (pc := 205) dX11_splits_205 rfl ?_
                          refine ww_getR hX (pc := 206) fX11_46 (by decide) (xs_49 hL) (xr_49_13 hL) dX11_splits_206 ?_
                          refine ww_aload_n hX (pc := 209) dX11_splits_209 rfl ?_
                          refine ww_getI hX (pc := 210) fX11_142 (by decide) (xs_49 hL) dX11_splits_210 ?_
                          refine ww_iald hX (pc := 213) (xs_58 hL) (by decide) (by omega) (by omega) dX11_splits_213 ?_
                          refine ww_goto hX (pc := 214) (tgt := 240) dX11_splits_214 (by decide) ?_
                          refine ww_iast hX (pc := 240) (xs_58 hL) (by decide) (by omega) (by omega) dX11_splits_240 ?_
                          refine ww_nmH (fun I_240 eI_240 => ?_)
                          have kI_240 : Ch [57, 58, 59] [15] Ia I_240 := by rw [eI_240]; exact Ch_r kI169 (by decide) (by decide)
                          have cI_240 : RX I_240 := by rw [eI_240]; exact RX_r cI169 (by decide)
                          have qI_240 := RX_w cI_240
                          have f15_I_240 : I_240 49 15 = I169 49 15 := by rw [eI_240, up2_off _ _ _ (by decide)]
                          have y58b : I_240 58 = up1 (I7 58) dn.length (zNu f k.toNat (q + 1 - k).toNat) := by
                            rw [eI_240, up2_row]
                            refine (congrArg (fun F => up1 F _ _) hr58).trans ?_
                            rw [show (I169 49 15).toNat = dn.length by omega, up1_up1]
                            refine congrArg (up1 (I7 58) dn.length) ?_
                            rw [show (q + 1 - k).toNat = (q - k).toNat + 1 by omega]
                            exact (by rw [zNu_t (by omega)]; omega)
                          refine ww_iinc hX (pc := 241) (lv' := [some (kR (some 49)), some (kI a), some (kI k), some (kI v_18), some (kI u9), some (kI (q + 1))]) dX11_splits_241 rfl (by decide) rfl rfl ?_
                          refine ww_goto hX (pc := 244) (tgt := 169) dX11_splits_244 (by decide) ?_
                          exact ih_169 _ (by have hm9 := Sh0_e hq_169; omega) (q + 1) I_240 J169 rfl ⟨kI_240, cI_240, kJ169, by omega, ⟨by omega, by omega⟩, by rw [eI_240, up2_off _ _ _ (by decide)]; exact hr57, by rw [eI_240, up2_off _ _ _ (by decide)]; exact hr59, y58b, Or.inl (hkb.2.mpr (by omega))⟩
                exact hl_169 _ k I_165 J7 rfl ⟨kI_165, cI_165, kJ7, rfl, ⟨by omega, by omega⟩, rfl, rfl, (by rw [w58, show (k - k).toNat = 0 by omega]; rfl), Or.inr rfl⟩
            · simp only [w32_mod] at h_132
              have k_129 := h_129.2.mp (by omega)
              clear h_129
              refine ww_aload_n hX (pc := 135) dX11_splits_135 rfl ?_
              refine ww_iload_n hX (pc := 136) dX11_splits_136 rfl ?_
              refine ww_iload hX (pc := 137) dX11_splits_137 rfl ?_
              refine vI2 hX (pc := 139) sX11_151 (xs_49 hL) (c6_X11_wordOf l0 hL cI_119 (by omega) (by omega) (by omega) hwc hfc (by omega)) (by decide) (Nat.le_refl 0) (Nat.le_refl 0) (Nat.le_of_ble_eq_true rfl) dX11_splits_139 (fun x_139 I_139 J_139 h_139 => ?_)
              obtain ⟨rfl, rfl, h_139⟩ := h_139
              refine ww_goto hX (pc := 142) (tgt := 165) dX11_splits_142 (by decide) ?_
              refine ww_iast hX (pc := 165) (xs_57 hL) (by decide) (by omega) (by omega) dX11_splits_165 ?_
              refine ww_nmH (fun I_165 eI_165 => ?_)
              have kI_165 : Ch [57, 58, 59] [15] Ia I_165 := by rw [eI_165]; exact Ch_r kI_119 (by decide) (by decide)
              have cI_165 : RX I_165 := by rw [eI_165]; exact RX_r cI_119 (by decide)
              have qI_165 := RX_w cI_165
              have f15_I_165 : I_165 49 15 = I_119 49 15 := by rw [eI_165, up2_off _ _ _ (by decide)]
              have hwr := (zWc_r f k.toNat u9.toNat).1
              have g57 : RG (I_165 57) (I7 49 15 + 1) := by rw [eI_165, up2_row, show I_119 49 15 = I7 49 15 by omega, show I_119 57 = I7 57 by rw [eI_119, up2_off _ _ _ (by decide), eI_109, up2_off _ _ _ (by decide)]]; exact RG_up hg57 (by omega) (by omega) (by omega)
              have g59b : RG (I_165 59) (I7 49 15 + 1) := by rw [eI_165, up2_off _ _ _ (by decide), eI_119, up2_off _ _ _ (by decide)]; exact g59
              have w57 : I_165 57 = up1 (I7 57) dn.length (zCo f k.toNat (zSt f N k.toNat)) := by
                rw [eI_165, up2_row, show (I_119 49 15).toNat = dn.length by omega, show I_119 57 = I7 57 by rw [eI_119, up2_off _ _ _ (by decide), eI_109, up2_off _ _ _ (by decide)]]
                exact congrArg (up1 (I7 57) dn.length) ((h_139.trans (by rw [hst9])).trans (zCo_1 (hkb.1.mpr (by omega))).symm)
              have w58 : I_165 58 = up1 (I7 58) dn.length 0 := by rw [eI_165, up2_off _ _ _ (by decide), eI_119, up2_row, show (I_109 49 15).toNat = dn.length by omega, eI_109, up2_off _ _ _ (by decide)]
              have w59 : I_165 59 = up1 (I7 59) dn.length k := by rw [eI_165, up2_off _ _ _ (by decide), eI_119, up2_off _ _ _ (by decide), eI_109, up2_row, show (I7 49 15).toNat = dn.length by omega]
              refine ww_iload_n hX (pc := 166) dX11_splits_166 rfl ?_
              refine ww_istore hX (pc := 167) (lv' := [some (kR (some 49)), some (kI a), some (kI k), some (kI v_18), some (kI u9), some (kI k)]) dX11_splits_167 (by decide) rfl rfl ?_
              have hl_169 : ∀ (n_169 : Nat) (q : Int) (I169 : aI1) (J169 : aI1), (400 - q).toNat = n_169 → (Ch [57, 58, 59] [15] Ia I169 ∧ RX I169 ∧ Kp 49 49 Ja J169 ∧ I169 49 15 = I_165 49 15 ∧ ((k ≤ q ∧ q ≤ u9) ∧ I169 57 = I_165 57 ∧ I169 59 = I_165 59 ∧ I169 58 = up1 (I7 58) dn.length (zNu f k.toNat (q - k).toNat) ∧ (zKl (f k.toNat) = 2 ∨ q = k))) → WW X 169 [some (kR (some 49)), some (kI a), some (kI k), some (kI v_18), some (kI u9), some (kI q)] [] I169 J169 Ra Sa 0 0 := by
                intro n_169
                induction n_169 using Nat.strongRecOn with
                | ind n_169 ih_169 =>
                  intro q I169 J169 hm_169 hv_169
                  have hq_169 := Sh0_i hm_169
                  clear hm_169
                  obtain ⟨kI169, cI169, kJ169, f15_I169, hq, hr57, hr59, hr58, hqd⟩ := hv_169
                  have qI169 := RX_w cI169
                  have hval : I169 58 dn.length = zNu f k.toNat (q - k).toNat := by rw [hr58, up1_s]
                  have hval2 : I169 58 (I169 49 15).toNat = zNu f k.toNat (q - k).toNat := by rw [show (I169 49 15).toNat = dn.length by omega]; exact hval
                  refine ww_iload hX (pc := 169) dX11_splits_169 rfl ?_
                  refine ww_iload hX (pc := 171) dX11_splits_171 rfl ?_
                  refine ww_icmp_ge hX (pc := 173) (tgt := 247) dX11_splits_173 (by decide) (fun h_173 => ?_) (fun h_173 => ?_)
                  · simp only [w32_mod] at h_173
                    refine ww_aload_n hX (pc := 247) dX11_splits_247 rfl ?_
                    refine ww_dupR hX (pc := 248) dX11_splits_248 ?_
                    refine ww_getI hX (pc := 249) fX11_142 (by decide) (xs_49 hL) dX11_splits_249 ?_
                    refine ww_iconst hX (pc := 252) (x := 1) dX11_splits_252 rfl ?_
                    refine ww_iadd hX (pc := 253) dX11_splits_253 ?_
                    refine ww_putI hX (pc := 254) (fun h9 => absurd h9 (by decide)) gX11_142 rfl (xs_49 hL) dX11_splits_254 ?_
                    refine ww_nmH (fun I_254 eI_254 => ?_)
                    have kI_254 : Ch [57, 58, 59] [15] Ia I_254 := by rw [eI_254]; exact Ch_f kI169 (by decide)
                    have cI_254 : RX I_254 := by rw [eI_254]; exact RX_f cI169 (by decide)
                    have qI_254 := RX_w cI_254
                    have w15 : I_254 49 15 = I7 49 15 + 1 := by
                      have h9 : I_254 49 15 = I169 49 15 + 1 := by rw [eI_254, up2_s]
                      omega
                    have g57c : RG (I_254 57) (I_254 49 15) := by rw [w15, eI_254, up2_off _ _ _ (by decide), hr57]; exact g57
                    have g59c : RG (I_254 59) (I_254 49 15) := by rw [w15, eI_254, up2_off _ _ _ (by decide), hr59]; exact g59b
                    have hva : zNu f k.toNat (q - k).toNat = zVa f k.toNat (zSt f N k.toNat) := by
                      by_cases h9 : zKl (f k.toNat) = 2
                      · rw [zVa_2 h9, show (q - k).toNat = zSt f N k.toNat - k.toNat by first | omega | (have kq := hkb; unfold KLb at kq; omega) | (have kq := hk7; unfold KLb at kq; omega)]
                      · rw [zVa_0 h9, show (q - k).toNat = 0 by omega]
                        rfl
                    have hdn2 : zRo f (dn ++ [(k.toNat, zSt f N k.toNat)]) (I_254 57) (I_254 58) (I_254 59) := by
                      rw [eI_254, up2_off _ _ _ (by decide), up2_off _ _ _ (by decide), up2_off _ _ _ (by decide), hr57, hr58, hr59, w57, w59]
                      exact zRo_ad hdn rfl hva (by omega)
                    refine ww_iload hX (pc := 257) dX11_splits_257 rfl ?_
                    refine ww_istore_n hX (pc := 259) (lv' := [some (kR (some 49)), some (kI a), some (kI u9), some (kI v_18), some (kI u9), some (kI q)]) dX11_splits_259 (by decide) rfl rfl ?_
                    refine ww_goto hX (pc := 260) (tgt := 7) dX11_splits_260 (by decide) ?_
                    refine ww_sub [some (kR (some 49)), some (kI a), some (kI u9), none, none, none] (aLe_s (aLe_s (aLe_s (aLe_n (aLe_n (aLe_n aLe_0)))))) ?_
                    exact ih_7 _ (by have hm9 := Sh0_e hq_7; omega) u9 I_254 J169 rfl ⟨kI_254, cI_254, kJ169, ⟨by omega, by omega⟩, ⟨by omega, by omega⟩, g57c, g59c, dn ++ [(k.toNat, zSt f N k.toNat)], (by rw [ht9, zTk_t (by omega) (by omega), List.append_assoc, List.singleton_append, hst9]), (by rw [List.length_append, List.length_singleton]; omega), hdn2⟩
                  · simp only [w32_mod] at h_173
                    refine ww_iload_n hX (pc := 176) dX11_splits_176 rfl ?_
                    refine sI1 hX (pc := 177) sX11_148 (c_X11_isDigit l0 (by omega) (by omega)) (by decide) (Nat.le_refl 0) (Nat.le_refl 0) (Nat.le_of_ble_eq_true rfl) dX11_splits_177 (fun x_177 I_177 J_177 h_177 => ?_)
                    obtain ⟨rfl, rfl, h_177⟩ := h_177
                    refine ww_if_eq hX (pc := 180) (tgt := 247) dX11_splits_180 (by decide) (fun h_180 => ?_) (fun h_180 => ?_)
                    · simp only [w32_mod] at h_180
                      refine ww_aload_n hX (pc := 247) dX11_splits_247 rfl ?_
                      refine ww_dupR hX (pc := 248) dX11_splits_248 ?_
                      refine ww_getI hX (pc := 249) fX11_142 (by decide) (xs_49 hL) dX11_splits_249 ?_
                      refine ww_iconst hX (pc := 252) (x := 1) dX11_splits_252 rfl ?_
                      refine ww_iadd hX (pc := 253) dX11_splits_253 ?_
                      refine ww_putI hX (pc := 254) (fun h9 => absurd h9 (by decide)) gX11_142 rfl (xs_49 hL) dX11_splits_254 ?_
                      refine ww_nmH (fun I_254 eI_254 => ?_)
                      have kI_254 : Ch [57, 58, 59] [15] Ia I_254 := by rw [eI_254]; exact Ch_f kI169 (by decide)
                      have cI_254 : RX I_254 := by rw [eI_254]; exact RX_f cI169 (by decide)
                      have qI_254 := RX_w cI_254
                      have w15 : I_254 49 15 = I7 49 15 + 1 := by
                        have h9 : I_254 49 15 = I169 49 15 + 1 := by rw [eI_254, up2_s]
                        omega
                      have g57c : RG (I_254 57) (I_254 49 15) := by rw [w15, eI_254, up2_off _ _ _ (by decide), hr57]; exact g57
                      have g59c : RG (I_254 59) (I_254 49 15) := by rw [w15, eI_254, up2_off _ _ _ (by decide), hr59]; exact g59b
                      have hva : zNu f k.toNat (q - k).toNat = zVa f k.toNat (zSt f N k.toNat) := by
                        by_cases h9 : zKl (f k.toNat) = 2
                        · rw [zVa_2 h9, show (q - k).toNat = zSt f N k.toNat - k.toNat by first | omega | (have kq := hkb; unfold KLb at kq; omega) | (have kq := hk7; unfold KLb at kq; omega)]
                        · rw [zVa_0 h9, show (q - k).toNat = 0 by omega]
                          rfl
                      have hdn2 : zRo f (dn ++ [(k.toNat, zSt f N k.toNat)]) (I_254 57) (I_254 58) (I_254 59) := by
                        rw [eI_254, up2_off _ _ _ (by decide), up2_off _ _ _ (by decide), up2_off _ _ _ (by decide), hr57, hr58, hr59, w57, w59]
                        exact zRo_ad hdn rfl hva (by omega)
                      refine ww_iload hX (pc := 257) dX11_splits_257 rfl ?_
                      refine ww_istore_n hX (pc := 259) (lv' := [some (kR (some 49)), some (kI a), some (kI u9), some (kI v_18), some (kI u9), some (kI q)]) dX11_splits_259 (by decide) rfl rfl ?_
                      refine ww_goto hX (pc := 260) (tgt := 7) dX11_splits_260 (by decide) ?_
                      refine ww_sub [some (kR (some 49)), some (kI a), some (kI u9), none, none, none] (aLe_s (aLe_s (aLe_s (aLe_n (aLe_n (aLe_n aLe_0)))))) ?_
                      exact ih_7 _ (by have hm9 := Sh0_e hq_7; omega) u9 I_254 J169 rfl ⟨kI_254, cI_254, kJ169, ⟨by omega, by omega⟩, ⟨by omega, by omega⟩, g57c, g59c, dn ++ [(k.toNat, zSt f N k.toNat)], (by rw [ht9, zTk_t (by omega) (by omega), List.append_assoc, List.singleton_append, hst9]), (by rw [List.length_append, List.length_singleton]; omega), hdn2⟩
                    · simp only [w32_mod] at h_180
                      have k_177 := h_177.2.mp (by omega)
                      clear h_177
                      have hq2 := zSt_all (f := f) (n := N) (k := k.toNat) (q := q.toNat) (by omega) (by omega)
                      have hb7 := hf q.toNat (by omega)
                      rw [← (kI169.1 55 (by decide) (by decide) : I169 55 = Ia 55)] at hb7
                      have hk7 := zKl_B hb7
                      have hzr := zNu_r (f := f) (a := k.toNat) (q - k).toNat (fun i hi => zKl_2.mp ((zSt_all (n := N) (k := k.toNat) (by omega) (by omega)).trans (hkb.2.mpr (by omega))))
                      refine ww_aload_n hX (pc := 183) dX11_splits_183 rfl ?_
                      refine ww_getR hX (pc := 184) fX11_46 (by decide) (xs_49 hL) (xr_49_13 hL) dX11_splits_184 ?_
                      refine ww_aload_n hX (pc := 187) dX11_splits_187 rfl ?_
                      refine ww_getI hX (pc := 188) fX11_142 (by decide) (xs_49 hL) dX11_splits_188 ?_
                      refine ww_aload_n hX (pc := 191) dX11_splits_191 rfl ?_
                      refine ww_getR hX (pc := 192) fX11_46 (by decide) (xs_49 hL) (xr_49_13 hL) dX11_splits_192 ?_
                      refine ww_aload_n hX (pc := 195) dX11_splits_195 rfl ?_
                      refine ww_getI hX (pc := 196) fX11_142 (by decide) (xs_49 hL) dX11_splits_196 ?_
                      refine ww_iald hX (pc := 199) (xs_58 hL) (by decide) (by omega) (by omega) dX11_splits_199 ?_
                      refine ww_ldc hX (pc := 200) (x := 1000000) dX11_splits_200 tb_1327 ?_
                      refine ww_icmp_le hX (pc := 202) (tgt := 217) dX11_splits_202 (by decide) (fun h_202 => ?_) (fun h_202 => ?_)
                      · simp only [w32_mod] at h_202
                        refine ww_bipush hX (pc := 217) (x := 10) dX11_splits_217 (by decide) ?_
                        refine ww_aload_n hX (pc := 219) dX11_splits_219 rfl ?_
                        refine ww_getR hX (pc := 220) fX11_46 (by decide) (xs_49 hL) (xr_49_13 hL) dX11_splits_220 ?_
                        refine ww_aload_n hX (pc := 223) dX11_splits_223 rfl ?_
                        refine ww_getI hX (pc := 224) fX11_142 (by decide) (xs_49 hL) dX11_splits_224 ?_
                        refine ww_iald hX (pc := 227) (xs_58 hL) (by decide) (by omega) (by omega) dX11_splits_227 ?_
                        refine ww_imul hX (pc := 228) dX11_splits_228 ?_
                        refine ww_aload_n hX (pc := 229) dX11_splits_229 rfl ?_
                        refine ww_getR hX (pc := 230) fX11_34 (by decide) (xs_49 hL) (xr_49_8 hL) dX11_splits_230 ?_
                        refine ww_iload hX (pc := 233) dX11_splits_233 rfl ?_
                        refine ww_bald hX (pc := 235) (xs_55 hL) (by decide) (by omega) (by omega) dX11_splits_235 ?_
                        refine ww_iadd hX (pc := 236) dX11_splits_236 ?_
                        refine ww_bipush hX (pc := 237) (x := 48) dX11_splits_237 (by decide) ?_
                        refine ww_isub hX (pc := 239) dX11_splits_239 ?_
                        refine ww_iast hX (pc := 240) (xs_58 hL) (by decide) (by omega) (by omega) dX11_splits_240 ?_
                        refine ww_nmH (fun I_240 eI_240 => ?_)
                        have kI_240 : Ch [57, 58, 59] [15] Ia I_240 := by rw [eI_240]; exact Ch_r kI169 (by decide) (by decide)
                        have cI_240 : RX I_240 := by rw [eI_240]; exact RX_r cI169 (by decide)
                        have qI_240 := RX_w cI_240
                        have f15_I_240 : I_240 49 15 = I169 49 15 := by rw [eI_240, up2_off _ _ _ (by decide)]
                        have y58b : I_240 58 = up1 (I7 58) dn.length (zNu f k.toNat (q + 1 - k).toNat) := by
                          rw [eI_240, up2_row]
                          refine (congrArg (fun F => up1 F _ _) hr58).trans ?_
                          rw [show (I169 49 15).toNat = dn.length by omega, up1_up1]
                          refine congrArg (up1 (I7 58) dn.length) ?_
                          rw [show (q + 1 - k).toNat = (q - k).toNat + 1 by omega]
                          exact (by rw [zNu_f (by omega), show k.toNat + (q - k).toNat = q.toNat by omega]; have kq := hkb; have kr := hk7; unfold KLb at kq kr; omega)
                        refine ww_iinc hX (pc := 241) (lv' := [some (kR (some 49)), some (kI a), some (kI k), some (kI v_18), some (kI u9), some (kI (q + 1))]) dX11_splits_241 rfl (by decide) rfl rfl ?_
                        refine ww_goto hX (pc := 244) (tgt := 169) dX11_splits_244 (by decide) ?_
                        exact ih_169 _ (by have hm9 := Sh0_e hq_169; omega) (q + 1) I_240 J169 rfl ⟨kI_240, cI_240, kJ169, by omega, ⟨by omega, by omega⟩, by rw [eI_240, up2_off _ _ _ (by decide)]; exact hr57, by rw [eI_240, up2_off _ _ _ (by decide)]; exact hr59, y58b, Or.inl (hkb.2.mpr (by omega))⟩
                      · simp only [w32_mod] at h_202
                        refine ww_aload_n hX (pc := 205) dX11_splits_205 rfl ?_
                        refine ww_getR hX (pc := 206) fX11_46 (by decide) (xs_49 hL) (xr_49_13 hL) dX11_splits_206 ?_
                        refine ww_aload_n hX (pc := 209) dX11_splits_209 rfl ?_
                        refine ww_getI hX (pc := 210) fX11_142 (by decide) (xs_49 hL) dX11_splits_210 ?_
                        refine ww_iald hX (pc := 213) (xs_58 hL) (by decide) (by omega) (by omega) dX11_splits_213 ?_
                        refine ww_goto hX (pc := 214) (tgt := 240) dX11_splits_214 (by decide) ?_
                        refine ww_iast hX (pc := 240) (xs_58 hL) (by decide) (by omega) (by omega) dX11_splits_240 ?_
                        refine ww_nmH (fun I_240 eI_240 => ?_)
                        have kI_240 : Ch [57, 58, 59] [15] Ia I_240 := by rw [eI_240]; exact Ch_r kI169 (by decide) (by decide)
                        have cI_240 : RX I_240 := by rw [eI_240]; exact RX_r cI169 (by decide)
                        have qI_240 := RX_w cI_240
                        have f15_I_240 : I_240 49 15 = I169 49 15 := by rw [eI_240, up2_off _ _ _ (by decide)]
                        have y58b : I_240 58 = up1 (I7 58) dn.length (zNu f k.toNat (q + 1 - k).toNat) := by
                          rw [eI_240, up2_row]
                          refine (congrArg (fun F => up1 F _ _) hr58).trans ?_
                          rw [show (I169 49 15).toNat = dn.length by omega, up1_up1]
                          refine congrArg (up1 (I7 58) dn.length) ?_
                          rw [show (q + 1 - k).toNat = (q - k).toNat + 1 by omega]
                          exact (by rw [zNu_t (by omega)]; omega)
                        refine ww_iinc hX (pc := 241) (lv' := [some (kR (some 49)), some (kI a), some (kI k), some (kI v_18), some (kI u9), some (kI (q + 1))]) dX11_splits_241 rfl (by decide) rfl rfl ?_
                        refine ww_goto hX (pc := 244) (tgt := 169) dX11_splits_244 (by decide) ?_
                        exact ih_169 _ (by have hm9 := Sh0_e hq_169; omega) (q + 1) I_240 J169 rfl ⟨kI_240, cI_240, kJ169, by omega, ⟨by omega, by omega⟩, by rw [eI_240, up2_off _ _ _ (by decide)]; exact hr57, by rw [eI_240, up2_off _ _ _ (by decide)]; exact hr59, y58b, Or.inl (hkb.2.mpr (by omega))⟩
              exact hl_169 _ k I_165 J7 rfl ⟨kI_165, cI_165, kJ7, rfl, ⟨by omega, by omega⟩, rfl, rfl, (by rw [w58, show (k - k).toNat = 0 by omega]; rfl), Or.inr rfl⟩
          refine ww_iload_n hX (pc := 36) dX11_splits_36 rfl ?_
          refine sI1 hX (pc := 37) sX11_145 (c_X11_isSmall l0 (by omega) (by omega)) (by decide) (Nat.le_refl 0) (Nat.le_refl 0) (Nat.le_of_ble_eq_true rfl) dX11_splits_37 (fun x_37 I_37 J_37 h_37 => ?_)
          obtain ⟨rfl, rfl, h_37⟩ := h_37
          refine ww_if_eq hX (pc := 40) (tgt := 68) dX11_splits_40 (by decide) (fun h_40 => ?_) (fun h_40 => ?_)
          · simp only [w32_mod] at h_40
            refine ww_iload_n hX (pc := 68) dX11_splits_68 rfl ?_
            refine sI1 hX (pc := 69) sX11_148 (c_X11_isDigit l0 (by omega) (by omega)) (by decide) (Nat.le_refl 0) (Nat.le_refl 0) (Nat.le_of_ble_eq_true rfl) dX11_splits_69 (fun x_69 I_69 J_69 h_69 => ?_)
            obtain ⟨rfl, rfl, h_69⟩ := h_69
            refine ww_if_eq hX (pc := 72) (tgt := 100) dX11_splits_72 (by decide) (fun h_72 => ?_) (fun h_72 => ?_)
            · simp only [w32_mod] at h_72
              have hst9 : v_34.toNat = zSt f N k.toNat := by rw [show v_34.toNat = k.toNat + 1 by omega]; exact zSW_e zSW_0 (fun h9 => by have k2 := h9.2; have k3 := zKl_r (f k.toNat); have kq := hkb; unfold KLb at kq; omega)
              exact hj_100 v_34 ⟨by omega, by omega, hst9⟩
            · simp only [w32_mod] at h_72
              have k_69 := h_69.2.mp (by omega)
              clear h_69
              have hl_75 : ∀ (n_75 : Nat) (u : Int), (a - u).toNat = n_75 → (((k + 1 ≤ u ∧ u ≤ a) ∧ zSW f N k.toNat u.toNat)) → WW X 75 [some (kR (some 49)), some (kI a), some (kI k), some (kI v_18), some (kI u), none] [] I7 J7 Ra Sa 0 0 := by
                intro n_75
                induction n_75 using Nat.strongRecOn with
                | ind n_75 ih_75 =>
                  intro u hm_75 hv_75
                  have hq_75 := Sh0_i hm_75
                  clear hm_75
                  obtain ⟨hu, hsw⟩ := hv_75
                  refine ww_iload hX (pc := 75) dX11_splits_75 rfl ?_
                  refine ww_iload_n hX (pc := 77) dX11_splits_77 rfl ?_
                  refine ww_icmp_ge hX (pc := 78) (tgt := 100) dX11_splits_78 (by decide) (fun h_78 => ?_) (fun h_78 => ?_)
                  · simp only [w32_mod] at h_78
                    have hst9 : u.toNat = zSt f N k.toNat := zSW_e hsw (fun h9 => absurd h9.1.1 (by omega))
                    exact hj_100 u ⟨by omega, by omega, hst9⟩
                  · simp only [w32_mod] at h_78
                    refine ww_aload_n hX (pc := 81) dX11_splits_81 rfl ?_
                    refine ww_getR hX (pc := 82) fX11_34 (by decide) (xs_49 hL) (xr_49_8 hL) dX11_splits_82 ?_
                    refine ww_iload hX (pc := 85) dX11_splits_85 rfl ?_
                    refine ww_bald hX (pc := 87) (xs_55 hL) (by decide) (by omega) (by omega) dX11_splits_87 ?_
                    have hb8 := hf u.toNat (by omega)
                    rw [← y55] at hb8
                    refine sI1 hX (pc := 88) sX11_148 (c_X11_isDigit l0 (by omega) (by omega)) (by decide) (Nat.le_refl 0) (Nat.le_refl 0) (Nat.le_of_ble_eq_true rfl) dX11_splits_88 (fun x_88 I_88 J_88 h_88 => ?_)
                    obtain ⟨rfl, rfl, h_88⟩ := h_88
                    refine ww_if_eq hX (pc := 91) (tgt := 100) dX11_splits_91 (by decide) (fun h_91 => ?_) (fun h_91 => ?_)
                    · simp only [w32_mod] at h_91
                      have hst9 : u.toNat = zSt f N k.toNat := zSW_e hsw (fun h9 => by have k1 := zKl_b hb8; have k2 := h9.1.2; have kq := hkb; unfold KLb at kq; omega)
                      exact hj_100 u ⟨by omega, by omega, hst9⟩
                    · simp only [w32_mod] at h_91
                      have k_88 := h_88.2.mp (by omega)
                      clear h_88
                      refine ww_iinc hX (pc := 94) (lv' := [some (kR (some 49)), some (kI a), some (kI k), some (kI v_18), some (kI (u + 1)), none]) dX11_splits_94 rfl (by decide) rfl rfl ?_
                      refine ww_goto hX (pc := 97) (tgt := 75) dX11_splits_97 (by decide) ?_
                      exact ih_75 _ (by have hm9 := Sh0_e hq_75; omega) (u + 1) rfl ⟨by omega, by rw [show (u + 1).toNat = u.toNat + 1 by omega]; exact zSW_s hsw (by omega) (by have k1 := zKl_b hb8; have kq := hkb; unfold KLb at kq; omega) (by have kq := hkb; unfold KLb at kq; omega)⟩
              exact hl_75 _ v_34 rfl ⟨by omega, by rw [show v_34.toNat = k.toNat + 1 by omega]; exact zSW_0⟩
          · simp only [w32_mod] at h_40
            have k_37 := h_37.2.mp (by omega)
            clear h_37
            have hl_43 : ∀ (n_43 : Nat) (u : Int), (a - u).toNat = n_43 → (((k + 1 ≤ u ∧ u ≤ a) ∧ zSW f N k.toNat u.toNat)) → WW X 43 [some (kR (some 49)), some (kI a), some (kI k), some (kI v_18), some (kI u), none] [] I7 J7 Ra Sa 0 0 := by
              intro n_43
              induction n_43 using Nat.strongRecOn with
              | ind n_43 ih_43 =>
                intro u hm_43 hv_43
                have hq_43 := Sh0_i hm_43
                clear hm_43
                obtain ⟨hu, hsw⟩ := hv_43
                refine ww_iload hX (pc := 43) dX11_splits_43 rfl ?_
                refine ww_iload_n hX (pc := 45) dX11_splits_45 rfl ?_
                refine ww_icmp_ge hX (pc := 46) (tgt := 68) dX11_splits_46 (by decide) (fun h_46 => ?_) (fun h_46 => ?_)
                · simp only [w32_mod] at h_46
                  have hst9 : u.toNat = zSt f N k.toNat := zSW_e hsw (fun h9 => absurd h9.1.1 (by omega))
                  refine ww_iload_n hX (pc := 68) dX11_splits_68 rfl ?_
                  refine sI1 hX (pc := 69) sX11_148 (c_X11_isDigit l0 (by omega) (by omega)) (by decide) (Nat.le_refl 0) (Nat.le_refl 0) (Nat.le_of_ble_eq_true rfl) dX11_splits_69 (fun x_69 I_69 J_69 h_69 => ?_)
                  obtain ⟨rfl, rfl, h_69⟩ := h_69
                  refine ww_if_eq hX (pc := 72) (tgt := 100) dX11_splits_72 (by decide) (fun h_72 => ?_) (fun h_72 => ?_)
                  · simp only [w32_mod] at h_72
                    exact hj_100 u ⟨by omega, by omega, hst9⟩
                  · simp only [w32_mod] at h_72
                    have k_69 := h_69.2.mp (by omega)
                    clear h_69
                    exfalso
                    omega
                · simp only [w32_mod] at h_46
                  refine ww_aload_n hX (pc := 49) dX11_splits_49 rfl ?_
                  refine ww_getR hX (pc := 50) fX11_34 (by decide) (xs_49 hL) (xr_49_8 hL) dX11_splits_50 ?_
                  refine ww_iload hX (pc := 53) dX11_splits_53 rfl ?_
                  refine ww_bald hX (pc := 55) (xs_55 hL) (by decide) (by omega) (by omega) dX11_splits_55 ?_
                  have hb8 := hf u.toNat (by omega)
                  rw [← y55] at hb8
                  refine sI1 hX (pc := 56) sX11_145 (c_X11_isSmall l0 (by omega) (by omega)) (by decide) (Nat.le_refl 0) (Nat.le_refl 0) (Nat.le_of_ble_eq_true rfl) dX11_splits_56 (fun x_56 I_56 J_56 h_56 => ?_)
                  obtain ⟨rfl, rfl, h_56⟩ := h_56
                  refine ww_if_eq hX (pc := 59) (tgt := 68) dX11_splits_59 (by decide) (fun h_59 => ?_) (fun h_59 => ?_)
                  · simp only [w32_mod] at h_59
                    have hst9 : u.toNat = zSt f N k.toNat := zSW_e hsw (fun h9 => by have k1 := zKl_b hb8; have k2 := h9.1.2; have kq := hkb; unfold KLb at kq; omega)
                    refine ww_iload_n hX (pc := 68) dX11_splits_68 rfl ?_
                    refine sI1 hX (pc := 69) sX11_148 (c_X11_isDigit l0 (by omega) (by omega)) (by decide) (Nat.le_refl 0) (Nat.le_refl 0) (Nat.le_of_ble_eq_true rfl) dX11_splits_69 (fun x_69 I_69 J_69 h_69 => ?_)
                    obtain ⟨rfl, rfl, h_69⟩ := h_69
                    refine ww_if_eq hX (pc := 72) (tgt := 100) dX11_splits_72 (by decide) (fun h_72 => ?_) (fun h_72 => ?_)
                    · simp only [w32_mod] at h_72
                      exact hj_100 u ⟨by omega, by omega, hst9⟩
                    · simp only [w32_mod] at h_72
                      have k_69 := h_69.2.mp (by omega)
                      clear h_69
                      exfalso
                      omega
                  · simp only [w32_mod] at h_59
                    have k_56 := h_56.2.mp (by omega)
                    clear h_56
                    refine ww_iinc hX (pc := 62) (lv' := [some (kR (some 49)), some (kI a), some (kI k), some (kI v_18), some (kI (u + 1)), none]) dX11_splits_62 rfl (by decide) rfl rfl ?_
                    refine ww_goto hX (pc := 65) (tgt := 43) dX11_splits_65 (by decide) ?_
                    exact ih_43 _ (by have hm9 := Sh0_e hq_43; omega) (u + 1) rfl ⟨by omega, by rw [show (u + 1).toNat = u.toNat + 1 by omega]; exact zSW_s hsw (by omega) (by have k1 := zKl_b hb8; have kq := hkb; unfold KLb at kq; omega) (by have kq := hkb; unfold KLb at kq; omega)⟩
            exact hl_43 _ v_34 rfl ⟨by omega, by rw [show v_34.toNat = k.toNat + 1 by omega]; exact zSW_0⟩
        · simp only [w32_mod] at h_22
          refine ww_iinc hX (pc := 25) (lv' := [some (kR (some 49)), some (kI a), some (kI (k + 1)), some (kI v_18), none, none]) dX11_splits_25 rfl (by decide) rfl rfl ?_
          refine ww_goto hX (pc := 28) (tgt := 7) dX11_splits_28 (by decide) ?_
          refine ww_sub [some (kR (some 49)), some (kI a), some (kI (k + 1)), none, none, none] (aLe_s (aLe_s (aLe_s (aLe_n (aLe_n (aLe_n aLe_0)))))) ?_
          exact ih_7 _ (by have hm9 := Sh0_e hq_7; omega) (k + 1) I7 J7 rfl ⟨kI7, cI7, kJ7, ⟨by omega, by omega⟩, ⟨by omega, by omega⟩, hg57, hg59, dn, (by rw [ht9, zTk_b (by omega) (by omega), show (k + 1).toNat = k.toNat + 1 by omega]), hd15, hdn⟩
  exact hl_7 _ 0 I_2 Ja rfl ⟨kI_2, cI_2, (Kp_rf (a := 49) (b := 49)), ⟨by omega, by omega⟩, ⟨by omega, by omega⟩, fun j hj => by omega, fun j hj => by omega, [], rfl, by omega, zRo_0⟩
set_option maxHeartbeats 4000000 in
set_option maxRecDepth 20000 in
theorem c9_X11_faults (l0 : Launch) {Ia Ja : aI1} {Ra : aR1} {Sa : aS1} (hL : LY Ra Sa) (hQ : RX Ia) (hP : PI Ia) {vl pl : Nat → Int} {T : Nat} (hk : zRL Ia vl pl T)  : CT l0 1 0 0 mX11_faults [kR (some 49)] Ia Ja Ra Sa (cV (fun I' J' => Ch [] [18] Ia I' ∧ Kp 49 49 Ja J' ∧ RX I' ∧ PI I' ∧ I' 49 16 = Ia 49 16 ∧ I' 49 17 = Ia 49 17 ∧ zFT pl Ia I') Ra Sa) := by
  refine ct_in pn_X11 (Nat.le_of_ble_eq_true rfl) (fun X hX hT hIn => ?_)
  have hX : aK l0 X cX11_faults 1 RX11 none 1 0 0 := hX
  change WW X 0 [some (kR (some 49))] [] Ia Ja Ra Sa 0 0
  have qIa := RX_w hQ
  have oIa := PI_o hP
  have tIa := PI_t hP
  refine ww_aload_n hX (pc := 0) dX11_faults_0 rfl ?_
  refine vI0 hX (pc := 1) sX11_158 (xs_49 hL) (c_X11_fine l0 hL hQ  hP) (by decide) (Nat.le_refl 0) (Nat.le_refl 0) (Nat.le_of_ble_eq_true rfl) dX11_faults_1 (fun x_1 I_1 J_1 h_1 => ?_)
  obtain ⟨rfl, rfl, h_1⟩ := h_1
  refine ww_if_eq hX (pc := 4) (tgt := 20) dX11_faults_4 (by decide) (fun h_4 => ?_) (fun h_4 => ?_)
  · simp only [w32_mod] at h_4
    have nb := FN_0 h_1.2 (by omega)
    refine rV hX (pc := 20) hT (Nat.le_refl 0) (Nat.le_refl 0) dX11_faults_20 ?_
    exact ⟨Ch_rf, (Kp_rf (a := 49) (b := 49)), hQ, hP, by omega, by omega, zFT_n nb⟩
  · simp only [w32_mod] at h_4
    have bb := FN_1 h_1.2 (by omega)
    refine ww_aload_n hX (pc := 7) dX11_faults_7 rfl ?_
    refine ww_aload_n hX (pc := 8) dX11_faults_8 rfl ?_
    refine ww_getR hX (pc := 9) fX11_49 (by decide) (xs_49 hL) (xr_49_14 hL) dX11_faults_9 ?_
    refine ww_aload_n hX (pc := 12) dX11_faults_12 rfl ?_
    refine ww_getI hX (pc := 13) fX11_162 (by decide) (xs_49 hL) dX11_faults_13 ?_
    refine ww_iald hX (pc := 16) (xs_59 hL) (by decide) (by omega) (by omega) dX11_faults_16 ?_
    refine ww_putI hX (pc := 17) (fun h9 => absurd h9 (by decide)) gX11_155 rfl (xs_49 hL) dX11_faults_17 ?_
    refine ww_nmH (fun I_17 eI_17 => ?_)
    have kI_17 : Ch [] [18] Ia I_17 := by rw [eI_17]; exact Ch_f Ch_rf (by decide)
    have cI_17 : RX I_17 := by rw [eI_17]; exact RX_f hQ (by decide)
    have qI_17 := RX_w cI_17
    have f15_I_17 : I_17 49 15 = Ia 49 15 := by rw [eI_17, up2_n _ _ (Or.inr (by decide))]
    have f16_I_17 : I_17 49 16 = Ia 49 16 := by rw [eI_17, up2_n _ _ (Or.inr (by decide))]
    have f17_I_17 : I_17 49 17 = Ia 49 17 := by rw [eI_17, up2_n _ _ (Or.inr (by decide))]
    have w18 : I_17 49 18 = Ia 59 (Ia 49 16).toNat := by rw [eI_17, up2_s]
    have pI_17 : PI I_17 := by rw [eI_17]; exact PI_f hP (by decide) (fun h => absurd h (by decide)) (fun _ => ⟨by omega, by omega⟩)
    have oI_17 := PI_o pI_17
    refine rV hX (pc := 20) hT (Nat.le_refl 0) (Nat.le_refl 0) dX11_faults_20 ?_
    exact ⟨kI_17, (Kp_rf (a := 49) (b := 49)), cI_17, pI_17, by omega, by omega, zFT_f bb (w18.trans (zRL_p hk hP).2.1)⟩
set_option maxHeartbeats 4000000 in
set_option maxRecDepth 20000 in
theorem c9_X11_must (l0 : Launch) {Ia Ja : aI1} {Ra : aR1} {Sa : aS1} (hL : LY Ra Sa) (hQ : RX Ia) {r : Int} (hP : PI Ia) {c : Nat → Int} (hc : pvw Ia = c) {vl pl : Nat → Int} {T : Nat} (hk : zRL Ia vl pl T) (hr0 : 1 ≤ r) (hr1 : r ≤ 400)  : CT l0 2 0 0 mX11_must [kR (some 49), kI r] Ia Ja Ra Sa (cV (fun I' J' => Ch [] [16, 18] Ia I' ∧ Kp 49 49 Ja J' ∧ RX I' ∧ PI I' ∧ Ia 49 16 ≤ I' 49 16 ∧ zMS c pl r T Ia I') Ra Sa) := by
  refine ct_in pn_X11 (Nat.le_of_ble_eq_true rfl) (fun X hX hT hIn => ?_)
  have hX : aK l0 X cX11_must 2 RX11 none 2 0 0 := hX
  change WW X 0 [some (kR (some 49)), some (kI r)] [] Ia Ja Ra Sa 0 0
  have qIa := RX_w hQ
  have oIa := PI_o hP
  have tIa := PI_t hP
  have atIa := pvw_at hP hc
  refine ww_aload_n hX (pc := 0) dX11_must_0 rfl ?_
  refine ww_iload_n hX (pc := 1) dX11_must_1 rfl ?_
  refine vI1 hX (pc := 2) sX11_165 (xs_49 hL) (c9_X11_takes0 l0 hL hQ  hP hc (by omega) (by omega)) (by decide) (Nat.le_refl 0) (Nat.le_refl 0) (Nat.le_of_ble_eq_true rfl) dX11_must_2 (fun x_2 I_2 J_2 h_2 => ?_)
  have kJ_2 : Kp 49 49 Ja J_2 := Kp_tr (Kp_rf (a := 49) (b := 49)) h_2.2.1
  have kI_2 : Ch [] [16, 18] Ia I_2 := Ch_tr Ch_rf (Ch_wd h_2.1 (by decide) (by decide))
  have cI_2 : RX I_2 := h_2.2.2.1
  have qI_2 := RX_w cI_2
  have f15_I_2 : I_2 49 15 = Ia 49 15 := h_2.1.2 15 (by decide)
  have f17_I_2 : I_2 49 17 = Ia 49 17 := h_2.1.2 17 (by decide)
  have f18_I_2 : I_2 49 18 = Ia 49 18 := h_2.1.2 18 (by decide)
  have pI_2 : PI I_2 := h_2.2.2.2.1
  have oI_2 := PI_o pI_2
  have yI_2 := h_2.2.2.2.2
  refine ww_if_ne hX (pc := 5) (tgt := 12) dX11_must_5 (by decide) (fun h_5 => ?_) (fun h_5 => ?_)
  · simp only [w32_mod] at h_5
    have s2 := TK_1 yI_2.2.2.2 (by omega)
    refine rV hX (pc := 12) hT (Nat.le_refl 0) (Nat.le_refl 0) dX11_must_12 ?_
    exact ⟨kI_2, kJ_2, cI_2, pI_2, by omega, zMS_1 s2 f17_I_2 (by omega) hk.1 (PI_lt hP (by have h8 := s2.2.1; omega))⟩
  · simp only [w32_mod] at h_5
    obtain ⟨z2, n2⟩ := TK_0 yI_2.2.2.2 (by omega)
    refine ww_aload_n hX (pc := 8) dX11_must_8 rfl ?_
    refine vV0 hX (pc := 9) sX11_168 (xs_49 hL) (c9_X11_faults l0 hL cI_2  pI_2 (zRL_tr kI_2 (by decide) (by decide) (by decide) hk)) (by decide) (Nat.le_refl 0) (Nat.le_refl 0) (Nat.le_of_ble_eq_true rfl) dX11_must_9 (fun I_9 J_9 h_9 => ?_)
    have kJ_9 : Kp 49 49 Ja J_9 := Kp_tr kJ_2 h_9.2.1
    have kI_9 : Ch [] [16, 18] Ia I_9 := Ch_tr kI_2 (Ch_wd h_9.1 (by decide) (by decide))
    have cI_9 : RX I_9 := h_9.2.2.1
    have qI_9 := RX_w cI_9
    have f15_I_9 : I_9 49 15 = I_2 49 15 := h_9.1.2 15 (by decide)
    have f16_I_9 : I_9 49 16 = I_2 49 16 := h_9.1.2 16 (by decide)
    have f17_I_9 : I_9 49 17 = I_2 49 17 := h_9.1.2 17 (by decide)
    have pI_9 : PI I_9 := h_9.2.2.2.1
    have oI_9 := PI_o pI_9
    have yI_9 := h_9.2.2.2.2
    refine rV hX (pc := 12) hT (Nat.le_refl 0) (Nat.le_refl 0) dX11_must_12 ?_
    exact ⟨kI_9, kJ_9, cI_9, pI_9, by omega, zMS_0 z2 (by omega) n2 yI_9.2.2 (zRL_pp hk)⟩
set_option maxHeartbeats 4000000 in
set_option maxRecDepth 20000 in
theorem c9_X11_leaf (l0 : Launch) {Ia Ja : aI1} {Ra : aR1} {Sa : aS1} (hL : LY Ra Sa) (hQ : RX Ia) (hP : PI Ia) {vl pl : Nat → Int} {T : Nat} (hk : zRL Ia vl pl T) (hz : 1 ≤ Ia 57 (Ia 49 16).toNat) (hb : Ia 49 18 = -1)  : CT l0 2 0 0 mX11_leaf [kR (some 49)] Ia Ja Ra Sa (cV (fun I' J' => Ch [] [16, 17, 18] Ia I' ∧ Kp 49 49 Ja J' ∧ RX I' ∧ PI I' ∧ Ia 49 16 ≤ I' 49 16 ∧ zLf6 pl T Ia I') Ra Sa) := by
  refine ct_in pn_X11 (Nat.le_of_ble_eq_true rfl) (fun X hX hT hIn => ?_)
  have hX : aK l0 X cX11_leaf 1 RX11 none 2 0 0 := hX
  change WW X 0 [some (kR (some 49))] [] Ia Ja Ra Sa 0 0
  have qIa := RX_w hQ
  have oIa := PI_o hP
  have tIa := PI_t hP
  refine ww_aload_n hX (pc := 0) dX11_leaf_0 rfl ?_
  refine ww_getI hX (pc := 1) fX11_171 (by decide) (xs_49 hL) dX11_leaf_1 ?_
  refine ww_bipush hX (pc := 4) (x := 50) dX11_leaf_4 (by decide) ?_
  refine ww_icmp_ne hX (pc := 6) (tgt := 13) dX11_leaf_6 (by decide) (fun h_6 => ?_) (fun h_6 => ?_)
  · simp only [w32_mod] at h_6
    refine ww_aload_n hX (pc := 13) dX11_leaf_13 rfl ?_
    refine ww_dupR hX (pc := 14) dX11_leaf_14 ?_
    refine ww_getI hX (pc := 15) fX11_171 (by decide) (xs_49 hL) dX11_leaf_15 ?_
    refine ww_iconst hX (pc := 18) (x := 1) dX11_leaf_18 rfl ?_
    refine ww_iadd hX (pc := 19) dX11_leaf_19 ?_
    refine ww_putI hX (pc := 20) (fun h9 => absurd h9 (by decide)) gX11_171 rfl (xs_49 hL) dX11_leaf_20 ?_
    refine ww_nmH (fun I_20 eI_20 => ?_)
    have kI_20 : Ch [] [16, 17, 18] Ia I_20 := by rw [eI_20]; exact Ch_f Ch_rf (by decide)
    have cI_20 : RX I_20 := by rw [eI_20]; exact RX_f hQ (by decide)
    have qI_20 := RX_w cI_20
    have f15_I_20 : I_20 49 15 = Ia 49 15 := by rw [eI_20, up2_n _ _ (Or.inr (by decide))]
    have f16_I_20 : I_20 49 16 = Ia 49 16 := by rw [eI_20, up2_n _ _ (Or.inr (by decide))]
    have f18_I_20 : I_20 49 18 = Ia 49 18 := by rw [eI_20, up2_n _ _ (Or.inr (by decide))]
    have w17 : I_20 49 17 = Ia 49 17 + 1 := by rw [eI_20, up2_s]
    have h57 : I_20 57 = Ia 57 := by rw [eI_20, up2_off _ _ _ (by decide)]
    have hpv : Ia 57 = Ia 57 := rfl
    have hz2 : 1 ≤ I_20 57 (I_20 49 16).toNat := by rw [h57, hpv, show I_20 49 16 = Ia 49 16 by omega]; exact hz
    have pI_20 : PI I_20 := by rw [eI_20]; exact PI_f hP (by decide) (fun h => absurd h (by decide)) (fun h => absurd h (by decide))
    have oI_20 := PI_o pI_20
    refine ww_aload_n hX (pc := 23) dX11_leaf_23 rfl ?_
    refine vI0 hX (pc := 24) sX11_158 (xs_49 hL) (c_X11_fine l0 hL cI_20  pI_20) (by decide) (Nat.le_refl 0) (Nat.le_refl 0) (Nat.le_of_ble_eq_true rfl) dX11_leaf_24 (fun x_24 I_24 J_24 h_24 => ?_)
    obtain ⟨rfl, rfl, h_24⟩ := h_24
    refine ww_if_eq hX (pc := 27) (tgt := 40) dX11_leaf_27 (by decide) (fun h_27 => ?_) (fun h_27 => ?_)
    · simp only [w32_mod] at h_27
      exfalso
      exact FN_0 h_24.2 (by omega) (by omega)
    · simp only [w32_mod] at h_27
      have bb := FN_1 h_24.2 (by omega)
      refine ww_aload_n hX (pc := 30) dX11_leaf_30 rfl ?_
      refine ww_dupR hX (pc := 31) dX11_leaf_31 ?_
      refine ww_getI hX (pc := 32) fX11_162 (by decide) (xs_49 hL) dX11_leaf_32 ?_
      refine ww_iconst hX (pc := 35) (x := 1) dX11_leaf_35 rfl ?_
      refine ww_iadd hX (pc := 36) dX11_leaf_36 ?_
      refine ww_putI hX (pc := 37) (fun h9 => absurd h9 (by decide)) gX11_162 rfl (xs_49 hL) dX11_leaf_37 ?_
      have lt37 := PI_lt pI_20 (by omega)
      refine ww_nmH (fun I_37 eI_37 => ?_)
      have kI_37 : Ch [] [16, 17, 18] Ia I_37 := by rw [eI_37]; exact Ch_f kI_20 (by decide)
      have cI_37 : RX I_37 := by rw [eI_37]; exact RX_f cI_20 (by decide)
      have qI_37 := RX_w cI_37
      have f15_I_37 : I_37 49 15 = I_20 49 15 := by rw [eI_37, up2_n _ _ (Or.inr (by decide))]
      have f17_I_37 : I_37 49 17 = I_20 49 17 := by rw [eI_37, up2_n _ _ (Or.inr (by decide))]
      have f18_I_37 : I_37 49 18 = I_20 49 18 := by rw [eI_37, up2_n _ _ (Or.inr (by decide))]
      have w16 : I_37 49 16 = I_20 49 16 + 1 := by rw [eI_37, up2_s]
      have pI_37 : PI I_37 := by rw [eI_37]; exact PI_f pI_20 (by decide) (fun _ => ⟨by omega, by omega⟩) (fun h => absurd h (by decide))
      have oI_37 := PI_o pI_37
      refine rV hX (pc := 40) hT (Nat.le_refl 0) (Nat.le_refl 0) dX11_leaf_40 ?_
      exact ⟨kI_37, (Kp_rf (a := 49) (b := 49)), cI_37, pI_37, by omega, zLf6_1 (fun l9 g1 g2 g3 => by omega) (by omega) (by omega) (by omega) hk.1 (PI_lt hP hz)⟩
  · simp only [w32_mod] at h_6
    refine ww_aload_n hX (pc := 9) dX11_leaf_9 rfl ?_
    refine vV0 hX (pc := 10) sX11_168 (xs_49 hL) (c9_X11_faults l0 hL hQ  hP hk) (by decide) (Nat.le_refl 0) (Nat.le_refl 0) (Nat.le_of_ble_eq_true rfl) dX11_leaf_10 (fun I_10 J_10 h_10 => ?_)
    have kJ_10 : Kp 49 49 Ja J_10 := Kp_tr (Kp_rf (a := 49) (b := 49)) h_10.2.1
    have kI_10 : Ch [] [16, 17, 18] Ia I_10 := Ch_tr Ch_rf (Ch_wd h_10.1 (by decide) (by decide))
    have cI_10 : RX I_10 := h_10.2.2.1
    have qI_10 := RX_w cI_10
    have f15_I_10 : I_10 49 15 = Ia 49 15 := h_10.1.2 15 (by decide)
    have f16_I_10 : I_10 49 16 = Ia 49 16 := h_10.1.2 16 (by decide)
    have f17_I_10 : I_10 49 17 = Ia 49 17 := h_10.1.2 17 (by decide)
    have pI_10 : PI I_10 := h_10.2.2.2.1
    have oI_10 := PI_o pI_10
    have yI_10 := h_10.2.2.2.2
    refine ww_aload_n hX (pc := 13) dX11_leaf_13 rfl ?_
    refine ww_dupR hX (pc := 14) dX11_leaf_14 ?_
    refine ww_getI hX (pc := 15) fX11_171 (by decide) (xs_49 hL) dX11_leaf_15 ?_
    refine ww_iconst hX (pc := 18) (x := 1) dX11_leaf_18 rfl ?_
    refine ww_iadd hX (pc := 19) dX11_leaf_19 ?_
    refine ww_putI hX (pc := 20) (fun h9 => absurd h9 (by decide)) gX11_171 rfl (xs_49 hL) dX11_leaf_20 ?_
    refine ww_nmH (fun I_20 eI_20 => ?_)
    have kI_20 : Ch [] [16, 17, 18] Ia I_20 := by rw [eI_20]; exact Ch_f kI_10 (by decide)
    have cI_20 : RX I_20 := by rw [eI_20]; exact RX_f cI_10 (by decide)
    have qI_20 := RX_w cI_20
    have f15_I_20 : I_20 49 15 = I_10 49 15 := by rw [eI_20, up2_n _ _ (Or.inr (by decide))]
    have f16_I_20 : I_20 49 16 = I_10 49 16 := by rw [eI_20, up2_n _ _ (Or.inr (by decide))]
    have f18_I_20 : I_20 49 18 = I_10 49 18 := by rw [eI_20, up2_n _ _ (Or.inr (by decide))]
    have w17 : I_20 49 17 = I_10 49 17 + 1 := by rw [eI_20, up2_s]
    have h57 : I_20 57 = I_10 57 := by rw [eI_20, up2_off _ _ _ (by decide)]
    have hpv : I_10 57 = Ia 57 := h_10.1.1 57 (by decide) (by decide)
    have hz2 : 1 ≤ I_20 57 (I_20 49 16).toNat := by rw [h57, hpv, show I_20 49 16 = Ia 49 16 by omega]; exact hz
    have pI_20 : PI I_20 := by rw [eI_20]; exact PI_f pI_10 (by decide) (fun h => absurd h (by decide)) (fun h => absurd h (by decide))
    have oI_20 := PI_o pI_20
    refine ww_aload_n hX (pc := 23) dX11_leaf_23 rfl ?_
    refine vI0 hX (pc := 24) sX11_158 (xs_49 hL) (c_X11_fine l0 hL cI_20  pI_20) (by decide) (Nat.le_refl 0) (Nat.le_refl 0) (Nat.le_of_ble_eq_true rfl) dX11_leaf_24 (fun x_24 I_24 J_24 h_24 => ?_)
    obtain ⟨rfl, rfl, h_24⟩ := h_24
    refine ww_if_eq hX (pc := 27) (tgt := 40) dX11_leaf_27 (by decide) (fun h_27 => ?_) (fun h_27 => ?_)
    · simp only [w32_mod] at h_27
      refine rV hX (pc := 40) hT (Nat.le_refl 0) (Nat.le_refl 0) dX11_leaf_40 ?_
      exact ⟨kI_20, kJ_10, cI_20, pI_20, by omega, zLf6_0 (fun l9 g1 g2 => by omega) yI_10.2.2 (by omega) (zRL_pp hk)⟩
    · simp only [w32_mod] at h_27
      have bb := FN_1 h_24.2 (by omega)
      exfalso
      have h8 := yI_10.2.2.2 hb
      have h7 := (zRL_p hk hP).2.2.1
      omega
def URSum9 (l0 : Launch) (m : Nat) : Prop := ∀ {Ia Ja : aI1} {Ra : aR1} {Sa : aS1}, LY Ra Sa → RX Ia → PI Ia → ∀ {c : Nat → Int}, pvw Ia = c → ∀ {vl pl : Nat → Int} {T : Nat}, zRL Ia vl pl T → CT l0 (3 * m + 5) 0 0 mX11_readSum [kR (some 49), kI (8 - (m : Int))] Ia Ja Ra Sa (cV (fun I' J' => Ch [] [16, 17, 18] Ia I' ∧ Kp 49 49 Ja J' ∧ RX I' ∧ PI I' ∧ zRP T pl (zS c vl m) Ia I' ∧ Ia 49 16 ≤ I' 49 16) Ra Sa)
def URTest9 (l0 : Launch) (m : Nat) : Prop := ∀ {Ia Ja : aI1} {Ra : aR1} {Sa : aS1}, LY Ra Sa → RX Ia → PI Ia → ∀ {c : Nat → Int}, pvw Ia = c → ∀ {vl pl : Nat → Int} {T : Nat}, zRL Ia vl pl T → CT l0 (3 * m + 8) 0 0 mX11_readTest [kR (some 49), kI (8 - (m : Int))] Ia Ja Ra Sa (cV (fun I' J' => Ch [] [16, 17, 18] Ia I' ∧ Kp 49 49 Ja J' ∧ RX I' ∧ PI I' ∧ zRP T pl (zT c vl m) Ia I' ∧ Ia 49 16 ≤ I' 49 16) Ra Sa)
set_option maxHeartbeats 4000000 in
set_option maxRecDepth 20000 in
theorem c9_X11_readPart (l0 : Launch) {Ia Ja : aI1} {Ra : aR1} {Sa : aS1} (hL : LY Ra Sa) (hQ : RX Ia) (hP : PI Ia) {c : Nat → Int} (hc : pvw Ia = c) {vl pl : Nat → Int} {T : Nat} (hk : zRL Ia vl pl T) {m : Nat} (hm : m ≤ 8) (hrec : ∀ mp, m = mp + 1 → URSum9 l0 mp)  : CT l0 (3 * m + 3) 0 0 mX11_readPart [kR (some 49), kI (8 - (m : Int))] Ia Ja Ra Sa (cV (fun I' J' => Ch [] [16, 17, 18] Ia I' ∧ Kp 49 49 Ja J' ∧ RX I' ∧ PI I' ∧ zRP T pl (zPart (zSu c vl m) c vl) Ia I' ∧ Ia 49 16 ≤ I' 49 16) Ra Sa) := by
  refine ct_in pn_X11 (Nat.le_of_ble_eq_true rfl) (fun X hX hT hIn => ?_)
  have hX : aK l0 X cX11_readPart 3 RX11 none (3 * m + 3) 0 0 := hX
  change WW X 0 [some (kR (some 49)), some (kI (8 - (m : Int))), none] [] Ia Ja Ra Sa 0 0
  have qIa := RX_w hQ
  have oIa := PI_o hP
  have tIa := PI_t hP
  have atIa := pvw_at hP hc
  refine ww_aload_n hX (pc := 0) dX11_readPart_0 rfl ?_
  refine vI0 hX (pc := 1) sX11_158 (xs_49 hL) (c_X11_fine l0 hL hQ  hP) (by omega) (Nat.le_refl 0) (Nat.le_refl 0) (Nat.le_of_ble_eq_true rfl) dX11_readPart_1 (fun x_1 I_1 J_1 h_1 => ?_)
  obtain ⟨rfl, rfl, h_1⟩ := h_1
  refine ww_if_ne hX (pc := 4) (tgt := 8) dX11_readPart_4 (by decide) (fun h_4 => ?_) (fun h_4 => ?_)
  · simp only [w32_mod] at h_4
    have bb1 := FN_1 h_1.2 (by omega)
    obtain ⟨hvl, -, -, hvl0, hvl1⟩ := zRL_p hk hP
    refine ww_aload_n hX (pc := 8) dX11_readPart_8 rfl ?_
    refine ww_getR hX (pc := 9) fX11_43 (by decide) (xs_49 hL) (xr_49_12 hL) dX11_readPart_9 ?_
    refine ww_aload_n hX (pc := 12) dX11_readPart_12 rfl ?_
    refine ww_getI hX (pc := 13) fX11_162 (by decide) (xs_49 hL) dX11_readPart_13 ?_
    refine ww_iald hX (pc := 16) (xs_57 hL) (by decide) (by omega) (by omega) dX11_readPart_16 ?_
    refine ww_nmI (fun v_17 hv_17 => ?_)
    refine ww_istore_n hX (pc := 17) (lv' := [some (kR (some 49)), some (kI (8 - (m : Int))), some (kI v_17)]) dX11_readPart_17 (by decide) rfl rfl ?_
    refine ww_iload_n hX (pc := 18) dX11_readPart_18 rfl ?_
    refine ww_bipush hX (pc := 19) (x := 91) dX11_readPart_19 (by decide) ?_
    refine sI1 hX (pc := 21) sX11_190 (c_X11_sign l0 ) (by omega) (Nat.le_refl 0) (Nat.le_refl 0) (Nat.le_of_ble_eq_true rfl) dX11_readPart_21 (fun x_21 I_21 J_21 h_21 => ?_)
    obtain ⟨rfl, rfl, h_21⟩ := h_21
    refine ww_icmp_ne hX (pc := 24) (tgt := 74) dX11_readPart_24 (by decide) (fun h_24 => ?_) (fun h_24 => ?_)
    · simp only [w32_mod] at h_24
      have hcb : ¬ c (Ia 49 16).toNat = 191 := by omega
      refine ww_iload_n hX (pc := 74) dX11_readPart_74 rfl ?_
      refine ww_bipush hX (pc := 75) (x := 50) dX11_readPart_75 (by decide) ?_
      refine ww_icmp_ne hX (pc := 77) (tgt := 95) dX11_readPart_77 (by decide) (fun h_77 => ?_) (fun h_77 => ?_)
      · simp only [w32_mod] at h_77
        refine ww_iload_n hX (pc := 95) dX11_readPart_95 rfl ?_
        refine ww_bipush hX (pc := 96) (x := 6) dX11_readPart_96 (by decide) ?_
        refine ww_icmp_lt hX (pc := 98) (tgt := 114) dX11_readPart_98 (by decide) (fun h_98 => ?_) (fun h_98 => ?_)
        · simp only [w32_mod] at h_98
          refine ww_aload_n hX (pc := 114) dX11_readPart_114 rfl ?_
          refine vV0 hX (pc := 115) sX11_168 (xs_49 hL) (c9_X11_faults l0 hL hQ  hP hk) (by omega) (Nat.le_refl 0) (Nat.le_refl 0) (Nat.le_of_ble_eq_true rfl) dX11_readPart_115 (fun I_115 J_115 h_115 => ?_)
          have kJ_115 : Kp 49 49 Ja J_115 := Kp_tr (Kp_rf (a := 49) (b := 49)) h_115.2.1
          have kI_115 : Ch [] [16, 17, 18] Ia I_115 := Ch_tr Ch_rf (Ch_wd h_115.1 (by decide) (by decide))
          have cI_115 : RX I_115 := h_115.2.2.1
          have qI_115 := RX_w cI_115
          have f15_I_115 : I_115 49 15 = Ia 49 15 := h_115.1.2 15 (by decide)
          have f16_I_115 : I_115 49 16 = Ia 49 16 := h_115.1.2 16 (by decide)
          have f17_I_115 : I_115 49 17 = Ia 49 17 := h_115.1.2 17 (by decide)
          have pI_115 : PI I_115 := h_115.2.2.2.1
          have oI_115 := PI_o pI_115
          have yI_115 := h_115.2.2.2.2
          refine rV hX (pc := 118) hT (Nat.le_refl 0) (Nat.le_refl 0) dX11_readPart_118 ?_
          exact ⟨kI_115, kJ_115, cI_115, pI_115, zRP_fa yI_115.2.2 (zRL_pp hk) (fun l => (zPart_l hcb).trans (zLe_0 (zLf_0 (by omega) (by omega)))), by omega⟩
        · simp only [w32_mod] at h_98
          refine ww_iload_n hX (pc := 101) dX11_readPart_101 rfl ?_
          refine ww_bipush hX (pc := 102) (x := 13) dX11_readPart_102 (by decide) ?_
          refine ww_icmp_gt hX (pc := 104) (tgt := 114) dX11_readPart_104 (by decide) (fun h_104 => ?_) (fun h_104 => ?_)
          · simp only [w32_mod] at h_104
            refine ww_aload_n hX (pc := 114) dX11_readPart_114 rfl ?_
            refine vV0 hX (pc := 115) sX11_168 (xs_49 hL) (c9_X11_faults l0 hL hQ  hP hk) (by omega) (Nat.le_refl 0) (Nat.le_refl 0) (Nat.le_of_ble_eq_true rfl) dX11_readPart_115 (fun I_115 J_115 h_115 => ?_)
            have kJ_115 : Kp 49 49 Ja J_115 := Kp_tr (Kp_rf (a := 49) (b := 49)) h_115.2.1
            have kI_115 : Ch [] [16, 17, 18] Ia I_115 := Ch_tr Ch_rf (Ch_wd h_115.1 (by decide) (by decide))
            have cI_115 : RX I_115 := h_115.2.2.1
            have qI_115 := RX_w cI_115
            have f15_I_115 : I_115 49 15 = Ia 49 15 := h_115.1.2 15 (by decide)
            have f16_I_115 : I_115 49 16 = Ia 49 16 := h_115.1.2 16 (by decide)
            have f17_I_115 : I_115 49 17 = Ia 49 17 := h_115.1.2 17 (by decide)
            have pI_115 : PI I_115 := h_115.2.2.2.1
            have oI_115 := PI_o pI_115
            have yI_115 := h_115.2.2.2.2
            refine rV hX (pc := 118) hT (Nat.le_refl 0) (Nat.le_refl 0) dX11_readPart_118 ?_
            exact ⟨kI_115, kJ_115, cI_115, pI_115, zRP_fa yI_115.2.2 (zRL_pp hk) (fun l => (zPart_l hcb).trans (zLe_0 (zLf_0 (by omega) (by omega)))), by omega⟩
          · simp only [w32_mod] at h_104
            refine ww_aload_n hX (pc := 107) dX11_readPart_107 rfl ?_
            refine vV0 hX (pc := 108) sX11_200 (xs_49 hL) (c9_X11_leaf l0 hL hQ  hP hk (by omega) (by omega)) (by omega) (Nat.le_refl 0) (Nat.le_refl 0) (Nat.le_of_ble_eq_true rfl) dX11_readPart_108 (fun I_108 J_108 h_108 => ?_)
            have kJ_108 : Kp 49 49 Ja J_108 := Kp_tr (Kp_rf (a := 49) (b := 49)) h_108.2.1
            have kI_108 : Ch [] [16, 17, 18] Ia I_108 := Ch_tr Ch_rf (Ch_wd h_108.1 (by decide) (by decide))
            have cI_108 : RX I_108 := h_108.2.2.1
            have qI_108 := RX_w cI_108
            have f15_I_108 : I_108 49 15 = Ia 49 15 := h_108.1.2 15 (by decide)
            have pI_108 : PI I_108 := h_108.2.2.2.1
            have oI_108 := PI_o pI_108
            have yI_108 := h_108.2.2.2.2
            refine ww_goto hX (pc := 111) (tgt := 118) dX11_readPart_111 (by decide) ?_
            refine rV hX (pc := 118) hT (Nat.le_refl 0) (Nat.le_refl 0) dX11_readPart_118 ?_
            exact ⟨kI_108, kJ_108, cI_108, pI_108, zRP_lf bb1 yI_108.2 (fun l => zPart_l hcb) (zLf_w ⟨by omega, by omega⟩), by omega⟩
      · simp only [w32_mod] at h_77
        refine ww_aload_n hX (pc := 80) dX11_readPart_80 rfl ?_
        refine ww_getR hX (pc := 81) fX11_46 (by decide) (xs_49 hL) (xr_49_13 hL) dX11_readPart_81 ?_
        refine ww_aload_n hX (pc := 84) dX11_readPart_84 rfl ?_
        refine ww_getI hX (pc := 85) fX11_162 (by decide) (xs_49 hL) dX11_readPart_85 ?_
        refine ww_iald hX (pc := 88) (xs_58 hL) (by decide) (by omega) (by omega) dX11_readPart_88 ?_
        refine ww_sipush hX (pc := 89) (x := 1000) dX11_readPart_89 (by decide) ?_
        refine ww_icmp_le hX (pc := 92) (tgt := 107) dX11_readPart_92 (by decide) (fun h_92 => ?_) (fun h_92 => ?_)
        · simp only [w32_mod] at h_92
          refine ww_aload_n hX (pc := 107) dX11_readPart_107 rfl ?_
          refine vV0 hX (pc := 108) sX11_200 (xs_49 hL) (c9_X11_leaf l0 hL hQ  hP hk (by omega) (by omega)) (by omega) (Nat.le_refl 0) (Nat.le_refl 0) (Nat.le_of_ble_eq_true rfl) dX11_readPart_108 (fun I_108 J_108 h_108 => ?_)
          have kJ_108 : Kp 49 49 Ja J_108 := Kp_tr (Kp_rf (a := 49) (b := 49)) h_108.2.1
          have kI_108 : Ch [] [16, 17, 18] Ia I_108 := Ch_tr Ch_rf (Ch_wd h_108.1 (by decide) (by decide))
          have cI_108 : RX I_108 := h_108.2.2.1
          have qI_108 := RX_w cI_108
          have f15_I_108 : I_108 49 15 = Ia 49 15 := h_108.1.2 15 (by decide)
          have pI_108 : PI I_108 := h_108.2.2.2.1
          have oI_108 := PI_o pI_108
          have yI_108 := h_108.2.2.2.2
          refine ww_goto hX (pc := 111) (tgt := 118) dX11_readPart_111 (by decide) ?_
          refine rV hX (pc := 118) hT (Nat.le_refl 0) (Nat.le_refl 0) dX11_readPart_118 ?_
          exact ⟨kI_108, kJ_108, cI_108, pI_108, zRP_lf bb1 yI_108.2 (fun l => zPart_l hcb) (zLf_n ⟨by omega, by omega⟩), by omega⟩
        · simp only [w32_mod] at h_92
          refine ww_iload_n hX (pc := 95) dX11_readPart_95 rfl ?_
          refine ww_bipush hX (pc := 96) (x := 6) dX11_readPart_96 (by decide) ?_
          refine ww_icmp_lt hX (pc := 98) (tgt := 114) dX11_readPart_98 (by decide) (fun h_98 => ?_) (fun h_98 => ?_)
          · simp only [w32_mod] at h_98
            refine ww_aload_n hX (pc := 114) dX11_readPart_114 rfl ?_
            refine vV0 hX (pc := 115) sX11_168 (xs_49 hL) (c9_X11_faults l0 hL hQ  hP hk) (by omega) (Nat.le_refl 0) (Nat.le_refl 0) (Nat.le_of_ble_eq_true rfl) dX11_readPart_115 (fun I_115 J_115 h_115 => ?_)
            have kJ_115 : Kp 49 49 Ja J_115 := Kp_tr (Kp_rf (a := 49) (b := 49)) h_115.2.1
            have kI_115 : Ch [] [16, 17, 18] Ia I_115 := Ch_tr Ch_rf (Ch_wd h_115.1 (by decide) (by decide))
            have cI_115 : RX I_115 := h_115.2.2.1
            have qI_115 := RX_w cI_115
            have f15_I_115 : I_115 49 15 = Ia 49 15 := h_115.1.2 15 (by decide)
            have f16_I_115 : I_115 49 16 = Ia 49 16 := h_115.1.2 16 (by decide)
            have f17_I_115 : I_115 49 17 = Ia 49 17 := h_115.1.2 17 (by decide)
            have pI_115 : PI I_115 := h_115.2.2.2.1
            have oI_115 := PI_o pI_115
            have yI_115 := h_115.2.2.2.2
            refine rV hX (pc := 118) hT (Nat.le_refl 0) (Nat.le_refl 0) dX11_readPart_118 ?_
            exact ⟨kI_115, kJ_115, cI_115, pI_115, zRP_fa yI_115.2.2 (zRL_pp hk) (fun l => (zPart_l hcb).trans (zLe_0 (zLf_0 (by omega) (by omega)))), by omega⟩
          · simp only [w32_mod] at h_98
            refine ww_iload_n hX (pc := 101) dX11_readPart_101 rfl ?_
            refine ww_bipush hX (pc := 102) (x := 13) dX11_readPart_102 (by decide) ?_
            refine ww_icmp_gt hX (pc := 104) (tgt := 114) dX11_readPart_104 (by decide) (fun h_104 => ?_) (fun h_104 => ?_)
            · simp only [w32_mod] at h_104
              refine ww_aload_n hX (pc := 114) dX11_readPart_114 rfl ?_
              refine vV0 hX (pc := 115) sX11_168 (xs_49 hL) (c9_X11_faults l0 hL hQ  hP hk) (by omega) (Nat.le_refl 0) (Nat.le_refl 0) (Nat.le_of_ble_eq_true rfl) dX11_readPart_115 (fun I_115 J_115 h_115 => ?_)
              have kJ_115 : Kp 49 49 Ja J_115 := Kp_tr (Kp_rf (a := 49) (b := 49)) h_115.2.1
              have kI_115 : Ch [] [16, 17, 18] Ia I_115 := Ch_tr Ch_rf (Ch_wd h_115.1 (by decide) (by decide))
              have cI_115 : RX I_115 := h_115.2.2.1
              have qI_115 := RX_w cI_115
              have f15_I_115 : I_115 49 15 = Ia 49 15 := h_115.1.2 15 (by decide)
              have f16_I_115 : I_115 49 16 = Ia 49 16 := h_115.1.2 16 (by decide)
              have f17_I_115 : I_115 49 17 = Ia 49 17 := h_115.1.2 17 (by decide)
              have pI_115 : PI I_115 := h_115.2.2.2.1
              have oI_115 := PI_o pI_115
              have yI_115 := h_115.2.2.2.2
              refine rV hX (pc := 118) hT (Nat.le_refl 0) (Nat.le_refl 0) dX11_readPart_118 ?_
              exact ⟨kI_115, kJ_115, cI_115, pI_115, zRP_fa yI_115.2.2 (zRL_pp hk) (fun l => (zPart_l hcb).trans (zLe_0 (zLf_0 (by omega) (by omega)))), by omega⟩
            · simp only [w32_mod] at h_104
              refine ww_aload_n hX (pc := 107) dX11_readPart_107 rfl ?_
              refine vV0 hX (pc := 108) sX11_200 (xs_49 hL) (c9_X11_leaf l0 hL hQ  hP hk (by omega) (by omega)) (by omega) (Nat.le_refl 0) (Nat.le_refl 0) (Nat.le_of_ble_eq_true rfl) dX11_readPart_108 (fun I_108 J_108 h_108 => ?_)
              have kJ_108 : Kp 49 49 Ja J_108 := Kp_tr (Kp_rf (a := 49) (b := 49)) h_108.2.1
              have kI_108 : Ch [] [16, 17, 18] Ia I_108 := Ch_tr Ch_rf (Ch_wd h_108.1 (by decide) (by decide))
              have cI_108 : RX I_108 := h_108.2.2.1
              have qI_108 := RX_w cI_108
              have f15_I_108 : I_108 49 15 = Ia 49 15 := h_108.1.2 15 (by decide)
              have pI_108 : PI I_108 := h_108.2.2.2.1
              have oI_108 := PI_o pI_108
              have yI_108 := h_108.2.2.2.2
              refine ww_goto hX (pc := 111) (tgt := 118) dX11_readPart_111 (by decide) ?_
              refine rV hX (pc := 118) hT (Nat.le_refl 0) (Nat.le_refl 0) dX11_readPart_118 ?_
              exact ⟨kI_108, kJ_108, cI_108, pI_108, zRP_lf bb1 yI_108.2 (fun l => zPart_l hcb) (zLf_w ⟨by omega, by omega⟩), by omega⟩
    · simp only [w32_mod] at h_24
      have hcb : c (Ia 49 16).toNat = 191 := by omega
      refine ww_iload_n hX (pc := 27) dX11_readPart_27 rfl ?_
      refine ww_bipush hX (pc := 28) (x := 8) dX11_readPart_28 (by decide) ?_
      refine ww_icmp_ne hX (pc := 30) (tgt := 37) dX11_readPart_30 (by decide) (fun h_30 => ?_) (fun h_30 => ?_)
      · simp only [w32_mod] at h_30
        refine ww_aload_n hX (pc := 37) dX11_readPart_37 rfl ?_
        refine vI0 hX (pc := 38) sX11_158 (xs_49 hL) (c_X11_fine l0 hL hQ  hP) (by omega) (Nat.le_refl 0) (Nat.le_refl 0) (Nat.le_of_ble_eq_true rfl) dX11_readPart_38 (fun x_38 I_38 J_38 h_38 => ?_)
        obtain ⟨rfl, rfl, h_38⟩ := h_38
        refine ww_if_ne hX (pc := 41) (tgt := 45) dX11_readPart_41 (by decide) (fun h_41 => ?_) (fun h_41 => ?_)
        · simp only [w32_mod] at h_41
          have bb38 := FN_1 h_38.2 (by omega)
          obtain ⟨mp, rfl⟩ : ∃ mp, m = mp + 1 := ⟨m - 1, by omega⟩
          refine ww_aload_n hX (pc := 45) dX11_readPart_45 rfl ?_
          refine ww_dupR hX (pc := 46) dX11_readPart_46 ?_
          refine ww_getI hX (pc := 47) fX11_162 (by decide) (xs_49 hL) dX11_readPart_47 ?_
          refine ww_iconst hX (pc := 50) (x := 1) dX11_readPart_50 rfl ?_
          refine ww_iadd hX (pc := 51) dX11_readPart_51 ?_
          refine ww_putI hX (pc := 52) (fun h9 => absurd h9 (by decide)) gX11_162 rfl (xs_49 hL) dX11_readPart_52 ?_
          have lt52 := PI_lt hP (by omega)
          refine ww_nmH (fun I_52 eI_52 => ?_)
          have kI_52 : Ch [] [16, 17, 18] Ia I_52 := by rw [eI_52]; exact Ch_f Ch_rf (by decide)
          have cI_52 : RX I_52 := by rw [eI_52]; exact RX_f hQ (by decide)
          have qI_52 := RX_w cI_52
          have f15_I_52 : I_52 49 15 = Ia 49 15 := by rw [eI_52, up2_n _ _ (Or.inr (by decide))]
          have f17_I_52 : I_52 49 17 = Ia 49 17 := by rw [eI_52, up2_n _ _ (Or.inr (by decide))]
          have f18_I_52 : I_52 49 18 = Ia 49 18 := by rw [eI_52, up2_n _ _ (Or.inr (by decide))]
          have w16_I_52 : I_52 49 16 = Ia 49 16 + 1 := by rw [eI_52, up2_s]
          have pI_52 : PI I_52 := by rw [eI_52]; exact PI_f hP (by decide) (fun _ => ⟨by omega, by omega⟩) (fun h => absurd h (by decide))
          have oI_52 := PI_o pI_52
          refine ww_aload_n hX (pc := 55) dX11_readPart_55 rfl ?_
          refine ww_iload_n hX (pc := 56) dX11_readPart_56 rfl ?_
          refine ww_iconst hX (pc := 57) (x := 1) dX11_readPart_57 rfl ?_
          refine ww_iadd hX (pc := 58) dX11_readPart_58 ?_
          refine ww_toI (show (8 - ((mp + 1 : Nat) : Int)) + 1 = 8 - (mp : Int) by omega) ?_
          refine vV1 hX (pc := 59) sX11_178 (xs_49 hL) (hrec mp rfl hL cI_52 pI_52 (pvw_tr kI_52 (by decide) (by decide) hc) (zRL_tr kI_52 (by decide) (by decide) (by decide) hk)) (by omega) (Nat.le_refl 0) (Nat.le_refl 0) (Nat.le_of_ble_eq_true rfl) dX11_readPart_59 (fun I_59 J_59 h_59 => ?_)
          have kJ_59 : Kp 49 49 Ja J_59 := Kp_tr (Kp_rf (a := 49) (b := 49)) h_59.2.1
          have kI_59 : Ch [] [16, 17, 18] Ia I_59 := Ch_tr kI_52 (Ch_wd h_59.1 (by decide) (by decide))
          have cI_59 : RX I_59 := h_59.2.2.1
          have qI_59 := RX_w cI_59
          have f15_I_59 : I_59 49 15 = I_52 49 15 := h_59.1.2 15 (by decide)
          have pI_59 : PI I_59 := h_59.2.2.2.1
          have oI_59 := PI_o pI_59
          have yI_59 := h_59.2.2.2.2
          refine ww_aload_n hX (pc := 62) dX11_readPart_62 rfl ?_
          refine ww_bipush hX (pc := 63) (x := 93) dX11_readPart_63 (by decide) ?_
          refine sI1 hX (pc := 65) sX11_190 (c_X11_sign l0 ) (by omega) (Nat.le_refl 0) (Nat.le_refl 0) (Nat.le_of_ble_eq_true rfl) dX11_readPart_65 (fun x_65 I_65 J_65 h_65 => ?_)
          obtain ⟨rfl, rfl, h_65⟩ := h_65
          refine vV1 hX (pc := 68) sX11_174 (xs_49 hL) (c9_X11_must l0 hL cI_59  pI_59 (pvw_tr kI_59 (by decide) (by decide) hc) (zRL_tr kI_59 (by decide) (by decide) (by decide) hk) (by omega) (by omega)) (by omega) (Nat.le_refl 0) (Nat.le_refl 0) (Nat.le_of_ble_eq_true rfl) dX11_readPart_68 (fun I_68 J_68 h_68 => ?_)
          have kJ_68 : Kp 49 49 Ja J_68 := Kp_tr kJ_59 h_68.2.1
          have kI_68 : Ch [] [16, 17, 18] Ia I_68 := Ch_tr kI_59 (Ch_wd h_68.1 (by decide) (by decide))
          have cI_68 : RX I_68 := h_68.2.2.1
          have qI_68 := RX_w cI_68
          have f15_I_68 : I_68 49 15 = I_59 49 15 := h_68.1.2 15 (by decide)
          have f17_I_68 : I_68 49 17 = I_59 49 17 := h_68.1.2 17 (by decide)
          have pI_68 : PI I_68 := h_68.2.2.2.1
          have oI_68 := PI_o pI_68
          have yI_68 := h_68.2.2.2.2
          refine ww_goto hX (pc := 71) (tgt := 118) dX11_readPart_71 (by decide) ?_
          refine rV hX (pc := 118) hT (Nat.le_refl 0) (Nat.le_refl 0) dX11_readPart_118 ?_
          exact ⟨kI_68, kJ_68, cI_68, pI_68, zRP_br bb1 w16_I_52 f17_I_52 f18_I_52 hk.1 (PI_lt hP (by omega)) yI_59.1 yI_68.2 (by omega) (fun l => zPart_b hcb), by omega⟩
        · simp only [w32_mod] at h_41
          have nb38 := FN_0 h_38.2 (by omega)
          exact absurd bb1 nb38
      · simp only [w32_mod] at h_30
        refine ww_aload_n hX (pc := 33) dX11_readPart_33 rfl ?_
        refine vV0 hX (pc := 34) sX11_168 (xs_49 hL) (c9_X11_faults l0 hL hQ  hP hk) (by omega) (Nat.le_refl 0) (Nat.le_refl 0) (Nat.le_of_ble_eq_true rfl) dX11_readPart_34 (fun I_34 J_34 h_34 => ?_)
        have kJ_34 : Kp 49 49 Ja J_34 := Kp_tr (Kp_rf (a := 49) (b := 49)) h_34.2.1
        have kI_34 : Ch [] [16, 17, 18] Ia I_34 := Ch_tr Ch_rf (Ch_wd h_34.1 (by decide) (by decide))
        have cI_34 : RX I_34 := h_34.2.2.1
        have qI_34 := RX_w cI_34
        have f15_I_34 : I_34 49 15 = Ia 49 15 := h_34.1.2 15 (by decide)
        have f16_I_34 : I_34 49 16 = Ia 49 16 := h_34.1.2 16 (by decide)
        have f17_I_34 : I_34 49 17 = Ia 49 17 := h_34.1.2 17 (by decide)
        have pI_34 : PI I_34 := h_34.2.2.2.1
        have oI_34 := PI_o pI_34
        have yI_34 := h_34.2.2.2.2
        refine ww_aload_n hX (pc := 37) dX11_readPart_37 rfl ?_
        refine vI0 hX (pc := 38) sX11_158 (xs_49 hL) (c_X11_fine l0 hL cI_34  pI_34) (by omega) (Nat.le_refl 0) (Nat.le_refl 0) (Nat.le_of_ble_eq_true rfl) dX11_readPart_38 (fun x_38 I_38 J_38 h_38 => ?_)
        obtain ⟨rfl, rfl, h_38⟩ := h_38
        refine ww_if_ne hX (pc := 41) (tgt := 45) dX11_readPart_41 (by decide) (fun h_41 => ?_) (fun h_41 => ?_)
        · simp only [w32_mod] at h_41
          have bb38 := FN_1 h_38.2 (by omega)
          exfalso
          have h8 := yI_34.2.2.2 bb1
          have h7 := (zRL_p hk hP).2.2.1
          omega
        · simp only [w32_mod] at h_41
          have nb38 := FN_0 h_38.2 (by omega)
          refine rV hX (pc := 44) hT (Nat.le_refl 0) (Nat.le_refl 0) dX11_readPart_44 ?_
          exact ⟨kI_34, kJ_34, cI_34, pI_34, (by
              obtain rfl : m = 0 := by omega
              exact zRP_fa yI_34.2.2 (zRL_pp hk) (fun l => (zPart_b hcb).trans zBr_0)), by omega⟩
  · simp only [w32_mod] at h_4
    have nb1 := FN_0 h_1.2 (by omega)
    refine rV hX (pc := 7) hT (Nat.le_refl 0) (Nat.le_refl 0) dX11_readPart_7 ?_
    exact ⟨Ch_rf, (Kp_rf (a := 49) (b := 49)), hQ, hP, zRP_n nb1, by omega⟩
set_option maxHeartbeats 4000000 in
set_option maxRecDepth 20000 in
theorem c9_X11_readTerm (l0 : Launch) {Ia Ja : aI1} {Ra : aR1} {Sa : aS1} (hL : LY Ra Sa) (hQ : RX Ia) (hP : PI Ia) {c : Nat → Int} (hc : pvw Ia = c) {vl pl : Nat → Int} {T : Nat} (hk : zRL Ia vl pl T) {m : Nat} (hm : m ≤ 8) (hrec : ∀ mp, m = mp + 1 → URSum9 l0 mp)  : CT l0 (3 * m + 4) 0 0 mX11_readTerm [kR (some 49), kI (8 - (m : Int))] Ia Ja Ra Sa (cV (fun I' J' => Ch [] [16, 17, 18] Ia I' ∧ Kp 49 49 Ja J' ∧ RX I' ∧ PI I' ∧ zRP T pl (zTm (zSu c vl m) c vl) Ia I' ∧ Ia 49 16 ≤ I' 49 16) Ra Sa) := by
  refine ct_in pn_X11 (Nat.le_of_ble_eq_true rfl) (fun X hX hT hIn => ?_)
  have hX : aK l0 X cX11_readTerm 2 RX11 none (3 * m + 4) 0 0 := hX
  change WW X 0 [some (kR (some 49)), some (kI (8 - (m : Int)))] [] Ia Ja Ra Sa 0 0
  have qIa := RX_w hQ
  have oIa := PI_o hP
  have tIa := PI_t hP
  have atIa := pvw_at hP hc
  refine ww_aload_n hX (pc := 0) dX11_readTerm_0 rfl ?_
  refine ww_iload_n hX (pc := 1) dX11_readTerm_1 rfl ?_
  refine vV1 hX (pc := 2) sX11_197 (xs_49 hL) (c9_X11_readPart l0 hL hQ  hP hc hk (m := m) hm hrec) (by omega) (Nat.le_refl 0) (Nat.le_refl 0) (Nat.le_of_ble_eq_true rfl) dX11_readTerm_2 (fun I_2 J_2 h_2 => ?_)
  have kJ_2 : Kp 49 49 Ja J_2 := Kp_tr (Kp_rf (a := 49) (b := 49)) h_2.2.1
  have kI_2 : Ch [] [16, 17, 18] Ia I_2 := Ch_tr Ch_rf (Ch_wd h_2.1 (by decide) (by decide))
  have cI_2 : RX I_2 := h_2.2.2.1
  have qI_2 := RX_w cI_2
  have f15_I_2 : I_2 49 15 = Ia 49 15 := h_2.1.2 15 (by decide)
  have pI_2 : PI I_2 := h_2.2.2.2.1
  have oI_2 := PI_o pI_2
  have yI_2 := h_2.2.2.2.2
  have hl_5 : ∀ (n_5 : Nat) (I5 : aI1) (J5 : aI1), (I5 49 15 - I5 49 16).toNat = n_5 → (Ch [] [16, 17, 18] Ia I5 ∧ RX I5 ∧ Kp 49 49 Ja J5 ∧ I5 49 15 = I_2 49 15 ∧ PI I5 ∧ zLp6 T c pl (zPart (zSu c vl m) c vl) [142, 147, 137] zJD Ia I5 ∧ Ia 49 16 ≤ I5 49 16) → WW X 5 [some (kR (some 49)), some (kI (8 - (m : Int)))] [] I5 J5 Ra Sa 0 0 := by
    intro n_5
    induction n_5 using Nat.strongRecOn with
    | ind n_5 ih_5 =>
      intro I5 J5 hm_5 hv_5
      have hq_5 := Sh0_i hm_5
      clear hm_5
      obtain ⟨kI5, cI5, kJ5, f15_I5, pI5, hlv, hmo⟩ := hv_5
      have qI5 := RX_w cI5
      have oI5 := PI_o pI5
      have tI5 := PI_t pI5
      have atI5 := pvw_at pI5 (pvw_tr kI5 (by decide) (by decide) hc)
      refine ww_aload_n hX (pc := 5) dX11_readTerm_5 rfl ?_
      refine ww_bipush hX (pc := 6) (x := 42) dX11_readTerm_6 (by decide) ?_
      refine sI1 hX (pc := 8) sX11_190 (c_X11_sign l0 ) (by omega) (Nat.le_refl 0) (Nat.le_refl 0) (Nat.le_of_ble_eq_true rfl) dX11_readTerm_8 (fun x_8 I_8 J_8 h_8 => ?_)
      obtain ⟨rfl, rfl, h_8⟩ := h_8
      refine vI1 hX (pc := 11) sX11_165 (xs_49 hL) (c9_X11_takes0 l0 hL cI5  pI5 (pvw_tr kI5 (by decide) (by decide) hc) (by omega) (by omega)) (by omega) (Nat.le_refl 0) (Nat.le_refl 0) (Nat.le_of_ble_eq_true rfl) dX11_readTerm_11 (fun x_11 I_11 J_11 h_11 => ?_)
      have kJ_11 : Kp 49 49 Ja J_11 := Kp_tr kJ5 h_11.2.1
      have kI_11 : Ch [] [16, 17, 18] Ia I_11 := Ch_tr kI5 (Ch_wd h_11.1 (by decide) (by decide))
      have cI_11 : RX I_11 := h_11.2.2.1
      have qI_11 := RX_w cI_11
      have f15_I_11 : I_11 49 15 = I5 49 15 := h_11.1.2 15 (by decide)
      have f17_I_11 : I_11 49 17 = I5 49 17 := h_11.1.2 17 (by decide)
      have f18_I_11 : I_11 49 18 = I5 49 18 := h_11.1.2 18 (by decide)
      have pI_11 : PI I_11 := h_11.2.2.2.1
      have oI_11 := PI_o pI_11
      have yI_11 := h_11.2.2.2.2
      refine ww_if_ne hX (pc := 14) (tgt := 41) dX11_readTerm_14 (by decide) (fun h_14 => ?_) (fun h_14 => ?_)
      · simp only [w32_mod] at h_14
        have s11 := TK_1 yI_11.2.2.2 (by omega)
        refine ww_aload_n hX (pc := 41) dX11_readTerm_41 rfl ?_
        refine ww_iload_n hX (pc := 42) dX11_readTerm_42 rfl ?_
        refine vV1 hX (pc := 43) sX11_197 (xs_49 hL) (c9_X11_readPart l0 hL cI_11  pI_11 (pvw_tr kI_11 (by decide) (by decide) hc) (zRL_tr kI_11 (by decide) (by decide) (by decide) hk) (m := m) hm hrec) (by omega) (Nat.le_refl 0) (Nat.le_refl 0) (Nat.le_of_ble_eq_true rfl) dX11_readTerm_43 (fun I_43 J_43 h_43 => ?_)
        have kJ_43 : Kp 49 49 Ja J_43 := Kp_tr kJ_11 h_43.2.1
        have kI_43 : Ch [] [16, 17, 18] Ia I_43 := Ch_tr kI_11 (Ch_wd h_43.1 (by decide) (by decide))
        have cI_43 : RX I_43 := h_43.2.2.1
        have qI_43 := RX_w cI_43
        have f15_I_43 : I_43 49 15 = I_11 49 15 := h_43.1.2 15 (by decide)
        have pI_43 : PI I_43 := h_43.2.2.2.1
        have oI_43 := PI_o pI_43
        have yI_43 := h_43.2.2.2.2
        refine ww_goto hX (pc := 46) (tgt := 5) dX11_readTerm_46 (by decide) ?_
        exact ih_5 _ (by have hm9 := Sh0_e hq_5; omega) I_43 J_43 rfl ⟨kI_43, cI_43, kJ_43, by omega, pI_43, zLp6_s hlv (by have h7 := s11.1; omega) (by rw [s11.2.1]; simp only [List.mem_cons, List.not_mem_nil, or_false]; try omega) (by omega) (by omega) (by omega) (zRL_tr kI5 (by decide) (by decide) (by decide) hk).1 (PI_lt pI5 (by rw [← atI5]; have h8 := s11.2.1; omega)) hk.2.1 yI_43.1 (by omega), by omega⟩
      · simp only [w32_mod] at h_14
        obtain ⟨z11, n11⟩ := TK_0 yI_11.2.2.2 (by omega)
        refine ww_aload_n hX (pc := 17) dX11_readTerm_17 rfl ?_
        refine ww_bipush hX (pc := 18) (x := 47) dX11_readTerm_18 (by decide) ?_
        refine sI1 hX (pc := 20) sX11_190 (c_X11_sign l0 ) (by omega) (Nat.le_refl 0) (Nat.le_refl 0) (Nat.le_of_ble_eq_true rfl) dX11_readTerm_20 (fun x_20 I_20 J_20 h_20 => ?_)
        obtain ⟨rfl, rfl, h_20⟩ := h_20
        refine vI1 hX (pc := 23) sX11_165 (xs_49 hL) (c9_X11_takes0 l0 hL cI_11  pI_11 (pvw_tr kI_11 (by decide) (by decide) hc) (by omega) (by omega)) (by omega) (Nat.le_refl 0) (Nat.le_refl 0) (Nat.le_of_ble_eq_true rfl) dX11_readTerm_23 (fun x_23 I_23 J_23 h_23 => ?_)
        have kJ_23 : Kp 49 49 Ja J_23 := Kp_tr kJ_11 h_23.2.1
        have kI_23 : Ch [] [16, 17, 18] Ia I_23 := Ch_tr kI_11 (Ch_wd h_23.1 (by decide) (by decide))
        have cI_23 : RX I_23 := h_23.2.2.1
        have qI_23 := RX_w cI_23
        have f15_I_23 : I_23 49 15 = I_11 49 15 := h_23.1.2 15 (by decide)
        have f17_I_23 : I_23 49 17 = I_11 49 17 := h_23.1.2 17 (by decide)
        have f18_I_23 : I_23 49 18 = I_11 49 18 := h_23.1.2 18 (by decide)
        have pI_23 : PI I_23 := h_23.2.2.2.1
        have oI_23 := PI_o pI_23
        have yI_23 := h_23.2.2.2.2
        refine ww_if_ne hX (pc := 26) (tgt := 41) dX11_readTerm_26 (by decide) (fun h_26 => ?_) (fun h_26 => ?_)
        · simp only [w32_mod] at h_26
          have s23 := TK_1 yI_23.2.2.2 (by omega)
          rw [z11] at s23
          refine ww_aload_n hX (pc := 41) dX11_readTerm_41 rfl ?_
          refine ww_iload_n hX (pc := 42) dX11_readTerm_42 rfl ?_
          refine vV1 hX (pc := 43) sX11_197 (xs_49 hL) (c9_X11_readPart l0 hL cI_23  pI_23 (pvw_tr kI_23 (by decide) (by decide) hc) (zRL_tr kI_23 (by decide) (by decide) (by decide) hk) (m := m) hm hrec) (by omega) (Nat.le_refl 0) (Nat.le_refl 0) (Nat.le_of_ble_eq_true rfl) dX11_readTerm_43 (fun I_43 J_43 h_43 => ?_)
          have kJ_43 : Kp 49 49 Ja J_43 := Kp_tr kJ_23 h_43.2.1
          have kI_43 : Ch [] [16, 17, 18] Ia I_43 := Ch_tr kI_23 (Ch_wd h_43.1 (by decide) (by decide))
          have cI_43 : RX I_43 := h_43.2.2.1
          have qI_43 := RX_w cI_43
          have f15_I_43 : I_43 49 15 = I_23 49 15 := h_43.1.2 15 (by decide)
          have pI_43 : PI I_43 := h_43.2.2.2.1
          have oI_43 := PI_o pI_43
          have yI_43 := h_43.2.2.2.2
          refine ww_goto hX (pc := 46) (tgt := 5) dX11_readTerm_46 (by decide) ?_
          exact ih_5 _ (by have hm9 := Sh0_e hq_5; omega) I_43 J_43 rfl ⟨kI_43, cI_43, kJ_43, by omega, pI_43, zLp6_s hlv (by have h7 := s23.1; omega) (by rw [s23.2.1]; simp only [List.mem_cons, List.not_mem_nil, or_false]; try omega) (by omega) (by omega) (by omega) (zRL_tr kI5 (by decide) (by decide) (by decide) hk).1 (PI_lt pI5 (by rw [← atI5]; have h8 := s23.2.1; omega)) hk.2.1 yI_43.1 (by omega), by omega⟩
        · simp only [w32_mod] at h_26
          obtain ⟨z23, n23⟩ := TK_0 yI_23.2.2.2 (by omega)
          refine ww_aload_n hX (pc := 29) dX11_readTerm_29 rfl ?_
          refine ww_bipush hX (pc := 30) (x := 37) dX11_readTerm_30 (by decide) ?_
          refine sI1 hX (pc := 32) sX11_190 (c_X11_sign l0 ) (by omega) (Nat.le_refl 0) (Nat.le_refl 0) (Nat.le_of_ble_eq_true rfl) dX11_readTerm_32 (fun x_32 I_32 J_32 h_32 => ?_)
          obtain ⟨rfl, rfl, h_32⟩ := h_32
          refine vI1 hX (pc := 35) sX11_165 (xs_49 hL) (c9_X11_takes0 l0 hL cI_23  pI_23 (pvw_tr kI_23 (by decide) (by decide) hc) (by omega) (by omega)) (by omega) (Nat.le_refl 0) (Nat.le_refl 0) (Nat.le_of_ble_eq_true rfl) dX11_readTerm_35 (fun x_35 I_35 J_35 h_35 => ?_)
          have kJ_35 : Kp 49 49 Ja J_35 := Kp_tr kJ_23 h_35.2.1
          have kI_35 : Ch [] [16, 17, 18] Ia I_35 := Ch_tr kI_23 (Ch_wd h_35.1 (by decide) (by decide))
          have cI_35 : RX I_35 := h_35.2.2.1
          have qI_35 := RX_w cI_35
          have f15_I_35 : I_35 49 15 = I_23 49 15 := h_35.1.2 15 (by decide)
          have f17_I_35 : I_35 49 17 = I_23 49 17 := h_35.1.2 17 (by decide)
          have f18_I_35 : I_35 49 18 = I_23 49 18 := h_35.1.2 18 (by decide)
          have pI_35 : PI I_35 := h_35.2.2.2.1
          have oI_35 := PI_o pI_35
          have yI_35 := h_35.2.2.2.2
          refine ww_if_eq hX (pc := 38) (tgt := 49) dX11_readTerm_38 (by decide) (fun h_38 => ?_) (fun h_38 => ?_)
          · simp only [w32_mod] at h_38
            obtain ⟨z35, n35⟩ := TK_0 yI_35.2.2.2 (by omega)
            refine rV hX (pc := 49) hT (Nat.le_refl 0) (Nat.le_refl 0) dX11_readTerm_49 ?_
            exact ⟨kI_35, kJ_35, cI_35, pI_35, (by exact zLp6_e hlv (by omega) (by omega) (by omega) (fun g9 => by  have a0 := n11 (by omega); have a1 := n23 (by omega); rw [z11] at a1; have a2 := n35 (by omega); rw [z23] at a2; rw [z11] at a2; simp only [List.mem_cons, List.not_mem_nil, or_false]; try omega)), by omega⟩
          · simp only [w32_mod] at h_38
            have s35 := TK_1 yI_35.2.2.2 (by omega)
            rw [z23] at s35
            rw [z11] at s35
            refine ww_aload_n hX (pc := 41) dX11_readTerm_41 rfl ?_
            refine ww_iload_n hX (pc := 42) dX11_readTerm_42 rfl ?_
            refine vV1 hX (pc := 43) sX11_197 (xs_49 hL) (c9_X11_readPart l0 hL cI_35  pI_35 (pvw_tr kI_35 (by decide) (by decide) hc) (zRL_tr kI_35 (by decide) (by decide) (by decide) hk) (m := m) hm hrec) (by omega) (Nat.le_refl 0) (Nat.le_refl 0) (Nat.le_of_ble_eq_true rfl) dX11_readTerm_43 (fun I_43 J_43 h_43 => ?_)
            have kJ_43 : Kp 49 49 Ja J_43 := Kp_tr kJ_35 h_43.2.1
            have kI_43 : Ch [] [16, 17, 18] Ia I_43 := Ch_tr kI_35 (Ch_wd h_43.1 (by decide) (by decide))
            have cI_43 : RX I_43 := h_43.2.2.1
            have qI_43 := RX_w cI_43
            have f15_I_43 : I_43 49 15 = I_35 49 15 := h_43.1.2 15 (by decide)
            have pI_43 : PI I_43 := h_43.2.2.2.1
            have oI_43 := PI_o pI_43
            have yI_43 := h_43.2.2.2.2
            refine ww_goto hX (pc := 46) (tgt := 5) dX11_readTerm_46 (by decide) ?_
            exact ih_5 _ (by have hm9 := Sh0_e hq_5; omega) I_43 J_43 rfl ⟨kI_43, cI_43, kJ_43, by omega, pI_43, zLp6_s hlv (by have h7 := s35.1; omega) (by rw [s35.2.1]; simp only [List.mem_cons, List.not_mem_nil, or_false]; try omega) (by omega) (by omega) (by omega) (zRL_tr kI5 (by decide) (by decide) (by decide) hk).1 (PI_lt pI5 (by rw [← atI5]; have h8 := s35.2.1; omega)) hk.2.1 yI_43.1 (by omega), by omega⟩
  exact hl_5 _ I_2 J_2 rfl ⟨kI_2, cI_2, kJ_2, rfl, pI_2, zLp6_0 yI_2.1, by omega⟩
set_option maxHeartbeats 4000000 in
set_option maxRecDepth 20000 in
theorem c9_X11_readSum (l0 : Launch) {Ia Ja : aI1} {Ra : aR1} {Sa : aS1} (hL : LY Ra Sa) (hQ : RX Ia) (hP : PI Ia) {c : Nat → Int} (hc : pvw Ia = c) {vl pl : Nat → Int} {T : Nat} (hk : zRL Ia vl pl T) {m : Nat} (hm : m ≤ 8) (hrec : ∀ mp, m = mp + 1 → URSum9 l0 mp)  : CT l0 (3 * m + 5) 0 0 mX11_readSum [kR (some 49), kI (8 - (m : Int))] Ia Ja Ra Sa (cV (fun I' J' => Ch [] [16, 17, 18] Ia I' ∧ Kp 49 49 Ja J' ∧ RX I' ∧ PI I' ∧ zRP T pl (zS c vl m) Ia I' ∧ Ia 49 16 ≤ I' 49 16) Ra Sa) := by
  refine ct_in pn_X11 (Nat.le_of_ble_eq_true rfl) (fun X hX hT hIn => ?_)
  have hX : aK l0 X cX11_readSum 2 RX11 none (3 * m + 5) 0 0 := hX
  change WW X 0 [some (kR (some 49)), some (kI (8 - (m : Int)))] [] Ia Ja Ra Sa 0 0
  have qIa := RX_w hQ
  have oIa := PI_o hP
  have tIa := PI_t hP
  have atIa := pvw_at hP hc
  refine ww_aload_n hX (pc := 0) dX11_readSum_0 rfl ?_
  refine ww_iload_n hX (pc := 1) dX11_readSum_1 rfl ?_
  refine vV1 hX (pc := 2) sX11_194 (xs_49 hL) (c9_X11_readTerm l0 hL hQ  hP hc hk (m := m) hm hrec) (by omega) (Nat.le_refl 0) (Nat.le_refl 0) (Nat.le_of_ble_eq_true rfl) dX11_readSum_2 (fun I_2 J_2 h_2 => ?_)
  have kJ_2 : Kp 49 49 Ja J_2 := Kp_tr (Kp_rf (a := 49) (b := 49)) h_2.2.1
  have kI_2 : Ch [] [16, 17, 18] Ia I_2 := Ch_tr Ch_rf (Ch_wd h_2.1 (by decide) (by decide))
  have cI_2 : RX I_2 := h_2.2.2.1
  have qI_2 := RX_w cI_2
  have f15_I_2 : I_2 49 15 = Ia 49 15 := h_2.1.2 15 (by decide)
  have pI_2 : PI I_2 := h_2.2.2.2.1
  have oI_2 := PI_o pI_2
  have yI_2 := h_2.2.2.2.2
  have hl_5 : ∀ (n_5 : Nat) (I5 : aI1) (J5 : aI1), (I5 49 15 - I5 49 16).toNat = n_5 → (Ch [] [16, 17, 18] Ia I5 ∧ RX I5 ∧ Kp 49 49 Ja J5 ∧ I5 49 15 = I_2 49 15 ∧ PI I5 ∧ zLp6 T c pl (zTm (zSu c vl m) c vl) [143, 145] zJD Ia I5 ∧ Ia 49 16 ≤ I5 49 16) → WW X 5 [some (kR (some 49)), some (kI (8 - (m : Int)))] [] I5 J5 Ra Sa 0 0 := by
    intro n_5
    induction n_5 using Nat.strongRecOn with
    | ind n_5 ih_5 =>
      intro I5 J5 hm_5 hv_5
      have hq_5 := Sh0_i hm_5
      clear hm_5
      obtain ⟨kI5, cI5, kJ5, f15_I5, pI5, hlv, hmo⟩ := hv_5
      have qI5 := RX_w cI5
      have oI5 := PI_o pI5
      have tI5 := PI_t pI5
      have atI5 := pvw_at pI5 (pvw_tr kI5 (by decide) (by decide) hc)
      refine ww_aload_n hX (pc := 5) dX11_readSum_5 rfl ?_
      refine ww_bipush hX (pc := 6) (x := 43) dX11_readSum_6 (by decide) ?_
      refine sI1 hX (pc := 8) sX11_190 (c_X11_sign l0 ) (by omega) (Nat.le_refl 0) (Nat.le_refl 0) (Nat.le_of_ble_eq_true rfl) dX11_readSum_8 (fun x_8 I_8 J_8 h_8 => ?_)
      obtain ⟨rfl, rfl, h_8⟩ := h_8
      refine vI1 hX (pc := 11) sX11_165 (xs_49 hL) (c9_X11_takes0 l0 hL cI5  pI5 (pvw_tr kI5 (by decide) (by decide) hc) (by omega) (by omega)) (by omega) (Nat.le_refl 0) (Nat.le_refl 0) (Nat.le_of_ble_eq_true rfl) dX11_readSum_11 (fun x_11 I_11 J_11 h_11 => ?_)
      have kJ_11 : Kp 49 49 Ja J_11 := Kp_tr kJ5 h_11.2.1
      have kI_11 : Ch [] [16, 17, 18] Ia I_11 := Ch_tr kI5 (Ch_wd h_11.1 (by decide) (by decide))
      have cI_11 : RX I_11 := h_11.2.2.1
      have qI_11 := RX_w cI_11
      have f15_I_11 : I_11 49 15 = I5 49 15 := h_11.1.2 15 (by decide)
      have f17_I_11 : I_11 49 17 = I5 49 17 := h_11.1.2 17 (by decide)
      have f18_I_11 : I_11 49 18 = I5 49 18 := h_11.1.2 18 (by decide)
      have pI_11 : PI I_11 := h_11.2.2.2.1
      have oI_11 := PI_o pI_11
      have yI_11 := h_11.2.2.2.2
      refine ww_if_ne hX (pc := 14) (tgt := 29) dX11_readSum_14 (by decide) (fun h_14 => ?_) (fun h_14 => ?_)
      · simp only [w32_mod] at h_14
        have s11 := TK_1 yI_11.2.2.2 (by omega)
        refine ww_aload_n hX (pc := 29) dX11_readSum_29 rfl ?_
        refine ww_iload_n hX (pc := 30) dX11_readSum_30 rfl ?_
        refine vV1 hX (pc := 31) sX11_194 (xs_49 hL) (c9_X11_readTerm l0 hL cI_11  pI_11 (pvw_tr kI_11 (by decide) (by decide) hc) (zRL_tr kI_11 (by decide) (by decide) (by decide) hk) (m := m) hm hrec) (by omega) (Nat.le_refl 0) (Nat.le_refl 0) (Nat.le_of_ble_eq_true rfl) dX11_readSum_31 (fun I_31 J_31 h_31 => ?_)
        have kJ_31 : Kp 49 49 Ja J_31 := Kp_tr kJ_11 h_31.2.1
        have kI_31 : Ch [] [16, 17, 18] Ia I_31 := Ch_tr kI_11 (Ch_wd h_31.1 (by decide) (by decide))
        have cI_31 : RX I_31 := h_31.2.2.1
        have qI_31 := RX_w cI_31
        have f15_I_31 : I_31 49 15 = I_11 49 15 := h_31.1.2 15 (by decide)
        have pI_31 : PI I_31 := h_31.2.2.2.1
        have oI_31 := PI_o pI_31
        have yI_31 := h_31.2.2.2.2
        refine ww_goto hX (pc := 34) (tgt := 5) dX11_readSum_34 (by decide) ?_
        exact ih_5 _ (by have hm9 := Sh0_e hq_5; omega) I_31 J_31 rfl ⟨kI_31, cI_31, kJ_31, by omega, pI_31, zLp6_s hlv (by have h7 := s11.1; omega) (by rw [s11.2.1]; simp only [List.mem_cons, List.not_mem_nil, or_false]; try omega) (by omega) (by omega) (by omega) (zRL_tr kI5 (by decide) (by decide) (by decide) hk).1 (PI_lt pI5 (by rw [← atI5]; have h8 := s11.2.1; omega)) hk.2.1 yI_31.1 (by omega), by omega⟩
      · simp only [w32_mod] at h_14
        obtain ⟨z11, n11⟩ := TK_0 yI_11.2.2.2 (by omega)
        refine ww_aload_n hX (pc := 17) dX11_readSum_17 rfl ?_
        refine ww_bipush hX (pc := 18) (x := 45) dX11_readSum_18 (by decide) ?_
        refine sI1 hX (pc := 20) sX11_190 (c_X11_sign l0 ) (by omega) (Nat.le_refl 0) (Nat.le_refl 0) (Nat.le_of_ble_eq_true rfl) dX11_readSum_20 (fun x_20 I_20 J_20 h_20 => ?_)
        obtain ⟨rfl, rfl, h_20⟩ := h_20
        refine vI1 hX (pc := 23) sX11_165 (xs_49 hL) (c9_X11_takes0 l0 hL cI_11  pI_11 (pvw_tr kI_11 (by decide) (by decide) hc) (by omega) (by omega)) (by omega) (Nat.le_refl 0) (Nat.le_refl 0) (Nat.le_of_ble_eq_true rfl) dX11_readSum_23 (fun x_23 I_23 J_23 h_23 => ?_)
        have kJ_23 : Kp 49 49 Ja J_23 := Kp_tr kJ_11 h_23.2.1
        have kI_23 : Ch [] [16, 17, 18] Ia I_23 := Ch_tr kI_11 (Ch_wd h_23.1 (by decide) (by decide))
        have cI_23 : RX I_23 := h_23.2.2.1
        have qI_23 := RX_w cI_23
        have f15_I_23 : I_23 49 15 = I_11 49 15 := h_23.1.2 15 (by decide)
        have f17_I_23 : I_23 49 17 = I_11 49 17 := h_23.1.2 17 (by decide)
        have f18_I_23 : I_23 49 18 = I_11 49 18 := h_23.1.2 18 (by decide)
        have pI_23 : PI I_23 := h_23.2.2.2.1
        have oI_23 := PI_o pI_23
        have yI_23 := h_23.2.2.2.2
        refine ww_if_eq hX (pc := 26) (tgt := 37) dX11_readSum_26 (by decide) (fun h_26 => ?_) (fun h_26 => ?_)
        · simp only [w32_mod] at h_26
          obtain ⟨z23, n23⟩ := TK_0 yI_23.2.2.2 (by omega)
          refine rV hX (pc := 37) hT (Nat.le_refl 0) (Nat.le_refl 0) dX11_readSum_37 ?_
          exact ⟨kI_23, kJ_23, cI_23, pI_23, (by exact zLp6_e hlv (by omega) (by omega) (by omega) (fun g9 => by  have a0 := n11 (by omega); have a1 := n23 (by omega); rw [z11] at a1; simp only [List.mem_cons, List.not_mem_nil, or_false]; try omega)), by omega⟩
        · simp only [w32_mod] at h_26
          have s23 := TK_1 yI_23.2.2.2 (by omega)
          rw [z11] at s23
          refine ww_aload_n hX (pc := 29) dX11_readSum_29 rfl ?_
          refine ww_iload_n hX (pc := 30) dX11_readSum_30 rfl ?_
          refine vV1 hX (pc := 31) sX11_194 (xs_49 hL) (c9_X11_readTerm l0 hL cI_23  pI_23 (pvw_tr kI_23 (by decide) (by decide) hc) (zRL_tr kI_23 (by decide) (by decide) (by decide) hk) (m := m) hm hrec) (by omega) (Nat.le_refl 0) (Nat.le_refl 0) (Nat.le_of_ble_eq_true rfl) dX11_readSum_31 (fun I_31 J_31 h_31 => ?_)
          have kJ_31 : Kp 49 49 Ja J_31 := Kp_tr kJ_23 h_31.2.1
          have kI_31 : Ch [] [16, 17, 18] Ia I_31 := Ch_tr kI_23 (Ch_wd h_31.1 (by decide) (by decide))
          have cI_31 : RX I_31 := h_31.2.2.1
          have qI_31 := RX_w cI_31
          have f15_I_31 : I_31 49 15 = I_23 49 15 := h_31.1.2 15 (by decide)
          have pI_31 : PI I_31 := h_31.2.2.2.1
          have oI_31 := PI_o pI_31
          have yI_31 := h_31.2.2.2.2
          refine ww_goto hX (pc := 34) (tgt := 5) dX11_readSum_34 (by decide) ?_
          exact ih_5 _ (by have hm9 := Sh0_e hq_5; omega) I_31 J_31 rfl ⟨kI_31, cI_31, kJ_31, by omega, pI_31, zLp6_s hlv (by have h7 := s23.1; omega) (by rw [s23.2.1]; simp only [List.mem_cons, List.not_mem_nil, or_false]; try omega) (by omega) (by omega) (by omega) (zRL_tr kI5 (by decide) (by decide) (by decide) hk).1 (PI_lt pI5 (by rw [← atI5]; have h8 := s23.2.1; omega)) hk.2.1 yI_31.1 (by omega), by omega⟩
  exact hl_5 _ I_2 J_2 rfl ⟨kI_2, cI_2, kJ_2, rfl, pI_2, zLp6_0 yI_2.1, by omega⟩
theorem c_URSum9 (l0 : Launch) : ∀ m : Nat, m ≤ 8 → URSum9 l0 m
  | 0, h => fun hL hQ hP _ hc _ _ _ hk => c9_X11_readSum l0 hL hQ hP hc hk (m := 0) h (fun mp e => absurd e (by omega))
  | m + 1, h => fun hL hQ hP _ hc _ _ _ hk => c9_X11_readSum l0 hL hQ hP hc hk (m := m + 1) h (fun mp e => by
      obtain rfl : m = mp := by omega
      exact c_URSum9 l0 m (by omega))
set_option maxHeartbeats 4000000 in
set_option maxRecDepth 20000 in
theorem c9_X11_readPlain (l0 : Launch) {Ia Ja : aI1} {Ra : aR1} {Sa : aS1} (hL : LY Ra Sa) (hQ : RX Ia) (hP : PI Ia) {c : Nat → Int} (hc : pvw Ia = c) {vl pl : Nat → Int} {T : Nat} (hk : zRL Ia vl pl T) {m : Nat} (hm : m ≤ 8) (hrec : ∀ mp, m = mp + 1 → URTest9 l0 mp)  : CT l0 (3 * m + 6) 0 0 mX11_readPlain [kR (some 49), kI (8 - (m : Int))] Ia Ja Ra Sa (cV (fun I' J' => Ch [] [16, 17, 18] Ia I' ∧ Kp 49 49 Ja J' ∧ RX I' ∧ PI I' ∧ zRP T pl (zPl (zTu c vl m) (zS c vl m) c) Ia I' ∧ Ia 49 16 ≤ I' 49 16) Ra Sa) := by
  refine ct_in pn_X11 (Nat.le_of_ble_eq_true rfl) (fun X hX hT hIn => ?_)
  have hX : aK l0 X cX11_readPlain 4 RX11 none (3 * m + 6) 0 0 := hX
  change WW X 0 [some (kR (some 49)), some (kI (8 - (m : Int))), none, none] [] Ia Ja Ra Sa 0 0
  have qIa := RX_w hQ
  have oIa := PI_o hP
  have tIa := PI_t hP
  have atIa := pvw_at hP hc
  refine ww_iconst hX (pc := 0) (x := 1) dX11_readPlain_0 rfl ?_
  refine ww_istore_n hX (pc := 1) (lv' := [some (kR (some 49)), some (kI (8 - (m : Int))), some (kI 1), none]) dX11_readPlain_1 (by decide) rfl rfl ?_
  have hl_2 : ∀ (n_2 : Nat) (fl : Int) (I2 : aI1) (J2 : aI1), (2 * (I2 49 15 - I2 49 16) + fl).toNat = n_2 → (Ch [] [16, 17, 18] Ia I2 ∧ RX I2 ∧ Kp 49 49 Ja J2 ∧ I2 49 15 = Ia 49 15 ∧ PI I2 ∧ (0 ≤ fl ∧ fl ≤ 1) ∧ zNL T c Ia I2 ∧ Ia 49 16 ≤ I2 49 16 ∧ F5 fl c I2) → WW X 2 [some (kR (some 49)), some (kI (8 - (m : Int))), some (kI fl), none] [] I2 J2 Ra Sa 0 0 := by
    intro n_2
    induction n_2 using Nat.strongRecOn with
    | ind n_2 ih_2 =>
      intro fl I2 J2 hm_2 hv_2
      have hq_2 := Sh0_i hm_2
      clear hm_2
      obtain ⟨kI2, cI2, kJ2, f15_I2, pI2, hfl, hnl, hmo, hn5⟩ := hv_2
      have qI2 := RX_w cI2
      have oI2 := PI_o pI2
      have tI2 := PI_t pI2
      have tI2 := PI_t pI2
      have atI2 := pvw_at pI2 (pvw_tr kI2 (by decide) (by decide) hc)
      have hT2 := hk.2.1
      have hT3 := (zRL_tr kI2 (by decide) (by decide) (by decide) hk).1
      refine ww_iload_n hX (pc := 2) dX11_readPlain_2 rfl ?_
      refine ww_if_eq hX (pc := 3) (tgt := 15) dX11_readPlain_3 (by decide) (fun h_3 => ?_) (fun h_3 => ?_)
      · simp only [w32_mod] at h_3
        have hne : zNE T c Ia I2 := zNL_e hnl (hn5 (by omega))
        refine ww_aload_n hX (pc := 15) dX11_readPlain_15 rfl ?_
        refine vI0 hX (pc := 16) sX11_158 (xs_49 hL) (c_X11_fine l0 hL cI2  pI2) (by omega) (Nat.le_refl 0) (Nat.le_refl 0) (Nat.le_of_ble_eq_true rfl) dX11_readPlain_16 (fun x_16 I_16 J_16 h_16 => ?_)
        obtain ⟨rfl, rfl, h_16⟩ := h_16
        refine ww_if_ne hX (pc := 19) (tgt := 23) dX11_readPlain_19 (by decide) (fun h_19 => ?_) (fun h_19 => ?_)
        · simp only [w32_mod] at h_19
          have bb16 := FN_1 h_16.2 (by omega)
          refine ww_aload_n hX (pc := 23) dX11_readPlain_23 rfl ?_
          refine ww_getR hX (pc := 24) fX11_43 (by decide) (xs_49 hL) (xr_49_12 hL) dX11_readPlain_24 ?_
          refine ww_aload_n hX (pc := 27) dX11_readPlain_27 rfl ?_
          refine ww_getI hX (pc := 28) fX11_162 (by decide) (xs_49 hL) dX11_readPlain_28 ?_
          refine ww_iald hX (pc := 31) (xs_57 hL) (by decide) (by omega) (by omega) dX11_readPlain_31 ?_
          refine ww_nmI (fun v_32 hv_32 => ?_)
          refine ww_istore_n hX (pc := 32) (lv' := [some (kR (some 49)), some (kI (8 - (m : Int))), some (kI fl), some (kI v_32)]) dX11_readPlain_32 (by decide) rfl rfl ?_
          have atI2 := pvw_at pI2 (pvw_tr kI2 (by decide) (by decide) hc)
          refine ww_iload_n hX (pc := 33) dX11_readPlain_33 rfl ?_
          refine ww_bipush hX (pc := 34) (x := 40) dX11_readPlain_34 (by decide) ?_
          refine sI1 hX (pc := 36) sX11_190 (c_X11_sign l0 ) (by omega) (Nat.le_refl 0) (Nat.le_refl 0) (Nat.le_of_ble_eq_true rfl) dX11_readPlain_36 (fun x_36 I_36 J_36 h_36 => ?_)
          obtain ⟨rfl, rfl, h_36⟩ := h_36
          refine ww_icmp_ne hX (pc := 39) (tgt := 89) dX11_readPlain_39 (by decide) (fun h_39 => ?_) (fun h_39 => ?_)
          · simp only [w32_mod] at h_39
            have hcb : ¬ c (I2 49 16).toNat = 140 := by omega
            refine ww_aload_n hX (pc := 89) dX11_readPlain_89 rfl ?_
            refine ww_iload_n hX (pc := 90) dX11_readPlain_90 rfl ?_
            refine vV1 hX (pc := 91) sX11_178 (xs_49 hL) (c_URSum9 l0 m hm hL cI2 pI2 (pvw_tr kI2 (by decide) (by decide) hc) (zRL_tr kI2 (by decide) (by decide) (by decide) hk)) (by omega) (Nat.le_refl 0) (Nat.le_refl 0) (Nat.le_of_ble_eq_true rfl) dX11_readPlain_91 (fun I_91 J_91 h_91 => ?_)
            have kJ_91 : Kp 49 49 Ja J_91 := Kp_tr kJ2 h_91.2.1
            have kI_91 : Ch [] [16, 17, 18] Ia I_91 := Ch_tr kI2 (Ch_wd h_91.1 (by decide) (by decide))
            have cI_91 : RX I_91 := h_91.2.2.1
            have qI_91 := RX_w cI_91
            have f15_I_91 : I_91 49 15 = I2 49 15 := h_91.1.2 15 (by decide)
            have pI_91 : PI I_91 := h_91.2.2.2.1
            have oI_91 := PI_o pI_91
            have yI_91 := h_91.2.2.2.2
            refine ww_aload_n hX (pc := 94) dX11_readPlain_94 rfl ?_
            refine ww_bipush hX (pc := 95) (x := 60) dX11_readPlain_95 (by decide) ?_
            refine sI1 hX (pc := 97) sX11_190 (c_X11_sign l0 ) (by omega) (Nat.le_refl 0) (Nat.le_refl 0) (Nat.le_of_ble_eq_true rfl) dX11_readPlain_97 (fun x_97 I_97 J_97 h_97 => ?_)
            obtain ⟨rfl, rfl, h_97⟩ := h_97
            refine vI1 hX (pc := 100) sX11_165 (xs_49 hL) (c9_X11_takes0 l0 hL cI_91  pI_91 (pvw_tr kI_91 (by decide) (by decide) hc) (by omega) (by omega)) (by omega) (Nat.le_refl 0) (Nat.le_refl 0) (Nat.le_of_ble_eq_true rfl) dX11_readPlain_100 (fun x_100 I_100 J_100 h_100 => ?_)
            have kJ_100 : Kp 49 49 Ja J_100 := Kp_tr kJ_91 h_100.2.1
            have kI_100 : Ch [] [16, 17, 18] Ia I_100 := Ch_tr kI_91 (Ch_wd h_100.1 (by decide) (by decide))
            have cI_100 : RX I_100 := h_100.2.2.1
            have qI_100 := RX_w cI_100
            have f15_I_100 : I_100 49 15 = I_91 49 15 := h_100.1.2 15 (by decide)
            have f17_I_100 : I_100 49 17 = I_91 49 17 := h_100.1.2 17 (by decide)
            have f18_I_100 : I_100 49 18 = I_91 49 18 := h_100.1.2 18 (by decide)
            have pI_100 : PI I_100 := h_100.2.2.2.1
            have oI_100 := PI_o pI_100
            have yI_100 := h_100.2.2.2.2
            refine ww_if_ne hX (pc := 103) (tgt := 127) dX11_readPlain_103 (by decide) (fun h_103 => ?_) (fun h_103 => ?_)
            · simp only [w32_mod] at h_103
              have s100 := TK_1 yI_100.2.2.2 (by omega)
              have sg : zSM c pl T I_91 I_100 := zSM_1 (r := 160) ⟨s100.1, by have h9 := s100.2.1; omega, s100.2.2⟩ (by decide) (by omega) (by omega) (zRL_tr kI_91 (by decide) (by decide) (by decide) hk).1 (PI_lt pI_91 (by have h7 := pvw_at pI_91 (pvw_tr kI_91 (by decide) (by decide) hc); have h8 := s100.2.1; omega))
              refine ww_aload_n hX (pc := 127) dX11_readPlain_127 rfl ?_
              refine ww_iload_n hX (pc := 128) dX11_readPlain_128 rfl ?_
              refine vV1 hX (pc := 129) sX11_178 (xs_49 hL) (c_URSum9 l0 m hm hL cI_100 pI_100 (pvw_tr kI_100 (by decide) (by decide) hc) (zRL_tr kI_100 (by decide) (by decide) (by decide) hk)) (by omega) (Nat.le_refl 0) (Nat.le_refl 0) (Nat.le_of_ble_eq_true rfl) dX11_readPlain_129 (fun I_129 J_129 h_129 => ?_)
              have kJ_129 : Kp 49 49 Ja J_129 := Kp_tr kJ_100 h_129.2.1
              have kI_129 : Ch [] [16, 17, 18] Ia I_129 := Ch_tr kI_100 (Ch_wd h_129.1 (by decide) (by decide))
              have cI_129 : RX I_129 := h_129.2.2.1
              have qI_129 := RX_w cI_129
              have f15_I_129 : I_129 49 15 = I_100 49 15 := h_129.1.2 15 (by decide)
              have pI_129 : PI I_129 := h_129.2.2.2.1
              have oI_129 := PI_o pI_129
              have yI_129 := h_129.2.2.2.2
              refine rV hX (pc := 132) hT (Nat.le_refl 0) (Nat.le_refl 0) dX11_readPlain_132 ?_
              exact ⟨kI_129, kJ_129, cI_129, pI_129, zRP_pl hne (zRP_cm bb16 hcb yI_91.1 sg yI_129.1), by omega⟩
            · simp only [w32_mod] at h_103
              obtain ⟨z100, n100⟩ := TK_0 yI_100.2.2.2 (by omega)
              have n101 : NOP c 160 I_91 := fun g9 => by have h8 := n100 g9; omega
              refine ww_aload_n hX (pc := 106) dX11_readPlain_106 rfl ?_
              refine ww_bipush hX (pc := 107) (x := 62) dX11_readPlain_107 (by decide) ?_
              refine sI1 hX (pc := 109) sX11_190 (c_X11_sign l0 ) (by omega) (Nat.le_refl 0) (Nat.le_refl 0) (Nat.le_of_ble_eq_true rfl) dX11_readPlain_109 (fun x_109 I_109 J_109 h_109 => ?_)
              obtain ⟨rfl, rfl, h_109⟩ := h_109
              refine vI1 hX (pc := 112) sX11_165 (xs_49 hL) (c9_X11_takes0 l0 hL cI_100  pI_100 (pvw_tr kI_100 (by decide) (by decide) hc) (by omega) (by omega)) (by omega) (Nat.le_refl 0) (Nat.le_refl 0) (Nat.le_of_ble_eq_true rfl) dX11_readPlain_112 (fun x_112 I_112 J_112 h_112 => ?_)
              have kJ_112 : Kp 49 49 Ja J_112 := Kp_tr kJ_100 h_112.2.1
              have kI_112 : Ch [] [16, 17, 18] Ia I_112 := Ch_tr kI_100 (Ch_wd h_112.1 (by decide) (by decide))
              have cI_112 : RX I_112 := h_112.2.2.1
              have qI_112 := RX_w cI_112
              have f15_I_112 : I_112 49 15 = I_100 49 15 := h_112.1.2 15 (by decide)
              have f17_I_112 : I_112 49 17 = I_100 49 17 := h_112.1.2 17 (by decide)
              have f18_I_112 : I_112 49 18 = I_100 49 18 := h_112.1.2 18 (by decide)
              have pI_112 : PI I_112 := h_112.2.2.2.1
              have oI_112 := PI_o pI_112
              have yI_112 := h_112.2.2.2.2
              refine ww_if_ne hX (pc := 115) (tgt := 127) dX11_readPlain_115 (by decide) (fun h_115 => ?_) (fun h_115 => ?_)
              · simp only [w32_mod] at h_115
                have s112 := TK_1 yI_112.2.2.2 (by omega)
                rw [z100] at s112
                have s113 : I_91 49 18 = -1 ∧ c (I_91 49 16).toNat = 162 ∧ I_112 49 16 = I_91 49 16 + 1 := ⟨by omega, by have h9 := s112.2.1; omega, by omega⟩
                have sg : zSM c pl T I_91 I_112 := zSM_1 (r := 162) s113 (by decide) (by omega) (by omega) (zRL_tr kI_91 (by decide) (by decide) (by decide) hk).1 (PI_lt pI_91 (by have h7 := pvw_at pI_91 (pvw_tr kI_91 (by decide) (by decide) hc); have h8 := s113.2.1; omega))
                refine ww_aload_n hX (pc := 127) dX11_readPlain_127 rfl ?_
                refine ww_iload_n hX (pc := 128) dX11_readPlain_128 rfl ?_
                refine vV1 hX (pc := 129) sX11_178 (xs_49 hL) (c_URSum9 l0 m hm hL cI_112 pI_112 (pvw_tr kI_112 (by decide) (by decide) hc) (zRL_tr kI_112 (by decide) (by decide) (by decide) hk)) (by omega) (Nat.le_refl 0) (Nat.le_refl 0) (Nat.le_of_ble_eq_true rfl) dX11_readPlain_129 (fun I_129 J_129 h_129 => ?_)
                have kJ_129 : Kp 49 49 Ja J_129 := Kp_tr kJ_112 h_129.2.1
                have kI_129 : Ch [] [16, 17, 18] Ia I_129 := Ch_tr kI_112 (Ch_wd h_129.1 (by decide) (by decide))
                have cI_129 : RX I_129 := h_129.2.2.1
                have qI_129 := RX_w cI_129
                have f15_I_129 : I_129 49 15 = I_112 49 15 := h_129.1.2 15 (by decide)
                have pI_129 : PI I_129 := h_129.2.2.2.1
                have oI_129 := PI_o pI_129
                have yI_129 := h_129.2.2.2.2
                refine rV hX (pc := 132) hT (Nat.le_refl 0) (Nat.le_refl 0) dX11_readPlain_132 ?_
                exact ⟨kI_129, kJ_129, cI_129, pI_129, zRP_pl hne (zRP_cm bb16 hcb yI_91.1 sg yI_129.1), by omega⟩
              · simp only [w32_mod] at h_115
                obtain ⟨z112, n112⟩ := TK_0 yI_112.2.2.2 (by omega)
                have n113 : NOP c 162 I_91 := fun g9 => by have h8 := n112 (by omega); rw [z100] at h8; omega
                refine ww_aload_n hX (pc := 118) dX11_readPlain_118 rfl ?_
                refine ww_bipush hX (pc := 119) (x := 61) dX11_readPlain_119 (by decide) ?_
                refine sI1 hX (pc := 121) sX11_190 (c_X11_sign l0 ) (by omega) (Nat.le_refl 0) (Nat.le_refl 0) (Nat.le_of_ble_eq_true rfl) dX11_readPlain_121 (fun x_121 I_121 J_121 h_121 => ?_)
                obtain ⟨rfl, rfl, h_121⟩ := h_121
                refine vV1 hX (pc := 124) sX11_174 (xs_49 hL) (c9_X11_must l0 hL cI_112  pI_112 (pvw_tr kI_112 (by decide) (by decide) hc) (zRL_tr kI_112 (by decide) (by decide) (by decide) hk) (by omega) (by omega)) (by omega) (Nat.le_refl 0) (Nat.le_refl 0) (Nat.le_of_ble_eq_true rfl) dX11_readPlain_124 (fun I_124 J_124 h_124 => ?_)
                have kJ_124 : Kp 49 49 Ja J_124 := Kp_tr kJ_112 h_124.2.1
                have kI_124 : Ch [] [16, 17, 18] Ia I_124 := Ch_tr kI_112 (Ch_wd h_124.1 (by decide) (by decide))
                have cI_124 : RX I_124 := h_124.2.2.1
                have qI_124 := RX_w cI_124
                have f15_I_124 : I_124 49 15 = I_112 49 15 := h_124.1.2 15 (by decide)
                have f17_I_124 : I_124 49 17 = I_112 49 17 := h_124.1.2 17 (by decide)
                have pI_124 : PI I_124 := h_124.2.2.2.1
                have oI_124 := PI_o pI_124
                have yI_124 := h_124.2.2.2.2
                have sg : zSM c pl T I_91 I_124 := zSM_k (by omega) (by omega) (by omega) n101 n113 yI_124.2 (by omega)
                refine ww_aload_n hX (pc := 127) dX11_readPlain_127 rfl ?_
                refine ww_iload_n hX (pc := 128) dX11_readPlain_128 rfl ?_
                refine vV1 hX (pc := 129) sX11_178 (xs_49 hL) (c_URSum9 l0 m hm hL cI_124 pI_124 (pvw_tr kI_124 (by decide) (by decide) hc) (zRL_tr kI_124 (by decide) (by decide) (by decide) hk)) (by omega) (Nat.le_refl 0) (Nat.le_refl 0) (Nat.le_of_ble_eq_true rfl) dX11_readPlain_129 (fun I_129 J_129 h_129 => ?_)
                have kJ_129 : Kp 49 49 Ja J_129 := Kp_tr kJ_124 h_129.2.1
                have kI_129 : Ch [] [16, 17, 18] Ia I_129 := Ch_tr kI_124 (Ch_wd h_129.1 (by decide) (by decide))
                have cI_129 : RX I_129 := h_129.2.2.1
                have qI_129 := RX_w cI_129
                have f15_I_129 : I_129 49 15 = I_124 49 15 := h_129.1.2 15 (by decide)
                have pI_129 : PI I_129 := h_129.2.2.2.1
                have oI_129 := PI_o pI_129
                have yI_129 := h_129.2.2.2.2
                refine rV hX (pc := 132) hT (Nat.le_refl 0) (Nat.le_refl 0) dX11_readPlain_132 ?_
                exact ⟨kI_129, kJ_129, cI_129, pI_129, zRP_pl hne (zRP_cm bb16 hcb yI_91.1 sg yI_129.1), by omega⟩
          · simp only [w32_mod] at h_39
            have hcb : c (I2 49 16).toNat = 140 := by omega
            refine ww_iload_n hX (pc := 42) dX11_readPlain_42 rfl ?_
            refine ww_bipush hX (pc := 43) (x := 8) dX11_readPlain_43 (by decide) ?_
            refine ww_icmp_ne hX (pc := 45) (tgt := 52) dX11_readPlain_45 (by decide) (fun h_45 => ?_) (fun h_45 => ?_)
            · simp only [w32_mod] at h_45
              refine ww_aload_n hX (pc := 52) dX11_readPlain_52 rfl ?_
              refine vI0 hX (pc := 53) sX11_158 (xs_49 hL) (c_X11_fine l0 hL cI2  pI2) (by omega) (Nat.le_refl 0) (Nat.le_refl 0) (Nat.le_of_ble_eq_true rfl) dX11_readPlain_53 (fun x_53 I_53 J_53 h_53 => ?_)
              obtain ⟨rfl, rfl, h_53⟩ := h_53
              refine ww_if_ne hX (pc := 56) (tgt := 60) dX11_readPlain_56 (by decide) (fun h_56 => ?_) (fun h_56 => ?_)
              · simp only [w32_mod] at h_56
                have bb53 := FN_1 h_53.2 (by omega)
                obtain ⟨mp, rfl⟩ : ∃ mp, m = mp + 1 := ⟨m - 1, by omega⟩
                refine ww_aload_n hX (pc := 60) dX11_readPlain_60 rfl ?_
                refine ww_dupR hX (pc := 61) dX11_readPlain_61 ?_
                refine ww_getI hX (pc := 62) fX11_162 (by decide) (xs_49 hL) dX11_readPlain_62 ?_
                refine ww_iconst hX (pc := 65) (x := 1) dX11_readPlain_65 rfl ?_
                refine ww_iadd hX (pc := 66) dX11_readPlain_66 ?_
                refine ww_putI hX (pc := 67) (fun h9 => absurd h9 (by decide)) gX11_162 rfl (xs_49 hL) dX11_readPlain_67 ?_
                have lt67 := PI_lt pI2 (by omega)
                refine ww_nmH (fun I_67 eI_67 => ?_)
                have kI_67 : Ch [] [16, 17, 18] Ia I_67 := by rw [eI_67]; exact Ch_f kI2 (by decide)
                have cI_67 : RX I_67 := by rw [eI_67]; exact RX_f cI2 (by decide)
                have qI_67 := RX_w cI_67
                have f15_I_67 : I_67 49 15 = I2 49 15 := by rw [eI_67, up2_n _ _ (Or.inr (by decide))]
                have f17_I_67 : I_67 49 17 = I2 49 17 := by rw [eI_67, up2_n _ _ (Or.inr (by decide))]
                have f18_I_67 : I_67 49 18 = I2 49 18 := by rw [eI_67, up2_n _ _ (Or.inr (by decide))]
                have w16_I_67 : I_67 49 16 = I2 49 16 + 1 := by rw [eI_67, up2_s]
                have pI_67 : PI I_67 := by rw [eI_67]; exact PI_f pI2 (by decide) (fun _ => ⟨by omega, by omega⟩) (fun h => absurd h (by decide))
                have oI_67 := PI_o pI_67
                refine ww_aload_n hX (pc := 70) dX11_readPlain_70 rfl ?_
                refine ww_iload_n hX (pc := 71) dX11_readPlain_71 rfl ?_
                refine ww_iconst hX (pc := 72) (x := 1) dX11_readPlain_72 rfl ?_
                refine ww_iadd hX (pc := 73) dX11_readPlain_73 ?_
                refine ww_toI (show (8 - ((mp + 1 : Nat) : Int)) + 1 = 8 - (mp : Int) by omega) ?_
                refine vV1 hX (pc := 74) sX11_181 (xs_49 hL) (hrec mp rfl hL cI_67 pI_67 (pvw_tr kI_67 (by decide) (by decide) hc) (zRL_tr kI_67 (by decide) (by decide) (by decide) hk)) (by omega) (Nat.le_refl 0) (Nat.le_refl 0) (Nat.le_of_ble_eq_true rfl) dX11_readPlain_74 (fun I_74 J_74 h_74 => ?_)
                have kJ_74 : Kp 49 49 Ja J_74 := Kp_tr kJ2 h_74.2.1
                have kI_74 : Ch [] [16, 17, 18] Ia I_74 := Ch_tr kI_67 (Ch_wd h_74.1 (by decide) (by decide))
                have cI_74 : RX I_74 := h_74.2.2.1
                have qI_74 := RX_w cI_74
                have f15_I_74 : I_74 49 15 = I_67 49 15 := h_74.1.2 15 (by decide)
                have pI_74 : PI I_74 := h_74.2.2.2.1
                have oI_74 := PI_o pI_74
                have yI_74 := h_74.2.2.2.2
                refine ww_aload_n hX (pc := 77) dX11_readPlain_77 rfl ?_
                refine ww_bipush hX (pc := 78) (x := 41) dX11_readPlain_78 (by decide) ?_
                refine sI1 hX (pc := 80) sX11_190 (c_X11_sign l0 ) (by omega) (Nat.le_refl 0) (Nat.le_refl 0) (Nat.le_of_ble_eq_true rfl) dX11_readPlain_80 (fun x_80 I_80 J_80 h_80 => ?_)
                obtain ⟨rfl, rfl, h_80⟩ := h_80
                refine vV1 hX (pc := 83) sX11_174 (xs_49 hL) (c9_X11_must l0 hL cI_74  pI_74 (pvw_tr kI_74 (by decide) (by decide) hc) (zRL_tr kI_74 (by decide) (by decide) (by decide) hk) (by omega) (by omega)) (by omega) (Nat.le_refl 0) (Nat.le_refl 0) (Nat.le_of_ble_eq_true rfl) dX11_readPlain_83 (fun I_83 J_83 h_83 => ?_)
                have kJ_83 : Kp 49 49 Ja J_83 := Kp_tr kJ_74 h_83.2.1
                have kI_83 : Ch [] [16, 17, 18] Ia I_83 := Ch_tr kI_74 (Ch_wd h_83.1 (by decide) (by decide))
                have cI_83 : RX I_83 := h_83.2.2.1
                have qI_83 := RX_w cI_83
                have f15_I_83 : I_83 49 15 = I_74 49 15 := h_83.1.2 15 (by decide)
                have f17_I_83 : I_83 49 17 = I_74 49 17 := h_83.1.2 17 (by decide)
                have pI_83 : PI I_83 := h_83.2.2.2.1
                have oI_83 := PI_o pI_83
                have yI_83 := h_83.2.2.2.2
                refine ww_goto hX (pc := 86) (tgt := 132) dX11_readPlain_86 (by decide) ?_
                refine rV hX (pc := 132) hT (Nat.le_refl 0) (Nat.le_refl 0) dX11_readPlain_132 ?_
                exact ⟨kI_83, kJ_83, cI_83, pI_83, zRP_pl hne (zRP_br bb16 w16_I_67 f17_I_67 f18_I_67 (zRL_tr kI2 (by decide) (by decide) (by decide) hk).1 (PI_lt pI2 (by omega)) yI_74.1 yI_83.2 (by omega) (fun l => zPos_b hcb)), by omega⟩
              · simp only [w32_mod] at h_56
                have nb53 := FN_0 h_53.2 (by omega)
                exact absurd bb16 nb53
            · simp only [w32_mod] at h_45
              refine ww_aload_n hX (pc := 48) dX11_readPlain_48 rfl ?_
              refine vV0 hX (pc := 49) sX11_168 (xs_49 hL) (c9_X11_faults l0 hL cI2  pI2 (zRL_tr kI2 (by decide) (by decide) (by decide) hk)) (by omega) (Nat.le_refl 0) (Nat.le_refl 0) (Nat.le_of_ble_eq_true rfl) dX11_readPlain_49 (fun I_49 J_49 h_49 => ?_)
              have kJ_49 : Kp 49 49 Ja J_49 := Kp_tr kJ2 h_49.2.1
              have kI_49 : Ch [] [16, 17, 18] Ia I_49 := Ch_tr kI2 (Ch_wd h_49.1 (by decide) (by decide))
              have cI_49 : RX I_49 := h_49.2.2.1
              have qI_49 := RX_w cI_49
              have f15_I_49 : I_49 49 15 = I2 49 15 := h_49.1.2 15 (by decide)
              have f16_I_49 : I_49 49 16 = I2 49 16 := h_49.1.2 16 (by decide)
              have f17_I_49 : I_49 49 17 = I2 49 17 := h_49.1.2 17 (by decide)
              have pI_49 : PI I_49 := h_49.2.2.2.1
              have oI_49 := PI_o pI_49
              have yI_49 := h_49.2.2.2.2
              refine ww_aload_n hX (pc := 52) dX11_readPlain_52 rfl ?_
              refine vI0 hX (pc := 53) sX11_158 (xs_49 hL) (c_X11_fine l0 hL cI_49  pI_49) (by omega) (Nat.le_refl 0) (Nat.le_refl 0) (Nat.le_of_ble_eq_true rfl) dX11_readPlain_53 (fun x_53 I_53 J_53 h_53 => ?_)
              obtain ⟨rfl, rfl, h_53⟩ := h_53
              refine ww_if_ne hX (pc := 56) (tgt := 60) dX11_readPlain_56 (by decide) (fun h_56 => ?_) (fun h_56 => ?_)
              · simp only [w32_mod] at h_56
                have bb53 := FN_1 h_53.2 (by omega)
                exfalso
                have h8 := yI_49.2.2.2 bb16
                have h7 := (zRL_p (zRL_tr kI2 (by decide) (by decide) (by decide) hk) pI2).2.2.1
                omega
              · simp only [w32_mod] at h_56
                have nb53 := FN_0 h_53.2 (by omega)
                refine rV hX (pc := 59) hT (Nat.le_refl 0) (Nat.le_refl 0) dX11_readPlain_59 ?_
                exact ⟨kI_49, kJ_49, cI_49, pI_49, (by
                    obtain rfl : m = 0 := by omega
                    exact zRP_pl hne (zRP_fa yI_49.2.2 (zRL_pp hk) (fun l => (zPos_b hcb).trans zBr_0))), by omega⟩
        · simp only [w32_mod] at h_19
          have nb16 := FN_0 h_16.2 (by omega)
          refine rV hX (pc := 22) hT (Nat.le_refl 0) (Nat.le_refl 0) dX11_readPlain_22 ?_
          exact ⟨kI2, kJ2, cI2, pI2, zRP_pl hne (zRP_n nb16), by omega⟩
      · simp only [w32_mod] at h_3
        refine ww_aload_n hX (pc := 6) dX11_readPlain_6 rfl ?_
        refine ww_iconst hX (pc := 7) (x := 5) dX11_readPlain_7 rfl ?_
        refine vI1 hX (pc := 8) sX11_165 (xs_49 hL) (c9_X11_takes0 l0 hL cI2  pI2 (pvw_tr kI2 (by decide) (by decide) hc) (by omega) (by omega)) (by omega) (Nat.le_refl 0) (Nat.le_refl 0) (Nat.le_of_ble_eq_true rfl) dX11_readPlain_8 (fun x_8 I_8 J_8 h_8 => ?_)
        have kJ_8 : Kp 49 49 Ja J_8 := Kp_tr kJ2 h_8.2.1
        have kI_8 : Ch [] [16, 17, 18] Ia I_8 := Ch_tr kI2 (Ch_wd h_8.1 (by decide) (by decide))
        have cI_8 : RX I_8 := h_8.2.2.1
        have qI_8 := RX_w cI_8
        have f15_I_8 : I_8 49 15 = I2 49 15 := h_8.1.2 15 (by decide)
        have f17_I_8 : I_8 49 17 = I2 49 17 := h_8.1.2 17 (by decide)
        have f18_I_8 : I_8 49 18 = I2 49 18 := h_8.1.2 18 (by decide)
        have pI_8 : PI I_8 := h_8.2.2.2.1
        have oI_8 := PI_o pI_8
        have yI_8 := h_8.2.2.2.2
        refine ww_istore_n hX (pc := 11) (lv' := [some (kR (some 49)), some (kI (8 - (m : Int))), some (kI x_8), none]) dX11_readPlain_11 (by decide) rfl rfl ?_
        refine ww_goto hX (pc := 12) (tgt := 2) dX11_readPlain_12 (by decide) ?_
        have d8 : x_8 = 0 ∨ I_8 49 16 = I2 49 16 + 1 := by
          rcases (show x_8 = 0 ∨ x_8 = 1 by omega) with g | g
          · exact Or.inl g
          · exact Or.inr (TK_1 yI_8.2.2.2 g).2.2
        exact ih_2 _ (by have hm9 := Sh0_e hq_2; omega) x_8 I_8 J_8 rfl ⟨kI_8, cI_8, kJ_8, by omega, pI_8, yI_8.1, zNL_t hnl yI_8.1 yI_8.2.2.2 (by omega) yI_8.2.1 hT2 (by omega), by omega, NO5 yI_8.2.2.2 yI_8.2.1⟩
  exact hl_2 _ 1 Ia Ja rfl ⟨Ch_rf, hQ, (Kp_rf (a := 49) (b := 49)), rfl, hP, ⟨by decide, by decide⟩, zNL_0, Int.le_refl _, fun h => absurd h (by decide)⟩
set_option maxHeartbeats 4000000 in
set_option maxRecDepth 20000 in
theorem c9_X11_readBoth (l0 : Launch) {Ia Ja : aI1} {Ra : aR1} {Sa : aS1} (hL : LY Ra Sa) (hQ : RX Ia) (hP : PI Ia) {c : Nat → Int} (hc : pvw Ia = c) {vl pl : Nat → Int} {T : Nat} (hk : zRL Ia vl pl T) {m : Nat} (hm : m ≤ 8) (hrec : ∀ mp, m = mp + 1 → URTest9 l0 mp)  : CT l0 (3 * m + 7) 0 0 mX11_readBoth [kR (some 49), kI (8 - (m : Int))] Ia Ja Ra Sa (cV (fun I' J' => Ch [] [16, 17, 18] Ia I' ∧ Kp 49 49 Ja J' ∧ RX I' ∧ PI I' ∧ zRP T pl (zBo (zTu c vl m) (zS c vl m) c) Ia I' ∧ Ia 49 16 ≤ I' 49 16) Ra Sa) := by
  refine ct_in pn_X11 (Nat.le_of_ble_eq_true rfl) (fun X hX hT hIn => ?_)
  have hX : aK l0 X cX11_readBoth 2 RX11 none (3 * m + 7) 0 0 := hX
  change WW X 0 [some (kR (some 49)), some (kI (8 - (m : Int)))] [] Ia Ja Ra Sa 0 0
  have qIa := RX_w hQ
  have oIa := PI_o hP
  have tIa := PI_t hP
  have atIa := pvw_at hP hc
  refine ww_aload_n hX (pc := 0) dX11_readBoth_0 rfl ?_
  refine ww_iload_n hX (pc := 1) dX11_readBoth_1 rfl ?_
  refine vV1 hX (pc := 2) sX11_187 (xs_49 hL) (c9_X11_readPlain l0 hL hQ  hP hc hk (m := m) hm hrec) (by omega) (Nat.le_refl 0) (Nat.le_refl 0) (Nat.le_of_ble_eq_true rfl) dX11_readBoth_2 (fun I_2 J_2 h_2 => ?_)
  have kJ_2 : Kp 49 49 Ja J_2 := Kp_tr (Kp_rf (a := 49) (b := 49)) h_2.2.1
  have kI_2 : Ch [] [16, 17, 18] Ia I_2 := Ch_tr Ch_rf (Ch_wd h_2.1 (by decide) (by decide))
  have cI_2 : RX I_2 := h_2.2.2.1
  have qI_2 := RX_w cI_2
  have f15_I_2 : I_2 49 15 = Ia 49 15 := h_2.1.2 15 (by decide)
  have pI_2 : PI I_2 := h_2.2.2.2.1
  have oI_2 := PI_o pI_2
  have yI_2 := h_2.2.2.2.2
  have hl_5 : ∀ (n_5 : Nat) (I5 : aI1) (J5 : aI1), (I5 49 15 - I5 49 16).toNat = n_5 → (Ch [] [16, 17, 18] Ia I5 ∧ RX I5 ∧ Kp 49 49 Ja J5 ∧ I5 49 15 = I_2 49 15 ∧ PI I5 ∧ zLp6 T c pl (zPl (zTu c vl m) (zS c vl m) c) [4] zJB Ia I5 ∧ Ia 49 16 ≤ I5 49 16) → WW X 5 [some (kR (some 49)), some (kI (8 - (m : Int)))] [] I5 J5 Ra Sa 0 0 := by
    intro n_5
    induction n_5 using Nat.strongRecOn with
    | ind n_5 ih_5 =>
      intro I5 J5 hm_5 hv_5
      have hq_5 := Sh0_i hm_5
      clear hm_5
      obtain ⟨kI5, cI5, kJ5, f15_I5, pI5, hlv, hmo⟩ := hv_5
      have qI5 := RX_w cI5
      have oI5 := PI_o pI5
      have tI5 := PI_t pI5
      have atI5 := pvw_at pI5 (pvw_tr kI5 (by decide) (by decide) hc)
      refine ww_aload_n hX (pc := 5) dX11_readBoth_5 rfl ?_
      refine ww_iconst hX (pc := 6) (x := 4) dX11_readBoth_6 rfl ?_
      refine vI1 hX (pc := 7) sX11_165 (xs_49 hL) (c9_X11_takes0 l0 hL cI5  pI5 (pvw_tr kI5 (by decide) (by decide) hc) (by omega) (by omega)) (by omega) (Nat.le_refl 0) (Nat.le_refl 0) (Nat.le_of_ble_eq_true rfl) dX11_readBoth_7 (fun x_7 I_7 J_7 h_7 => ?_)
      have kJ_7 : Kp 49 49 Ja J_7 := Kp_tr kJ5 h_7.2.1
      have kI_7 : Ch [] [16, 17, 18] Ia I_7 := Ch_tr kI5 (Ch_wd h_7.1 (by decide) (by decide))
      have cI_7 : RX I_7 := h_7.2.2.1
      have qI_7 := RX_w cI_7
      have f15_I_7 : I_7 49 15 = I5 49 15 := h_7.1.2 15 (by decide)
      have f17_I_7 : I_7 49 17 = I5 49 17 := h_7.1.2 17 (by decide)
      have f18_I_7 : I_7 49 18 = I5 49 18 := h_7.1.2 18 (by decide)
      have pI_7 : PI I_7 := h_7.2.2.2.1
      have oI_7 := PI_o pI_7
      have yI_7 := h_7.2.2.2.2
      refine ww_if_eq hX (pc := 10) (tgt := 21) dX11_readBoth_10 (by decide) (fun h_10 => ?_) (fun h_10 => ?_)
      · simp only [w32_mod] at h_10
        obtain ⟨z7, n7⟩ := TK_0 yI_7.2.2.2 (by omega)
        refine rV hX (pc := 21) hT (Nat.le_refl 0) (Nat.le_refl 0) dX11_readBoth_21 ?_
        exact ⟨kI_7, kJ_7, cI_7, pI_7, (by exact zLp6_e hlv (by omega) (by omega) (by omega) (fun g9 => by  have a0 := n7 (by omega); simp only [List.mem_cons, List.not_mem_nil, or_false]; try omega)), by omega⟩
      · simp only [w32_mod] at h_10
        have s7 := TK_1 yI_7.2.2.2 (by omega)
        refine ww_aload_n hX (pc := 13) dX11_readBoth_13 rfl ?_
        refine ww_iload_n hX (pc := 14) dX11_readBoth_14 rfl ?_
        refine vV1 hX (pc := 15) sX11_187 (xs_49 hL) (c9_X11_readPlain l0 hL cI_7  pI_7 (pvw_tr kI_7 (by decide) (by decide) hc) (zRL_tr kI_7 (by decide) (by decide) (by decide) hk) (m := m) hm hrec) (by omega) (Nat.le_refl 0) (Nat.le_refl 0) (Nat.le_of_ble_eq_true rfl) dX11_readBoth_15 (fun I_15 J_15 h_15 => ?_)
        have kJ_15 : Kp 49 49 Ja J_15 := Kp_tr kJ_7 h_15.2.1
        have kI_15 : Ch [] [16, 17, 18] Ia I_15 := Ch_tr kI_7 (Ch_wd h_15.1 (by decide) (by decide))
        have cI_15 : RX I_15 := h_15.2.2.1
        have qI_15 := RX_w cI_15
        have f15_I_15 : I_15 49 15 = I_7 49 15 := h_15.1.2 15 (by decide)
        have pI_15 : PI I_15 := h_15.2.2.2.1
        have oI_15 := PI_o pI_15
        have yI_15 := h_15.2.2.2.2
        refine ww_goto hX (pc := 18) (tgt := 5) dX11_readBoth_18 (by decide) ?_
        exact ih_5 _ (by have hm9 := Sh0_e hq_5; omega) I_15 J_15 rfl ⟨kI_15, cI_15, kJ_15, by omega, pI_15, zLp6_s hlv (by have h7 := s7.1; omega) (by rw [s7.2.1]; simp only [List.mem_cons, List.not_mem_nil, or_false]; try omega) (by omega) (by omega) (by omega) (zRL_tr kI5 (by decide) (by decide) (by decide) hk).1 (PI_lt pI5 (by rw [← atI5]; have h8 := s7.2.1; omega)) hk.2.1 yI_15.1 (by omega), by omega⟩
  exact hl_5 _ I_2 J_2 rfl ⟨kI_2, cI_2, kJ_2, rfl, pI_2, zLp6_0 yI_2.1, by omega⟩
set_option maxHeartbeats 4000000 in
set_option maxRecDepth 20000 in
theorem c9_X11_readTest (l0 : Launch) {Ia Ja : aI1} {Ra : aR1} {Sa : aS1} (hL : LY Ra Sa) (hQ : RX Ia) (hP : PI Ia) {c : Nat → Int} (hc : pvw Ia = c) {vl pl : Nat → Int} {T : Nat} (hk : zRL Ia vl pl T) {m : Nat} (hm : m ≤ 8) (hrec : ∀ mp, m = mp + 1 → URTest9 l0 mp)  : CT l0 (3 * m + 8) 0 0 mX11_readTest [kR (some 49), kI (8 - (m : Int))] Ia Ja Ra Sa (cV (fun I' J' => Ch [] [16, 17, 18] Ia I' ∧ Kp 49 49 Ja J' ∧ RX I' ∧ PI I' ∧ zRP T pl (zT c vl m) Ia I' ∧ Ia 49 16 ≤ I' 49 16) Ra Sa) := by
  refine ct_in pn_X11 (Nat.le_of_ble_eq_true rfl) (fun X hX hT hIn => ?_)
  have hX : aK l0 X cX11_readTest 2 RX11 none (3 * m + 8) 0 0 := hX
  change WW X 0 [some (kR (some 49)), some (kI (8 - (m : Int)))] [] Ia Ja Ra Sa 0 0
  have qIa := RX_w hQ
  have oIa := PI_o hP
  have tIa := PI_t hP
  have atIa := pvw_at hP hc
  refine ww_aload_n hX (pc := 0) dX11_readTest_0 rfl ?_
  refine ww_iload_n hX (pc := 1) dX11_readTest_1 rfl ?_
  refine vV1 hX (pc := 2) sX11_184 (xs_49 hL) (c9_X11_readBoth l0 hL hQ  hP hc hk (m := m) hm hrec) (by omega) (Nat.le_refl 0) (Nat.le_refl 0) (Nat.le_of_ble_eq_true rfl) dX11_readTest_2 (fun I_2 J_2 h_2 => ?_)
  have kJ_2 : Kp 49 49 Ja J_2 := Kp_tr (Kp_rf (a := 49) (b := 49)) h_2.2.1
  have kI_2 : Ch [] [16, 17, 18] Ia I_2 := Ch_tr Ch_rf (Ch_wd h_2.1 (by decide) (by decide))
  have cI_2 : RX I_2 := h_2.2.2.1
  have qI_2 := RX_w cI_2
  have f15_I_2 : I_2 49 15 = Ia 49 15 := h_2.1.2 15 (by decide)
  have pI_2 : PI I_2 := h_2.2.2.2.1
  have oI_2 := PI_o pI_2
  have yI_2 := h_2.2.2.2.2
  have hl_5 : ∀ (n_5 : Nat) (I5 : aI1) (J5 : aI1), (I5 49 15 - I5 49 16).toNat = n_5 → (Ch [] [16, 17, 18] Ia I5 ∧ RX I5 ∧ Kp 49 49 Ja J5 ∧ I5 49 15 = I_2 49 15 ∧ PI I5 ∧ zLp6 T c pl (zBo (zTu c vl m) (zS c vl m) c) [3] zJB Ia I5 ∧ Ia 49 16 ≤ I5 49 16) → WW X 5 [some (kR (some 49)), some (kI (8 - (m : Int)))] [] I5 J5 Ra Sa 0 0 := by
    intro n_5
    induction n_5 using Nat.strongRecOn with
    | ind n_5 ih_5 =>
      intro I5 J5 hm_5 hv_5
      have hq_5 := Sh0_i hm_5
      clear hm_5
      obtain ⟨kI5, cI5, kJ5, f15_I5, pI5, hlv, hmo⟩ := hv_5
      have qI5 := RX_w cI5
      have oI5 := PI_o pI5
      have tI5 := PI_t pI5
      have atI5 := pvw_at pI5 (pvw_tr kI5 (by decide) (by decide) hc)
      refine ww_aload_n hX (pc := 5) dX11_readTest_5 rfl ?_
      refine ww_iconst hX (pc := 6) (x := 3) dX11_readTest_6 rfl ?_
      refine vI1 hX (pc := 7) sX11_165 (xs_49 hL) (c9_X11_takes0 l0 hL cI5  pI5 (pvw_tr kI5 (by decide) (by decide) hc) (by omega) (by omega)) (by omega) (Nat.le_refl 0) (Nat.le_refl 0) (Nat.le_of_ble_eq_true rfl) dX11_readTest_7 (fun x_7 I_7 J_7 h_7 => ?_)
      have kJ_7 : Kp 49 49 Ja J_7 := Kp_tr kJ5 h_7.2.1
      have kI_7 : Ch [] [16, 17, 18] Ia I_7 := Ch_tr kI5 (Ch_wd h_7.1 (by decide) (by decide))
      have cI_7 : RX I_7 := h_7.2.2.1
      have qI_7 := RX_w cI_7
      have f15_I_7 : I_7 49 15 = I5 49 15 := h_7.1.2 15 (by decide)
      have f17_I_7 : I_7 49 17 = I5 49 17 := h_7.1.2 17 (by decide)
      have f18_I_7 : I_7 49 18 = I5 49 18 := h_7.1.2 18 (by decide)
      have pI_7 : PI I_7 := h_7.2.2.2.1
      have oI_7 := PI_o pI_7
      have yI_7 := h_7.2.2.2.2
      refine ww_if_eq hX (pc := 10) (tgt := 21) dX11_readTest_10 (by decide) (fun h_10 => ?_) (fun h_10 => ?_)
      · simp only [w32_mod] at h_10
        obtain ⟨z7, n7⟩ := TK_0 yI_7.2.2.2 (by omega)
        refine rV hX (pc := 21) hT (Nat.le_refl 0) (Nat.le_refl 0) dX11_readTest_21 ?_
        exact ⟨kI_7, kJ_7, cI_7, pI_7, (by exact zLp6_e hlv (by omega) (by omega) (by omega) (fun g9 => by  have a0 := n7 (by omega); simp only [List.mem_cons, List.not_mem_nil, or_false]; try omega)), by omega⟩
      · simp only [w32_mod] at h_10
        have s7 := TK_1 yI_7.2.2.2 (by omega)
        refine ww_aload_n hX (pc := 13) dX11_readTest_13 rfl ?_
        refine ww_iload_n hX (pc := 14) dX11_readTest_14 rfl ?_
        refine vV1 hX (pc := 15) sX11_184 (xs_49 hL) (c9_X11_readBoth l0 hL cI_7  pI_7 (pvw_tr kI_7 (by decide) (by decide) hc) (zRL_tr kI_7 (by decide) (by decide) (by decide) hk) (m := m) hm hrec) (by omega) (Nat.le_refl 0) (Nat.le_refl 0) (Nat.le_of_ble_eq_true rfl) dX11_readTest_15 (fun I_15 J_15 h_15 => ?_)
        have kJ_15 : Kp 49 49 Ja J_15 := Kp_tr kJ_7 h_15.2.1
        have kI_15 : Ch [] [16, 17, 18] Ia I_15 := Ch_tr kI_7 (Ch_wd h_15.1 (by decide) (by decide))
        have cI_15 : RX I_15 := h_15.2.2.1
        have qI_15 := RX_w cI_15
        have f15_I_15 : I_15 49 15 = I_7 49 15 := h_15.1.2 15 (by decide)
        have pI_15 : PI I_15 := h_15.2.2.2.1
        have oI_15 := PI_o pI_15
        have yI_15 := h_15.2.2.2.2
        refine ww_goto hX (pc := 18) (tgt := 5) dX11_readTest_18 (by decide) ?_
        exact ih_5 _ (by have hm9 := Sh0_e hq_5; omega) I_15 J_15 rfl ⟨kI_15, cI_15, kJ_15, by omega, pI_15, zLp6_s hlv (by have h7 := s7.1; omega) (by rw [s7.2.1]; simp only [List.mem_cons, List.not_mem_nil, or_false]; try omega) (by omega) (by omega) (by omega) (zRL_tr kI5 (by decide) (by decide) (by decide) hk).1 (PI_lt pI5 (by rw [← atI5]; have h8 := s7.2.1; omega)) hk.2.1 yI_15.1 (by omega), by omega⟩
  exact hl_5 _ I_2 J_2 rfl ⟨kI_2, cI_2, kJ_2, rfl, pI_2, zLp6_0 yI_2.1, by omega⟩
theorem c_URTest9 (l0 : Launch) : ∀ m : Nat, m ≤ 8 → URTest9 l0 m
  | 0, h => fun hL hQ hP _ hc _ _ _ hk => c9_X11_readTest l0 hL hQ hP hc hk (m := 0) h (fun mp e => absurd e (by omega))
  | m + 1, h => fun hL hQ hP _ hc _ _ _ hk => c9_X11_readTest l0 hL hQ hP hc hk (m := m + 1) h (fun mp e => by
      obtain rfl : m = mp := by omega
      exact c_URTest9 l0 m (by omega))
set_option maxHeartbeats 4000000 in
set_option maxRecDepth 20000 in
theorem c9_X11_readClause (l0 : Launch) {Ia Ja : aI1} {Ra : aR1} {Sa : aS1} (hL : LY Ra Sa) (hQ : RX Ia) (hP : PI Ia) {c : Nat → Int} (hc : pvw Ia = c) {vl pl : Nat → Int} {T : Nat} (hk : zRL Ia vl pl T)  : CT l0 33 0 0 mX11_readClause [kR (some 49)] Ia Ja Ra Sa (cV (fun I' J' => Ch [] [16, 17, 18] Ia I' ∧ Kp 49 49 Ja J' ∧ RX I' ∧ PI I' ∧ zRC T pl c vl Ia I' ∧ Ia 49 16 ≤ I' 49 16) Ra Sa) := by
  refine ct_in pn_X11 (Nat.le_of_ble_eq_true rfl) (fun X hX hT hIn => ?_)
  have hX : aK l0 X cX11_readClause 1 RX11 none 33 0 0 := hX
  change WW X 0 [some (kR (some 49))] [] Ia Ja Ra Sa 0 0
  have qIa := RX_w hQ
  have oIa := PI_o hP
  have tIa := PI_t hP
  have atIa := pvw_at hP hc
  refine ww_aload_n hX (pc := 0) dX11_readClause_0 rfl ?_
  refine ww_iconst hX (pc := 1) (x := 1) dX11_readClause_1 rfl ?_
  refine vV1 hX (pc := 2) sX11_174 (xs_49 hL) (c9_X11_must l0 hL hQ  hP hc hk (by omega) (by omega)) (by decide) (Nat.le_refl 0) (Nat.le_refl 0) (Nat.le_of_ble_eq_true rfl) dX11_readClause_2 (fun I_2 J_2 h_2 => ?_)
  have kJ_2 : Kp 49 49 Ja J_2 := Kp_tr (Kp_rf (a := 49) (b := 49)) h_2.2.1
  have kI_2 : Ch [] [16, 17, 18] Ia I_2 := Ch_tr Ch_rf (Ch_wd h_2.1 (by decide) (by decide))
  have cI_2 : RX I_2 := h_2.2.2.1
  have qI_2 := RX_w cI_2
  have f15_I_2 : I_2 49 15 = Ia 49 15 := h_2.1.2 15 (by decide)
  have f17_I_2 : I_2 49 17 = Ia 49 17 := h_2.1.2 17 (by decide)
  have pI_2 : PI I_2 := h_2.2.2.2.1
  have oI_2 := PI_o pI_2
  have yI_2 := h_2.2.2.2.2
  refine ww_aload_n hX (pc := 5) dX11_readClause_5 rfl ?_
  refine ww_iconst hX (pc := 6) (x := 0) dX11_readClause_6 rfl ?_
  refine vV1 hX (pc := 7) sX11_178 (xs_49 hL) (c_URSum9 l0 8 (by decide) hL cI_2 pI_2 (pvw_tr kI_2 (by decide) (by decide) hc) (zRL_tr kI_2 (by decide) (by decide) (by decide) hk)) (by decide) (Nat.le_refl 0) (Nat.le_refl 0) (Nat.le_of_ble_eq_true rfl) dX11_readClause_7 (fun I_7 J_7 h_7 => ?_)
  have kJ_7 : Kp 49 49 Ja J_7 := Kp_tr kJ_2 h_7.2.1
  have kI_7 : Ch [] [16, 17, 18] Ia I_7 := Ch_tr kI_2 (Ch_wd h_7.1 (by decide) (by decide))
  have cI_7 : RX I_7 := h_7.2.2.1
  have qI_7 := RX_w cI_7
  have f15_I_7 : I_7 49 15 = I_2 49 15 := h_7.1.2 15 (by decide)
  have pI_7 : PI I_7 := h_7.2.2.2.1
  have oI_7 := PI_o pI_7
  have yI_7 := h_7.2.2.2.2
  refine ww_aload_n hX (pc := 10) dX11_readClause_10 rfl ?_
  refine ww_iconst hX (pc := 11) (x := 2) dX11_readClause_11 rfl ?_
  refine vI1 hX (pc := 12) sX11_165 (xs_49 hL) (c9_X11_takes0 l0 hL cI_7  pI_7 (pvw_tr kI_7 (by decide) (by decide) hc) (by omega) (by omega)) (by decide) (Nat.le_refl 0) (Nat.le_refl 0) (Nat.le_of_ble_eq_true rfl) dX11_readClause_12 (fun x_12 I_12 J_12 h_12 => ?_)
  have kJ_12 : Kp 49 49 Ja J_12 := Kp_tr kJ_7 h_12.2.1
  have kI_12 : Ch [] [16, 17, 18] Ia I_12 := Ch_tr kI_7 (Ch_wd h_12.1 (by decide) (by decide))
  have cI_12 : RX I_12 := h_12.2.2.1
  have qI_12 := RX_w cI_12
  have f15_I_12 : I_12 49 15 = I_7 49 15 := h_12.1.2 15 (by decide)
  have f17_I_12 : I_12 49 17 = I_7 49 17 := h_12.1.2 17 (by decide)
  have f18_I_12 : I_12 49 18 = I_7 49 18 := h_12.1.2 18 (by decide)
  have pI_12 : PI I_12 := h_12.2.2.2.1
  have oI_12 := PI_o pI_12
  have yI_12 := h_12.2.2.2.2
  refine ww_if_eq hX (pc := 15) (tgt := 23) dX11_readClause_15 (by decide) (fun h_15 => ?_) (fun h_15 => ?_)
  · simp only [w32_mod] at h_15
    obtain ⟨z12, n12⟩ := TK_0 yI_12.2.2.2 (by omega)
    refine rV hX (pc := 23) hT (Nat.le_refl 0) (Nat.le_refl 0) dX11_readClause_23 ?_
    exact ⟨kI_12, kJ_12, cI_12, pI_12, zRC_n yI_2.2 yI_7.1 z12 (by omega) (by omega) n12, by omega⟩
  · simp only [w32_mod] at h_15
    have s12 := TK_1 yI_12.2.2.2 (by omega)
    have at7 := pvw_at pI_7 (pvw_tr kI_7 (by decide) (by decide) hc)
    refine ww_aload_n hX (pc := 18) dX11_readClause_18 rfl ?_
    refine ww_iconst hX (pc := 19) (x := 0) dX11_readClause_19 rfl ?_
    refine vV1 hX (pc := 20) sX11_181 (xs_49 hL) (c_URTest9 l0 8 (by decide) hL cI_12 pI_12 (pvw_tr kI_12 (by decide) (by decide) hc) (zRL_tr kI_12 (by decide) (by decide) (by decide) hk)) (by decide) (Nat.le_refl 0) (Nat.le_refl 0) (Nat.le_of_ble_eq_true rfl) dX11_readClause_20 (fun I_20 J_20 h_20 => ?_)
    have kJ_20 : Kp 49 49 Ja J_20 := Kp_tr kJ_12 h_20.2.1
    have kI_20 : Ch [] [16, 17, 18] Ia I_20 := Ch_tr kI_12 (Ch_wd h_20.1 (by decide) (by decide))
    have cI_20 : RX I_20 := h_20.2.2.1
    have qI_20 := RX_w cI_20
    have f15_I_20 : I_20 49 15 = I_12 49 15 := h_20.1.2 15 (by decide)
    have pI_20 : PI I_20 := h_20.2.2.2.1
    have oI_20 := PI_o pI_20
    have yI_20 := h_20.2.2.2.2
    refine rV hX (pc := 23) hT (Nat.le_refl 0) (Nat.le_refl 0) dX11_readClause_23 ?_
    exact ⟨kI_20, kJ_20, cI_20, pI_20, zRC_s yI_2.2 yI_7.1 s12 (by omega) (by omega) (zRL_tr kI_7 (by decide) (by decide) (by decide) hk).1 (PI_lt pI_7 (by have h8 := s12.2.1; omega)) yI_20.1, by omega⟩
set_option maxHeartbeats 4000000 in
set_option maxRecDepth 20000 in
theorem c9_X11_reads (l0 : Launch) {Ia Ja : aI1} {Ra : aR1} {Sa : aS1} (hL : LY Ra Sa) (hQ : RX Ia) {f : Nat → Int} {N : Nat} (hw : WD Ia) (hf : zTB f N (Ia 55)) (hN : Ia 49 10 = N)  : CT l0 34 0 0 mX11_reads [kR (some 49)] Ia Ja Ra Sa (cI (fun x I' J' => Ch [57, 58, 59] [10, 11, 15, 16, 17, 18] Ia I' ∧ Kp 49 49 Ja J' ∧ RX I' ∧ (0 ≤ x ∧ x ≤ 1) ∧ (x = 1 → (0 ≤ I' 49 15 ∧ I' 49 15 ≤ 400) ∧ RG (I' 57) (I' 49 15) ∧ LawG (pvw I') (I' 49 15).toNat) ∧ I' 49 10 = 0 ∧ zRE f N x I' ∧ I' 49 15 = (zTk f N 0).length ∧ (∀ t, t ≤ (zTk f N 0).length → I' 57 t = zCd f (zTk f N 0) t ∧ I' 58 t = zVl f (zTk f N 0) t)) Ra Sa) := by
  refine ct_in pn_X11 (Nat.le_of_ble_eq_true rfl) (fun X hX hT hIn => ?_)
  have hX : aK l0 X cX11_reads 2 RX11 (some .boolean) 34 0 0 := hX
  change WW X 0 [some (kR (some 49)), none] [] Ia Ja Ra Sa 0 0
  have qIa := RX_w hQ
  refine ww_aload_n hX (pc := 0) dX11_reads_0 rfl ?_
  refine ww_aload_n hX (pc := 1) dX11_reads_1 rfl ?_
  refine ww_getI hX (pc := 2) fX11_129 (by decide) (xs_49 hL) dX11_reads_2 ?_
  refine vV1 hX (pc := 5) sX11_203 (xs_49 hL) (c9_X11_splits l0 hL hQ (by omega) (by omega) hw hf hN) (by decide) (Nat.le_refl 0) (Nat.le_refl 0) (Nat.le_of_ble_eq_true rfl) dX11_reads_5 (fun I_5 J_5 h_5 => ?_)
  have kJ_5 : Kp 49 49 Ja J_5 := Kp_tr (Kp_rf (a := 49) (b := 49)) h_5.2.1
  have kI_5 : Ch [57, 58, 59] [10, 11, 15, 16, 17, 18] Ia I_5 := Ch_tr Ch_rf (Ch_wd h_5.1 (by decide) (by decide))
  have cI_5 : RX I_5 := h_5.2.2.1
  have qI_5 := RX_w cI_5
  have f10_I_5 : I_5 49 10 = Ia 49 10 := h_5.1.2 10 (by decide)
  have f16_I_5 : I_5 49 16 = Ia 49 16 := h_5.1.2 16 (by decide)
  have f17_I_5 : I_5 49 17 = Ia 49 17 := h_5.1.2 17 (by decide)
  have f18_I_5 : I_5 49 18 = Ia 49 18 := h_5.1.2 18 (by decide)
  refine ww_aload_n hX (pc := 8) dX11_reads_8 rfl ?_
  refine ww_iconst hX (pc := 9) (x := 0) dX11_reads_9 rfl ?_
  refine ww_putI hX (pc := 10) (fun h9 => absurd h9 (by decide)) gX11_129 rfl (xs_49 hL) dX11_reads_10 ?_
  refine ww_nmH (fun I_10 eI_10 => ?_)
  have kI_10 : Ch [57, 58, 59] [10, 11, 15, 16, 17, 18] Ia I_10 := by rw [eI_10]; exact Ch_f kI_5 (by decide)
  have cI_10 : RX I_10 := by rw [eI_10]; exact RX_10 cI_5 (by omega) (by omega)
  have qI_10 := RX_w cI_10
  have f15_I_10 : I_10 49 15 = I_5 49 15 := by rw [eI_10, up2_n _ _ (Or.inr (by decide))]
  have f16_I_10 : I_10 49 16 = I_5 49 16 := by rw [eI_10, up2_n _ _ (Or.inr (by decide))]
  have f17_I_10 : I_10 49 17 = I_5 49 17 := by rw [eI_10, up2_n _ _ (Or.inr (by decide))]
  have f18_I_10 : I_10 49 18 = I_5 49 18 := by rw [eI_10, up2_n _ _ (Or.inr (by decide))]
  have z10 : I_10 49 10 = 0 := by rw [eI_10, up2_s]
  refine ww_aload_n hX (pc := 13) dX11_reads_13 rfl ?_
  refine ww_iconst hX (pc := 14) (x := 0) dX11_reads_14 rfl ?_
  refine ww_putI hX (pc := 15) (fun h9 => absurd h9 (by decide)) gX11_162 rfl (xs_49 hL) dX11_reads_15 ?_
  refine ww_nmH (fun I_15 eI_15 => ?_)
  have kI_15 : Ch [57, 58, 59] [10, 11, 15, 16, 17, 18] Ia I_15 := by rw [eI_15]; exact Ch_f kI_10 (by decide)
  have cI_15 : RX I_15 := by rw [eI_15]; exact RX_f cI_10 (by decide)
  have qI_15 := RX_w cI_15
  have f10_I_15 : I_15 49 10 = I_10 49 10 := by rw [eI_15, up2_n _ _ (Or.inr (by decide))]
  have f15_I_15 : I_15 49 15 = I_10 49 15 := by rw [eI_15, up2_n _ _ (Or.inr (by decide))]
  have f17_I_15 : I_15 49 17 = I_10 49 17 := by rw [eI_15, up2_n _ _ (Or.inr (by decide))]
  have f18_I_15 : I_15 49 18 = I_10 49 18 := by rw [eI_15, up2_n _ _ (Or.inr (by decide))]
  have w16_15 : I_15 49 16 = 0 := by rw [eI_15, up2_s]
  refine ww_aload_n hX (pc := 18) dX11_reads_18 rfl ?_
  refine ww_iconst hX (pc := 19) (x := 0) dX11_reads_19 rfl ?_
  refine ww_putI hX (pc := 20) (fun h9 => absurd h9 (by decide)) gX11_171 rfl (xs_49 hL) dX11_reads_20 ?_
  refine ww_nmH (fun I_20 eI_20 => ?_)
  have kI_20 : Ch [57, 58, 59] [10, 11, 15, 16, 17, 18] Ia I_20 := by rw [eI_20]; exact Ch_f kI_15 (by decide)
  have cI_20 : RX I_20 := by rw [eI_20]; exact RX_f cI_15 (by decide)
  have qI_20 := RX_w cI_20
  have f10_I_20 : I_20 49 10 = I_15 49 10 := by rw [eI_20, up2_n _ _ (Or.inr (by decide))]
  have f15_I_20 : I_20 49 15 = I_15 49 15 := by rw [eI_20, up2_n _ _ (Or.inr (by decide))]
  have f16_I_20 : I_20 49 16 = I_15 49 16 := by rw [eI_20, up2_n _ _ (Or.inr (by decide))]
  have f18_I_20 : I_20 49 18 = I_15 49 18 := by rw [eI_20, up2_n _ _ (Or.inr (by decide))]
  have w17_20 : I_20 49 17 = 0 := by rw [eI_20, up2_s]
  refine ww_aload_n hX (pc := 23) dX11_reads_23 rfl ?_
  refine ww_iconst hX (pc := 24) (x := (-1)) dX11_reads_24 rfl ?_
  refine ww_putI hX (pc := 25) (fun h9 => absurd h9 (by decide)) gX11_155 rfl (xs_49 hL) dX11_reads_25 ?_
  refine ww_nmH (fun I_25 eI_25 => ?_)
  have kI_25 : Ch [57, 58, 59] [10, 11, 15, 16, 17, 18] Ia I_25 := by rw [eI_25]; exact Ch_f kI_20 (by decide)
  have cI_25 : RX I_25 := by rw [eI_25]; exact RX_f cI_20 (by decide)
  have qI_25 := RX_w cI_25
  have f10_I_25 : I_25 49 10 = I_20 49 10 := by rw [eI_25, up2_n _ _ (Or.inr (by decide))]
  have f15_I_25 : I_25 49 15 = I_20 49 15 := by rw [eI_25, up2_n _ _ (Or.inr (by decide))]
  have f16_I_25 : I_25 49 16 = I_20 49 16 := by rw [eI_25, up2_n _ _ (Or.inr (by decide))]
  have f17_I_25 : I_25 49 17 = I_20 49 17 := by rw [eI_25, up2_n _ _ (Or.inr (by decide))]
  have w18_25 : I_25 49 18 = -1 := by rw [eI_25, up2_s]
  have pI_25 : PI I_25 := PI_mk ⟨h_5.2.2.2.1, h_5.2.2.2.2.1, h_5.2.2.2.2.2.1, h_5.2.2.2.2.2.2.1⟩ (by rw [eI_25, up2_off _ _ _ (by decide), eI_20, up2_off _ _ _ (by decide), eI_15, up2_off _ _ _ (by decide), eI_10, up2_off _ _ _ (by decide)]) (by rw [eI_25, up2_off _ _ _ (by decide), eI_20, up2_off _ _ _ (by decide), eI_15, up2_off _ _ _ (by decide), eI_10, up2_off _ _ _ (by decide)]) (by omega) (by omega) w18_25
  have hL5 := h_5.2.2.2.2.2.2.2.1
  have hA5 := h_5.2.2.2.2.2.2.2.2
  have e57_25 : I_25 57 = I_5 57 := by rw [eI_25, up2_off _ _ _ (by decide), eI_20, up2_off _ _ _ (by decide), eI_15, up2_off _ _ _ (by decide), eI_10, up2_off _ _ _ (by decide)]
  have e58_25 : I_25 58 = I_5 58 := by rw [eI_25, up2_off _ _ _ (by decide), eI_20, up2_off _ _ _ (by decide), eI_15, up2_off _ _ _ (by decide), eI_10, up2_off _ _ _ (by decide)]
  have e59_25 : I_25 59 = I_5 59 := by rw [eI_25, up2_off _ _ _ (by decide), eI_20, up2_off _ _ _ (by decide), eI_15, up2_off _ _ _ (by decide), eI_10, up2_off _ _ _ (by decide)]
  obtain ⟨c, hcd⟩ : ∃ c, c = zCd f (zTk f N 0) := ⟨_, rfl⟩
  obtain ⟨vl, hvd⟩ : ∃ v, v = zVl f (zTk f N 0) := ⟨_, rfl⟩
  obtain ⟨pl, hpd⟩ : ∃ v, v = zPc N (zTk f N 0) := ⟨_, rfl⟩
  obtain ⟨T, hTd⟩ : ∃ v, v = (zTk f N 0).length := ⟨_, rfl⟩
  have hcI_25 : pvw I_25 = c := by rw [hcd]; exact zpvw (by omega) (fun t ht => by rw [e57_25]; exact (hA5 t ht).1)
  have hkI_25 : zRL I_25 vl pl T := ⟨by omega, by omega, fun t ht => by rw [e58_25, e59_25, hvd, hpd]; have h9 := hA5 t (by omega); have h8 := h_5.2.2.2.2.2.1 t (by omega); exact ⟨h9.2.1, h9.2.2, by omega, zVl_r⟩⟩
  have hRd : zTx f N = zLw c vl T 12 0 0 := by rw [hcd, hvd, hTd]; rfl
  have hcT : c T = 0 := by rw [hcd, hTd]; exact zCd_z _ (Nat.le_refl _)
  have oI_25 := PI_o pI_25
  refine ww_aload_n hX (pc := 28) dX11_reads_28 rfl ?_
  refine vV0 hX (pc := 29) sX11_206 (xs_49 hL) (c9_X11_readClause l0 hL cI_25 pI_25 hcI_25 hkI_25) (by decide) (Nat.le_refl 0) (Nat.le_refl 0) (Nat.le_of_ble_eq_true rfl) dX11_reads_29 (fun I_29 J_29 h_29 => ?_)
  have kJ_29 : Kp 49 49 Ja J_29 := Kp_tr kJ_5 h_29.2.1
  have kI_29 : Ch [57, 58, 59] [10, 11, 15, 16, 17, 18] Ia I_29 := Ch_tr kI_25 (Ch_wd h_29.1 (by decide) (by decide))
  have cI_29 : RX I_29 := h_29.2.2.1
  have qI_29 := RX_w cI_29
  have f10_I_29 : I_29 49 10 = I_25 49 10 := h_29.1.2 10 (by decide)
  have f15_I_29 : I_29 49 15 = I_25 49 15 := h_29.1.2 15 (by decide)
  have pI_29 : PI I_29 := h_29.2.2.2.1
  have oI_29 := PI_o pI_29
  have yI_29 := h_29.2.2.2.2
  have hcI_29 := pvw_tr h_29.1 (by decide) (by decide) hcI_25
  have hkI_29 := zRL_tr h_29.1 (by decide) (by decide) (by decide) hkI_25
  refine ww_iconst hX (pc := 32) (x := 1) dX11_reads_32 rfl ?_
  refine ww_istore_n hX (pc := 33) (lv' := [some (kR (some 49)), some (kI 1)]) dX11_reads_33 (by decide) rfl rfl ?_
  have hl_34 : ∀ (n_34 : Nat) (n : Int) (I34 : aI1) (J34 : aI1), (I34 49 15 - I34 49 16).toNat = n_34 → (Ch [57, 58, 59] [10, 11, 15, 16, 17, 18] Ia I34 ∧ RX I34 ∧ Kp 49 49 Ja J34 ∧ I34 49 10 = I_29 49 10 ∧ I34 49 15 = I_29 49 15 ∧ PI I34 ∧ (1 ≤ n ∧ n ≤ 13) ∧ pvw I34 = c ∧ zRL I34 vl pl T ∧ zLG c vl pl T (zLw c vl T 12 0 0) n I34) → WW X 34 [some (kR (some 49)), some (kI n)] [] I34 J34 Ra Sa 0 0 := by
    intro n_34
    induction n_34 using Nat.strongRecOn with
    | ind n_34 ih_34 =>
      intro n I34 J34 hm_34 hv_34
      have hq_34 := Sh0_i hm_34
      clear hm_34
      obtain ⟨kI34, cI34, kJ34, f10_I34, f15_I34, pI34, hn13, hcI34, hkI34, hlg⟩ := hv_34
      have qI34 := RX_w cI34
      have oI34 := PI_o pI34
      have tI34 := PI_t pI34
      refine ww_aload_n hX (pc := 34) dX11_reads_34 rfl ?_
      refine ww_bipush hX (pc := 35) (x := 59) dX11_reads_35 (by decide) ?_
      refine sI1 hX (pc := 37) sX11_190 (c_X11_sign l0 ) (by decide) (Nat.le_refl 0) (Nat.le_refl 0) (Nat.le_of_ble_eq_true rfl) dX11_reads_37 (fun x_37 I_37 J_37 h_37 => ?_)
      obtain ⟨rfl, rfl, h_37⟩ := h_37
      refine vI1 hX (pc := 40) sX11_165 (xs_49 hL) (c9_X11_takes0 l0 hL cI34 pI34 hcI34 (by omega) (by omega)) (by decide) (Nat.le_refl 0) (Nat.le_refl 0) (Nat.le_of_ble_eq_true rfl) dX11_reads_40 (fun x_40 I_40 J_40 h_40 => ?_)
      have kJ_40 : Kp 49 49 Ja J_40 := Kp_tr kJ34 h_40.2.1
      have kI_40 : Ch [57, 58, 59] [10, 11, 15, 16, 17, 18] Ia I_40 := Ch_tr kI34 (Ch_wd h_40.1 (by decide) (by decide))
      have cI_40 : RX I_40 := h_40.2.2.1
      have qI_40 := RX_w cI_40
      have f10_I_40 : I_40 49 10 = I34 49 10 := h_40.1.2 10 (by decide)
      have f15_I_40 : I_40 49 15 = I34 49 15 := h_40.1.2 15 (by decide)
      have f17_I_40 : I_40 49 17 = I34 49 17 := h_40.1.2 17 (by decide)
      have f18_I_40 : I_40 49 18 = I34 49 18 := h_40.1.2 18 (by decide)
      have pI_40 : PI I_40 := h_40.2.2.2.1
      have oI_40 := PI_o pI_40
      have yI_40 := h_40.2.2.2.2
      have hcI_40 := pvw_tr h_40.1 (by decide) (by decide) hcI34
      have hkI_40 := zRL_tr h_40.1 (by decide) (by decide) (by decide) hkI34
      refine ww_if_eq hX (pc := 43) (tgt := 73) dX11_reads_43 (by decide) (fun h_43 => ?_) (fun h_43 => ?_)
      · simp only [w32_mod] at h_43
        obtain ⟨z40, n41⟩ := TK_0 yI_40.2.2.2 (by omega)
        have n40 : NOP c 159 I34 := fun g9 => by have h8 := n41 g9; omega
        refine ww_aload_n hX (pc := 73) dX11_reads_73 rfl ?_
        refine vI0 hX (pc := 74) sX11_158 (xs_49 hL) (c_X11_fine l0 hL cI_40  pI_40) (by decide) (Nat.le_refl 0) (Nat.le_refl 0) (Nat.le_of_ble_eq_true rfl) dX11_reads_74 (fun x_74 I_74 J_74 h_74 => ?_)
        obtain ⟨rfl, rfl, h_74⟩ := h_74
        refine ww_if_eq hX (pc := 77) (tgt := 95) dX11_reads_77 (by decide) (fun h_77 => ?_) (fun h_77 => ?_)
        · simp only [w32_mod] at h_77
          have nb74 := FN_0 h_74.2 (by omega)
          refine ww_aload_n hX (pc := 95) dX11_reads_95 rfl ?_
          refine ww_aload_n hX (pc := 96) dX11_reads_96 rfl ?_
          refine ww_getI hX (pc := 97) fX11_155 (by decide) (xs_49 hL) dX11_reads_97 ?_
          refine ww_putI hX (pc := 100) (fun h9 => absurd h9 (by decide)) gX11_40 rfl (xs_49 hL) dX11_reads_100 ?_
          refine ww_nmH (fun I_100 eI_100 => ?_)
          have kI_100 : Ch [57, 58, 59] [10, 11, 15, 16, 17, 18] Ia I_100 := by rw [eI_100]; exact Ch_f kI_40 (by decide)
          have cI_100 : RX I_100 := by rw [eI_100]; exact RX_f cI_40 (by decide)
          have qI_100 := RX_w cI_100
          have f10_I_100 : I_100 49 10 = I_40 49 10 := by rw [eI_100, up2_n _ _ (Or.inr (by decide))]
          have f15_I_100 : I_100 49 15 = I_40 49 15 := by rw [eI_100, up2_n _ _ (Or.inr (by decide))]
          have f16_I_100 : I_100 49 16 = I_40 49 16 := by rw [eI_100, up2_n _ _ (Or.inr (by decide))]
          have f17_I_100 : I_100 49 17 = I_40 49 17 := by rw [eI_100, up2_n _ _ (Or.inr (by decide))]
          have f18_I_100 : I_100 49 18 = I_40 49 18 := by rw [eI_100, up2_n _ _ (Or.inr (by decide))]
          have w11 : I_100 49 11 = I_40 49 18 := by rw [eI_100, up2_s]
          have e57 : I_100 57 = I_40 57 := by rw [eI_100, up2_off _ _ _ (by decide)]
          have epv : pvw I_100 = c := by
            rw [← hcI_40]
            funext i
            unfold pvw
            rw [e57, f15_I_100]
          have epc : pvw I_100 = zCd f (zTk f N 0) := epv.trans hcd
          have z0_100 : I_100 57 (I_100 49 15).toNat = 0 := by rw [e57, f15_I_100]; exact pI_40.2.2.2.2.2
          have z10_100 : I_100 49 10 = 0 := by omega
          have pI_100 : PI I_100 := by rw [eI_100]; exact PI_g pI_40 (by decide)
          have oI_100 := PI_o pI_100
          have hkI_100 : zRL I_100 vl pl T := zRL_tr (rs := []) (fs := [11]) (by rw [eI_100]; exact Ch_f Ch_rf (by decide)) (by decide) (by decide) (by decide) hkI_40
          refine ww_aload_n hX (pc := 103) dX11_reads_103 rfl ?_
          refine vI0 hX (pc := 104) sX11_158 (xs_49 hL) (c_X11_fine l0 hL cI_100  pI_100) (by decide) (Nat.le_refl 0) (Nat.le_refl 0) (Nat.le_of_ble_eq_true rfl) dX11_reads_104 (fun x_104 I_104 J_104 h_104 => ?_)
          obtain ⟨rfl, rfl, h_104⟩ := h_104
          refine rZ hX (pc := 107) hT (Nat.le_refl 0) (Nat.le_refl 0) dX11_reads_107 (by omega) ?_
          exact ⟨kI_100, kJ_40, cI_100, (by omega), (fun h1 => absurd (show I_40 49 18 = -1 by have b9 := FN_1 h_104.2 h1; omega) nb74), z10_100, (by
              obtain ⟨fp, g1, g2⟩ := zLG_e1 hlg (fun g9 => nb74 (by omega))
              exact zRE_0 (hRd.trans g1) (by have b9 : x_104 = 0 ∨ x_104 = 1 := by omega
                                             rcases b9 with b9 | b9
                                             · exact b9
                                             · exact absurd (show I_40 49 18 = -1 by have b8 := FN_1 h_104.2 b9; omega) nb74) (by rw [← hpd]; omega)), (by omega), (fun t ht => ⟨by rw [← epc, zpv_at (show I_100 49 15 = (zTk f N 0).length by omega) ht z0_100], (hkI_100.2.2 t (by omega)).1.trans (by rw [hvd])⟩)⟩
        · simp only [w32_mod] at h_77
          have bb74 := FN_1 h_74.2 (by omega)
          refine ww_aload_n hX (pc := 80) dX11_reads_80 rfl ?_
          refine ww_getI hX (pc := 81) fX11_162 (by decide) (xs_49 hL) dX11_reads_81 ?_
          refine ww_aload_n hX (pc := 84) dX11_reads_84 rfl ?_
          refine ww_getI hX (pc := 85) fX11_142 (by decide) (xs_49 hL) dX11_reads_85 ?_
          refine ww_icmp_ge hX (pc := 88) (tgt := 95) dX11_reads_88 (by decide) (fun h_88 => ?_) (fun h_88 => ?_)
          · simp only [w32_mod] at h_88
            refine ww_aload_n hX (pc := 95) dX11_reads_95 rfl ?_
            refine ww_aload_n hX (pc := 96) dX11_reads_96 rfl ?_
            refine ww_getI hX (pc := 97) fX11_155 (by decide) (xs_49 hL) dX11_reads_97 ?_
            refine ww_putI hX (pc := 100) (fun h9 => absurd h9 (by decide)) gX11_40 rfl (xs_49 hL) dX11_reads_100 ?_
            refine ww_nmH (fun I_100 eI_100 => ?_)
            have kI_100 : Ch [57, 58, 59] [10, 11, 15, 16, 17, 18] Ia I_100 := by rw [eI_100]; exact Ch_f kI_40 (by decide)
            have cI_100 : RX I_100 := by rw [eI_100]; exact RX_f cI_40 (by decide)
            have qI_100 := RX_w cI_100
            have f10_I_100 : I_100 49 10 = I_40 49 10 := by rw [eI_100, up2_n _ _ (Or.inr (by decide))]
            have f15_I_100 : I_100 49 15 = I_40 49 15 := by rw [eI_100, up2_n _ _ (Or.inr (by decide))]
            have f16_I_100 : I_100 49 16 = I_40 49 16 := by rw [eI_100, up2_n _ _ (Or.inr (by decide))]
            have f17_I_100 : I_100 49 17 = I_40 49 17 := by rw [eI_100, up2_n _ _ (Or.inr (by decide))]
            have f18_I_100 : I_100 49 18 = I_40 49 18 := by rw [eI_100, up2_n _ _ (Or.inr (by decide))]
            have w11 : I_100 49 11 = I_40 49 18 := by rw [eI_100, up2_s]
            have e57 : I_100 57 = I_40 57 := by rw [eI_100, up2_off _ _ _ (by decide)]
            have epv : pvw I_100 = c := by
              rw [← hcI_40]
              funext i
              unfold pvw
              rw [e57, f15_I_100]
            have epc : pvw I_100 = zCd f (zTk f N 0) := epv.trans hcd
            have z0_100 : I_100 57 (I_100 49 15).toNat = 0 := by rw [e57, f15_I_100]; exact pI_40.2.2.2.2.2
            have z10_100 : I_100 49 10 = 0 := by omega
            have pI_100 : PI I_100 := by rw [eI_100]; exact PI_g pI_40 (by decide)
            have oI_100 := PI_o pI_100
            have hkI_100 : zRL I_100 vl pl T := zRL_tr (rs := []) (fs := [11]) (by rw [eI_100]; exact Ch_f Ch_rf (by decide)) (by decide) (by decide) (by decide) hkI_40
            refine ww_aload_n hX (pc := 103) dX11_reads_103 rfl ?_
            refine vI0 hX (pc := 104) sX11_158 (xs_49 hL) (c_X11_fine l0 hL cI_100  pI_100) (by decide) (Nat.le_refl 0) (Nat.le_refl 0) (Nat.le_of_ble_eq_true rfl) dX11_reads_104 (fun x_104 I_104 J_104 h_104 => ?_)
            obtain ⟨rfl, rfl, h_104⟩ := h_104
            refine rZ hX (pc := 107) hT (Nat.le_refl 0) (Nat.le_refl 0) dX11_reads_107 (by omega) ?_
            exact ⟨kI_100, kJ_40, cI_100, (by omega), (fun h1 => by
                obtain ⟨qs, g1⟩ := zLG_e3 hlg (by omega) z40 (by omega)
                have g2 := zTx_G (f := f) (N := N) (by omega) (hRd.trans g1)
                exact ⟨⟨by omega, by omega⟩, (fun j hj => pI_100.2.2.2.1 j (by omega)), (by rw [epv, hcd, show (I_100 49 15).toNat = (zTk f N 0).length by omega]; exact g2)⟩), z10_100, (by
                obtain ⟨qs, g1⟩ := zLG_e3 hlg (by omega) z40 (by omega)
                have b9 : x_104 = 1 := by
                  rcases (show x_104 = 0 ∨ x_104 = 1 by omega) with b9 | b9
                  · exact absurd (show I_100 49 18 = -1 by omega) (FN_0 h_104.2 b9)
                  · exact b9
                exact zRE_1 (hRd.trans g1) b9 (by omega)), (by omega), (fun t ht => ⟨by rw [← epc, zpv_at (show I_100 49 15 = (zTk f N 0).length by omega) ht z0_100], (hkI_100.2.2 t (by omega)).1.trans (by rw [hvd])⟩)⟩
          · simp only [w32_mod] at h_88
            refine ww_aload_n hX (pc := 91) dX11_reads_91 rfl ?_
            refine vV0 hX (pc := 92) sX11_168 (xs_49 hL) (c9_X11_faults l0 hL cI_40 pI_40 hkI_40) (by decide) (Nat.le_refl 0) (Nat.le_refl 0) (Nat.le_of_ble_eq_true rfl) dX11_reads_92 (fun I_92 J_92 h_92 => ?_)
            have kJ_92 : Kp 49 49 Ja J_92 := Kp_tr kJ_40 h_92.2.1
            have kI_92 : Ch [57, 58, 59] [10, 11, 15, 16, 17, 18] Ia I_92 := Ch_tr kI_40 (Ch_wd h_92.1 (by decide) (by decide))
            have cI_92 : RX I_92 := h_92.2.2.1
            have qI_92 := RX_w cI_92
            have f10_I_92 : I_92 49 10 = I_40 49 10 := h_92.1.2 10 (by decide)
            have f15_I_92 : I_92 49 15 = I_40 49 15 := h_92.1.2 15 (by decide)
            have f16_I_92 : I_92 49 16 = I_40 49 16 := h_92.1.2 16 (by decide)
            have f17_I_92 : I_92 49 17 = I_40 49 17 := h_92.1.2 17 (by decide)
            have pI_92 : PI I_92 := h_92.2.2.2.1
            have oI_92 := PI_o pI_92
            have yI_92 := h_92.2.2.2.2
            have hcI_92 := pvw_tr h_92.1 (by decide) (by decide) hcI_40
            have hkI_92 := zRL_tr h_92.1 (by decide) (by decide) (by decide) hkI_40
            refine ww_aload_n hX (pc := 95) dX11_reads_95 rfl ?_
            refine ww_aload_n hX (pc := 96) dX11_reads_96 rfl ?_
            refine ww_getI hX (pc := 97) fX11_155 (by decide) (xs_49 hL) dX11_reads_97 ?_
            refine ww_putI hX (pc := 100) (fun h9 => absurd h9 (by decide)) gX11_40 rfl (xs_49 hL) dX11_reads_100 ?_
            refine ww_nmH (fun I_100 eI_100 => ?_)
            have kI_100 : Ch [57, 58, 59] [10, 11, 15, 16, 17, 18] Ia I_100 := by rw [eI_100]; exact Ch_f kI_92 (by decide)
            have cI_100 : RX I_100 := by rw [eI_100]; exact RX_f cI_92 (by decide)
            have qI_100 := RX_w cI_100
            have f10_I_100 : I_100 49 10 = I_92 49 10 := by rw [eI_100, up2_n _ _ (Or.inr (by decide))]
            have f15_I_100 : I_100 49 15 = I_92 49 15 := by rw [eI_100, up2_n _ _ (Or.inr (by decide))]
            have f16_I_100 : I_100 49 16 = I_92 49 16 := by rw [eI_100, up2_n _ _ (Or.inr (by decide))]
            have f17_I_100 : I_100 49 17 = I_92 49 17 := by rw [eI_100, up2_n _ _ (Or.inr (by decide))]
            have f18_I_100 : I_100 49 18 = I_92 49 18 := by rw [eI_100, up2_n _ _ (Or.inr (by decide))]
            have w11 : I_100 49 11 = I_92 49 18 := by rw [eI_100, up2_s]
            have e57 : I_100 57 = I_92 57 := by rw [eI_100, up2_off _ _ _ (by decide)]
            have epv : pvw I_100 = c := by
              rw [← hcI_92]
              funext i
              unfold pvw
              rw [e57, f15_I_100]
            have epc : pvw I_100 = zCd f (zTk f N 0) := epv.trans hcd
            have z0_100 : I_100 57 (I_100 49 15).toNat = 0 := by rw [e57, f15_I_100]; exact pI_92.2.2.2.2.2
            have z10_100 : I_100 49 10 = 0 := by omega
            have pI_100 : PI I_100 := by rw [eI_100]; exact PI_g pI_92 (by decide)
            have oI_100 := PI_o pI_100
            have hkI_100 : zRL I_100 vl pl T := zRL_tr (rs := []) (fs := [11]) (by rw [eI_100]; exact Ch_f Ch_rf (by decide)) (by decide) (by decide) (by decide) hkI_92
            refine ww_aload_n hX (pc := 103) dX11_reads_103 rfl ?_
            refine vI0 hX (pc := 104) sX11_158 (xs_49 hL) (c_X11_fine l0 hL cI_100  pI_100) (by decide) (Nat.le_refl 0) (Nat.le_refl 0) (Nat.le_of_ble_eq_true rfl) dX11_reads_104 (fun x_104 I_104 J_104 h_104 => ?_)
            obtain ⟨rfl, rfl, h_104⟩ := h_104
            refine rZ hX (pc := 107) hT (Nat.le_refl 0) (Nat.le_refl 0) dX11_reads_107 (by omega) ?_
            exact ⟨kI_100, kJ_92, cI_100, (by omega), (fun h1 => by
                exfalso
                have b9 := FN_1 h_104.2 h1
                obtain ⟨fp, g1, g2⟩ := zLG_e2 hlg (by omega) z40 (by omega) n40 (by omega) yI_92.2.2
                have h8 := yI_92.2.2.2 (by omega)
                have h6 := (zRL_p hkI_40 pI_40).2.2.1
                omega), z10_100, (by
                obtain ⟨fp, g1, g2⟩ := zLG_e2 hlg (by omega) z40 (by omega) n40 (by omega) yI_92.2.2
                have h8 := yI_92.2.2.2 (by omega)
                have h6 := (zRL_p hkI_40 pI_40).2.2.1
                have b9 : x_104 = 0 := by
                  rcases (show x_104 = 0 ∨ x_104 = 1 by omega) with b9 | b9
                  · exact b9
                  · exfalso
                    have b8 := FN_1 h_104.2 b9
                    omega
                exact zRE_0 (hRd.trans g1) b9 (by rw [← hpd]; omega)), (by omega), (fun t ht => ⟨by rw [← epc, zpv_at (show I_100 49 15 = (zTk f N 0).length by omega) ht z0_100], (hkI_100.2.2 t (by omega)).1.trans (by rw [hvd])⟩)⟩
      · simp only [w32_mod] at h_43
        have s41 := TK_1 yI_40.2.2.2 (by omega)
        have s40 : I34 49 18 = -1 ∧ c (I34 49 16).toNat = 159 ∧ I_40 49 16 = I34 49 16 + 1 := ⟨s41.1, by have h8 := s41.2.1; omega, s41.2.2⟩
        have hn12 : n ≤ 12 := by
          obtain ⟨_, _, _, _, h9, _⟩ := zLG_at hlg s40.1
          omega
        refine ww_iload_n hX (pc := 46) dX11_reads_46 rfl ?_
        refine ww_bipush hX (pc := 47) (x := 12) dX11_reads_47 (by decide) ?_
        refine ww_icmp_ne hX (pc := 49) (tgt := 56) dX11_reads_49 (by decide) (fun h_49 => ?_) (fun h_49 => ?_)
        · simp only [w32_mod] at h_49
          refine ww_aload_n hX (pc := 56) dX11_reads_56 rfl ?_
          refine vI0 hX (pc := 57) sX11_158 (xs_49 hL) (c_X11_fine l0 hL cI_40  pI_40) (by decide) (Nat.le_refl 0) (Nat.le_refl 0) (Nat.le_of_ble_eq_true rfl) dX11_reads_57 (fun x_57 I_57 J_57 h_57 => ?_)
          obtain ⟨rfl, rfl, h_57⟩ := h_57
          refine ww_if_eq hX (pc := 60) (tgt := 67) dX11_reads_60 (by decide) (fun h_60 => ?_) (fun h_60 => ?_)
          · simp only [w32_mod] at h_60
            have nb57 := FN_0 h_57.2 (by omega)
            exact absurd (show I_40 49 18 = -1 by have h8 := s40.1; omega) nb57
          · simp only [w32_mod] at h_60
            have bb57 := FN_1 h_57.2 (by omega)
            refine ww_aload_n hX (pc := 63) dX11_reads_63 rfl ?_
            refine vV0 hX (pc := 64) sX11_206 (xs_49 hL) (c9_X11_readClause l0 hL cI_40 pI_40 hcI_40 hkI_40) (by decide) (Nat.le_refl 0) (Nat.le_refl 0) (Nat.le_of_ble_eq_true rfl) dX11_reads_64 (fun I_64 J_64 h_64 => ?_)
            have kJ_64 : Kp 49 49 Ja J_64 := Kp_tr kJ_40 h_64.2.1
            have kI_64 : Ch [57, 58, 59] [10, 11, 15, 16, 17, 18] Ia I_64 := Ch_tr kI_40 (Ch_wd h_64.1 (by decide) (by decide))
            have cI_64 : RX I_64 := h_64.2.2.1
            have qI_64 := RX_w cI_64
            have f10_I_64 : I_64 49 10 = I_40 49 10 := h_64.1.2 10 (by decide)
            have f15_I_64 : I_64 49 15 = I_40 49 15 := h_64.1.2 15 (by decide)
            have pI_64 : PI I_64 := h_64.2.2.2.1
            have oI_64 := PI_o pI_64
            have yI_64 := h_64.2.2.2.2
            have hcI_64 := pvw_tr h_64.1 (by decide) (by decide) hcI_40
            have hkI_64 := zRL_tr h_64.1 (by decide) (by decide) (by decide) hkI_40
            refine ww_iinc hX (pc := 67) (lv' := [some (kR (some 49)), some (kI (n + 1))]) dX11_reads_67 rfl (by decide) rfl rfl ?_
            refine ww_goto hX (pc := 70) (tgt := 34) dX11_reads_70 (by decide) ?_
            exact ih_34 _ (by have hm9 := Sh0_e hq_34; omega) (n + 1) I_64 J_64 rfl ⟨kI_64, cI_64, kJ_64, by omega, by omega, pI_64, by omega, hcI_64, hkI_64, zLG_s hlg s40 f17_I_40 (by omega) hcT (by omega) yI_64.1⟩
        · simp only [w32_mod] at h_49
          refine ww_aload_n hX (pc := 52) dX11_reads_52 rfl ?_
          refine vV0 hX (pc := 53) sX11_168 (xs_49 hL) (c9_X11_faults l0 hL cI_40 pI_40 hkI_40) (by decide) (Nat.le_refl 0) (Nat.le_refl 0) (Nat.le_of_ble_eq_true rfl) dX11_reads_53 (fun I_53 J_53 h_53 => ?_)
          have kJ_53 : Kp 49 49 Ja J_53 := Kp_tr kJ_40 h_53.2.1
          have kI_53 : Ch [57, 58, 59] [10, 11, 15, 16, 17, 18] Ia I_53 := Ch_tr kI_40 (Ch_wd h_53.1 (by decide) (by decide))
          have cI_53 : RX I_53 := h_53.2.2.1
          have qI_53 := RX_w cI_53
          have f10_I_53 : I_53 49 10 = I_40 49 10 := h_53.1.2 10 (by decide)
          have f15_I_53 : I_53 49 15 = I_40 49 15 := h_53.1.2 15 (by decide)
          have f16_I_53 : I_53 49 16 = I_40 49 16 := h_53.1.2 16 (by decide)
          have f17_I_53 : I_53 49 17 = I_40 49 17 := h_53.1.2 17 (by decide)
          have pI_53 : PI I_53 := h_53.2.2.2.1
          have oI_53 := PI_o pI_53
          have yI_53 := h_53.2.2.2.2
          have hcI_53 := pvw_tr h_53.1 (by decide) (by decide) hcI_40
          have hkI_53 := zRL_tr h_53.1 (by decide) (by decide) (by decide) hkI_40
          refine ww_aload_n hX (pc := 56) dX11_reads_56 rfl ?_
          refine vI0 hX (pc := 57) sX11_158 (xs_49 hL) (c_X11_fine l0 hL cI_53  pI_53) (by decide) (Nat.le_refl 0) (Nat.le_refl 0) (Nat.le_of_ble_eq_true rfl) dX11_reads_57 (fun x_57 I_57 J_57 h_57 => ?_)
          obtain ⟨rfl, rfl, h_57⟩ := h_57
          refine ww_if_eq hX (pc := 60) (tgt := 67) dX11_reads_60 (by decide) (fun h_60 => ?_) (fun h_60 => ?_)
          · simp only [w32_mod] at h_60
            have nb57 := FN_0 h_57.2 (by omega)
            refine ww_iinc hX (pc := 67) (lv' := [some (kR (some 49)), some (kI (n + 1))]) dX11_reads_67 rfl (by decide) rfl rfl ?_
            refine ww_goto hX (pc := 70) (tgt := 34) dX11_reads_70 (by decide) ?_
            exact ih_34 _ (by have hm9 := Sh0_e hq_34; omega) (n + 1) I_53 J_53 rfl ⟨kI_53, cI_53, kJ_53, by omega, by omega, pI_53, by omega, hcI_53, hkI_53, zLG_f hlg s40 (by omega) hcT (by omega) yI_53.2.2 (zRL_pp hkI_40)⟩
          · simp only [w32_mod] at h_60
            have bb57 := FN_1 h_57.2 (by omega)
            exfalso
            have h8 := yI_53.2.2.2 (by have h7 := s40.1; omega)
            have h6 := (zRL_p hkI_40 pI_40).2.2.1
            omega
  exact hl_34 _ 1 I_29 J_29 rfl ⟨kI_29, cI_29, kJ_29, rfl, rfl, pI_29, by omega, hcI_29, hkI_29, zLG_0 yI_29.1 ⟨by omega, by omega, Nat.zero_le _, by omega, by omega⟩⟩
theorem n9_X11_reads (l0 : Launch) {Ia Ja : aI1} {Ra : aR1} {Sa : aS1} (hL : LY Ra Sa) (hQ : RX Ia) {f : Nat → Int} {N : Nat} (hw : WD Ia) (hf : zTB f N (Ia 55)) (hN : Ia 49 10 = N) : CT l0 34 0 0 mX11_reads [kR (some 49)] Ia Ja Ra Sa (cI (fun x I' J' => (Ch [57, 58, 59] [10, 11, 15, 16, 17, 18] Ia I' ∧ Kp 49 73 Ja J' ∧ RX I' ∧ (0 ≤ x ∧ x ≤ 1) ∧ (x = 1 → (0 ≤ I' 49 15 ∧ I' 49 15 ≤ 400) ∧ RG (I' 57) (I' 49 15) ∧ LawG (pvw I') (I' 49 15).toNat) ∧ I' 49 10 = 0 ∧ zRE f N x I' ∧ I' 49 15 = (zTk f N 0).length ∧ (∀ t, t ≤ (zTk f N 0).length → I' 57 t = zCd f (zTk f N 0) t ∧ I' 58 t = zVl f (zTk f N 0) t)) ∧ J' = Ja) Ra Sa) :=
  CT_wI (c9_X11_reads l0 hL hQ hw hf hN) (fun x I' J' h => ⟨⟨h.1, fun k _ => h.2.1 k (by omega), h.2.2⟩, funext (fun k => h.2.1 k (by omega))⟩)
set_option maxHeartbeats 4000000 in
set_option maxRecDepth 20000 in
theorem c9_X11_law (l0 : Launch) {Ia Ja : aI1} {Ra : aR1} {Sa : aS1} (hL : LY Ra Sa) (hQ : RX Ia) {f : Nat → Int} {N : Nat} (hw : WD Ia) (hf : zTB f N (Ia 55)) (hN : Ia 49 10 = N)  : CT l0 36 0 0 mX11_law [kR (some 49)] Ia Ja Ra Sa (cI (fun x I' J' => (Ch [50, 51, 57, 58, 59] [0, 1, 10, 11, 15, 16, 17, 18] Ia I' ∧ Kp 49 73 Ja J' ∧ RX I' ∧ I' 49 10 = 0 ∧ (Ia 51 310 = 6 → x = -5 ∧ I' 51 = Ia 51 ∧ I' 49 11 = Ia 49 11) ∧ (¬ Ia 51 310 = 6 → zRW f N x Ia I')) ∧ RGQ9 x Ia I' Ja J') Ra Sa) := by
  refine ct_in pn_X11 (Nat.le_of_ble_eq_true rfl) (fun X hX hT hIn => ?_)
  have hX : aK l0 X cX11_law 3 RX11 (some .int) 36 0 0 := hX
  change WW X 0 [some (kR (some 49)), none, none] [] Ia Ja Ra Sa 0 0
  have qIa := RX_l hQ
  refine ww_aload_n hX (pc := 0) dX11_law_0 rfl ?_
  refine ww_getR hX (pc := 1) fX11_20 (by decide) (xs_49 hL) (xr_49_3 hL) dX11_law_1 ?_
  refine ww_sipush hX (pc := 4) (x := 310) dX11_law_4 (by decide) ?_
  refine ww_iald hX (pc := 7) (xs_51 hL) (by decide) (by omega) (by omega) dX11_law_7 ?_
  refine ww_toI (b := Ia 51 310) rfl ?_
  refine ww_bipush hX (pc := 8) (x := 6) dX11_law_8 (by decide) ?_
  refine ww_icmp_ne hX (pc := 10) (tgt := 25) dX11_law_10 (by decide) (fun h_10 => ?_) (fun h_10 => ?_)
  · simp only [w32_mod] at h_10
    refine ww_aload_n hX (pc := 25) dX11_law_25 rfl ?_
    refine vI0 hX (pc := 26) sX11_209 (xs_49 hL) (n9_X11_reads l0 hL hQ  hw hf hN) (by decide) (Nat.le_refl 0) (Nat.le_refl 0) (Nat.le_of_ble_eq_true rfl) dX11_law_26 (fun x_26 I_26 J_26 h_26 => ?_)
    obtain ⟨h_26, qxI_26⟩ := h_26
    have kJ_26 : Kp 49 73 Ja J_26 := Kp_tr (Kp_rf (a := 49) (b := 73)) h_26.2.1
    have kI_26 : Ch [50, 51, 57, 58, 59] [0, 1, 10, 11, 15, 16, 17, 18] Ia I_26 := Ch_tr Ch_rf (Ch_wd h_26.1 (by decide) (by decide))
    have cI_26 : RX I_26 := h_26.2.2.1
    have qI_26 := RX_l cI_26
    have r310_I_26 : I_26 51 310 = Ia 51 310 := by rw [h_26.1.1 51 (by decide) (by decide)]
    have z26 := h_26.2.2.2.2.2.1
    have o_I_26 : ∀ j : Nat, ((j : Int) ≠ 310 ∧ (j : Int) ≠ 311 + Ia 51 310 ∧ ¬ (317 + 400 * Ia 51 310 ≤ j ∧ (j : Int) < 717 + 400 * Ia 51 310) ∧ ¬ (2717 + 400 * Ia 51 310 ≤ j ∧ (j : Int) < 3117 + 400 * Ia 51 310)) → I_26 51 j = Ia 51 j := fun j h1 => (congrFun (h_26.1.1 51 (by decide) (by decide)) j).trans ((fun _ _ => rfl) j h1)
    have bkI_26 : BK9 Ia I_26 := BK9_ch BK9_rf h_26.1 (by decide) (by decide)
    have tkI_26 : TK9 Ia I_26 Ja J_26 := TK9_jc TK9_rf h_26.1 (by decide) (by decide) qxI_26
    refine ww_if_ne hX (pc := 29) (tgt := 39) dX11_law_29 (by decide) (fun h_29 => ?_) (fun h_29 => ?_)
    · simp only [w32_mod] at h_29
      have hrd := h_26.2.2.2.2.1 (by omega)
      have hl26 := hrd.2.2
      have hr26 := hrd.2.1
      refine ww_aload_n hX (pc := 39) dX11_law_39 rfl ?_
      refine ww_getR hX (pc := 40) fX11_20 (by decide) (xs_49 hL) (xr_49_3 hL) dX11_law_40 ?_
      refine ww_sipush hX (pc := 43) (x := 310) dX11_law_43 (by decide) ?_
      refine ww_iald hX (pc := 46) (xs_51 hL) (by decide) (by omega) (by omega) dX11_law_46 ?_
      refine ww_toI (b := I_26 51 310) rfl ?_
      refine ww_nmI (fun v_47 hv_47 => ?_)
      refine ww_istore_n hX (pc := 47) (lv' := [some (kR (some 49)), some (kI v_47), none]) dX11_law_47 (by decide) rfl rfl ?_
      refine ww_aload_n hX (pc := 48) dX11_law_48 rfl ?_
      refine ww_getR hX (pc := 49) fX11_20 (by decide) (xs_49 hL) (xr_49_3 hL) dX11_law_49 ?_
      refine ww_sipush hX (pc := 52) (x := 311) dX11_law_52 (by decide) ?_
      refine ww_iload_n hX (pc := 55) dX11_law_55 rfl ?_
      refine ww_iadd hX (pc := 56) dX11_law_56 ?_
      refine ww_aload_n hX (pc := 57) dX11_law_57 rfl ?_
      refine ww_getI hX (pc := 58) fX11_142 (by decide) (xs_49 hL) dX11_law_58 ?_
      refine ww_iast hX (pc := 61) (xs_51 hL) (by decide) (by omega) (by omega) dX11_law_61 ?_
      refine ww_nmH (fun I_61 eI_61 => ?_)
      have kI_61 : Ch [50, 51, 57, 58, 59] [0, 1, 10, 11, 15, 16, 17, 18] Ia I_61 := by rw [eI_61]; exact Ch_r kI_26 (by decide) (by decide)
      have cI_61 : RX I_61 := by rw [eI_61]; exact RX_up cI_26 (by omega)
      have qI_61 := RX_l cI_61
      have r310_I_61 : I_61 51 310 = I_26 51 310 := by rw [eI_61, up2_n _ _ (Or.inr (by omega))]
      have f10_I_61 : I_61 49 10 = I_26 49 10 := by rw [eI_61, up2_off _ _ _ (by decide)]
      have f11_I_61 : I_61 49 11 = I_26 49 11 := by rw [eI_61, up2_off _ _ _ (by decide)]
      have f15_I_61 : I_61 49 15 = I_26 49 15 := by rw [eI_61, up2_off _ _ _ (by decide)]
      have s61 : I_61 51 (311 + v_47.toNat) = I_26 49 15 := by rw [eI_61, show (311 + v_47).toNat = 311 + v_47.toNat by omega, up2_s]
      have s57 : I_61 57 = I_26 57 := by rw [eI_61, up2_off _ _ _ (by decide)]
      have s58 : I_61 58 = I_26 58 := by rw [eI_61, up2_off _ _ _ (by decide)]
      have o_I_61 : ∀ j : Nat, ((j : Int) ≠ 310 ∧ (j : Int) ≠ 311 + Ia 51 310 ∧ ¬ (317 + 400 * Ia 51 310 ≤ j ∧ (j : Int) < 717 + 400 * Ia 51 310) ∧ ¬ (2717 + 400 * Ia 51 310 ≤ j ∧ (j : Int) < 3117 + 400 * Ia 51 310)) → I_61 51 j = Ia 51 j := fun j h1 => (by rw [eI_61, up2_n _ _ (Or.inr (by omega))] : I_61 51 j = I_26 51 j).trans (o_I_26 j h1)
      have bkI_61 : BK9 Ia I_61 := by rw [eI_61]; exact BK9_up bkI_26 (by decide)
      have tkI_61 : TK9 Ia I_61 Ja J_26 := by rw [eI_61]; exact TK9_up tkI_26 (by decide)
      refine ww_iconst hX (pc := 62) (x := 0) dX11_law_62 rfl ?_
      refine ww_istore_n hX (pc := 63) (lv' := [some (kR (some 49)), some (kI v_47), some (kI 0)]) dX11_law_63 (by decide) rfl rfl ?_
      have hl_64 : ∀ (n_64 : Nat) (i : Int) (I64 : aI1) (J64 : aI1), (I_26 49 15 - i).toNat = n_64 → (BK9 Ia I64 ∧ TK9 Ia I64 Ja J64 ∧ (Ch [50, 51, 57, 58, 59] [0, 1, 10, 11, 15, 16, 17, 18] Ia I64 ∧ RX I64 ∧ Kp 49 73 Ja J64 ∧ I64 51 310 = I_61 51 310 ∧ I64 49 10 = I_61 49 10 ∧ I64 49 11 = I_61 49 11 ∧ I64 49 15 = I_61 49 15 ∧ (∀ j : Nat, ((j : Int) ≠ 310 ∧ (j : Int) ≠ 311 + Ia 51 310 ∧ ¬ (317 + 400 * Ia 51 310 ≤ j ∧ (j : Int) < 717 + 400 * Ia 51 310) ∧ ¬ (2717 + 400 * Ia 51 310 ≤ j ∧ (j : Int) < 3117 + 400 * Ia 51 310)) → I64 51 j = Ia 51 j) ∧ (0 ≤ i ∧ i ≤ I_26 49 15) ∧ I64 51 (311 + v_47.toNat) = I_26 49 15 ∧ I64 57 = I_26 57 ∧ (∀ j : Nat, (j : Int) < i → I64 51 (317 + 400 * v_47.toNat + j) = I_26 57 j) ∧ I64 58 = I_26 58 ∧ (∀ j : Nat, (j : Int) < i → I64 51 (2717 + 400 * v_47.toNat + j) = I_26 58 j))) → WW X 64 [some (kR (some 49)), some (kI v_47), some (kI i)] [] I64 J64 Ra Sa 0 0 := by
        intro n_64
        induction n_64 using Nat.strongRecOn with
        | ind n_64 ih_64 =>
          intro i I64 J64 hm_64 hv_64
          have hq_64 := Sh0_i hm_64
          clear hm_64
          obtain ⟨bkl64, tkl64, hv_64⟩ := hv_64
          obtain ⟨kI64, cI64, kJ64, r310_I64, f10_I64, f11_I64, f15_I64, o_I64, hv, hsz, hr57, hcp, hr58, hcv⟩ := hv_64
          have qI64 := RX_l cI64
          refine ww_iload_n hX (pc := 64) dX11_law_64 rfl ?_
          refine ww_aload_n hX (pc := 65) dX11_law_65 rfl ?_
          refine ww_getI hX (pc := 66) fX11_142 (by decide) (xs_49 hL) dX11_law_66 ?_
          refine ww_icmp_ge hX (pc := 69) (tgt := 122) dX11_law_69 (by decide) (fun h_69 => ?_) (fun h_69 => ?_)
          · simp only [w32_mod] at h_69
            refine ww_aload_n hX (pc := 122) dX11_law_122 rfl ?_
            refine ww_getR hX (pc := 123) fX11_20 (by decide) (xs_49 hL) (xr_49_3 hL) dX11_law_123 ?_
            refine ww_sipush hX (pc := 126) (x := 310) dX11_law_126 (by decide) ?_
            refine ww_dup2 hX (pc := 129) dX11_law_129 ?_
            refine ww_iald hX (pc := 130) (xs_51 hL) (by decide) (by omega) (by omega) dX11_law_130 ?_
            refine ww_toI (b := I64 51 310) rfl ?_
            refine ww_iconst hX (pc := 131) (x := 1) dX11_law_131 rfl ?_
            refine ww_iadd hX (pc := 132) dX11_law_132 ?_
            refine ww_iast hX (pc := 133) (xs_51 hL) (by decide) (by omega) (by omega) dX11_law_133 ?_
            refine ww_nmH (fun I_133 eI_133 => ?_)
            have kI_133 : Ch [50, 51, 57, 58, 59] [0, 1, 10, 11, 15, 16, 17, 18] Ia I_133 := by rw [eI_133]; exact Ch_r kI64 (by decide) (by decide)
            have cI_133 : RX I_133 := by rw [eI_133]; exact RX_tl (t := v_47.toNat) cI64 rfl (by omega) (by omega) (by rw [hsz]; omega) (by rw [hsz, cvw_pvw (I := I_26) (hsz.trans (by omega)) (fun j hj => hcp j (by omega))]; exact hl26)
            have qI_133 := RX_l cI_133
            have f10_I_133 : I_133 49 10 = I64 49 10 := by rw [eI_133, up2_off _ _ _ (by decide)]
            have f11_I_133 : I_133 49 11 = I64 49 11 := by rw [eI_133, up2_off _ _ _ (by decide)]
            have f15_I_133 : I_133 49 15 = I64 49 15 := by rw [eI_133, up2_off _ _ _ (by decide)]
            have w133 : I_133 51 310 = I64 51 310 + 1 := by rw [eI_133, show (310 : Int).toNat = 310 from rfl, up2_s]
            have d133 : ∀ j : Nat, j ≠ 310 → I_133 51 j = I64 51 j := fun j hj => by rw [eI_133, show (310 : Int).toNat = 310 from rfl, up2_n _ _ (Or.inr hj)]
            have o_I_133 : ∀ j : Nat, ((j : Int) ≠ 310 ∧ (j : Int) ≠ 311 + Ia 51 310 ∧ ¬ (317 + 400 * Ia 51 310 ≤ j ∧ (j : Int) < 717 + 400 * Ia 51 310) ∧ ¬ (2717 + 400 * Ia 51 310 ≤ j ∧ (j : Int) < 3117 + 400 * Ia 51 310)) → I_133 51 j = Ia 51 j := fun j h1 => (by rw [eI_133, up2_n _ _ (Or.inr (by omega))] : I_133 51 j = I64 51 j).trans (o_I64 j h1)
            have bkI_133 : BK9 Ia I_133 := by rw [eI_133]; exact BK9_up bkl64 (by decide)
            have tkI_133 : TK9 Ia I_133 Ja J64 := by rw [eI_133]; exact TK9_up tkl64 (by decide)
            refine ww_aload_n hX (pc := 134) dX11_law_134 rfl ?_
            refine ww_iload_n hX (pc := 135) dX11_law_135 rfl ?_
            refine vI1 hX (pc := 136) sX11_109 (xs_49 hL) (n9_X11_good l0 hL cI_133) (by decide) (Nat.le_refl 0) (Nat.le_refl 0) (Nat.le_of_ble_eq_true rfl) dX11_law_136 (fun x_136 I_136 J_136 h_136 => ?_)
            obtain ⟨h_136, qxI_136⟩ := h_136
            have kJ_136 : Kp 49 73 Ja J_136 := Kp_tr kJ64 h_136.2.1
            have kI_136 : Ch [50, 51, 57, 58, 59] [0, 1, 10, 11, 15, 16, 17, 18] Ia I_136 := Ch_tr kI_133 (Ch_wd h_136.1 (by decide) (by decide))
            have cI_136 : RX I_136 := h_136.2.2.1
            have qI_136 := RX_l cI_136
            have r310_I_136 : I_136 51 310 = I_133 51 310 := by rw [h_136.1.1 51 (by decide) (by decide)]
            have f10_I_136 : I_136 49 10 = I_133 49 10 := h_136.1.2 10 (by decide)
            have f11_I_136 : I_136 49 11 = I_133 49 11 := h_136.1.2 11 (by decide)
            have f15_I_136 : I_136 49 15 = I_133 49 15 := h_136.1.2 15 (by decide)
            have o_I_136 : ∀ j : Nat, ((j : Int) ≠ 310 ∧ (j : Int) ≠ 311 + Ia 51 310 ∧ ¬ (317 + 400 * Ia 51 310 ≤ j ∧ (j : Int) < 717 + 400 * Ia 51 310) ∧ ¬ (2717 + 400 * Ia 51 310 ≤ j ∧ (j : Int) < 3117 + 400 * Ia 51 310)) → I_136 51 j = Ia 51 j := fun j h1 => (congrFun (h_136.1.1 51 (by decide) (by decide)) j).trans (o_I_133 j h1)
            refine rI hX (pc := 139) hT (Nat.le_refl 0) (Nat.le_refl 0) dX11_law_139 ?_
            exact ⟨⟨kI_136, kJ_136, cI_136, by omega, (fun h9 => absurd h9 (by omega)), (fun _ => ⟨fun fp hfp => by have h9 := (h_26.2.2.2.2.2.2.1.1 fp hfp).1; exact absurd h9 (by omega), fun qs hqs => by
                  have hz26 := (h_26.2.2.2.2.2.2.1.2 qs hqs).2
                  have hL26 := h_26.2.2.2.2.2.2.2.1
                  have hA26 := h_26.2.2.2.2.2.2.2.2
                  have y136 : I_136 51 = I_133 51 := h_136.1.1 51 (by decide) (by decide)
                  have ev : (Ia 51 310).toNat = v_47.toNat := by omega
                  refine ⟨by omega, by omega, by rw [y136]; omega, ⟨?_, fun j hj => ⟨?_, ?_⟩⟩, o_I_136⟩
                  · rw [ev, y136, d133 _ (by omega), hsz]; exact hL26
                  · rw [ev, y136, d133 _ (by omega), hcp j (by omega)]; exact (hA26 j (by omega)).1
                  · rw [ev, y136, d133 _ (by omega), hcv j (by omega)]; exact (hA26 j (by omega)).2⟩)⟩, ⟨(fun h9 => absurd h9 (by have := h_136.2.2.2; omega)), (fun _ => GQ9_tr bkI_133 qxI_136)⟩⟩
          · simp only [w32_mod] at h_69
            refine ww_aload_n hX (pc := 72) dX11_law_72 rfl ?_
            refine ww_getR hX (pc := 73) fX11_20 (by decide) (xs_49 hL) (xr_49_3 hL) dX11_law_73 ?_
            refine ww_sipush hX (pc := 76) (x := 317) dX11_law_76 (by decide) ?_
            refine ww_sipush hX (pc := 79) (x := 400) dX11_law_79 (by decide) ?_
            refine ww_iload_n hX (pc := 82) dX11_law_82 rfl ?_
            refine ww_imul hX (pc := 83) dX11_law_83 ?_
            refine ww_iadd hX (pc := 84) dX11_law_84 ?_
            refine ww_iload_n hX (pc := 85) dX11_law_85 rfl ?_
            refine ww_iadd hX (pc := 86) dX11_law_86 ?_
            refine ww_aload_n hX (pc := 87) dX11_law_87 rfl ?_
            refine ww_getR hX (pc := 88) fX11_43 (by decide) (xs_49 hL) (xr_49_12 hL) dX11_law_88 ?_
            refine ww_iload_n hX (pc := 91) dX11_law_91 rfl ?_
            have hc92 := hr26 i.toNat (by omega)
            rw [← hr57] at hc92
            refine ww_iald hX (pc := 92) (xs_57 hL) (by decide) (by omega) (by omega) dX11_law_92 ?_
            refine ww_iast hX (pc := 93) (xs_51 hL) (by decide) (by omega) (by omega) dX11_law_93 ?_
            refine ww_nmH (fun I_93 eI_93 => ?_)
            have kI_93 : Ch [50, 51, 57, 58, 59] [0, 1, 10, 11, 15, 16, 17, 18] Ia I_93 := by rw [eI_93]; exact Ch_r kI64 (by decide) (by decide)
            have cI_93 : RX I_93 := by rw [eI_93]; exact RX_up cI64 (by omega)
            have qI_93 := RX_l cI_93
            have r310_I_93 : I_93 51 310 = I64 51 310 := by rw [eI_93, up2_n _ _ (Or.inr (by omega))]
            have f10_I_93 : I_93 49 10 = I64 49 10 := by rw [eI_93, up2_off _ _ _ (by decide)]
            have f11_I_93 : I_93 49 11 = I64 49 11 := by rw [eI_93, up2_off _ _ _ (by decide)]
            have f15_I_93 : I_93 49 15 = I64 49 15 := by rw [eI_93, up2_off _ _ _ (by decide)]
            have z93 : I_93 51 (311 + v_47.toNat) = I64 51 (311 + v_47.toNat) := by rw [eI_93, up2_n _ _ (Or.inr (by omega))]
            have y93 : I_93 57 = I_26 57 := by rw [eI_93, up2_off _ _ _ (by decide)]; exact hr57
            have x93 : ∀ j : Nat, (j : Int) < i + 1 → I_93 51 (317 + 400 * v_47.toNat + j) = I_26 57 j := fun j hj => by
              rw [eI_93]
              by_cases e9 : (j : Int) = i
              · rw [show (317 + 400 * v_47 + i).toNat = 317 + 400 * v_47.toNat + j by omega, up2_s, hr57]
                exact congrArg _ (by omega)
              · rw [up2_n _ _ (Or.inr (by omega))]
                exact hcp j (by omega)
            have v93 : I_93 58 = I_26 58 := by rw [eI_93, up2_off _ _ _ (by decide)]; exact hr58
            have u93 : ∀ j : Nat, (j : Int) < i → I_93 51 (2717 + 400 * v_47.toNat + j) = I_26 58 j := fun j hj => by
              rw [eI_93, up2_n _ _ (Or.inr (by omega))]
              exact hcv j hj
            have o_I_93 : ∀ j : Nat, ((j : Int) ≠ 310 ∧ (j : Int) ≠ 311 + Ia 51 310 ∧ ¬ (317 + 400 * Ia 51 310 ≤ j ∧ (j : Int) < 717 + 400 * Ia 51 310) ∧ ¬ (2717 + 400 * Ia 51 310 ≤ j ∧ (j : Int) < 3117 + 400 * Ia 51 310)) → I_93 51 j = Ia 51 j := fun j h1 => (by rw [eI_93, up2_n _ _ (Or.inr (by omega))] : I_93 51 j = I64 51 j).trans (o_I64 j h1)
            have bkI_93 : BK9 Ia I_93 := by rw [eI_93]; exact BK9_up bkl64 (by decide)
            have tkI_93 : TK9 Ia I_93 Ja J64 := by rw [eI_93]; exact TK9_up tkl64 (by decide)
            refine ww_aload_n hX (pc := 94) dX11_law_94 rfl ?_
            refine ww_getR hX (pc := 95) fX11_20 (by decide) (xs_49 hL) (xr_49_3 hL) dX11_law_95 ?_
            refine ww_sipush hX (pc := 98) (x := 2717) dX11_law_98 (by decide) ?_
            refine ww_sipush hX (pc := 101) (x := 400) dX11_law_101 (by decide) ?_
            refine ww_iload_n hX (pc := 104) dX11_law_104 rfl ?_
            refine ww_imul hX (pc := 105) dX11_law_105 ?_
            refine ww_iadd hX (pc := 106) dX11_law_106 ?_
            refine ww_iload_n hX (pc := 107) dX11_law_107 rfl ?_
            refine ww_iadd hX (pc := 108) dX11_law_108 ?_
            refine ww_aload_n hX (pc := 109) dX11_law_109 rfl ?_
            refine ww_getR hX (pc := 110) fX11_46 (by decide) (xs_49 hL) (xr_49_13 hL) dX11_law_110 ?_
            refine ww_iload_n hX (pc := 113) dX11_law_113 rfl ?_
            refine ww_iald hX (pc := 114) (xs_58 hL) (by decide) (by omega) (by omega) dX11_law_114 ?_
            refine ww_iast hX (pc := 115) (xs_51 hL) (by decide) (by omega) (by omega) dX11_law_115 ?_
            refine ww_nmH (fun I_115 eI_115 => ?_)
            have kI_115 : Ch [50, 51, 57, 58, 59] [0, 1, 10, 11, 15, 16, 17, 18] Ia I_115 := by rw [eI_115]; exact Ch_r kI_93 (by decide) (by decide)
            have cI_115 : RX I_115 := by rw [eI_115]; exact RX_up cI_93 (by omega)
            have qI_115 := RX_l cI_115
            have r310_I_115 : I_115 51 310 = I_93 51 310 := by rw [eI_115, up2_n _ _ (Or.inr (by omega))]
            have f10_I_115 : I_115 49 10 = I_93 49 10 := by rw [eI_115, up2_off _ _ _ (by decide)]
            have f11_I_115 : I_115 49 11 = I_93 49 11 := by rw [eI_115, up2_off _ _ _ (by decide)]
            have f15_I_115 : I_115 49 15 = I_93 49 15 := by rw [eI_115, up2_off _ _ _ (by decide)]
            have z115 : I_115 51 (311 + v_47.toNat) = I64 51 (311 + v_47.toNat) := by rw [eI_115, up2_n _ _ (Or.inr (by omega))]; exact z93
            have y115 : I_115 57 = I_26 57 := by rw [eI_115, up2_off _ _ _ (by decide)]; exact y93
            have x115 : ∀ j : Nat, (j : Int) < i + 1 → I_115 51 (317 + 400 * v_47.toNat + j) = I_26 57 j := fun j hj => by
              rw [eI_115, up2_n _ _ (Or.inr (by omega))]
              exact x93 j hj
            have v115 : I_115 58 = I_26 58 := by rw [eI_115, up2_off _ _ _ (by decide)]; exact v93
            have u115 : ∀ j : Nat, (j : Int) < i + 1 → I_115 51 (2717 + 400 * v_47.toNat + j) = I_26 58 j := fun j hj => by
              rw [eI_115]
              by_cases e9 : (j : Int) = i
              · rw [show (2717 + 400 * v_47 + i).toNat = 2717 + 400 * v_47.toNat + j by omega, up2_s, v93]
                exact congrArg _ (by omega)
              · rw [up2_n _ _ (Or.inr (by omega))]
                exact u93 j (by omega)
            have o_I_115 : ∀ j : Nat, ((j : Int) ≠ 310 ∧ (j : Int) ≠ 311 + Ia 51 310 ∧ ¬ (317 + 400 * Ia 51 310 ≤ j ∧ (j : Int) < 717 + 400 * Ia 51 310) ∧ ¬ (2717 + 400 * Ia 51 310 ≤ j ∧ (j : Int) < 3117 + 400 * Ia 51 310)) → I_115 51 j = Ia 51 j := fun j h1 => (by rw [eI_115, up2_n _ _ (Or.inr (by omega))] : I_115 51 j = I_93 51 j).trans (o_I_93 j h1)
            have bkI_115 : BK9 Ia I_115 := by rw [eI_115]; exact BK9_up bkI_93 (by decide)
            have tkI_115 : TK9 Ia I_115 Ja J64 := by rw [eI_115]; exact TK9_up tkI_93 (by decide)
            refine ww_iinc hX (pc := 116) (lv' := [some (kR (some 49)), some (kI v_47), some (kI (i + 1))]) dX11_law_116 rfl (by decide) rfl rfl ?_
            refine ww_goto hX (pc := 119) (tgt := 64) dX11_law_119 (by decide) ?_
            exact ih_64 _ (by have hm9 := Sh0_e hq_64; omega) (i + 1) I_115 J64 rfl ⟨bkI_115, tkI_115, ⟨kI_115, cI_115, kJ64, by omega, by omega, by omega, by omega, o_I_115, ⟨by omega, by omega⟩, z115.trans hsz, y115, x115, v115, u115⟩⟩
      exact hl_64 _ 0 I_61 J_26 rfl ⟨bkI_61, tkI_61, ⟨kI_61, cI_61, kJ_26, rfl, rfl, rfl, rfl, o_I_61, ⟨by omega, by omega⟩, s61, s57, fun j hj => absurd hj (by omega), s58, fun j hj => absurd hj (by omega)⟩⟩
    · simp only [w32_mod] at h_29
      refine ww_aload_n hX (pc := 32) dX11_law_32 rfl ?_
      refine ww_bipush hX (pc := 33) (x := (-6)) dX11_law_33 (by decide) ?_
      refine vI1 hX (pc := 35) sX11_105 (xs_49 hL) (n9_X11_refuses l0 hL cI_26 (by omega) (by omega)) (by decide) (Nat.le_refl 0) (Nat.le_refl 0) (Nat.le_of_ble_eq_true rfl) dX11_law_35 (fun x_35 I_35 J_35 h_35 => ?_)
      obtain ⟨h_35, qxI_35⟩ := h_35
      have kJ_35 : Kp 49 73 Ja J_35 := Kp_tr kJ_26 h_35.2.1
      have kI_35 : Ch [50, 51, 57, 58, 59] [0, 1, 10, 11, 15, 16, 17, 18] Ia I_35 := Ch_tr kI_26 (Ch_wd h_35.1 (by decide) (by decide))
      have cI_35 : RX I_35 := h_35.2.2.1
      have qI_35 := RX_l cI_35
      have r310_I_35 : I_35 51 310 = I_26 51 310 := by rw [h_35.1.1 51 (by decide) (by decide)]
      have f10_I_35 : I_35 49 10 = I_26 49 10 := h_35.1.2 10 (by decide)
      have f11_I_35 : I_35 49 11 = I_26 49 11 := h_35.1.2 11 (by decide)
      have f15_I_35 : I_35 49 15 = I_26 49 15 := h_35.1.2 15 (by decide)
      have o_I_35 : ∀ j : Nat, ((j : Int) ≠ 310 ∧ (j : Int) ≠ 311 + Ia 51 310 ∧ ¬ (317 + 400 * Ia 51 310 ≤ j ∧ (j : Int) < 717 + 400 * Ia 51 310) ∧ ¬ (2717 + 400 * Ia 51 310 ≤ j ∧ (j : Int) < 3117 + 400 * Ia 51 310)) → I_35 51 j = Ia 51 j := fun j h1 => (congrFun (h_35.1.1 51 (by decide) (by decide)) j).trans (o_I_26 j h1)
      refine rI hX (pc := 38) hT (Nat.le_refl 0) (Nat.le_refl 0) dX11_law_38 ?_
      exact ⟨⟨kI_35, kJ_35, cI_35, by omega, (fun h9 => absurd h9 (by omega)), (fun _ => ⟨fun fp hfp => ⟨by omega, (h_35.1.1 51 (by decide) (by decide)).trans (h_26.1.1 51 (by decide) (by decide)), by have h9 := (h_26.2.2.2.2.2.2.1.1 fp hfp).2; omega⟩, fun qs hqs => by have h9 := (h_26.2.2.2.2.2.2.1.2 qs hqs).1; exact absurd h9 (by omega)⟩)⟩, ⟨(fun _ => RQ9_tr bkI_26 tkI_26 qxI_35), (fun h9 => absurd h9 (by have := h_35.2.2.2; omega))⟩⟩
  · simp only [w32_mod] at h_10
    refine ww_aload_n hX (pc := 13) dX11_law_13 rfl ?_
    refine ww_iconst hX (pc := 14) (x := 0) dX11_law_14 rfl ?_
    refine ww_putI hX (pc := 15) (fun h9 => absurd h9 (by decide)) gX11_129 rfl (xs_49 hL) dX11_law_15 ?_
    refine ww_nmH (fun I_15 eI_15 => ?_)
    have kI_15 : Ch [50, 51, 57, 58, 59] [0, 1, 10, 11, 15, 16, 17, 18] Ia I_15 := by rw [eI_15]; exact Ch_f Ch_rf (by decide)
    have cI_15 : RX I_15 := by rw [eI_15]; exact RX_10 hQ (by omega) (by omega)
    have qI_15 := RX_l cI_15
    have r310_I_15 : I_15 51 310 = Ia 51 310 := by rw [eI_15, up2_off _ _ _ (by decide)]
    have f11_I_15 : I_15 49 11 = Ia 49 11 := by rw [eI_15, up2_n _ _ (Or.inr (by decide))]
    have f15_I_15 : I_15 49 15 = Ia 49 15 := by rw [eI_15, up2_n _ _ (Or.inr (by decide))]
    have z10 : I_15 49 10 = 0 := by rw [eI_15, up2_s]
    have g15 : I_15 51 = Ia 51 := by rw [eI_15, up2_off _ _ _ (by decide)]
    have o_I_15 : ∀ j : Nat, ((j : Int) ≠ 310 ∧ (j : Int) ≠ 311 + Ia 51 310 ∧ ¬ (317 + 400 * Ia 51 310 ≤ j ∧ (j : Int) < 717 + 400 * Ia 51 310) ∧ ¬ (2717 + 400 * Ia 51 310 ≤ j ∧ (j : Int) < 3117 + 400 * Ia 51 310)) → I_15 51 j = Ia 51 j := fun j h1 => (by rw [eI_15, up2_off _ _ _ (by decide)] : I_15 51 j = Ia 51 j).trans ((fun _ _ => rfl) j h1)
    have bkI_15 : BK9 Ia I_15 := by rw [eI_15]; exact BK9_f BK9_rf (by decide)
    have tkI_15 : TK9 Ia I_15 Ja Ja := by rw [eI_15]; exact TK9_f TK9_rf (by decide)
    refine ww_aload_n hX (pc := 18) dX11_law_18 rfl ?_
    refine ww_bipush hX (pc := 19) (x := (-5)) dX11_law_19 (by decide) ?_
    refine vI1 hX (pc := 21) sX11_105 (xs_49 hL) (n9_X11_refuses l0 hL cI_15 (by omega) (by omega)) (by decide) (Nat.le_refl 0) (Nat.le_refl 0) (Nat.le_of_ble_eq_true rfl) dX11_law_21 (fun x_21 I_21 J_21 h_21 => ?_)
    obtain ⟨h_21, qxI_21⟩ := h_21
    have kJ_21 : Kp 49 73 Ja J_21 := Kp_tr (Kp_rf (a := 49) (b := 73)) h_21.2.1
    have kI_21 : Ch [50, 51, 57, 58, 59] [0, 1, 10, 11, 15, 16, 17, 18] Ia I_21 := Ch_tr kI_15 (Ch_wd h_21.1 (by decide) (by decide))
    have cI_21 : RX I_21 := h_21.2.2.1
    have qI_21 := RX_l cI_21
    have r310_I_21 : I_21 51 310 = I_15 51 310 := by rw [h_21.1.1 51 (by decide) (by decide)]
    have f10_I_21 : I_21 49 10 = I_15 49 10 := h_21.1.2 10 (by decide)
    have f11_I_21 : I_21 49 11 = I_15 49 11 := h_21.1.2 11 (by decide)
    have f15_I_21 : I_21 49 15 = I_15 49 15 := h_21.1.2 15 (by decide)
    have o_I_21 : ∀ j : Nat, ((j : Int) ≠ 310 ∧ (j : Int) ≠ 311 + Ia 51 310 ∧ ¬ (317 + 400 * Ia 51 310 ≤ j ∧ (j : Int) < 717 + 400 * Ia 51 310) ∧ ¬ (2717 + 400 * Ia 51 310 ≤ j ∧ (j : Int) < 3117 + 400 * Ia 51 310)) → I_21 51 j = Ia 51 j := fun j h1 => (congrFun (h_21.1.1 51 (by decide) (by decide)) j).trans (o_I_15 j h1)
    refine rI hX (pc := 24) hT (Nat.le_refl 0) (Nat.le_refl 0) dX11_law_24 ?_
    exact ⟨⟨kI_21, kJ_21, cI_21, by omega, (fun _ => ⟨by omega, (h_21.1.1 51 (by decide) (by decide)).trans g15, by omega⟩), (fun h9 => absurd (by omega) h9)⟩, ⟨(fun _ => RQ9_tr bkI_15 tkI_15 qxI_21), (fun h9 => absurd h9 (by have := h_21.2.2.2; omega))⟩⟩
