section
theorem zDn_nx {f F G : Nat → Int} {dn : List (Nat × Nat)} {u v : Int} (h : zDn f dn F G) : zDn f dn (up1 F dn.length u) (up1 G dn.length v) := fun t p hp => by
  have ht := (List.getElem?_eq_some_iff.mp hp).1
  rw [up1_n _ _ (by omega), up1_n _ _ (by omega)]
  exact h t p hp
set_option maxHeartbeats 4000000 in
set_option maxRecDepth 20000 in
theorem c6_X7_findTokens (l0 : Launch) {Ia Ja : aI1} {Ra : aR1} {Sa : aS1} (hL : LY Ra Sa) (hI : XI Ia) (hR : LR Ia) {f : Nat → Int} {N : Nat} (hN : Ia 8 1 = N) (hf : ∀ j, j < N → f j = Ia 9 j)  : CT l0 8 0 0 mX7_findTokens [kR (some 10)] Ia Ja Ra Sa (cV (fun I' J' => Kp 10 15 Ia I' ∧ Kp 10 15 Ja J' ∧ LR I' ∧ True ∧ zTK I' (zCd f (zTk f N 0)) (zVl f (zTk f N 0)) (zTk f N 0).length ∧ ∀ t, t ≤ (zTk f N 0).length → I' 12 t = zPc N (zTk f N 0) t) Ra Sa) := by
  refine ct_in pn_X7 (Nat.le_of_ble_eq_true rfl) (fun X hX hT hIn => ?_)
  have hX : aK l0 X cX7_findTokens 3 RX7 none 8 0 0 := hX
  change WW X 0 [some (kR (some 10)), none, none] [] Ia Ja Ra Sa 0 0
  obtain ⟨hn1, hn2⟩ := hI.1
  obtain ⟨hk1, hk2⟩ := hI.2.1
  obtain ⟨hf1, hf2⟩ := hI.fu
  obtain ⟨hl1, hl2⟩ := hI.2.2.2.2.2.2.1
  have hq := hR.1
  unfold LRf at hq
  refine ww_aload_n hX (pc := 0) dX7_findTokens_0 rfl ?_
  refine ww_iconst hX (pc := 1) (x := 0) dX7_findTokens_1 rfl ?_
  refine ww_putI hX (pc := 2) (fun h9 => absurd h9 (by decide)) gX7_116 rfl (xs_10 hL) dX7_findTokens_2 ?_
  refine ww_nmH (fun I_2 eI_2 => ?_)
  have kI_2 : Kp 10 15 Ia I_2 := by rw [eI_2]; exact Kp_up (Kp_rf (a := 10) (b := 15)) _ _ (by decide)
  have r1_5_I_2 : I_2 1 5 = Ia 1 5 := Kp_at kI_2 1 5 (by decide)
  have r8_1_I_2 : I_2 8 1 = Ia 8 1 := Kp_at kI_2 8 1 (by decide)
  have rf_I_2 : FU (I_2 1 5) = FU (Ia 1 5) := by rw [r1_5_I_2]
  have lI_2 : LR I_2 := by rw [eI_2]; exact LR_6 hR (by omega) (by omega)
  have wI_2 := (congrFun (congrFun eI_2 10) 6).trans (up2_s _ _ _ _)
  have wI_2_7 : I_2 10 7 = Ia 10 7 := by rw [eI_2, up2_n _ _ (Or.inr (by decide))]
  have wI_2_8 : I_2 10 8 = Ia 10 8 := by rw [eI_2, up2_n _ _ (Or.inr (by decide))]
  have wI_2_9 : I_2 10 9 = Ia 10 9 := by rw [eI_2, up2_n _ _ (Or.inr (by decide))]
  have wI_2_10 : I_2 10 10 = Ia 10 10 := by rw [eI_2, up2_n _ _ (Or.inr (by decide))]
  have wI_2_11 : I_2 10 11 = Ia 10 11 := by rw [eI_2, up2_n _ _ (Or.inr (by decide))]
  have y13_I_2 : I_2 13 = Ia 13 := by rw [eI_2, up2_off _ _ _ (by decide)]
  have y14_I_2 : I_2 14 = Ia 14 := by rw [eI_2, up2_off _ _ _ (by decide)]
  have z0I_2 : I_2 10 0 = Ia 10 0 := by rw [eI_2, up2_n _ _ (Or.inr (by decide))]
  have hNb : I_2 8 1 = N := by rw [r8_1_I_2]; exact hN
  have hfb : ∀ j, j < N → f j = I_2 9 j := by rw [eI_2, up2_off _ _ _ (by decide)]; exact hf
  refine ww_aload_n hX (pc := 5) dX7_findTokens_5 rfl ?_
  refine ww_iconst hX (pc := 6) (x := 0) dX7_findTokens_6 rfl ?_
  refine vI1 hX (pc := 7) sX7_125 (xs_10 hL) (c6_X7_skipBlanks l0 hL (XI_kp hI kI_2 (by decide)) hNb hfb (by omega) (by omega)) (by decide) (Nat.le_refl 0) (Nat.le_refl 0) (Nat.le_of_ble_eq_true rfl) dX7_findTokens_7 (fun x_7 I_7 J_7 h_7 => ?_)
  obtain ⟨rfl, rfl, h_7⟩ := h_7
  refine ww_istore_n hX (pc := 10) (lv' := [some (kR (some 10)), some (kI x_7), none]) dX7_findTokens_10 (by decide) rfl rfl ?_
  have hl_11 : ∀ (n_11 : Nat) (q : Int) (I2 : aI1) (J2 : aI1), (Ia 8 1 - q).toNat = n_11 → (Kp 10 15 Ia I2 ∧ Kp 10 15 Ja J2 ∧ LR I2 ∧ True ∧ (0 ≤ q ∧ q ≤ Ia 8 1) ∧ (q < Ia 8 1 → ¬ f q.toNat = 32) ∧ ∃ dn : List (Nat × Nat), zTk f N 0 = dn ++ zTk f N q.toNat ∧ I2 10 6 = dn.length ∧ (dn.length : Int) ≤ q ∧ zDn f dn (I2 11) (I2 12)) → WW X 11 [some (kR (some 10)), some (kI q), none] [] I2 J2 Ra Sa 0 0 := by
    intro n_11
    induction n_11 using Nat.strongRecOn with
    | ind n_11 ih_11 =>
      intro q I2 J2 hm_11 hv_11
      have hq_11 := Sh0_i hm_11
      clear hm_11
      obtain ⟨kI2, kJ2, lI2, cI2, hq9, hb9, dn, ht9, hd6, hdl, hdn⟩ := hv_11
      have r1_5_I2 : I2 1 5 = Ia 1 5 := Kp_at kI2 1 5 (by decide)
      have r8_1_I2 : I2 8 1 = Ia 8 1 := Kp_at kI2 8 1 (by decide)
      have rf_I2 : FU (I2 1 5) = FU (Ia 1 5) := by rw [r1_5_I2]
      have qI2 := lI2.1
      unfold LRf at qI2
      have y9 : I2 9 = Ia 9 := kI2 9 (by omega)
      have hf2 : ∀ j, j < N → f j = I2 9 j := by rw [y9]; exact hf
      have hN2 : I2 8 1 = N := by rw [r8_1_I2]; exact hN
      refine ww_iload_n hX (pc := 11) dX7_findTokens_11 rfl ?_
      refine ww_aload_n hX (pc := 12) dX7_findTokens_12 rfl ?_
      refine ww_getR hX (pc := 13) fX7_28 (by decide) (xs_10 hL) (xr_10_1 hL) dX7_findTokens_13 ?_
      refine ww_getI hX (pc := 16) fX7_128 (by decide) (xs_8 hL) dX7_findTokens_16 ?_
      refine ww_icmp_ge hX (pc := 19) (tgt := 82) dX7_findTokens_19 (by decide) (fun h_19 => ?_) (fun h_19 => ?_)
      · simp only [w32_mod] at h_19
        refine ww_aload_n hX (pc := 82) dX7_findTokens_82 rfl ?_
        refine ww_getR hX (pc := 83) fX7_19 (by decide) (xs_10 hL) (xr_10_3 hL) dX7_findTokens_83 ?_
        refine ww_aload_n hX (pc := 86) dX7_findTokens_86 rfl ?_
        refine ww_getI hX (pc := 87) fX7_116 (by decide) (xs_10 hL) dX7_findTokens_87 ?_
        refine ww_aload_n hX (pc := 90) dX7_findTokens_90 rfl ?_
        refine ww_getR hX (pc := 91) fX7_28 (by decide) (xs_10 hL) (xr_10_1 hL) dX7_findTokens_91 ?_
        refine ww_getI hX (pc := 94) fX7_128 (by decide) (xs_8 hL) dX7_findTokens_94 ?_
        refine ww_iast hX (pc := 97) (xs_12 hL) (by decide) (by omega) (by omega) dX7_findTokens_97 ?_
        refine ww_nmH (fun I_97 eI_97 => ?_)
        have kI_97 : Kp 10 15 Ia I_97 := by rw [eI_97]; exact Kp_up kI2 _ _ (by decide)
        have r1_5_I_97 : I_97 1 5 = Ia 1 5 := Kp_at kI_97 1 5 (by decide)
        have r8_1_I_97 : I_97 8 1 = Ia 8 1 := Kp_at kI_97 8 1 (by decide)
        have rf_I_97 : FU (I_97 1 5) = FU (Ia 1 5) := by rw [r1_5_I_97]
        have lI_97 : LR I_97 := by rw [eI_97]; exact LR_c12 lI2 _
        have wI_97 : I_97 10 = I2 10 := by rw [eI_97, up2_off _ _ _ (by decide)]
        have wI_97_6 : I_97 10 6 = I2 10 6 := by rw [wI_97]
        have wI_97_7 : I_97 10 7 = I2 10 7 := by rw [wI_97]
        have wI_97_8 : I_97 10 8 = I2 10 8 := by rw [wI_97]
        have wI_97_9 : I_97 10 9 = I2 10 9 := by rw [wI_97]
        have wI_97_10 : I_97 10 10 = I2 10 10 := by rw [wI_97]
        have wI_97_11 : I_97 10 11 = I2 10 11 := by rw [wI_97]
        have z0I_97 : I_97 10 0 = I2 10 0 := by rw [wI_97]
        refine ww_aload_n hX (pc := 98) dX7_findTokens_98 rfl ?_
        refine ww_getR hX (pc := 99) fX7_15 (by decide) (xs_10 hL) (xr_10_2 hL) dX7_findTokens_99 ?_
        refine ww_aload_n hX (pc := 102) dX7_findTokens_102 rfl ?_
        refine ww_getI hX (pc := 103) fX7_116 (by decide) (xs_10 hL) dX7_findTokens_103 ?_
        refine ww_sipush hX (pc := 106) (x := 256) dX7_findTokens_106 (by decide) ?_
        refine ww_iast hX (pc := 109) (xs_11 hL) (by decide) (by omega) (by omega) dX7_findTokens_109 ?_
        refine ww_nmH (fun I_109 eI_109 => ?_)
        have kI_109 : Kp 10 15 Ia I_109 := by rw [eI_109]; exact Kp_up kI_97 _ _ (by decide)
        have r1_5_I_109 : I_109 1 5 = Ia 1 5 := Kp_at kI_109 1 5 (by decide)
        have r8_1_I_109 : I_109 8 1 = Ia 8 1 := Kp_at kI_109 8 1 (by decide)
        have rf_I_109 : FU (I_109 1 5) = FU (Ia 1 5) := by rw [r1_5_I_109]
        have lI_109 : LR I_109 := by rw [eI_109]; exact LR_c11 lI_97 _ (by omega) (by omega)
        have wI_109 : I_109 10 = I_97 10 := by rw [eI_109, up2_off _ _ _ (by decide)]
        have wI_109_6 : I_109 10 6 = I_97 10 6 := by rw [wI_109]
        have wI_109_7 : I_109 10 7 = I_97 10 7 := by rw [wI_109]
        have wI_109_8 : I_109 10 8 = I_97 10 8 := by rw [wI_109]
        have wI_109_9 : I_109 10 9 = I_97 10 9 := by rw [wI_109]
        have wI_109_10 : I_109 10 10 = I_97 10 10 := by rw [wI_109]
        have wI_109_11 : I_109 10 11 = I_97 10 11 := by rw [wI_109]
        have z0I_109 : I_109 10 0 = I_97 10 0 := by rw [wI_109]
        refine rV hX (pc := 110) hT (Nat.le_refl 0) (Nat.le_refl 0) dX7_findTokens_110 ?_
        have hnil : zTk f N q.toNat = [] := zTk_0 (by omega)
        rw [hnil, List.append_nil] at ht9
        have hfin := zTK_mk (I := I_109) ht9.symm (by omega) (by rw [show I_109 11 = up1 (I2 11) dn.length 256 by rw [eI_109, up2_row, show (I_97 10 6).toNat = dn.length by omega, eI_97, up2_off _ _ _ (by decide)], show I_109 12 = up1 (I2 12) dn.length (I2 8 1) by rw [eI_109, up2_off _ _ _ (by decide), eI_97, up2_row, show (I2 10 6).toNat = dn.length by omega]]; exact zDn_nx hdn) (by omega) (by omega) (by rw [eI_109, show (I_97 10 6).toNat = dn.length by omega, up2_s]) (by rw [eI_109, up2_off _ _ _ (by decide), eI_97, show (I2 10 6).toNat = dn.length by omega, up2_s]; omega)
        rw [← ht9] at hfin
        exact ⟨kI_109, kJ2, lI_109, trivial, hfin⟩
      · simp only [w32_mod] at h_19
        refine ww_aload_n hX (pc := 22) dX7_findTokens_22 rfl ?_
        refine ww_getI hX (pc := 23) fX7_116 (by decide) (xs_10 hL) dX7_findTokens_23 ?_
        refine ww_sipush hX (pc := 26) (x := 400) dX7_findTokens_26 (by decide) ?_
        refine ww_icmp_ge hX (pc := 29) (tgt := 82) dX7_findTokens_29 (by decide) (fun h_29 => ?_) (fun h_29 => ?_)
        · simp only [w32_mod] at h_29
          refine ww_aload_n hX (pc := 82) dX7_findTokens_82 rfl ?_
          refine ww_getR hX (pc := 83) fX7_19 (by decide) (xs_10 hL) (xr_10_3 hL) dX7_findTokens_83 ?_
          refine ww_aload_n hX (pc := 86) dX7_findTokens_86 rfl ?_
          refine ww_getI hX (pc := 87) fX7_116 (by decide) (xs_10 hL) dX7_findTokens_87 ?_
          refine ww_aload_n hX (pc := 90) dX7_findTokens_90 rfl ?_
          refine ww_getR hX (pc := 91) fX7_28 (by decide) (xs_10 hL) (xr_10_1 hL) dX7_findTokens_91 ?_
          refine ww_getI hX (pc := 94) fX7_128 (by decide) (xs_8 hL) dX7_findTokens_94 ?_
          refine ww_iast hX (pc := 97) (xs_12 hL) (by decide) (by omega) (by omega) dX7_findTokens_97 ?_
          refine ww_nmH (fun I_97 eI_97 => ?_)
          have kI_97 : Kp 10 15 Ia I_97 := by rw [eI_97]; exact Kp_up kI2 _ _ (by decide)
          have r1_5_I_97 : I_97 1 5 = Ia 1 5 := Kp_at kI_97 1 5 (by decide)
          have r8_1_I_97 : I_97 8 1 = Ia 8 1 := Kp_at kI_97 8 1 (by decide)
          have rf_I_97 : FU (I_97 1 5) = FU (Ia 1 5) := by rw [r1_5_I_97]
          have lI_97 : LR I_97 := by rw [eI_97]; exact LR_c12 lI2 _
          have wI_97 : I_97 10 = I2 10 := by rw [eI_97, up2_off _ _ _ (by decide)]
          have wI_97_6 : I_97 10 6 = I2 10 6 := by rw [wI_97]
          have wI_97_7 : I_97 10 7 = I2 10 7 := by rw [wI_97]
          have wI_97_8 : I_97 10 8 = I2 10 8 := by rw [wI_97]
          have wI_97_9 : I_97 10 9 = I2 10 9 := by rw [wI_97]
          have wI_97_10 : I_97 10 10 = I2 10 10 := by rw [wI_97]
          have wI_97_11 : I_97 10 11 = I2 10 11 := by rw [wI_97]
          have z0I_97 : I_97 10 0 = I2 10 0 := by rw [wI_97]
          refine ww_aload_n hX (pc := 98) dX7_findTokens_98 rfl ?_
          refine ww_getR hX (pc := 99) fX7_15 (by decide) (xs_10 hL) (xr_10_2 hL) dX7_findTokens_99 ?_
          refine ww_aload_n hX (pc := 102) dX7_findTokens_102 rfl ?_
          refine ww_getI hX (pc := 103) fX7_116 (by decide) (xs_10 hL) dX7_findTokens_103 ?_
          refine ww_sipush hX (pc := 106) (x := 256) dX7_findTokens_106 (by decide) ?_
          refine ww_iast hX (pc := 109) (xs_11 hL) (by decide) (by omega) (by omega) dX7_findTokens_109 ?_
          refine ww_nmH (fun I_109 eI_109 => ?_)
          have kI_109 : Kp 10 15 Ia I_109 := by rw [eI_109]; exact Kp_up kI_97 _ _ (by decide)
          have r1_5_I_109 : I_109 1 5 = Ia 1 5 := Kp_at kI_109 1 5 (by decide)
          have r8_1_I_109 : I_109 8 1 = Ia 8 1 := Kp_at kI_109 8 1 (by decide)
          have rf_I_109 : FU (I_109 1 5) = FU (Ia 1 5) := by rw [r1_5_I_109]
          have lI_109 : LR I_109 := by rw [eI_109]; exact LR_c11 lI_97 _ (by omega) (by omega)
          have wI_109 : I_109 10 = I_97 10 := by rw [eI_109, up2_off _ _ _ (by decide)]
          have wI_109_6 : I_109 10 6 = I_97 10 6 := by rw [wI_109]
          have wI_109_7 : I_109 10 7 = I_97 10 7 := by rw [wI_109]
          have wI_109_8 : I_109 10 8 = I_97 10 8 := by rw [wI_109]
          have wI_109_9 : I_109 10 9 = I_97 10 9 := by rw [wI_109]
          have wI_109_10 : I_109 10 10 = I_97 10 10 := by rw [wI_109]
          have wI_109_11 : I_109 10 11 = I_97 10 11 := by rw [wI_109]
          have z0I_109 : I_109 10 0 = I_97 10 0 := by rw [wI_109]
          refine rV hX (pc := 110) hT (Nat.le_refl 0) (Nat.le_refl 0) dX7_findTokens_110 ?_
          have hnil : zTk f N q.toNat = [] := zTk_0 (by omega)
          rw [hnil, List.append_nil] at ht9
          have hfin := zTK_mk (I := I_109) ht9.symm (by omega) (by rw [show I_109 11 = up1 (I2 11) dn.length 256 by rw [eI_109, up2_row, show (I_97 10 6).toNat = dn.length by omega, eI_97, up2_off _ _ _ (by decide)], show I_109 12 = up1 (I2 12) dn.length (I2 8 1) by rw [eI_109, up2_off _ _ _ (by decide), eI_97, up2_row, show (I2 10 6).toNat = dn.length by omega]]; exact zDn_nx hdn) (by omega) (by omega) (by rw [eI_109, show (I_97 10 6).toNat = dn.length by omega, up2_s]) (by rw [eI_109, up2_off _ _ _ (by decide), eI_97, show (I2 10 6).toNat = dn.length by omega, up2_s]; omega)
          rw [← ht9] at hfin
          exact ⟨kI_109, kJ2, lI_109, trivial, hfin⟩
        · simp only [w32_mod] at h_29
          refine ww_aload_n hX (pc := 32) dX7_findTokens_32 rfl ?_
          refine ww_iload_n hX (pc := 33) dX7_findTokens_33 rfl ?_
          refine vI1 hX (pc := 34) sX7_133 (xs_10 hL) (c6_X7_stopOf l0 hL (XI_kp hI kI2 (by decide)) hN2 hf2 (by omega) (by omega)) (by decide) (Nat.le_refl 0) (Nat.le_refl 0) (Nat.le_of_ble_eq_true rfl) dX7_findTokens_34 (fun x_34 I_34 J_34 h_34 => ?_)
          obtain ⟨rfl, rfl, h_34⟩ := h_34
          refine ww_istore_n hX (pc := 37) (lv' := [some (kR (some 10)), some (kI q), some (kI x_34)]) dX7_findTokens_37 (by decide) rfl rfl ?_
          refine ww_aload_n hX (pc := 38) dX7_findTokens_38 rfl ?_
          refine ww_getR hX (pc := 39) fX7_19 (by decide) (xs_10 hL) (xr_10_3 hL) dX7_findTokens_39 ?_
          refine ww_aload_n hX (pc := 42) dX7_findTokens_42 rfl ?_
          refine ww_getI hX (pc := 43) fX7_116 (by decide) (xs_10 hL) dX7_findTokens_43 ?_
          refine ww_iload_n hX (pc := 46) dX7_findTokens_46 rfl ?_
          refine ww_iast hX (pc := 47) (xs_12 hL) (by decide) (by omega) (by omega) dX7_findTokens_47 ?_
          refine ww_nmH (fun I_47 eI_47 => ?_)
          have kI_47 : Kp 10 15 Ia I_47 := by rw [eI_47]; exact Kp_up kI2 _ _ (by decide)
          have r1_5_I_47 : I_47 1 5 = Ia 1 5 := Kp_at kI_47 1 5 (by decide)
          have r8_1_I_47 : I_47 8 1 = Ia 8 1 := Kp_at kI_47 8 1 (by decide)
          have rf_I_47 : FU (I_47 1 5) = FU (Ia 1 5) := by rw [r1_5_I_47]
          have lI_47 : LR I_47 := by rw [eI_47]; exact LR_c12 lI2 _
          have wI_47 : I_47 10 = I2 10 := by rw [eI_47, up2_off _ _ _ (by decide)]
          have wI_47_6 : I_47 10 6 = I2 10 6 := by rw [wI_47]
          have wI_47_7 : I_47 10 7 = I2 10 7 := by rw [wI_47]
          have wI_47_8 : I_47 10 8 = I2 10 8 := by rw [wI_47]
          have wI_47_9 : I_47 10 9 = I2 10 9 := by rw [wI_47]
          have wI_47_10 : I_47 10 10 = I2 10 10 := by rw [wI_47]
          have wI_47_11 : I_47 10 11 = I2 10 11 := by rw [wI_47]
          have z0I_47 : I_47 10 0 = I2 10 0 := by rw [wI_47]
          have y9_47 : I_47 9 = Ia 9 := by rw [eI_47, up2_off _ _ _ (by decide)]; exact y9
          have y12_47 : I_47 12 = up1 (I2 12) dn.length q := by rw [eI_47, up2_row, show (I2 10 6).toNat = dn.length by omega]
          have y11_47 : I_47 11 = I2 11 := by rw [eI_47, up2_off _ _ _ (by decide)]
          refine ww_aload_n hX (pc := 48) dX7_findTokens_48 rfl ?_
          refine ww_getR hX (pc := 49) fX7_15 (by decide) (xs_10 hL) (xr_10_2 hL) dX7_findTokens_49 ?_
          refine ww_aload_n hX (pc := 52) dX7_findTokens_52 rfl ?_
          refine ww_getI hX (pc := 53) fX7_116 (by decide) (xs_10 hL) dX7_findTokens_53 ?_
          refine ww_aload_n hX (pc := 56) dX7_findTokens_56 rfl ?_
          refine ww_iload_n hX (pc := 57) dX7_findTokens_57 rfl ?_
          refine ww_iload_n hX (pc := 58) dX7_findTokens_58 rfl ?_
          refine vI2 hX (pc := 59) sX7_136 (xs_10 hL) (c6_X7_kindOf l0 hL (XI_kp hI kI_47 (by decide)) (f := f) (N := N) (by rw [r8_1_I_47]; exact hN) (by rw [y9_47]; exact hf) (by omega) (by omega) (by omega) (by rw [y9_47, ← y9]; exact h_34.2.1)) (by decide) (Nat.le_refl 0) (Nat.le_refl 0) (Nat.le_of_ble_eq_true rfl) dX7_findTokens_59 (fun x_59 I_59 J_59 h_59 => ?_)
          obtain ⟨rfl, rfl, h_59⟩ := h_59
          refine ww_iast hX (pc := 62) (xs_11 hL) (by decide) (by omega) (by omega) dX7_findTokens_62 ?_
          refine ww_nmH (fun I_62 eI_62 => ?_)
          have kI_62 : Kp 10 15 Ia I_62 := by rw [eI_62]; exact Kp_up kI_47 _ _ (by decide)
          have r1_5_I_62 : I_62 1 5 = Ia 1 5 := Kp_at kI_62 1 5 (by decide)
          have r8_1_I_62 : I_62 8 1 = Ia 8 1 := Kp_at kI_62 8 1 (by decide)
          have rf_I_62 : FU (I_62 1 5) = FU (Ia 1 5) := by rw [r1_5_I_62]
          have lI_62 : LR I_62 := by rw [eI_62]; exact LR_c11 lI_47 _ (by omega) (by omega)
          have wI_62 : I_62 10 = I_47 10 := by rw [eI_62, up2_off _ _ _ (by decide)]
          have wI_62_6 : I_62 10 6 = I_47 10 6 := by rw [wI_62]
          have wI_62_7 : I_62 10 7 = I_47 10 7 := by rw [wI_62]
          have wI_62_8 : I_62 10 8 = I_47 10 8 := by rw [wI_62]
          have wI_62_9 : I_62 10 9 = I_47 10 9 := by rw [wI_62]
          have wI_62_10 : I_62 10 10 = I_47 10 10 := by rw [wI_62]
          have wI_62_11 : I_62 10 11 = I_47 10 11 := by rw [wI_62]
          have z0I_62 : I_62 10 0 = I_47 10 0 := by rw [wI_62]
          have y11_62 : I_62 11 = up1 (I2 11) dn.length x_59 := by rw [eI_62, up2_row, show (I_47 10 6).toNat = dn.length by omega, y11_47]
          have y12_62 : I_62 12 = up1 (I2 12) dn.length q := by rw [eI_62, up2_off _ _ _ (by decide), y12_47]
          have hko : zKo f q.toNat (zSt f N q.toNat) x_59 := by have h9 := h_59.2; rw [show x_34.toNat = zSt f N q.toNat by omega] at h9; exact h9
          refine ww_aload_n hX (pc := 63) dX7_findTokens_63 rfl ?_
          refine ww_dupR hX (pc := 64) dX7_findTokens_64 ?_
          refine ww_getI hX (pc := 65) fX7_116 (by decide) (xs_10 hL) dX7_findTokens_65 ?_
          refine ww_iconst hX (pc := 68) (x := 1) dX7_findTokens_68 rfl ?_
          refine ww_iadd hX (pc := 69) dX7_findTokens_69 ?_
          refine ww_putI hX (pc := 70) (fun h9 => absurd h9 (by decide)) gX7_116 rfl (xs_10 hL) dX7_findTokens_70 ?_
          refine ww_nmH (fun I_70 eI_70 => ?_)
          have kI_70 : Kp 10 15 Ia I_70 := by rw [eI_70]; exact Kp_up kI_62 _ _ (by decide)
          have r1_5_I_70 : I_70 1 5 = Ia 1 5 := Kp_at kI_70 1 5 (by decide)
          have r8_1_I_70 : I_70 8 1 = Ia 8 1 := Kp_at kI_70 8 1 (by decide)
          have rf_I_70 : FU (I_70 1 5) = FU (Ia 1 5) := by rw [r1_5_I_70]
          have lI_70 : LR I_70 := by rw [eI_70]; exact LR_6 lI_62 (by omega) (by omega)
          have wI_70 := (congrFun (congrFun eI_70 10) 6).trans (up2_s _ _ _ _)
          have wI_70_7 : I_70 10 7 = I_62 10 7 := by rw [eI_70, up2_n _ _ (Or.inr (by decide))]
          have wI_70_8 : I_70 10 8 = I_62 10 8 := by rw [eI_70, up2_n _ _ (Or.inr (by decide))]
          have wI_70_9 : I_70 10 9 = I_62 10 9 := by rw [eI_70, up2_n _ _ (Or.inr (by decide))]
          have wI_70_10 : I_70 10 10 = I_62 10 10 := by rw [eI_70, up2_n _ _ (Or.inr (by decide))]
          have wI_70_11 : I_70 10 11 = I_62 10 11 := by rw [eI_70, up2_n _ _ (Or.inr (by decide))]
          have y13_I_70 : I_70 13 = I_62 13 := by rw [eI_70, up2_off _ _ _ (by decide)]
          have y14_I_70 : I_70 14 = I_62 14 := by rw [eI_70, up2_off _ _ _ (by decide)]
          have z0I_70 : I_70 10 0 = I_62 10 0 := by rw [eI_70, up2_n _ _ (Or.inr (by decide))]
          have y11_70 : I_70 11 = up1 (I2 11) dn.length x_59 := by rw [eI_70, up2_off _ _ _ (by decide), y11_62]
          have y12_70 : I_70 12 = up1 (I2 12) dn.length q := by rw [eI_70, up2_off _ _ _ (by decide), y12_62]
          have hdn2 : zDn f (dn ++ [(q.toNat, zSt f N q.toNat)]) (I_70 11) (I_70 12) := by rw [y11_70, y12_70]; exact zDn_ad hdn hko (by omega)
          have y9_70 : I_70 9 = Ia 9 := by rw [eI_70, up2_off _ _ _ (by decide), eI_62, up2_off _ _ _ (by decide)]; exact y9_47
          have hf70 : ∀ j, j < N → f j = I_70 9 j := by rw [y9_70]; exact hf
          have hN70 : I_70 8 1 = N := by rw [r8_1_I_70]; exact hN
          refine ww_aload_n hX (pc := 73) dX7_findTokens_73 rfl ?_
          refine ww_iload_n hX (pc := 74) dX7_findTokens_74 rfl ?_
          refine vI1 hX (pc := 75) sX7_125 (xs_10 hL) (c6_X7_skipBlanks l0 hL (XI_kp hI kI_70 (by decide)) hN70 hf70 (by omega) (by omega)) (by decide) (Nat.le_refl 0) (Nat.le_refl 0) (Nat.le_of_ble_eq_true rfl) dX7_findTokens_75 (fun x_75 I_75 J_75 h_75 => ?_)
          obtain ⟨rfl, rfl, h_75⟩ := h_75
          refine ww_istore_n hX (pc := 78) (lv' := [some (kR (some 10)), some (kI x_75), some (kI x_34)]) dX7_findTokens_78 (by decide) rfl rfl ?_
          refine ww_goto hX (pc := 79) (tgt := 11) dX7_findTokens_79 (by decide) ?_
          refine ww_sub [some (kR (some 10)), some (kI x_75), none] (aLe_s (aLe_s (aLe_n aLe_0))) ?_
          exact ih_11 _ (by have hm9 := Sh0_e hq_11; omega) x_75 I_70 J2 rfl ⟨kI_70, kJ2, lI_70, trivial, by omega, (fun h9 => h_75.2.1 (by omega)), dn ++ [(q.toNat, zSt f N q.toNat)], (by rw [ht9, zTk_t (by omega) (hb9 (by omega)), List.append_assoc, List.singleton_append, h_75.2.2, show x_34.toNat = zSt f N q.toNat by omega]), (by rw [List.length_append, List.length_singleton, wI_70]; omega), (by rw [List.length_append, List.length_singleton]; omega), hdn2⟩
  exact hl_11 _ x_7 I_2 Ja rfl ⟨kI_2, (Kp_rf (a := 10) (b := 15)), lI_2, trivial, by omega, (fun h9 => h_7.2.1 (by omega)), [], h_7.2.2.symm, (by rw [wI_2]; rfl), (by show (0 : Int) ≤ _; omega), zDn_0⟩
end
section
theorem zLO_0 {I I' : aI1} {T : Nat} {x : Int} {r : Nat ⊕ List zQ} (h : zLO I I' T x r) (hx : x = 0) : ∃ f, r = .inl f ∧ f ≤ T ∧ I' 10 0 = I 12 f := by
  cases r with
  | inl f => exact ⟨f, rfl, h.2⟩
  | inr q => exact absurd h.1 (by omega)
theorem zLO_1 {I I' : aI1} {T : Nat} {x : Int} {r : Nat ⊕ List zQ} (h : zLO I I' T x r) (hx : x = 1) : ∃ qs, r = .inr qs ∧ I' 10 11 = qs.length ∧ zCs (I' 13) (I' 14) qs ∧ (∀ i, i ≤ qs.length → i ≠ 0 → I' 14 (2 * i) ≤ I' 10 9) ∧ I' 10 0 = I 10 0 := by
  cases r with
  | inl f => exact absurd h.1 (by omega)
  | inr q => exact ⟨q, rfl, h.2⟩
theorem zCs_cp {sp sp2 mk mk2 : Nat → Int} {qs : List zQ} {b : Int} (h : zCs sp mk qs) (hb : ∀ i, i ≤ qs.length → i ≠ 0 → mk (2 * i) ≤ b) (hs : ∀ j : Nat, (j : Int) < b → sp2 j = sp j) (hm : ∀ j : Nat, j < 2 * qs.length + 1 → mk2 j = mk j) : zCs sp2 mk2 qs := fun i q hq => by
  have hi := (List.getElem?_eq_some_iff.mp hq).1
  have h1 := h i q hq
  have h2 := hb (i + 1) (by omega) (by omega)
  rw [show 2 * (i + 1) = 2 * i + 2 by omega] at h2
  rw [hm _ (by omega), hm _ (by omega), hm _ (by omega)]
  exact zCS_cg h1 (fun j hj => hs j (by omega))
/-- a law that was understood: what its clauses tell -/
def zLR (I : aI1) (S : aS1) (w : Nat) (qs : List zQ) : Prop := I w 2 = qs.length ∧ qs.length ≤ 12 ∧ zCs (I (w + 1)) (I (w + 2)) qs ∧ ∃ n, S[w + 1]? = some (0, n) ∧ n ≤ 400 ∧ (∀ i, i ≤ qs.length → i ≠ 0 → I (w + 2) (2 * i) ≤ n) ∧ S[w + 2]? = some (0, 2 * qs.length + 1)
/-- what a TEXT tells -/
def zTx (f : Nat → Int) (N : Nat) : Nat ⊕ List zQ := zLw (zCd f (zTk f N 0)) (zVl f (zTk f N 0)) (zTk f N 0).length 12 0 0
set_option maxHeartbeats 4000000 in
set_option maxRecDepth 20000 in
theorem c6_X7_understand (l0 : Launch) {Ia Ja : aI1} {Ra : aR1} {Sa : aS1} (hL : LY Ra Sa) (hI : XI Ia) (hR : LR Ia) {z : Nat} (hz : Sa.length = z) (hz73 : 73 ≤ z) {f : Nat → Int} {N : Nat} (hN : Ia 8 1 = N) (hf : ∀ j, j < N → f j = Ia 9 j)  : CT l0 293 3 428 mX7_understand [kR (some 10)] Ia Ja Ra Sa (dR (fun x I' J' R' S' => (∀ a, a < z → (a < 10 ∨ 15 ≤ a) → I' a = Ia a) ∧ (∀ a, a < z → (a < 10 ∨ 15 ≤ a) → J' a = Ja a) ∧ LR I' ∧ (∀ a, a < z → R' a = Ra a) ∧ ((x = none ∧ Sa = S' ∧ ∃ fp, zTx f N = .inl fp ∧ I' 10 0 = zPc N (zTk f N 0) fp) ∨ (x = some z ∧ ∃ N1 N2, N1 ≤ 400 ∧ N2 ≤ 25 ∧ S' = Sa ++ [(12, 0)] ++ [(0, N1)] ++ [(0, N2)] ∧ LawOK I' R' S' z ∧ ∃ qs, zTx f N = .inr qs ∧ I' 10 0 = -1 ∧ zLR I' S' z qs)))) := by
  refine ct_in pn_X7 (Nat.le_of_ble_eq_true rfl) (fun X hX hT hIn => ?_)
  have hX : aK l0 X cX7_understand 1 RX7 (some (.object "LitCoast$Law")) 293 3 428 := hX
  change WW X 0 [some (kR (some 10))] [] Ia Ja Ra Sa 0 0
  obtain ⟨hn1, hn2⟩ := hI.1
  obtain ⟨hk1, hk2⟩ := hI.2.1
  obtain ⟨hf1, hf2⟩ := hI.fu
  obtain ⟨hl1, hl2⟩ := hI.2.2.2.2.2.2.1
  have hq := hR.1
  unfold LRf at hq
  refine ww_aload_n hX (pc := 0) dX7_understand_0 rfl ?_
  refine vV0 hX (pc := 1) sX7_32 (xs_10 hL) (c6_X7_findTokens l0 hL hI hR hN hf) (by decide) (Nat.zero_le _) (Nat.zero_le _) (Nat.le_of_ble_eq_true rfl) dX7_understand_1 (fun I_1 J_1 h_1 => ?_)
  have kI_1 : Kp 10 15 Ia I_1 := Kp_tr (Kp_rf (a := 10) (b := 15)) (Kp_wd h_1.1 (by decide) (by decide))
  have kJ_1 : Kp 10 15 Ja J_1 := Kp_tr (Kp_rf (a := 10) (b := 15)) (Kp_wd h_1.2.1 (by decide) (by decide))
  have r1_5_I_1 : I_1 1 5 = Ia 1 5 := Kp_at kI_1 1 5 (by decide)
  have r8_1_I_1 : I_1 8 1 = Ia 8 1 := Kp_at kI_1 8 1 (by decide)
  have rf_I_1 : FU (I_1 1 5) = FU (Ia 1 5) := by rw [r1_5_I_1]
  have lI_1 : LR I_1 := h_1.2.2.1
  have qI_1 := lI_1.1
  unfold LRf at qI_1
  obtain ⟨cd, hcd⟩ : ∃ c, c = zCd f (zTk f N 0) := ⟨_, rfl⟩
  obtain ⟨vl, hvd⟩ : ∃ c, c = zVl f (zTk f N 0) := ⟨_, rfl⟩
  obtain ⟨T, hTd⟩ : ∃ c, c = (zTk f N 0).length := ⟨_, rfl⟩
  have tkI_1 : zTK I_1 cd vl T := by rw [hcd, hvd, hTd]; exact h_1.2.2.2.2.1
  have plI_1 := h_1.2.2.2.2.2
  refine ww_aload_n hX (pc := 4) dX7_understand_4 rfl ?_
  refine ww_iconst hX (pc := 5) (x := 0) dX7_understand_5 rfl ?_
  refine ww_putI hX (pc := 6) (fun h9 => absurd h9 (by decide)) gX7_35 rfl (xs_10 hL) dX7_understand_6 ?_
  refine ww_nmH (fun I_6 eI_6 => ?_)
  have kI_6 : Kp 10 15 Ia I_6 := by rw [eI_6]; exact Kp_up kI_1 _ _ (by decide)
  have r1_5_I_6 : I_6 1 5 = Ia 1 5 := Kp_at kI_6 1 5 (by decide)
  have r8_1_I_6 : I_6 8 1 = Ia 8 1 := Kp_at kI_6 8 1 (by decide)
  have rf_I_6 : FU (I_6 1 5) = FU (Ia 1 5) := by rw [r1_5_I_6]
  have lI_6 : LR I_6 := by rw [eI_6]; exact LR_7 lI_1 (by omega) (by omega)
  have wI_6 := (congrFun (congrFun eI_6 10) 7).trans (up2_s _ _ _ _)
  have wI_6_6 : I_6 10 6 = I_1 10 6 := by rw [eI_6, up2_n _ _ (Or.inr (by decide))]
  have wI_6_8 : I_6 10 8 = I_1 10 8 := by rw [eI_6, up2_n _ _ (Or.inr (by decide))]
  have wI_6_9 : I_6 10 9 = I_1 10 9 := by rw [eI_6, up2_n _ _ (Or.inr (by decide))]
  have wI_6_10 : I_6 10 10 = I_1 10 10 := by rw [eI_6, up2_n _ _ (Or.inr (by decide))]
  have wI_6_11 : I_6 10 11 = I_1 10 11 := by rw [eI_6, up2_n _ _ (Or.inr (by decide))]
  have fsI_6 : zFr I_1 I_6 := by rw [eI_6]; exact zFr_f zFr_rf (by decide)
  have y13_I_6 : I_6 13 = I_1 13 := by rw [eI_6, up2_off _ _ _ (by decide)]
  have y14_I_6 : I_6 14 = I_1 14 := by rw [eI_6, up2_off _ _ _ (by decide)]
  have z0I_6 : I_6 10 0 = I_1 10 0 := by rw [eI_6, up2_n _ _ (Or.inr (by decide))]
  have tkI_6 : zTK I_6 cd vl T := zTK_f tkI_1 fsI_6
  refine ww_aload_n hX (pc := 9) dX7_understand_9 rfl ?_
  refine ww_aload_n hX (pc := 10) dX7_understand_10 rfl ?_
  refine ww_getR hX (pc := 11) fX7_15 (by decide) (xs_10 hL) (xr_10_2 hL) dX7_understand_11 ?_
  refine ww_iconst hX (pc := 14) (x := 0) dX7_understand_14 rfl ?_
  refine ww_iald hX (pc := 15) (xs_11 hL) (by decide) (by omega) (by omega) dX7_understand_15 ?_
  have hk0 : -1000 ≤ I_6 11 (Int.toNat 0) ∧ I_6 11 (Int.toNat 0) ≤ 1400 := lI_6.2.1 0 (by decide)
  refine ww_putI hX (pc := 16) (fun h9 => absurd h9 (by decide)) gX7_38 rfl (xs_10 hL) dX7_understand_16 ?_
  refine ww_nmH (fun I_16 eI_16 => ?_)
  have kI_16 : Kp 10 15 Ia I_16 := by rw [eI_16]; exact Kp_up kI_6 _ _ (by decide)
  have r1_5_I_16 : I_16 1 5 = Ia 1 5 := Kp_at kI_16 1 5 (by decide)
  have r8_1_I_16 : I_16 8 1 = Ia 8 1 := Kp_at kI_16 8 1 (by decide)
  have rf_I_16 : FU (I_16 1 5) = FU (Ia 1 5) := by rw [r1_5_I_16]
  have lI_16 : LR I_16 := by rw [eI_16]; exact LR_8 lI_6 (by omega) (by omega)
  have wI_16 := (congrFun (congrFun eI_16 10) 8).trans (up2_s _ _ _ _)
  have wI_16_6 : I_16 10 6 = I_6 10 6 := by rw [eI_16, up2_n _ _ (Or.inr (by decide))]
  have wI_16_7 : I_16 10 7 = I_6 10 7 := by rw [eI_16, up2_n _ _ (Or.inr (by decide))]
  have wI_16_9 : I_16 10 9 = I_6 10 9 := by rw [eI_16, up2_n _ _ (Or.inr (by decide))]
  have wI_16_10 : I_16 10 10 = I_6 10 10 := by rw [eI_16, up2_n _ _ (Or.inr (by decide))]
  have wI_16_11 : I_16 10 11 = I_6 10 11 := by rw [eI_16, up2_n _ _ (Or.inr (by decide))]
  have fsI_16 : zFr I_6 I_16 := by rw [eI_16]; exact zFr_f zFr_rf (by decide)
  have y13_I_16 : I_16 13 = I_6 13 := by rw [eI_16, up2_off _ _ _ (by decide)]
  have y14_I_16 : I_16 14 = I_6 14 := by rw [eI_16, up2_off _ _ _ (by decide)]
  have z0I_16 : I_16 10 0 = I_6 10 0 := by rw [eI_16, up2_n _ _ (Or.inr (by decide))]
  have tkI_16 : zTK I_16 cd vl T := zTK_f tkI_6 fsI_16
  refine ww_aload_n hX (pc := 19) dX7_understand_19 rfl ?_
  refine ww_iconst hX (pc := 20) (x := 0) dX7_understand_20 rfl ?_
  refine ww_putI hX (pc := 21) (fun h9 => absurd h9 (by decide)) gX7_41 rfl (xs_10 hL) dX7_understand_21 ?_
  refine ww_nmH (fun I_21 eI_21 => ?_)
  have kI_21 : Kp 10 15 Ia I_21 := by rw [eI_21]; exact Kp_up kI_16 _ _ (by decide)
  have r1_5_I_21 : I_21 1 5 = Ia 1 5 := Kp_at kI_21 1 5 (by decide)
  have r8_1_I_21 : I_21 8 1 = Ia 8 1 := Kp_at kI_21 8 1 (by decide)
  have rf_I_21 : FU (I_21 1 5) = FU (Ia 1 5) := by rw [r1_5_I_21]
  have lI_21 : LR I_21 := by rw [eI_21]; exact LR_9 lI_16 (by omega) (by omega)
  have wI_21 := (congrFun (congrFun eI_21 10) 9).trans (up2_s _ _ _ _)
  have wI_21_6 : I_21 10 6 = I_16 10 6 := by rw [eI_21, up2_n _ _ (Or.inr (by decide))]
  have wI_21_7 : I_21 10 7 = I_16 10 7 := by rw [eI_21, up2_n _ _ (Or.inr (by decide))]
  have wI_21_8 : I_21 10 8 = I_16 10 8 := by rw [eI_21, up2_n _ _ (Or.inr (by decide))]
  have wI_21_10 : I_21 10 10 = I_16 10 10 := by rw [eI_21, up2_n _ _ (Or.inr (by decide))]
  have wI_21_11 : I_21 10 11 = I_16 10 11 := by rw [eI_21, up2_n _ _ (Or.inr (by decide))]
  have fsI_21 : zFr I_16 I_21 := by rw [eI_21]; exact zFr_f zFr_rf (by decide)
  have y13_I_21 : I_21 13 = I_16 13 := by rw [eI_21, up2_off _ _ _ (by decide)]
  have y14_I_21 : I_21 14 = I_16 14 := by rw [eI_21, up2_off _ _ _ (by decide)]
  have z0I_21 : I_21 10 0 = I_16 10 0 := by rw [eI_21, up2_n _ _ (Or.inr (by decide))]
  have tkI_21 : zTK I_21 cd vl T := zTK_f tkI_16 fsI_21
  refine ww_aload_n hX (pc := 24) dX7_understand_24 rfl ?_
  refine ww_iconst hX (pc := 25) (x := 0) dX7_understand_25 rfl ?_
  refine ww_putI hX (pc := 26) (fun h9 => absurd h9 (by decide)) gX7_44 rfl (xs_10 hL) dX7_understand_26 ?_
  refine ww_nmH (fun I_26 eI_26 => ?_)
  have kI_26 : Kp 10 15 Ia I_26 := by rw [eI_26]; exact Kp_up kI_21 _ _ (by decide)
  have r1_5_I_26 : I_26 1 5 = Ia 1 5 := Kp_at kI_26 1 5 (by decide)
  have r8_1_I_26 : I_26 8 1 = Ia 8 1 := Kp_at kI_26 8 1 (by decide)
  have rf_I_26 : FU (I_26 1 5) = FU (Ia 1 5) := by rw [r1_5_I_26]
  have lI_26 : LR I_26 := by rw [eI_26]; exact LR_10 lI_21 (by omega) (by omega)
  have wI_26 := (congrFun (congrFun eI_26 10) 10).trans (up2_s _ _ _ _)
  have wI_26_6 : I_26 10 6 = I_21 10 6 := by rw [eI_26, up2_n _ _ (Or.inr (by decide))]
  have wI_26_7 : I_26 10 7 = I_21 10 7 := by rw [eI_26, up2_n _ _ (Or.inr (by decide))]
  have wI_26_8 : I_26 10 8 = I_21 10 8 := by rw [eI_26, up2_n _ _ (Or.inr (by decide))]
  have wI_26_9 : I_26 10 9 = I_21 10 9 := by rw [eI_26, up2_n _ _ (Or.inr (by decide))]
  have wI_26_11 : I_26 10 11 = I_21 10 11 := by rw [eI_26, up2_n _ _ (Or.inr (by decide))]
  have fsI_26 : zFr I_21 I_26 := by rw [eI_26]; exact zFr_f zFr_rf (by decide)
  have y13_I_26 : I_26 13 = I_21 13 := by rw [eI_26, up2_off _ _ _ (by decide)]
  have y14_I_26 : I_26 14 = I_21 14 := by rw [eI_26, up2_off _ _ _ (by decide)]
  have z0I_26 : I_26 10 0 = I_21 10 0 := by rw [eI_26, up2_n _ _ (Or.inr (by decide))]
  have tkI_26 : zTK I_26 cd vl T := zTK_f tkI_21 fsI_26
  refine ww_aload_n hX (pc := 29) dX7_understand_29 rfl ?_
  refine ww_iconst hX (pc := 30) (x := 0) dX7_understand_30 rfl ?_
  refine ww_putI hX (pc := 31) (fun h9 => absurd h9 (by decide)) gX7_47 rfl (xs_10 hL) dX7_understand_31 ?_
  refine ww_nmH (fun I_31 eI_31 => ?_)
  have kI_31 : Kp 10 15 Ia I_31 := by rw [eI_31]; exact Kp_up kI_26 _ _ (by decide)
  have r1_5_I_31 : I_31 1 5 = Ia 1 5 := Kp_at kI_31 1 5 (by decide)
  have r8_1_I_31 : I_31 8 1 = Ia 8 1 := Kp_at kI_31 8 1 (by decide)
  have rf_I_31 : FU (I_31 1 5) = FU (Ia 1 5) := by rw [r1_5_I_31]
  have lI_31 : LR I_31 := by rw [eI_31]; exact LR_11 lI_26 (by omega) (by omega)
  have wI_31 := (congrFun (congrFun eI_31 10) 11).trans (up2_s _ _ _ _)
  have wI_31_6 : I_31 10 6 = I_26 10 6 := by rw [eI_31, up2_n _ _ (Or.inr (by decide))]
  have wI_31_7 : I_31 10 7 = I_26 10 7 := by rw [eI_31, up2_n _ _ (Or.inr (by decide))]
  have wI_31_8 : I_31 10 8 = I_26 10 8 := by rw [eI_31, up2_n _ _ (Or.inr (by decide))]
  have wI_31_9 : I_31 10 9 = I_26 10 9 := by rw [eI_31, up2_n _ _ (Or.inr (by decide))]
  have wI_31_10 : I_31 10 10 = I_26 10 10 := by rw [eI_31, up2_n _ _ (Or.inr (by decide))]
  have fsI_31 : zFr I_26 I_31 := by rw [eI_31]; exact zFr_f zFr_rf (by decide)
  have y13_I_31 : I_31 13 = I_26 13 := by rw [eI_31, up2_off _ _ _ (by decide)]
  have y14_I_31 : I_31 14 = I_26 14 := by rw [eI_31, up2_off _ _ _ (by decide)]
  have z0I_31 : I_31 10 0 = I_26 10 0 := by rw [eI_31, up2_n _ _ (Or.inr (by decide))]
  have tkI_31 : zTK I_31 cd vl T := zTK_f tkI_26 fsI_31
  refine ww_aload_n hX (pc := 34) dX7_understand_34 rfl ?_
  refine ww_iconst hX (pc := 35) (x := (-1)) dX7_understand_35 rfl ?_
  refine ww_putI hX (pc := 36) (fun h9 => absurd h9 (by decide)) gX7_9 rfl (xs_10 hL) dX7_understand_36 ?_
  refine ww_nmH (fun I_36 eI_36 => ?_)
  have kI_36 : Kp 10 15 Ia I_36 := by rw [eI_36]; exact Kp_up kI_31 _ _ (by decide)
  have r1_5_I_36 : I_36 1 5 = Ia 1 5 := Kp_at kI_36 1 5 (by decide)
  have r8_1_I_36 : I_36 8 1 = Ia 8 1 := Kp_at kI_36 8 1 (by decide)
  have rf_I_36 : FU (I_36 1 5) = FU (Ia 1 5) := by rw [r1_5_I_36]
  have lI_36 : LR I_36 := by rw [eI_36]; exact LR_0 lI_31
  have wI_36 := (congrFun (congrFun eI_36 10) 0).trans (up2_s _ _ _ _)
  have wI_36_6 : I_36 10 6 = I_31 10 6 := by rw [eI_36, up2_n _ _ (Or.inr (by decide))]
  have wI_36_7 : I_36 10 7 = I_31 10 7 := by rw [eI_36, up2_n _ _ (Or.inr (by decide))]
  have wI_36_8 : I_36 10 8 = I_31 10 8 := by rw [eI_36, up2_n _ _ (Or.inr (by decide))]
  have wI_36_9 : I_36 10 9 = I_31 10 9 := by rw [eI_36, up2_n _ _ (Or.inr (by decide))]
  have wI_36_10 : I_36 10 10 = I_31 10 10 := by rw [eI_36, up2_n _ _ (Or.inr (by decide))]
  have wI_36_11 : I_36 10 11 = I_31 10 11 := by rw [eI_36, up2_n _ _ (Or.inr (by decide))]
  have fsI_36 : zFr I_31 I_36 := by rw [eI_36]; exact zFr_f zFr_rf (by decide)
  have y13_I_36 : I_36 13 = I_31 13 := by rw [eI_36, up2_off _ _ _ (by decide)]
  have y14_I_36 : I_36 14 = I_31 14 := by rw [eI_36, up2_off _ _ _ (by decide)]
  have tkI_36 : zTK I_36 cd vl T := zTK_f tkI_31 fsI_36
  have y12_36 : I_36 12 = I_1 12 := fsI_36.2.1.trans (fsI_31.2.1.trans (fsI_26.2.1.trans (fsI_21.2.1.trans (fsI_16.2.1.trans fsI_6.2.1))))
  have y11_36 : I_36 11 = I_1 11 := fsI_36.1.trans (fsI_31.1.trans (fsI_26.1.trans (fsI_21.1.trans (fsI_16.1.trans fsI_6.1))))
  have hk36 : I_36 10 8 = I_36 11 0 := by
    have h9 : I_16 10 8 = I_6 11 0 := wI_16
    rw [y11_36, ← fsI_6.1]; omega
  have z36 : I_36 10 0 = -1 := by rw [eI_36, up2_s]
  refine ww_aload_n hX (pc := 39) dX7_understand_39 rfl ?_
  refine vI0 hX (pc := 40) sX7_50 (xs_10 hL) (c6_X7_takeClauses l0 hL (XI_kp hI kI_36 (by decide)) lI_36 tkI_36 (show zAt I_36 T 0 0 from ⟨by omega, Nat.zero_le _, hk36, by omega, by omega, by have h9 := tkI_36.2.2.2.2.2 0 (Nat.zero_le _); omega⟩) (by omega)) (by decide) (Nat.zero_le _) (Nat.zero_le _) (Nat.le_of_ble_eq_true rfl) dX7_understand_40 (fun x_40 I_40 J_40 h_40 => ?_)
  have kI_40 : Kp 10 15 Ia I_40 := Kp_tr kI_36 (Kp_wd h_40.1 (by decide) (by decide))
  have kJ_40 : Kp 10 15 Ja J_40 := Kp_tr kJ_1 (Kp_wd h_40.2.1 (by decide) (by decide))
  have r1_5_I_40 : I_40 1 5 = Ia 1 5 := Kp_at kI_40 1 5 (by decide)
  have r8_1_I_40 : I_40 8 1 = Ia 8 1 := Kp_at kI_40 8 1 (by decide)
  have rf_I_40 : FU (I_40 1 5) = FU (Ia 1 5) := by rw [r1_5_I_40]
  have lI_40 : LR I_40 := h_40.2.2.1
  have qI_40 := lI_40.1
  unfold LRf at qI_40
  have f3I_40 := h_40.2.2.2.1
  have xrI_40 := h_40.2.2.2.2.1
  have yI_40 : zLO I_36 I_40 (zTk f N 0).length x_40 (zTx f N) := by
    have h9 := h_40.2.2.2.2.2
    rw [hcd, hvd, hTd] at h9
    exact h9
  refine ww_if_ne hX (pc := 43) (tgt := 48) dX7_understand_43 (by decide) (fun h_43 => ?_) (fun h_43 => ?_)
  · simp only [w32_mod] at h_43
    obtain ⟨qs, hqs1, hqs2, hqs3, hqs4, hqs5⟩ := zLO_1 yI_40 (by omega)
    refine ww_newz hX (pc := 48) 3 (z := z) hz cl_6 tb_648 tb_649 tb_18 rfl (by omega) (by omega) dX7_understand_48 ?_
    refine ww_nmH (fun I_48 eI_48 => ?_)
    refine ww_nmK (fun J_48 eJ_48 => ?_)
    have e9 : ∀ a, a < z → I_48 a = I_40 a := fun a ha => by rw [eI_48, upR_n _ _ (by omega)]
    have e10 : I_48 10 = I_40 10 := e9 10 (by omega)
    refine ww_dupR hX (pc := 51) dX7_understand_51 ?_
    refine ww_aload_n hX (pc := 52) dX7_understand_52 rfl ?_
    refine ww_getR hX (pc := 53) fX7_22 (by decide) (sz_l (xs_10 hL)) (by rw [upR_n _ _ (by omega)]; exact xr_10_4 hL) dX7_understand_53 ?_
    refine ww_aload_n hX (pc := 56) dX7_understand_56 rfl ?_
    refine ww_getI hX (pc := 57) fX7_41 (by decide) (sz_l (xs_10 hL)) dX7_understand_57 ?_
    obtain ⟨N1, hN1⟩ : ∃ N : Nat, I_48 10 9 = (N : Int) := ⟨(I_48 10 9).toNat, by rw [e10]; omega⟩
    have hN1' : N1 ≤ 400 := by rw [e10] at hN1; omega
    refine ww_callS hX (pc := 60) (av := [kR (some 13), kI (I_48 10 9)]) sX7_56 (c_J7_copyOf_59c91 l0 (N := N1) (sz_l (xs_13 hL)) (lz hz) hN1 hN1' (by decide)) rfl (by decide) (by omega) (by omega) (Nat.le_of_ble_eq_true rfl) dX7_understand_60 (fun r_60 I_60 J_60 R_60 S_60 h_60 => ?_)
    obtain ⟨_, rfl, rfl, rfl, rfl, rfl, hI_60, hj_60⟩ := h_60
    change WW X 63 [some (kR (some 10))] [kR (some (z + 1)), kR (some z), kR (some z)] I_60 J_48 _ _ _ _
    refine ww_aload_n hX (pc := 63) dX7_understand_63 rfl ?_
    refine ww_getR hX (pc := 64) fX7_25 (by decide) (sz_l (sz_l (xs_10 hL))) (by rw [upR_n _ _ (by omega)]; exact xr_10_5 hL) dX7_understand_64 ?_
    refine ww_iconst hX (pc := 67) (x := 2) dX7_understand_67 rfl ?_
    refine ww_aload_n hX (pc := 68) dX7_understand_68 rfl ?_
    refine ww_getI hX (pc := 69) fX7_47 (by decide) (sz_l (sz_l (xs_10 hL))) dX7_understand_69 ?_
    refine ww_imul hX (pc := 72) dX7_understand_72 ?_
    refine ww_iconst hX (pc := 73) (x := 1) dX7_understand_73 rfl ?_
    refine ww_iadd hX (pc := 74) dX7_understand_74 ?_
    refine ww_nmI (fun v_74 hv_74 => ?_)
    have e11 : I_60 10 = I_40 10 := (hI_60 10 (by omega)).trans e10
    rw [e11] at hv_74
    obtain ⟨N2, hN2⟩ : ∃ N : Nat, v_74 = (N : Int) := ⟨v_74.toNat, by omega⟩
    have hN2' : N2 ≤ 25 := by omega
    refine ww_callS hX (pc := 75) (av := [kR (some 14), kI v_74]) sX7_56 (c_J7_copyOf_59c91 l0 (N := N2) (sz_l (sz_l (xs_14 hL))) (lz (lz hz)) hN2 hN2' (by decide)) rfl (by decide) (by omega) (by omega) (Nat.le_of_ble_eq_true rfl) dX7_understand_75 (fun r_75 I_75 J_75 R_75 S_75 h_75 => ?_)
    obtain ⟨_, rfl, rfl, rfl, rfl, rfl, hI_75, hj_75⟩ := h_75
    change WW X 78 [some (kR (some 10))] [kR (some (z + 2)), kR (some (z + 1)), kR (some z), kR (some z)] I_75 J_48 _ _ _ _
    refine ww_aload_n hX (pc := 78) dX7_understand_78 rfl ?_
    refine ww_getI hX (pc := 79) fX7_47 (by decide) (sz_l (sz_l (sz_l (xs_10 hL)))) dX7_understand_79 ?_
    refine ww_callI hX (pc := 82) (av := [kR (some (z + 1)), kR (some (z + 2)), kI (I_75 10 11)]) sX7_62 (c_X6_init l0 (sz_l (sz_l (sz_n hz)))) rfl (by decide) (by omega) (by omega) (Nat.le_of_ble_eq_true rfl) dX7_understand_82 (fun r_82 I_82 J_82 R_82 S_82 h_82 => ?_)
    obtain ⟨rfl, rfl, rfl, rfl, rfl⟩ := h_82
    change WW X 85 [some (kR (some 10))] [kR (some z)] _ J_48 _ _ _ _
    have e12 : I_75 10 = I_40 10 := (hI_75 10 (by omega)).trans e11
    have e13 : ∀ a, a < z → up2 I_75 z 2 (I_75 10 11) a = I_40 a := fun a ha => by
      rw [up2_off _ _ _ (by omega), hI_75 a (by omega), hI_60 a (by omega), e9 a ha]
    have hzl : zLR (up2 I_75 z 2 (I_75 10 11)) (Sa ++ [(12, 0)] ++ [(0, N1)] ++ [(0, N2)]) z qs := by
      have hc11 : I_75 10 11 = qs.length := by rw [e12]; exact hqs2
      refine ⟨by rw [up2_s]; exact hc11, by omega, ?_, N1, sz_l (sz_n (lz hz)), hN1', fun i hi h0 => ?_, ?_⟩
      · refine zCs_cp hqs3 hqs4 (fun j hj => ?_) (fun j hj => ?_)
        · rw [up2_off _ _ _ (by omega), hI_75 _ (by omega), hj_60 j (by rw [e10] at hN1; omega), e9 13 (by omega)]
        · rw [up2_off _ _ _ (by omega), hj_75 j (by omega), hI_60 14 (by omega), e9 14 (by omega)]
      · rw [up2_off _ _ _ (by omega), hj_75 _ (by omega), hI_60 14 (by omega), e9 14 (by omega)]
        have h9 := hqs4 i hi h0
        rw [e10] at hN1
        omega
      · rw [show 2 * qs.length + 1 = N2 by omega]
        exact sz_n (lz (lz hz))
    refine ww_aret hX (pc := 85) hT (Or.inl ⟨_, rfl⟩) (by omega) (by omega) dX7_understand_85 ⟨_, rfl, fun a ha h => (e13 a ha).trans (kI_40 a (by omega)), fun a ha h => by rw [eJ_48, upR_n _ _ (by omega)]; exact kJ_40 a (by omega), ?_, fun a ha => by rw [up2_off _ _ _ (by omega), up2_off _ _ _ (by omega), upR_n _ _ (by omega)], Or.inr ⟨rfl, N1, N2, hN1', hN2', rfl, ⟨hz73, sz_l (sz_l (sz_n hz)), by rw [up2_n _ _ (Or.inr (by decide)), up2_s], by rw [up2_s], ?_, ⟨N1, hN1', sz_l (sz_n (lz hz)), fun j hj => ?_⟩, ⟨N2, hN2', sz_n (lz (lz hz)), fun j hj => ?_⟩⟩, qs, hqs1, by rw [e13 10 (by omega)]; omega, hzl⟩⟩
    · unfold LR
      rw [e13 10 (by omega), e13 11 (by omega), e13 13 (by omega), e13 14 (by omega)]
      exact lI_40
    · rw [up2_s, e12]; omega
    · rw [up2_off _ _ _ (by omega), hI_75 _ (by omega), hj_60 j hj, e9 13 (by omega)]
      exact lI_40.2.2.1 j (by omega)
    · rw [up2_off _ _ _ (by omega), hj_75 j hj, hI_60 14 (by omega), e9 14 (by omega)]
      exact lI_40.2.2.2 j (by omega)
  · simp only [w32_mod] at h_43
    obtain ⟨fp, hfp1, hfp2, hfp3⟩ := zLO_0 yI_40 (by omega)
    refine ww_null hX (pc := 46) dX7_understand_46 ?_
    exact ww_aret hX (pc := 47) hT (Or.inl ⟨_, rfl⟩) (by omega) (by omega) dX7_understand_47 ⟨_, rfl, fun a _ h => kI_40 a (by omega), fun a _ h => kJ_40 a (by omega), lI_40, fun a _ => rfl, Or.inl ⟨rfl, rfl, fp, hfp1, by rw [hfp3, y12_36, plI_1 fp hfp2]⟩⟩
end
section
/-- the reference's row of words -/
def zWt : List Int := [114, 101, 97, 100, 115, 32, 105, 102, 32, 111, 114, 32, 97, 110, 100, 32, 110, 111, 116, 32, 115, 116, 97, 116, 101, 32, 108, 105, 116, 32, 115, 117, 109, 32, 109, 105, 120, 32, 102, 105, 114, 115, 116, 32, 108, 97, 115, 116, 32, 108, 97, 109, 112, 115, 32, 110, 101, 119, 115, 32]
def zWk : List Nat := [0, 6, 9, 12, 16, 20, 26, 30, 34, 38, 44, 49, 55, 60]
def WD (I : aI1) : Prop := ∀ i, i < 60 → I 54 i = zWt.getD i 0
theorem zWt_ok {j : Nat} (hj : j < 13) : zWk.getD (j + 1) 0 = zWk.getD j 0 + (zWs.getD j []).length + 1 ∧ zWk.getD j 0 + (zWs.getD j []).length ≤ 59 ∧ zWt.getD (zWk.getD j 0 + (zWs.getD j []).length) 0 = 32 ∧ (zWs.getD j []).length ≤ 5 := by
  have : ∀ j : Fin 13, zWk.getD (j.val + 1) 0 = zWk.getD j.val 0 + (zWs.getD j.val []).length + 1 ∧ zWk.getD j.val 0 + (zWs.getD j.val []).length ≤ 59 ∧ zWt.getD (zWk.getD j.val 0 + (zWs.getD j.val []).length) 0 = 32 ∧ (zWs.getD j.val []).length ≤ 5 := by decide
  exact this ⟨j, hj⟩
theorem zWt_at {j i : Nat} (hj : j < 13) (hi : i < (zWs.getD j []).length) : zWt.getD (zWk.getD j 0 + i) 0 = (zWs.getD j []).getD i 0 ∧ 97 ≤ (zWs.getD j []).getD i 0 ∧ (zWs.getD j []).getD i 0 ≤ 122 := by
  have h5 := (zWt_ok hj).2.2.2
  have : ∀ j : Fin 13, ∀ i : Fin 5, i.val < (zWs.getD j.val []).length → zWt.getD (zWk.getD j.val 0 + i.val) 0 = (zWs.getD j.val []).getD i.val 0 ∧ 97 ≤ (zWs.getD j.val []).getD i.val 0 ∧ (zWs.getD j.val []).getD i.val 0 ≤ 122 := by decide
  exact this ⟨j, hj⟩ ⟨i, by omega⟩ hi
theorem zWk_60 {j : Nat} (hj : j ≤ 13) (h : 60 ≤ zWk.getD j 0) : j = 13 := by
  have : ∀ j : Fin 14, 60 ≤ zWk.getD j.val 0 → j.val = 13 := by decide
  exact this ⟨j, by omega⟩ h
theorem zWk_le {j : Nat} (hj : j ≤ 13) : zWk.getD j 0 ≤ 60 := by
  have : ∀ j : Fin 14, zWk.getD j.val 0 ≤ 60 := by decide
  exact this ⟨j, by omega⟩
theorem zWk_lt {j : Nat} (hj : j ≤ 13) (h : ¬ 60 ≤ zWk.getD j 0) : j < 13 := by
  have : ∀ j : Fin 14, ¬ 60 ≤ zWk.getD j.val 0 → j.val < 13 := by decide
  exact this ⟨j, by omega⟩ h
theorem zEnd_all {f : Nat → Int} {n : Nat} {c : Int} : ∀ (m s q : Nat), s ≤ q → q < zEnd f n c m s → zKl (f q) = c
  | 0, s, q, h, g => by
    have g2 : q < s := g
    omega
  | m + 1, s, q, h, g => by
    by_cases hc : (s < n ∧ zKl (f s) = c) ∧ ¬ c = 0
    · rw [zEnd_s hc.1.1 hc.1.2 hc.2] at g
      by_cases e : q = s
      · rw [e]; exact hc.1.2
      · exact zEnd_all m (s + 1) q (by omega) g
    · rw [zEnd_e hc] at g
      omega
theorem zSt_all {f : Nat → Int} {n k q : Nat} (h : k ≤ q) (g : q < zSt f n k) : zKl (f q) = zKl (f k) := by
  by_cases e : q = k
  · rw [e]
  · exact zEnd_all _ _ q (show k + 1 ≤ q by omega) g
/-- the bytes of the TAPE in the reference -/
def zTB (f : Nat → Int) (N : Nat) (F : Nat → Int) : Prop := ∀ j, j < N → f j = F j % 256 ∧ -128 ≤ F j ∧ F j ≤ 127
def zRo (f : Nat → Int) (dn : List (Nat × Nat)) (F V G : Nat → Int) : Prop := ∀ t p, dn[t]? = some p → F t = zCo f p.1 p.2 ∧ V t = zVa f p.1 p.2 ∧ G t = p.1
theorem zRo_0 {f F V G : Nat → Int} : zRo f [] F V G := fun t p h => by simp at h
theorem zRo_ad {f F V G : Nat → Int} {dn : List (Nat × Nat)} {a s : Nat} {k u v : Int} (h : zRo f dn F V G) (hk : k = zCo f a s) (hu : u = zVa f a s) (hv : v = a) : zRo f (dn ++ [(a, s)]) (up1 F dn.length k) (up1 V dn.length u) (up1 G dn.length v) := fun t p hp => by
  by_cases ht : t < dn.length
  · rw [List.getElem?_append_left ht] at hp
    rw [up1_n _ _ (by omega), up1_n _ _ (by omega), up1_n _ _ (by omega)]
    exact h t p hp
  · have h2 : t = dn.length := by
      have := (List.getElem?_eq_some_iff.mp hp).1
      rw [List.length_append, List.length_singleton] at this
      omega
    subst h2
    rw [List.getElem?_append_right (Nat.le_refl _), Nat.sub_self] at hp
    cases hp
    rw [up1_s, up1_s, up1_s]
    exact ⟨hk, hu, hv⟩
theorem zRo_fin {f F V G : Nat → Int} {n : Nat} {L : List (Nat × Nat)} {v : Int} (h : zRo f L F V G) (hv : v = n) : ∀ t, t ≤ L.length → up1 F L.length 0 t = zCd f L t ∧ up1 V L.length 0 t = zVl f L t ∧ up1 G L.length v t = zPc n L t := fun t ht => by
  by_cases e : t = L.length
  · have hN : L[t]? = none := by rw [e]; exact List.getElem?_eq_none (Nat.le_refl _)
    rw [zCd_n hN, zVl_n hN, zPc_n hN, e, up1_s, up1_s, up1_s]
    exact ⟨rfl, rfl, hv⟩
  · have hs : L[t]? = some L[t] := List.getElem?_eq_getElem (by omega)
    rw [zCd_s hs, zVl_s hs, zPc_s hs, up1_n _ _ e, up1_n _ _ e, up1_n _ _ e]
    exact h t _ hs
theorem up1_up1 {g : Nat → Int} {j : Nat} {u v : Int} : up1 (up1 g j u) j v = up1 g j v := by
  funext b
  by_cases e : b = j
  · rw [e, up1_s, up1_s]
  · rw [up1_n _ _ e, up1_n _ _ e, up1_n _ _ e]
/-- what the letters, digits and others are by signed bytes -/
theorem zKl_b {x y : Int} (h : x = y % 256 ∧ -128 ≤ y ∧ y ≤ 127) : (zKl x = 1 ↔ 97 ≤ y ∧ y ≤ 122) ∧ (zKl x = 2 ↔ 48 ≤ y ∧ y ≤ 57) := by
  have h1 := zKl_1 (x := x)
  have h2 := zKl_2 (x := x)
  omega
def KLb (x y : Int) : Prop := (zKl x = 1 ↔ 97 ≤ y ∧ y ≤ 122) ∧ (zKl x = 2 ↔ 48 ≤ y ∧ y ≤ 57)
theorem zKl_B {x y : Int} (h : x = y % 256 ∧ -128 ≤ y ∧ y ≤ 127) : KLb x y := zKl_b h
set_option maxHeartbeats 4000000 in
set_option maxRecDepth 20000 in
theorem c6_X11_wordOf (l0 : Launch) {Ia Ja : aI1} {Ra : aR1} {Sa : aS1} (hL : LY Ra Sa) (hQ : RX Ia) {a b : Int} (ha0 : 0 ≤ a) (hab : a < b) (hb : b ≤ 400) {f : Nat → Int} {N : Nat} (hw : WD Ia) (hf : zTB f N (Ia 55)) (hbN : b ≤ N)  : CT l0 0 0 0 mX11_wordOf [kR (some 49), kI a, kI b] Ia Ja Ra Sa (cI (fun x I' J' => Ia = I' ∧ Ja = J' ∧ x = zWc f a.toNat b.toNat) Ra Sa) := by
  refine ct_in pn_X11 (Nat.le_of_ble_eq_true rfl) (fun X hX hT hIn => ?_)
  have hX : aK l0 X cX11_wordOf 8 RX11 (some .int) 0 0 0 := hX
  change WW X 0 [some (kR (some 49)), some (kI a), some (kI b), none, none, none, none, none] [] Ia Ja Ra Sa 0 0
  have qIa := RX_w hQ
  refine ww_iconst hX (pc := 0) (x := 1) dX11_wordOf_0 rfl ?_
  refine ww_istore_n hX (pc := 1) (lv' := [some (kR (some 49)), some (kI a), some (kI b), some (kI 1), none, none, none, none]) dX11_wordOf_1 (by decide) rfl rfl ?_
  refine ww_iconst hX (pc := 2) (x := 0) dX11_wordOf_2 rfl ?_
  refine ww_istore hX (pc := 3) (lv' := [some (kR (some 49)), some (kI a), some (kI b), some (kI 1), some (kI 0), none, none, none]) dX11_wordOf_3 (by decide) rfl rfl ?_
  have hl_5 : ∀ (n_5 : Nat) (w : Int) (k : Int), (60 - k).toNat = n_5 → ((∃ j9 : Nat, j9 ≤ 13 ∧ w = j9 + 1 ∧ k = (zWk.getD j9 0 : Nat) ∧ zWn f a.toNat b.toNat j9)) → WW X 5 [some (kR (some 49)), some (kI a), some (kI b), some (kI w), some (kI k), none, none, none] [] Ia Ja Ra Sa 0 0 := by
    intro n_5
    induction n_5 using Nat.strongRecOn with
    | ind n_5 ih_5 =>
      intro w k hm_5 hv_5
      have hq_5 := Sh0_i hm_5
      clear hm_5
      obtain ⟨j9, hj1, hj2, hj3, hj4⟩ := hv_5
      have hk60 := zWk_le hj1
      refine ww_iload hX (pc := 5) dX11_wordOf_5 rfl ?_
      refine ww_aload_n hX (pc := 7) dX11_wordOf_7 rfl ?_
      refine ww_getR hX (pc := 8) fX11_30 (by decide) (xs_49 hL) (xr_49_7 hL) dX11_wordOf_8 ?_
      refine ww_alen hX (pc := 11) (by decide) (xs_54 hL) dX11_wordOf_11 ?_
      refine ww_icmp_ge hX (pc := 12) (tgt := 126) dX11_wordOf_12 (by decide) (fun h_12 => ?_) (fun h_12 => ?_)
      · simp only [w32_mod] at h_12
        refine ww_iconst hX (pc := 126) (x := 0) dX11_wordOf_126 rfl ?_
        refine rI hX (pc := 127) hT (Nat.le_refl 0) (Nat.le_refl 0) dX11_wordOf_127 ?_
        exact ⟨rfl, rfl, (by have hj0 := zWk_60 hj1 (by omega); subst hj0; exact (zWc_no hj4).symm)⟩
      · simp only [w32_mod] at h_12
        have hj5 : j9 < 13 := zWk_lt hj1 (by omega)
        obtain ⟨ht1, ht2, ht3, ht4⟩ := zWt_ok hj5
        refine ww_iconst hX (pc := 15) (x := 0) dX11_wordOf_15 rfl ?_
        refine ww_istore hX (pc := 16) (lv' := [some (kR (some 49)), some (kI a), some (kI b), some (kI w), some (kI k), some (kI 0), none, none]) dX11_wordOf_16 (by decide) rfl rfl ?_
        have hl_18 : ∀ (n_18 : Nat) (n : Int), (59 - n).toNat = n_18 → ((0 ≤ n ∧ n ≤ (zWs.getD j9 []).length)) → WW X 18 [some (kR (some 49)), some (kI a), some (kI b), some (kI w), some (kI k), some (kI n), none, none] [] Ia Ja Ra Sa 0 0 := by
          intro n_18
          induction n_18 using Nat.strongRecOn with
          | ind n_18 ih_18 =>
            intro n hm_18 hv_18
            have hq_18 := Sh0_i hm_18
            clear hm_18
            have hu := hv_18
            refine ww_aload_n hX (pc := 18) dX11_wordOf_18 rfl ?_
            refine ww_getR hX (pc := 19) fX11_30 (by decide) (xs_49 hL) (xr_49_7 hL) dX11_wordOf_19 ?_
            refine ww_iload hX (pc := 22) dX11_wordOf_22 rfl ?_
            refine ww_iload hX (pc := 24) dX11_wordOf_24 rfl ?_
            refine ww_iadd hX (pc := 26) dX11_wordOf_26 ?_
            have hw9 : Ia 54 (k + n).toNat = zWt.getD (zWk.getD j9 0 + n.toNat) 0 := by rw [hw _ (by omega)]; exact congrArg (fun q => zWt.getD q 0) (by omega)
            refine ww_bald hX (pc := 27) (xs_54 hL) (by decide) (by omega) (by omega) dX11_wordOf_27 ?_
            refine ww_bipush hX (pc := 28) (x := 32) dX11_wordOf_28 (by decide) ?_
            refine ww_icmp_eq hX (pc := 30) (tgt := 39) dX11_wordOf_30 (by decide) (fun h_30 => ?_) (fun h_30 => ?_)
            · simp only [w32_mod] at h_30
              have hnl : n = ((zWs.getD j9 []).length : Nat) := by
                by_cases h9 : n.toNat < (zWs.getD j9 []).length
                · have h8 := zWt_at hj5 h9
                  omega
                · omega
              refine ww_iload hX (pc := 39) dX11_wordOf_39 rfl ?_
              refine ww_iload_n hX (pc := 41) dX11_wordOf_41 rfl ?_
              refine ww_iload_n hX (pc := 42) dX11_wordOf_42 rfl ?_
              refine ww_isub hX (pc := 43) dX11_wordOf_43 ?_
              refine ww_icmp_ne hX (pc := 44) (tgt := 51) dX11_wordOf_44 (by decide) (fun h_44 => ?_) (fun h_44 => ?_)
              · simp only [w32_mod] at h_44
                refine ww_iconst hX (pc := 51) (x := 0) dX11_wordOf_51 rfl ?_
                refine ww_istore hX (pc := 52) (lv' := [some (kR (some 49)), some (kI a), some (kI b), some (kI w), some (kI k), some (kI n), some (kI 0), none]) dX11_wordOf_52 (by decide) rfl rfl ?_
                refine ww_iconst hX (pc := 54) (x := 0) dX11_wordOf_54 rfl ?_
                refine ww_istore hX (pc := 55) (lv' := [some (kR (some 49)), some (kI a), some (kI b), some (kI w), some (kI k), some (kI n), some (kI 0), some (kI 0)]) dX11_wordOf_55 (by decide) rfl rfl ?_
                have hl_57 : ∀ (n_57 : Nat) (sm : Int) (i : Int), (n - i).toNat = n_57 → (((0 ≤ i ∧ i ≤ n) ∧ (sm = 0 ∨ sm = 1) ∧ (sm = 1 → n = b - a ∧ ∀ q : Nat, (q : Int) < i → f (a.toNat + q) = (zWs.getD j9 []).getD q 0) ∧ (sm = 0 → ¬ zWm f a.toNat b.toNat (zWs.getD j9 [])))) → WW X 57 [some (kR (some 49)), some (kI a), some (kI b), some (kI w), some (kI k), some (kI n), some (kI sm), some (kI i)] [] Ia Ja Ra Sa 0 0 := by
                  intro n_57
                  induction n_57 using Nat.strongRecOn with
                  | ind n_57 ih_57 =>
                    intro sm i hm_57 hv_57
                    have hq_57 := Sh0_i hm_57
                    clear hm_57
                    obtain ⟨⟨hi8, hi9⟩, hs9, hs1x, hs0x⟩ := hv_57
                    have hs8 : 0 ≤ sm ∧ sm ≤ 1 := by omega
                    obtain ⟨hs6, hs7⟩ := hs8
                    have hs1 := Sh0_i hs1x
                    have hs0 := Sh0_i hs0x
                    clear hs9 hs1x hs0x
                    refine ww_iload hX (pc := 57) dX11_wordOf_57 rfl ?_
                    refine ww_iload hX (pc := 59) dX11_wordOf_59 rfl ?_
                    refine ww_icmp_ge hX (pc := 61) (tgt := 104) dX11_wordOf_61 (by decide) (fun h_61 => ?_) (fun h_61 => ?_)
                    · simp only [w32_mod] at h_61
                      refine ww_iload hX (pc := 104) dX11_wordOf_104 rfl ?_
                      refine ww_if_eq hX (pc := 106) (tgt := 111) dX11_wordOf_106 (by decide) (fun h_106 => ?_) (fun h_106 => ?_)
                      · simp only [w32_mod] at h_106
                        have hm8 := (Sh0_e hs0) (by omega)
                        refine ww_iload hX (pc := 111) dX11_wordOf_111 rfl ?_
                        refine ww_iload hX (pc := 113) dX11_wordOf_113 rfl ?_
                        refine ww_iconst hX (pc := 115) (x := 1) dX11_wordOf_115 rfl ?_
                        refine ww_iadd hX (pc := 116) dX11_wordOf_116 ?_
                        refine ww_iadd hX (pc := 117) dX11_wordOf_117 ?_
                        refine ww_nmI (fun v_118 hv_118 => ?_)
                        refine ww_istore hX (pc := 118) (lv' := [some (kR (some 49)), some (kI a), some (kI b), some (kI w), some (kI v_118), some (kI n), some (kI sm), some (kI i)]) dX11_wordOf_118 (by decide) rfl rfl ?_
                        refine ww_iinc hX (pc := 120) (lv' := [some (kR (some 49)), some (kI a), some (kI b), some (kI (w + 1)), some (kI v_118), some (kI n), some (kI sm), some (kI i)]) dX11_wordOf_120 rfl (by decide) rfl rfl ?_
                        refine ww_goto hX (pc := 123) (tgt := 5) dX11_wordOf_123 (by decide) ?_
                        refine ww_sub [some (kR (some 49)), some (kI a), some (kI b), some (kI (w + 1)), some (kI v_118), none, none, none] (aLe_s (aLe_s (aLe_s (aLe_s (aLe_s (aLe_n (aLe_n (aLe_n aLe_0)))))))) ?_
                        exact ih_5 _ (by have hm9 := Sh0_e hq_5; omega) (w + 1) v_118 rfl (⟨j9 + 1, by omega, by omega, by omega, zWn_s hj4 hm8⟩)
                      · simp only [w32_mod] at h_106
                        have hm9 : zWm f a.toNat b.toNat (zWs.getD j9 []) := ⟨by have h8 := ((Sh0_e hs1) (by omega)).1; omega, fun q hq => ((Sh0_e hs1) (by omega)).2 q (by omega)⟩
                        refine ww_iload_n hX (pc := 109) dX11_wordOf_109 rfl ?_
                        refine rI hX (pc := 110) hT (Nat.le_refl 0) (Nat.le_refl 0) dX11_wordOf_110 ?_
                        exact ⟨rfl, rfl, (by have h9 := zWc_at hj4 hj5 hm9; omega)⟩
                    · simp only [w32_mod] at h_61
                      refine ww_iload hX (pc := 64) dX11_wordOf_64 rfl ?_
                      refine ww_if_eq hX (pc := 66) (tgt := 104) dX11_wordOf_66 (by decide) (fun h_66 => ?_) (fun h_66 => ?_)
                      · simp only [w32_mod] at h_66
                        refine ww_iload hX (pc := 104) dX11_wordOf_104 rfl ?_
                        refine ww_if_eq hX (pc := 106) (tgt := 111) dX11_wordOf_106 (by decide) (fun h_106 => ?_) (fun h_106 => ?_)
                        · simp only [w32_mod] at h_106
                          have hm8 := (Sh0_e hs0) (by omega)
                          refine ww_iload hX (pc := 111) dX11_wordOf_111 rfl ?_
                          refine ww_iload hX (pc := 113) dX11_wordOf_113 rfl ?_
                          refine ww_iconst hX (pc := 115) (x := 1) dX11_wordOf_115 rfl ?_
                          refine ww_iadd hX (pc := 116) dX11_wordOf_116 ?_
                          refine ww_iadd hX (pc := 117) dX11_wordOf_117 ?_
                          refine ww_nmI (fun v_118 hv_118 => ?_)
                          refine ww_istore hX (pc := 118) (lv' := [some (kR (some 49)), some (kI a), some (kI b), some (kI w), some (kI v_118), some (kI n), some (kI sm), some (kI i)]) dX11_wordOf_118 (by decide) rfl rfl ?_
                          refine ww_iinc hX (pc := 120) (lv' := [some (kR (some 49)), some (kI a), some (kI b), some (kI (w + 1)), some (kI v_118), some (kI n), some (kI sm), some (kI i)]) dX11_wordOf_120 rfl (by decide) rfl rfl ?_
                          refine ww_goto hX (pc := 123) (tgt := 5) dX11_wordOf_123 (by decide) ?_
                          refine ww_sub [some (kR (some 49)), some (kI a), some (kI b), some (kI (w + 1)), some (kI v_118), none, none, none] (aLe_s (aLe_s (aLe_s (aLe_s (aLe_s (aLe_n (aLe_n (aLe_n aLe_0)))))))) ?_
                          exact ih_5 _ (by have hm9 := Sh0_e hq_5; omega) (w + 1) v_118 rfl (⟨j9 + 1, by omega, by omega, by omega, zWn_s hj4 hm8⟩)
                        · simp only [w32_mod] at h_106
                          exfalso
                          omega
                      · simp only [w32_mod] at h_66
                        have hn8 : n = b - a := ((Sh0_e hs1) (by omega)).1
                        refine ww_aload_n hX (pc := 69) dX11_wordOf_69 rfl ?_
                        refine ww_getR hX (pc := 70) fX11_30 (by decide) (xs_49 hL) (xr_49_7 hL) dX11_wordOf_70 ?_
                        refine ww_iload hX (pc := 73) dX11_wordOf_73 rfl ?_
                        refine ww_iload hX (pc := 75) dX11_wordOf_75 rfl ?_
                        refine ww_iadd hX (pc := 77) dX11_wordOf_77 ?_
                        have hw8 : Ia 54 (k + i).toNat = (zWs.getD j9 []).getD i.toNat 0 := by rw [hw _ (by omega), show (k + i).toNat = zWk.getD j9 0 + i.toNat by omega]; exact (zWt_at hj5 (by omega)).1
                        have hr8 := (zWt_at hj5 (i := i.toNat) (by omega)).2
                        refine ww_bald hX (pc := 78) (xs_54 hL) (by decide) (by omega) (by omega) dX11_wordOf_78 ?_
                        refine ww_aload_n hX (pc := 79) dX11_wordOf_79 rfl ?_
                        refine ww_getR hX (pc := 80) fX11_34 (by decide) (xs_49 hL) (xr_49_8 hL) dX11_wordOf_80 ?_
                        refine ww_iload_n hX (pc := 83) dX11_wordOf_83 rfl ?_
                        refine ww_iload hX (pc := 84) dX11_wordOf_84 rfl ?_
                        refine ww_iadd hX (pc := 86) dX11_wordOf_86 ?_
                        have hf8 : f (a.toNat + i.toNat) = Ia 55 (a + i).toNat % 256 ∧ -128 ≤ Ia 55 (a + i).toNat ∧ Ia 55 (a + i).toNat ≤ 127 := by rw [show a.toNat + i.toNat = (a + i).toNat by omega]; exact hf (a + i).toNat (by omega)
                        refine ww_bald hX (pc := 87) (xs_55 hL) (by decide) (by omega) (by omega) dX11_wordOf_87 ?_
                        refine ww_icmp_ne hX (pc := 88) (tgt := 95) dX11_wordOf_88 (by decide) (fun h_88 => ?_) (fun h_88 => ?_)
                        · simp only [w32_mod] at h_88
                          have hne : ¬ f (a.toNat + i.toNat) = (zWs.getD j9 []).getD i.toNat 0 := by omega
                          refine ww_iconst hX (pc := 95) (x := 0) dX11_wordOf_95 rfl ?_
                          refine ww_istore hX (pc := 96) (lv' := [some (kR (some 49)), some (kI a), some (kI b), some (kI w), some (kI k), some (kI n), some (kI 0), some (kI i)]) dX11_wordOf_96 (by decide) rfl rfl ?_
                          refine ww_iinc hX (pc := 98) (lv' := [some (kR (some 49)), some (kI a), some (kI b), some (kI w), some (kI k), some (kI n), some (kI 0), some (kI (i + 1))]) dX11_wordOf_98 rfl (by decide) rfl rfl ?_
                          refine ww_goto hX (pc := 101) (tgt := 57) dX11_wordOf_101 (by decide) ?_
                          exact ih_57 _ (by have hm9 := Sh0_e hq_57; omega) 0 (i + 1) rfl ⟨⟨by omega, by omega⟩, Or.inl rfl, fun h9 => absurd h9 (by decide), fun _ h9 => hne (h9.2 i.toNat (by omega))⟩
                        · simp only [w32_mod] at h_88
                          have heq : f (a.toNat + i.toNat) = (zWs.getD j9 []).getD i.toNat 0 := by omega
                          refine ww_iconst hX (pc := 91) (x := 1) dX11_wordOf_91 rfl ?_
                          refine ww_goto hX (pc := 92) (tgt := 96) dX11_wordOf_92 (by decide) ?_
                          refine ww_istore hX (pc := 96) (lv' := [some (kR (some 49)), some (kI a), some (kI b), some (kI w), some (kI k), some (kI n), some (kI 1), some (kI i)]) dX11_wordOf_96 (by decide) rfl rfl ?_
                          refine ww_iinc hX (pc := 98) (lv' := [some (kR (some 49)), some (kI a), some (kI b), some (kI w), some (kI k), some (kI n), some (kI 1), some (kI (i + 1))]) dX11_wordOf_98 rfl (by decide) rfl rfl ?_
                          refine ww_goto hX (pc := 101) (tgt := 57) dX11_wordOf_101 (by decide) ?_
                          exact ih_57 _ (by have hm9 := Sh0_e hq_57; omega) 1 (i + 1) rfl ⟨⟨by omega, by omega⟩, Or.inr rfl, fun _ => ⟨((Sh0_e hs1) (by omega)).1, fun q hq => (if h9 : (q : Int) < i then ((Sh0_e hs1) (by omega)).2 q h9 else by rw [show q = i.toNat by omega]; exact heq)⟩, fun h9 => absurd h9 (by decide)⟩
                exact hl_57 _ 0 0 rfl ⟨⟨by omega, by omega⟩, Or.inl rfl, fun h9 => absurd h9 (by decide), fun _ h9 => by have h8 := h9.1; omega⟩
              · simp only [w32_mod] at h_44
                refine ww_iconst hX (pc := 47) (x := 1) dX11_wordOf_47 rfl ?_
                refine ww_goto hX (pc := 48) (tgt := 52) dX11_wordOf_48 (by decide) ?_
                refine ww_istore hX (pc := 52) (lv' := [some (kR (some 49)), some (kI a), some (kI b), some (kI w), some (kI k), some (kI n), some (kI 1), none]) dX11_wordOf_52 (by decide) rfl rfl ?_
                refine ww_iconst hX (pc := 54) (x := 0) dX11_wordOf_54 rfl ?_
                refine ww_istore hX (pc := 55) (lv' := [some (kR (some 49)), some (kI a), some (kI b), some (kI w), some (kI k), some (kI n), some (kI 1), some (kI 0)]) dX11_wordOf_55 (by decide) rfl rfl ?_
                have hl_57 : ∀ (n_57 : Nat) (sm : Int) (i : Int), (n - i).toNat = n_57 → (((0 ≤ i ∧ i ≤ n) ∧ (sm = 0 ∨ sm = 1) ∧ (sm = 1 → n = b - a ∧ ∀ q : Nat, (q : Int) < i → f (a.toNat + q) = (zWs.getD j9 []).getD q 0) ∧ (sm = 0 → ¬ zWm f a.toNat b.toNat (zWs.getD j9 [])))) → WW X 57 [some (kR (some 49)), some (kI a), some (kI b), some (kI w), some (kI k), some (kI n), some (kI sm), some (kI i)] [] Ia Ja Ra Sa 0 0 := by
                  intro n_57
                  induction n_57 using Nat.strongRecOn with
                  | ind n_57 ih_57 =>
                    intro sm i hm_57 hv_57
                    have hq_57 := Sh0_i hm_57
                    clear hm_57
                    obtain ⟨⟨hi8, hi9⟩, hs9, hs1x, hs0x⟩ := hv_57
                    have hs8 : 0 ≤ sm ∧ sm ≤ 1 := by omega
                    obtain ⟨hs6, hs7⟩ := hs8
                    have hs1 := Sh0_i hs1x
                    have hs0 := Sh0_i hs0x
                    clear hs9 hs1x hs0x
                    refine ww_iload hX (pc := 57) dX11_wordOf_57 rfl ?_
                    refine ww_iload hX (pc := 59) dX11_wordOf_59 rfl ?_
                    refine ww_icmp_ge hX (pc := 61) (tgt := 104) dX11_wordOf_61 (by decide) (fun h_61 => ?_) (fun h_61 => ?_)
                    · simp only [w32_mod] at h_61
                      refine ww_iload hX (pc := 104) dX11_wordOf_104 rfl ?_
                      refine ww_if_eq hX (pc := 106) (tgt := 111) dX11_wordOf_106 (by decide) (fun h_106 => ?_) (fun h_106 => ?_)
                      · simp only [w32_mod] at h_106
                        have hm8 := (Sh0_e hs0) (by omega)
                        refine ww_iload hX (pc := 111) dX11_wordOf_111 rfl ?_
                        refine ww_iload hX (pc := 113) dX11_wordOf_113 rfl ?_
                        refine ww_iconst hX (pc := 115) (x := 1) dX11_wordOf_115 rfl ?_
                        refine ww_iadd hX (pc := 116) dX11_wordOf_116 ?_
                        refine ww_iadd hX (pc := 117) dX11_wordOf_117 ?_
                        refine ww_nmI (fun v_118 hv_118 => ?_)
                        refine ww_istore hX (pc := 118) (lv' := [some (kR (some 49)), some (kI a), some (kI b), some (kI w), some (kI v_118), some (kI n), some (kI sm), some (kI i)]) dX11_wordOf_118 (by decide) rfl rfl ?_
                        refine ww_iinc hX (pc := 120) (lv' := [some (kR (some 49)), some (kI a), some (kI b), some (kI (w + 1)), some (kI v_118), some (kI n), some (kI sm), some (kI i)]) dX11_wordOf_120 rfl (by decide) rfl rfl ?_
                        refine ww_goto hX (pc := 123) (tgt := 5) dX11_wordOf_123 (by decide) ?_
                        refine ww_sub [some (kR (some 49)), some (kI a), some (kI b), some (kI (w + 1)), some (kI v_118), none, none, none] (aLe_s (aLe_s (aLe_s (aLe_s (aLe_s (aLe_n (aLe_n (aLe_n aLe_0)))))))) ?_
                        exact ih_5 _ (by have hm9 := Sh0_e hq_5; omega) (w + 1) v_118 rfl (⟨j9 + 1, by omega, by omega, by omega, zWn_s hj4 hm8⟩)
                      · simp only [w32_mod] at h_106
                        have hm9 : zWm f a.toNat b.toNat (zWs.getD j9 []) := ⟨by have h8 := ((Sh0_e hs1) (by omega)).1; omega, fun q hq => ((Sh0_e hs1) (by omega)).2 q (by omega)⟩
                        refine ww_iload_n hX (pc := 109) dX11_wordOf_109 rfl ?_
                        refine rI hX (pc := 110) hT (Nat.le_refl 0) (Nat.le_refl 0) dX11_wordOf_110 ?_
                        exact ⟨rfl, rfl, (by have h9 := zWc_at hj4 hj5 hm9; omega)⟩
                    · simp only [w32_mod] at h_61
                      refine ww_iload hX (pc := 64) dX11_wordOf_64 rfl ?_
                      refine ww_if_eq hX (pc := 66) (tgt := 104) dX11_wordOf_66 (by decide) (fun h_66 => ?_) (fun h_66 => ?_)
                      · simp only [w32_mod] at h_66
                        refine ww_iload hX (pc := 104) dX11_wordOf_104 rfl ?_
                        refine ww_if_eq hX (pc := 106) (tgt := 111) dX11_wordOf_106 (by decide) (fun h_106 => ?_) (fun h_106 => ?_)
                        · simp only [w32_mod] at h_106
                          have hm8 := (Sh0_e hs0) (by omega)
                          refine ww_iload hX (pc := 111) dX11_wordOf_111 rfl ?_
                          refine ww_iload hX (pc := 113) dX11_wordOf_113 rfl ?_
                          refine ww_iconst hX (pc := 115) (x := 1) dX11_wordOf_115 rfl ?_
                          refine ww_iadd hX (pc := 116) dX11_wordOf_116 ?_
                          refine ww_iadd hX (pc := 117) dX11_wordOf_117 ?_
                          refine ww_nmI (fun v_118 hv_118 => ?_)
                          refine ww_istore hX (pc := 118) (lv' := [some (kR (some 49)), some (kI a), some (kI b), some (kI w), some (kI v_118), some (kI n), some (kI sm), some (kI i)]) dX11_wordOf_118 (by decide) rfl rfl ?_
                          refine ww_iinc hX (pc := 120) (lv' := [some (kR (some 49)), some (kI a), some (kI b), some (kI (w + 1)), some (kI v_118), some (kI n), some (kI sm), some (kI i)]) dX11_wordOf_120 rfl (by decide) rfl rfl ?_
                          refine ww_goto hX (pc := 123) (tgt := 5) dX11_wordOf_123 (by decide) ?_
                          refine ww_sub [some (kR (some 49)), some (kI a), some (kI b), some (kI (w + 1)), some (kI v_118), none, none, none] (aLe_s (aLe_s (aLe_s (aLe_s (aLe_s (aLe_n (aLe_n (aLe_n aLe_0)))))))) ?_
                          exact ih_5 _ (by have hm9 := Sh0_e hq_5; omega) (w + 1) v_118 rfl (⟨j9 + 1, by omega, by omega, by omega, zWn_s hj4 hm8⟩)
                        · simp only [w32_mod] at h_106
                          exfalso
                          omega
                      · simp only [w32_mod] at h_66
                        have hn8 : n = b - a := ((Sh0_e hs1) (by omega)).1
                        refine ww_aload_n hX (pc := 69) dX11_wordOf_69 rfl ?_
                        refine ww_getR hX (pc := 70) fX11_30 (by decide) (xs_49 hL) (xr_49_7 hL) dX11_wordOf_70 ?_
                        refine ww_iload hX (pc := 73) dX11_wordOf_73 rfl ?_
                        refine ww_iload hX (pc := 75) dX11_wordOf_75 rfl ?_
                        refine ww_iadd hX (pc := 77) dX11_wordOf_77 ?_
                        have hw8 : Ia 54 (k + i).toNat = (zWs.getD j9 []).getD i.toNat 0 := by rw [hw _ (by omega), show (k + i).toNat = zWk.getD j9 0 + i.toNat by omega]; exact (zWt_at hj5 (by omega)).1
                        have hr8 := (zWt_at hj5 (i := i.toNat) (by omega)).2
                        refine ww_bald hX (pc := 78) (xs_54 hL) (by decide) (by omega) (by omega) dX11_wordOf_78 ?_
                        refine ww_aload_n hX (pc := 79) dX11_wordOf_79 rfl ?_
                        refine ww_getR hX (pc := 80) fX11_34 (by decide) (xs_49 hL) (xr_49_8 hL) dX11_wordOf_80 ?_
                        refine ww_iload_n hX (pc := 83) dX11_wordOf_83 rfl ?_
                        refine ww_iload hX (pc := 84) dX11_wordOf_84 rfl ?_
                        refine ww_iadd hX (pc := 86) dX11_wordOf_86 ?_
                        have hf8 : f (a.toNat + i.toNat) = Ia 55 (a + i).toNat % 256 ∧ -128 ≤ Ia 55 (a + i).toNat ∧ Ia 55 (a + i).toNat ≤ 127 := by rw [show a.toNat + i.toNat = (a + i).toNat by omega]; exact hf (a + i).toNat (by omega)
                        refine ww_bald hX (pc := 87) (xs_55 hL) (by decide) (by omega) (by omega) dX11_wordOf_87 ?_
                        refine ww_icmp_ne hX (pc := 88) (tgt := 95) dX11_wordOf_88 (by decide) (fun h_88 => ?_) (fun h_88 => ?_)
                        · simp only [w32_mod] at h_88
                          have hne : ¬ f (a.toNat + i.toNat) = (zWs.getD j9 []).getD i.toNat 0 := by omega
                          refine ww_iconst hX (pc := 95) (x := 0) dX11_wordOf_95 rfl ?_
                          refine ww_istore hX (pc := 96) (lv' := [some (kR (some 49)), some (kI a), some (kI b), some (kI w), some (kI k), some (kI n), some (kI 0), some (kI i)]) dX11_wordOf_96 (by decide) rfl rfl ?_
                          refine ww_iinc hX (pc := 98) (lv' := [some (kR (some 49)), some (kI a), some (kI b), some (kI w), some (kI k), some (kI n), some (kI 0), some (kI (i + 1))]) dX11_wordOf_98 rfl (by decide) rfl rfl ?_
                          refine ww_goto hX (pc := 101) (tgt := 57) dX11_wordOf_101 (by decide) ?_
                          exact ih_57 _ (by have hm9 := Sh0_e hq_57; omega) 0 (i + 1) rfl ⟨⟨by omega, by omega⟩, Or.inl rfl, fun h9 => absurd h9 (by decide), fun _ h9 => hne (h9.2 i.toNat (by omega))⟩
                        · simp only [w32_mod] at h_88
                          have heq : f (a.toNat + i.toNat) = (zWs.getD j9 []).getD i.toNat 0 := by omega
                          refine ww_iconst hX (pc := 91) (x := 1) dX11_wordOf_91 rfl ?_
                          refine ww_goto hX (pc := 92) (tgt := 96) dX11_wordOf_92 (by decide) ?_
                          refine ww_istore hX (pc := 96) (lv' := [some (kR (some 49)), some (kI a), some (kI b), some (kI w), some (kI k), some (kI n), some (kI 1), some (kI i)]) dX11_wordOf_96 (by decide) rfl rfl ?_
                          refine ww_iinc hX (pc := 98) (lv' := [some (kR (some 49)), some (kI a), some (kI b), some (kI w), some (kI k), some (kI n), some (kI 1), some (kI (i + 1))]) dX11_wordOf_98 rfl (by decide) rfl rfl ?_
                          refine ww_goto hX (pc := 101) (tgt := 57) dX11_wordOf_101 (by decide) ?_
                          exact ih_57 _ (by have hm9 := Sh0_e hq_57; omega) 1 (i + 1) rfl ⟨⟨by omega, by omega⟩, Or.inr rfl, fun _ => ⟨((Sh0_e hs1) (by omega)).1, fun q hq => (if h9 : (q : Int) < i then ((Sh0_e hs1) (by omega)).2 q h9 else by rw [show q = i.toNat by omega]; exact heq)⟩, fun h9 => absurd h9 (by decide)⟩
                exact hl_57 _ 1 0 rfl ⟨⟨by omega, by omega⟩, Or.inr rfl, fun _ => ⟨by omega, fun q hq => absurd hq (by omega)⟩, fun h9 => absurd h9 (by decide)⟩
            · simp only [w32_mod] at h_30
              have hnl : n < ((zWs.getD j9 []).length : Nat) := by
                by_cases h9 : n.toNat = (zWs.getD j9 []).length
                · rw [h9, ht3] at hw9
                  omega
                · omega
              refine ww_iinc hX (pc := 33) (lv' := [some (kR (some 49)), some (kI a), some (kI b), some (kI w), some (kI k), some (kI (n + 1)), none, none]) dX11_wordOf_33 rfl (by decide) rfl rfl ?_
              refine ww_goto hX (pc := 36) (tgt := 18) dX11_wordOf_36 (by decide) ?_
              exact ih_18 _ (by have hm9 := Sh0_e hq_18; omega) (n + 1) rfl (by omega)
        exact hl_18 _ 0 rfl (by omega)
  exact hl_5 _ 1 0 rfl (⟨0, by omega, rfl, rfl, zWn_0⟩)
end
section
/-! the reference's reader: what it reads is what the pure parser tells: places alone -/
def zRL (I : aI1) (vl pl : Nat → Int) (T : Nat) : Prop := I 49 15 = T ∧ T ≤ 400 ∧ ∀ t, t ≤ T → I 58 t = vl t ∧ I 59 t = pl t ∧ 0 ≤ pl t ∧ 0 ≤ vl t ∧ vl t ≤ 10000009
theorem zRL_tr {rs fs : List Nat} {I I' : aI1} {vl pl : Nat → Int} {T : Nat} (h : Ch rs fs I I') (h1 : 15 ∉ fs) (h2 : 58 ∉ rs) (h3 : 59 ∉ rs) (hk : zRL I vl pl T) : zRL I' vl pl T := by
  unfold zRL at hk ⊢
  rw [h.2 15 h1, h.1 58 (by decide) h2, h.1 59 (by decide) h3]
  exact hk
theorem zRL_p {I : aI1} {vl pl : Nat → Int} {T : Nat} (hk : zRL I vl pl T) (hp : PI I) : I 58 (I 49 16).toNat = vl (I 49 16).toNat ∧ I 59 (I 49 16).toNat = pl (I 49 16).toNat ∧ 0 ≤ pl (I 49 16).toNat ∧ 0 ≤ vl (I 49 16).toNat ∧ vl (I 49 16).toNat ≤ 10000009 := by
  have h1 := PI_o hp
  exact hk.2.2 (I 49 16).toNat (by have := hk.1; omega)
theorem zTs_st {f : Nat → Int} {n : Nat} : ∀ (m k t : Nat) (q : Nat × Nat), (zTs f n m k)[t]? = some q → q.2 = zSt f n q.1
  | 0, k, t, q, h => by
    have h9 : (([] : List (Nat × Nat)))[t]? = some q := h
    simp at h9
  | m + 1, k, t, q, h => by
    by_cases hk : k < n
    · by_cases hb : f k = 32
      · have e : zTs f n (m + 1) k = zTs f n m (k + 1) := (if_pos hk).trans (if_pos hb)
        rw [e] at h
        exact zTs_st m (k + 1) t q h
      · have e : zTs f n (m + 1) k = (k, zSt f n k) :: zTs f n m (zSt f n k) := (if_pos hk).trans (if_neg hb)
        rw [e] at h
        cases t with
        | zero =>
          have h9 : (k, zSt f n k) = q := by simpa using h
          rw [← h9]
        | succ t => exact zTs_st m (zSt f n k) t q (by simpa using h)
    · rw [zTs_0 _ _ hk] at h
      simp at h
theorem zVl_r {f : Nat → Int} {n t : Nat} : 0 ≤ zVl f (zTk f n 0) t ∧ zVl f (zTk f n 0) t ≤ 10000009 := by
  cases hq : (zTk f n 0)[t]? with
  | none => rw [zVl_n hq]; exact ⟨Int.le_refl _, by decide⟩
  | some q =>
    rw [zVl_s hq]
    have hst := zTs_st _ 0 t q hq
    by_cases h2 : zKl (f q.1) = 2
    · rw [zVa_2 h2, hst]
      exact zNu_r _ (fun i hi => zKl_2.mp ((zSt_all (n := n) (k := q.1) (by omega) (by omega)).trans h2))
    · rw [zVa_0 h2]; exact ⟨Int.le_refl _, by decide⟩
def zFi (I : aI1) (T t l : Nat) : Prop := I 49 18 = -1 ∧ I 49 16 = t ∧ t ≤ T ∧ I 49 17 = l ∧ l ≤ 50
def zQO (T : Nat) (pl : Nat → Int) (I : aI1) : zR → Prop
  | .inl f => f ≤ T ∧ I 49 18 = pl f ∧ 0 ≤ pl f
  | .inr q => zFi I T q.1 q.2.1
def zRP (T : Nat) (pl : Nat → Int) (P : zP) (I I' : aI1) : Prop := (NB I → I' 49 18 = I 49 18) ∧ ∀ t l, zFi I T t l → zQO T pl I' (P t l)
def zFT (pl : Nat → Int) (I I' : aI1) : Prop := (NB I → I' 49 18 = I 49 18) ∧ (I 49 18 = -1 → I' 49 18 = pl (I 49 16).toNat)
def zMS (c pl : Nat → Int) (r : Int) (T : Nat) (I I' : aI1) : Prop := (NB I → I' 49 18 = I 49 18) ∧ ∀ t l, zFi I T t l → (c t = r ∧ zFi I' T (t + 1) l) ∨ (¬ c t = r ∧ t ≤ T ∧ I' 49 18 = pl t ∧ 0 ≤ pl t)
def zLf6 (pl : Nat → Int) (T : Nat) (I I' : aI1) : Prop := ∀ t l, zFi I T t l → (l < 50 ∧ zFi I' T (t + 1) (l + 1)) ∨ (¬ l < 50 ∧ t ≤ T ∧ I' 49 18 = pl t ∧ 0 ≤ pl t)
def zPp (pl : Nat → Int) (T : Nat) : Prop := ∀ t, t ≤ T → 0 ≤ pl t
theorem zRL_pp {I : aI1} {vl pl : Nat → Int} {T : Nat} (hk : zRL I vl pl T) : zPp pl T := fun t ht => (hk.2.2 t ht).2.2.1
theorem zFT_n {pl : Nat → Int} {I : aI1} (nb : NB I) : zFT pl I I := ⟨fun _ => rfl, fun g => absurd g nb⟩
theorem zFT_f {pl : Nat → Int} {I I' : aI1} (hb : I 49 18 = -1) (h : I' 49 18 = pl (I 49 16).toNat) : zFT pl I I' := ⟨fun g => absurd hb g, fun _ => h⟩
theorem zMS_1 {c pl : Nat → Int} {r : Int} {T : Nat} {I I' : aI1} (h : I 49 18 = -1 ∧ c (I 49 16).toNat = r ∧ I' 49 16 = I 49 16 + 1) (e17 : I' 49 17 = I 49 17) (e18 : I' 49 18 = I 49 18) (hT : I 49 15 = T) (hlt : I 49 16 < I 49 15) : zMS c pl r T I I' := by
  obtain ⟨h1, h2, h3⟩ := h
  refine ⟨fun g => absurd h1 g, fun t l ⟨a1, a2, a3, a4, a5⟩ => Or.inl ⟨?_, by omega, by omega, by omega, by omega, a5⟩⟩
  rw [a2] at h2
  exact h2
theorem zMS_0 {c pl : Nat → Int} {r : Int} {T : Nat} {I I1 I' : aI1} (z : I1 49 16 = I 49 16) (e18 : I1 49 18 = I 49 18) (n : NOP c r I) (hf : zFT pl I1 I') (hp : zPp pl T) : zMS c pl r T I I' := by
  refine ⟨fun g => (hf.1 (fun q => g (by omega))).trans e18, fun t l ⟨a1, a2, a3, a4, a5⟩ => Or.inr ⟨fun q => ?_, a3, ?_, hp t a3⟩⟩
  · have h1 := n a1
    rw [a2] at h1
    exact h1 q
  · rw [hf.2 (by omega), z, a2]
    rfl
theorem zLf6_1 {pl : Nat → Int} {T : Nat} {I I' : aI1} (hne : ∀ l : Nat, I 49 17 = l → l ≤ 50 → ¬ l = 50) (e16 : I' 49 16 = I 49 16 + 1) (e17 : I' 49 17 = I 49 17 + 1) (e18 : I' 49 18 = I 49 18) (hT : I 49 15 = T) (hlt : I 49 16 < I 49 15) : zLf6 pl T I I' := fun t l ⟨a1, a2, a3, a4, a5⟩ => Or.inl ⟨by have h9 := hne l a4 a5; omega, by omega, by omega, by omega, by omega, by have h9 := hne l a4 a5; omega⟩
theorem zLf6_0 {pl : Nat → Int} {T : Nat} {I I1 I' : aI1} (he : ∀ l : Nat, I 49 17 = l → l ≤ 50 → l = 50) (hf : zFT pl I I1) (e18 : I' 49 18 = I1 49 18) (hp : zPp pl T) : zLf6 pl T I I' := fun t l ⟨a1, a2, a3, a4, a5⟩ => Or.inr ⟨by have h9 := he l a4 a5; omega, a3, by rw [e18, hf.2 a1, a2]; rfl, hp t a3⟩
theorem zRP_n {T : Nat} {pl : Nat → Int} {P : zP} {I : aI1} (nb : NB I) : zRP T pl P I I := ⟨fun _ => rfl, fun t l h => absurd h.1 nb⟩
theorem zRP_fa {T : Nat} {pl : Nat → Int} {P : zP} {I I' : aI1} (hf : zFT pl I I') (hp : zPp pl T) (hr : ∀ l, P (I 49 16).toNat l = .inl (I 49 16).toNat) : zRP T pl P I I' := ⟨hf.1, fun t l ⟨a1, a2, a3, a4, a5⟩ => by
  have h1 := hr l
  rw [a2] at h1
  rw [show ((t : Int)).toNat = t from rfl] at h1
  rw [h1]
  exact ⟨a3, by rw [hf.2 a1, a2]; rfl, hp t a3⟩⟩
theorem zRP_br {T : Nat} {c pl : Nat → Int} {P P0 : zP} {cl r9 : Int} {I I1 I2 I3 : aI1} (hb : I 49 18 = -1) (e16 : I1 49 16 = I 49 16 + 1) (e17 : I1 49 17 = I 49 17) (e18 : I1 49 18 = I 49 18) (hT : I 49 15 = T) (hlt : I 49 16 < I 49 15) (h2 : zRP T pl P0 I1 I2) (h3 : zMS c pl r9 T I2 I3) (hcr : r9 = cl) (hr : ∀ l, P (I 49 16).toNat l = zBr (some P0) c cl (I 49 16).toNat l) : zRP T pl P I I3 := ⟨fun g => absurd hb g, fun t l ⟨a1, a2, a3, a4, a5⟩ => by
  subst hcr
  have h1 := hr l
  rw [a2] at h1
  rw [show ((t : Int)).toNat = t from rfl] at h1
  rw [h1]
  have h4 := h2.2 (t + 1) l ⟨by omega, by omega, by omega, by omega, a5⟩
  cases hq : P0 (t + 1) l with
  | inl f =>
    rw [hq] at h4
    rw [zBr_f hq]
    obtain ⟨b1, b2, b3⟩ := h4
    exact ⟨b1, by rw [h3.1 (fun q => by omega)]; exact b2, b3⟩
  | inr q =>
    rw [hq] at h4
    rcases h3.2 q.1 q.2.1 h4 with ⟨g1, g2⟩ | ⟨g1, g2, g3, g4⟩
    · rw [zBr_s hq g1]; exact g2
    · rw [zBr_n hq g1]; exact ⟨g2, g3, g4⟩⟩
theorem zRP_lf {T : Nat} {c vl pl : Nat → Int} {P : zP} {I I' : aI1} {D : zD} (hb : I 49 18 = -1) (hl : zLf6 pl T I I') (hr : ∀ l, P (I 49 16).toNat l = zLe c vl (I 49 16).toNat l) (hD : zLf c vl (I 49 16).toNat = some D) : zRP T pl P I I' := ⟨fun g => absurd hb g, fun t l h => by
  obtain ⟨a1, a2, a3, a4, a5⟩ := id h
  have h1 := hr l
  rw [a2] at h1 hD
  rw [show ((t : Int)).toNat = t from rfl] at h1 hD
  rw [h1]
  rcases hl t l h with ⟨g1, g2⟩ | ⟨g1, g2, g3, g4⟩
  · rw [zLe_s hD g1]; exact g2
  · rw [zLe_f hD g1]; exact ⟨g2, g3, g4⟩⟩
/-- a loop over signs -/
def zLp6 (T : Nat) (c pl : Nat → Int) (P : zP) (ops : List Int) (jn : Int → zD → zD → zD) (I I5 : aI1) : Prop := (NB I → I5 49 18 = I 49 18) ∧ ∀ t l, zFi I T t l → (∃ f, zSeq P ops jn c t l = .inl f ∧ f ≤ T ∧ I5 49 18 = pl f ∧ 0 ≤ pl f) ∨ (∃ (q : Nat × Nat × zD) (n : Nat), zFi I5 T q.1 q.2.1 ∧ 400 ≤ n + q.1 ∧ zSeq P ops jn c t l = zRest P ops jn c n q.1 q.2.1 q.2.2)
theorem zLp6_0 {T : Nat} {c pl : Nat → Int} {P : zP} {ops : List Int} {jn : Int → zD → zD → zD} {I I5 : aI1} (h : zRP T pl P I I5) : zLp6 T c pl P ops jn I I5 := ⟨h.1, fun t l ht => by
  have h1 := h.2 t l ht
  cases hq : P t l with
  | inl f =>
    rw [hq] at h1
    exact Or.inl ⟨f, zSeq_f hq, h1⟩
  | inr q =>
    rw [hq] at h1
    exact Or.inr ⟨q, 400, h1, by omega, zSeq_s hq⟩⟩
theorem zLp6_s {T : Nat} {c pl : Nat → Int} {P : zP} {ops : List Int} {jn : Int → zD → zD → zD} {I I5 I6 I7 : aI1} (h : zLp6 T c pl P ops jn I I5) (hb : I5 49 18 = -1) (hc : c (I5 49 16).toNat ∈ ops) (e16 : I6 49 16 = I5 49 16 + 1) (e17 : I6 49 17 = I5 49 17) (e18 : I6 49 18 = I5 49 18) (hT : I5 49 15 = T) (hlt : I5 49 16 < I5 49 15) (hT4 : T ≤ 400) (h7 : zRP T pl P I6 I7) (hm : I6 49 16 ≤ I7 49 16) : zLp6 T c pl P ops jn I I7 := by
  refine ⟨fun g => ?_, fun t l ht => ?_⟩
  · exfalso
    have h1 := h.1 g
    exact g (by omega)
  · rcases h.2 t l ht with ⟨f, f1, f2, f3, f4⟩ | ⟨q, n, q1, q2, q3⟩
    · omega
    · obtain ⟨a1, a2, a3, a4, a5⟩ := id q1
      rw [a2] at hc
      rw [show ((q.1 : Int)).toNat = q.1 from rfl] at hc
      obtain ⟨m, rfl⟩ : ∃ m, n = m + 1 := ⟨n - 1, by omega⟩
      have h8 := h7.2 (q.1 + 1) q.2.1 ⟨by omega, by omega, by omega, by omega, a5⟩
      cases hp : P (q.1 + 1) q.2.1 with
      | inl f =>
        rw [hp] at h8
        exact Or.inl ⟨f, q3.trans (zRest_f hc hp), h8⟩
      | inr p =>
        rw [hp] at h8
        refine Or.inr ⟨(p.1, p.2.1, jn (c q.1) q.2.2 p.2.2), m, h8, ?_, q3.trans (zRest_s hc hp)⟩
        obtain ⟨d1, d2, d3, d4, d5⟩ := id h8
        omega
theorem zLp6_e {T : Nat} {c pl : Nat → Int} {P : zP} {ops : List Int} {jn : Int → zD → zD → zD} {I I5 I6 : aI1} (h : zLp6 T c pl P ops jn I I5) (e16 : I6 49 16 = I5 49 16) (e17 : I6 49 17 = I5 49 17) (e18 : I6 49 18 = I5 49 18) (ho : I5 49 18 = -1 → ¬ c (I5 49 16).toNat ∈ ops) : zRP T pl (zSeq P ops jn c) I I6 := by
  refine ⟨fun g => e18.trans (h.1 g), fun t l ht => ?_⟩
  rcases h.2 t l ht with ⟨f, f1, f2, f3, f4⟩ | ⟨q, n, q1, q2, q3⟩
  · rw [f1]
    exact ⟨f2, e18.trans f3, f4⟩
  · obtain ⟨a1, a2, a3, a4, a5⟩ := id q1
    have h1 := ho a1
    rw [a2] at h1
    rw [show ((q.1 : Int)).toNat = q.1 from rfl] at h1
    rw [q3, zRest_no h1]
    exact ⟨e18.trans a1, e16.trans a2, a3, e17.trans a4, a5⟩
/-- NOTs -/
def zNL (T : Nat) (c : Nat → Int) (I I2 : aI1) : Prop := (NB I → I2 49 18 = I 49 18) ∧ ∀ t l, zFi I T t l → ∃ (t2 n : Nat) (f : Int), zFi I2 T t2 l ∧ 400 ≤ n + t2 ∧ zNt c n t2 f = zNt c 400 t 0
theorem zNL_0 {T : Nat} {c : Nat → Int} {I : aI1} : zNL T c I I := ⟨fun _ => rfl, fun t l ht => ⟨t, 400, 0, ht, by omega, rfl⟩⟩
theorem zNL_t {T : Nat} {c : Nat → Int} {I I5 I6 : aI1} {x : Int} (h : zNL T c I I5) (hx : 0 ≤ x ∧ x ≤ 1) (ht : TK x c 5 I5 I6) (e17 : I6 49 17 = I5 49 17) (e18 : I6 49 18 = I5 49 18) (hT4 : T ≤ 400) (hle : I6 49 16 ≤ T) : zNL T c I I6 := by
  refine ⟨fun g => e18.trans (h.1 g), fun t l hf => ?_⟩
  obtain ⟨t2, n, f, q1, q2, q3⟩ := h.2 t l hf
  obtain ⟨a1, a2, a3, a4, a5⟩ := id q1
  rcases (show x = 0 ∨ x = 1 by omega) with hx | hx
  · exact ⟨t2, n, f, ⟨e18.trans a1, (TK_0 ht hx).1.trans a2, a3, e17.trans a4, a5⟩, q2, q3⟩
  · obtain ⟨b1, b2, b3⟩ := TK_1 ht hx
    rw [a2] at b2
    rw [show ((t2 : Int)).toNat = t2 from rfl] at b2
    obtain ⟨m, rfl⟩ : ∃ m, n = m + 1 := ⟨n - 1, by omega⟩
    exact ⟨t2 + 1, m, 1 - f, ⟨e18.trans a1, by omega, by omega, e17.trans a4, a5⟩, by omega, by rw [← zNt_s b2]; exact q3⟩
def zNE (T : Nat) (c : Nat → Int) (I I2 : aI1) : Prop := (NB I → I2 49 18 = I 49 18) ∧ ∀ t l, zFi I T t l → ∃ (t2 : Nat) (f : Int), zFi I2 T t2 l ∧ zNt c 400 t 0 = (t2, f)
theorem zNL_e {T : Nat} {c : Nat → Int} {I I2 : aI1} (h : zNL T c I I2) (h5 : NOP c 5 I2) : zNE T c I I2 := ⟨h.1, fun t l hf => by
  obtain ⟨t2, n, f, q1, q2, q3⟩ := h.2 t l hf
  have h1 := h5 q1.1
  rw [q1.2.1] at h1
  rw [show ((t2 : Int)).toNat = t2 from rfl] at h1
  exact ⟨t2, f, q1, by rw [← q3, zNt_n h1]⟩⟩
theorem zQO_fp {T : Nat} {pl : Nat → Int} {I : aI1} {f : Int} {r : zR} (h : zQO T pl I r) : zQO T pl I (zFp f r) := by
  cases r with
  | inl a => exact h
  | inr q => exact h
theorem zRP_pl {T : Nat} {c pl : Nat → Int} {P : Option zP} {S : zP} {I I2 I4 : aI1} (hn : zNE T c I I2) (h : zRP T pl (zPos P S c) I2 I4) : zRP T pl (zPl P S c) I I4 := by
  refine ⟨fun g => (h.1 (fun q => g (by have := hn.1 g; omega))).trans (hn.1 g), fun t l ht => ?_⟩
  obtain ⟨t2, f, q1, q2⟩ := hn.2 t l ht
  rw [zPl_e q2]
  exact zQO_fp (h.2 t2 l q1)
/-- the sign between two SUMS -/
def zSM (c pl : Nat → Int) (T : Nat) (I I' : aI1) : Prop := (NB I → I' 49 18 = I 49 18) ∧ ∀ t l, zFi I T t l → (160 ≤ c t ∧ c t ≤ 162 ∧ zFi I' T (t + 1) l) ∨ (¬ (160 ≤ c t ∧ c t ≤ 162) ∧ t ≤ T ∧ I' 49 18 = pl t ∧ 0 ≤ pl t)
theorem zSM_1 {c pl : Nat → Int} {r : Int} {T : Nat} {I I' : aI1} (h : I 49 18 = -1 ∧ c (I 49 16).toNat = r ∧ I' 49 16 = I 49 16 + 1) (hr : 160 ≤ r ∧ r ≤ 162) (e17 : I' 49 17 = I 49 17) (e18 : I' 49 18 = I 49 18) (hT : I 49 15 = T) (hlt : I 49 16 < I 49 15) : zSM c pl T I I' := by
  obtain ⟨h1, h2, h3⟩ := h
  refine ⟨fun g => absurd h1 g, fun t l ⟨a1, a2, a3, a4, a5⟩ => ?_⟩
  rw [a2] at h2
  rw [show ((t : Int)).toNat = t from rfl] at h2
  exact Or.inl ⟨by omega, by omega, by omega, by omega, by omega, by omega, a5⟩
theorem zSM_k {c pl : Nat → Int} {r9 : Int} {T : Nat} {I I2 I4 : aI1} (z : I2 49 16 = I 49 16) (e17 : I2 49 17 = I 49 17) (e18 : I2 49 18 = I 49 18) (n1 : NOP c 160 I) (n2 : NOP c 162 I) (h : zMS c pl r9 T I2 I4) (hcr : r9 = 161) : zSM c pl T I I4 := by
  subst hcr
  refine ⟨fun g => (h.1 (fun q => g (by omega))).trans e18, fun t l ⟨a1, a2, a3, a4, a5⟩ => ?_⟩
  have h1 := n1 a1
  have h2 := n2 a1
  rw [a2] at h1 h2
  rw [show ((t : Int)).toNat = t from rfl] at h1 h2
  rcases h.2 t l ⟨by omega, by omega, a3, by omega, a5⟩ with ⟨g1, g2⟩ | ⟨g1, g2, g3, g4⟩
  · exact Or.inl ⟨by omega, by omega, g2⟩
  · exact Or.inr ⟨by omega, g2, g3, g4⟩
theorem zRP_cm {T : Nat} {c pl : Nat → Int} {P : Option zP} {S : zP} {I I3 I4 I5 : aI1} (hb : I 49 18 = -1) (h140 : ¬ c (I 49 16).toNat = 140) (h1 : zRP T pl S I I3) (h2 : zSM c pl T I3 I4) (h3 : zRP T pl S I4 I5) : zRP T pl (zPos P S c) I I5 := ⟨fun g => absurd hb g, fun t l h => by
  obtain ⟨a1, a2, a3, a4, a5⟩ := id h
  rw [a2] at h140
  rw [show ((t : Int)).toNat = t from rfl] at h140
  rw [zPos_c h140]
  have h4 := h1.2 t l h
  cases hq : S t l with
  | inl f =>
    rw [hq] at h4
    rw [zCm_f hq]
    obtain ⟨b1, b2, b3⟩ := h4
    have nb3 : NB I3 := fun q => by omega
    have e4 := h2.1 nb3
    have nb4 : NB I4 := fun q => by omega
    exact ⟨b1, by rw [h3.1 nb4, e4]; exact b2, b3⟩
  | inr q =>
    rw [hq] at h4
    rcases h2.2 q.1 q.2.1 h4 with ⟨g1, g0, g2⟩ | ⟨g1, g2, g3, g4⟩
    · have h5 := h3.2 (q.1 + 1) q.2.1 g2
      cases hp : S (q.1 + 1) q.2.1 with
      | inl f =>
        rw [hp] at h5
        rw [zCm_g hq ⟨g1, g0⟩ hp]
        exact h5
      | inr p =>
        rw [hp] at h5
        rw [zCm_s hq ⟨g1, g0⟩ hp]
        exact h5
    · rw [zCm_n hq g1]
      have nb4 : NB I4 := fun q => by omega
      exact ⟨g2, by rw [h3.1 nb4]; exact g3, g4⟩⟩
/-- a clause -/
def zQC (T : Nat) (pl : Nat → Int) (I : aI1) : Nat ⊕ (Nat × Nat × zQ) → Prop
  | .inl f => f ≤ T ∧ I 49 18 = pl f ∧ 0 ≤ pl f
  | .inr q => zFi I T q.1 q.2.1
def zRC (T : Nat) (pl c vl : Nat → Int) (I I' : aI1) : Prop := (NB I → I' 49 18 = I 49 18) ∧ ∀ t l, zFi I T t l → zQC T pl I' (zCl c vl t l)
theorem zRC_n {T : Nat} {pl c vl : Nat → Int} {I I1 I2 I3 : aI1} (h1 : zMS c pl 1 T I I1) (h2 : zRP T pl (zS c vl 8) I1 I2) (z : I3 49 16 = I2 49 16) (e17 : I3 49 17 = I2 49 17) (e18 : I3 49 18 = I2 49 18) (hn : NOP c 2 I2) : zRC T pl c vl I I3 := by
  refine ⟨fun g => ?_, fun t l h => ?_⟩
  · have g1 := h1.1 g
    rw [e18, h2.1 (fun q => g (by omega)), g1]
  · rcases h1.2 t l h with ⟨c1, c2⟩ | ⟨g1, g2, g3, g4⟩
    · have h4 := h2.2 (t + 1) l c2
      cases hq : zS c vl 8 (t + 1) l with
      | inl f =>
        rw [hq] at h4
        rw [zCl_f c1 hq]
        exact ⟨h4.1, e18.trans h4.2.1, h4.2.2⟩
      | inr q =>
        rw [hq] at h4
        obtain ⟨a1, a2, a3, a4, a5⟩ := id h4
        have hn2 := hn a1
        rw [a2] at hn2
        rw [zCl_n c1 hq hn2]
        exact ⟨e18.trans a1, z.trans a2, a3, e17.trans a4, a5⟩
    · rw [zCl_0 g1]
      exact ⟨g2, by rw [e18, h2.1 (fun q => by omega)]; exact g3, g4⟩
theorem zRC_s {T : Nat} {pl c vl : Nat → Int} {I I1 I2 I3 I4 : aI1} (h1 : zMS c pl 1 T I I1) (h2 : zRP T pl (zS c vl 8) I1 I2) (hs : I2 49 18 = -1 ∧ c (I2 49 16).toNat = 2 ∧ I3 49 16 = I2 49 16 + 1) (e17 : I3 49 17 = I2 49 17) (e18 : I3 49 18 = I2 49 18) (hT : I2 49 15 = T) (hlt : I2 49 16 < I2 49 15) (h4 : zRP T pl (zT c vl 8) I3 I4) : zRC T pl c vl I I4 := by
  obtain ⟨s1, s2, s3⟩ := hs
  refine ⟨fun g => ?_, fun t l h => ?_⟩
  · exfalso
    have g1 := h1.1 g
    have g2 := h2.1 (fun q => g (by omega))
    exact g (by omega)
  · rcases h1.2 t l h with ⟨c1, c2⟩ | ⟨g1, g2, g3, g4⟩
    · have h5 := h2.2 (t + 1) l c2
      cases hq : zS c vl 8 (t + 1) l with
      | inl f =>
        rw [hq] at h5
        obtain ⟨b1, b2, b3⟩ := h5
        omega
      | inr q =>
        rw [hq] at h5
        obtain ⟨a1, a2, a3, a4, a5⟩ := id h5
        rw [a2] at s2
        rw [show ((q.1 : Int)).toNat = q.1 from rfl] at s2
        have h6 := h4.2 (q.1 + 1) q.2.1 ⟨by omega, by omega, by omega, by omega, a5⟩
        cases hp : zT c vl 8 (q.1 + 1) q.2.1 with
        | inl f =>
          rw [hp] at h6
          rw [zCl_g c1 hq s2 hp]
          exact h6
        | inr p =>
          rw [hp] at h6
          rw [zCl_s c1 hq s2 hp]
          exact h6
    · exfalso
      have g5 := h2.1 (fun q => by omega)
      omega
end
section
/-! what the pure parser takes is grammatical -/
theorem zRest_G {P : zP} {G : Nat → Nat → Prop} {ops : List Int} {op : Int → Prop} {jn : Int → zD → zD → zD} {c : Nat → Int} {T : Nat} (hP : ∀ t l q, P t l = .inr q → G t q.1 ∧ t < q.1) (ho : ∀ x, op x ↔ x ∈ ops) (hz : ∀ t, T ≤ t → c t = 0) (hT : T ≤ 400) (h0 : (0 : Int) ∉ ops) : ∀ (n t l : Nat) (D : zD) (q : Nat × Nat × zD), zRest P ops jn c n t l D = .inr q → 400 ≤ n + t → (∃ k, GRest G op c k t q.1) ∧ t ≤ q.1
  | 0, t, l, D, q, h, hn => by
    cases h
    exact ⟨⟨0, rfl, fun g => h0 (by rw [← hz t (by omega)]; exact (ho _).mp g)⟩, Nat.le_refl _⟩
  | n + 1, t, l, D, q, h, hn => by
    by_cases hc : c t ∈ ops
    · cases hp : P (t + 1) l with
      | inl f => rw [zRest_f hc hp] at h; cases h
      | inr p =>
        rw [zRest_s hc hp] at h
        obtain ⟨g1, g2⟩ := hP _ _ _ hp
        obtain ⟨⟨k, hk⟩, h2⟩ := zRest_G hP ho hz hT h0 n p.1 p.2.1 _ q h (by omega)
        exact ⟨⟨k + 1, (ho _).mpr hc, p.1, g1, hk⟩, by omega⟩
    · rw [zRest_no hc] at h
      cases h
      exact ⟨⟨0, rfl, fun g => hc ((ho _).mp g)⟩, Nat.le_refl _⟩
theorem zSeq_G {P : zP} {G : Nat → Nat → Prop} {ops : List Int} {op : Int → Prop} {jn : Int → zD → zD → zD} {c : Nat → Int} {T : Nat} (hP : ∀ t l q, P t l = .inr q → G t q.1 ∧ t < q.1) (ho : ∀ x, op x ↔ x ∈ ops) (hz : ∀ t, T ≤ t → c t = 0) (hT : T ≤ 400) (h0 : (0 : Int) ∉ ops) (t l : Nat) (q : Nat × Nat × zD) (h : zSeq P ops jn c t l = .inr q) : GSeq G op c t q.1 ∧ t < q.1 := by
  cases hp : P t l with
  | inl f => rw [zSeq_f hp] at h; cases h
  | inr p =>
    rw [zSeq_s hp] at h
    obtain ⟨g1, g2⟩ := hP _ _ _ hp
    obtain ⟨⟨k, hk⟩, h2⟩ := zRest_G hP ho hz hT h0 400 p.1 p.2.1 _ q h (by omega)
    exact ⟨⟨p.1, g1, k, hk⟩, by omega⟩
theorem opT_i (x : Int) : opT x ↔ x ∈ ([142, 147, 137] : List Int) := by
  unfold opT
  simp only [List.mem_cons, List.not_mem_nil, or_false]
theorem opS_i (x : Int) : opS x ↔ x ∈ ([143, 145] : List Int) := by
  unfold opS
  simp only [List.mem_cons, List.not_mem_nil, or_false]
theorem opA_i (x : Int) : opA x ↔ x ∈ ([4] : List Int) := by
  unfold opA
  simp only [List.mem_cons, List.not_mem_nil, or_false]
theorem opO_i (x : Int) : opO x ↔ x ∈ ([3] : List Int) := by
  unfold opO
  simp only [List.mem_cons, List.not_mem_nil, or_false]
theorem zLe_G {c vl : Nat → Int} {t l : Nat} {q : Nat × Nat × zD} (h : zLe c vl t l = .inr q) : GLeaf c t ∧ q.1 = t + 1 := by
  cases hD : zLf c vl t with
  | none => rw [zLe_0 hD] at h; cases h
  | some D =>
    by_cases hl : l < 50
    · rw [zLe_s hD hl] at h
      cases h
      refine ⟨?_, rfl⟩
      unfold zLf at hD
      unfold GLeaf
      by_cases h1 : c t = 50 ∧ vl t ≤ 1000
      · exact Or.inl h1.1
      · rw [if_neg h1] at hD
        by_cases h2 : 6 ≤ c t ∧ c t ≤ 13
        · exact Or.inr h2
        · rw [if_neg h2] at hD; cases hD
    · rw [zLe_f hD hl] at h; cases h
theorem zBr_G {P : zP} {c : Nat → Int} {cl : Int} {t l : Nat} {q : Nat × Nat × zD} (h : zBr (some P) c cl t l = .inr q) : ∃ p, P (t + 1) l = .inr p ∧ c p.1 = cl ∧ q.1 = p.1 + 1 := by
  cases hp : P (t + 1) l with
  | inl f => rw [zBr_f hp] at h; cases h
  | inr p =>
    by_cases hc : c p.1 = cl
    · rw [zBr_s hp hc] at h
      cases h
      exact ⟨p, rfl, hc, rfl⟩
    · rw [zBr_n hp hc] at h; cases h
theorem zS_G {c vl : Nat → Int} {T : Nat} (hz : ∀ t, T ≤ t → c t = 0) (hT : T ≤ 400) : ∀ (m t l : Nat) (q : Nat × Nat × zD), zS c vl m t l = .inr q → GSum c m t q.1 ∧ t < q.1
  | 0, t, l, q, h => by
    rw [GSum_eq]
    refine zSeq_G (zSeq_G (fun t l q h => ?_) opT_i hz hT (by decide)) opS_i hz hT (by decide) t l q h
    by_cases hc : c t = 191
    · rw [zPart_b hc] at h; cases h
    · rw [zPart_l hc] at h
      have h1 := zLe_G h
      exact ⟨Or.inl h1, by omega⟩
  | m + 1, t, l, q, h => by
    rw [GSum_eq]
    refine zSeq_G (zSeq_G (fun t l q h => ?_) opT_i hz hT (by decide)) opS_i hz hT (by decide) t l q h
    by_cases hc : c t = 191
    · rw [zPart_b hc] at h
      obtain ⟨p, p1, p2, p3⟩ := zBr_G h
      obtain ⟨g1, g2⟩ := zS_G hz hT m (t + 1) l p p1
      exact ⟨Or.inr ⟨hc, p.1, g1, p2, p3⟩, by omega⟩
    · rw [zPart_l hc] at h
      have h1 := zLe_G h
      exact ⟨Or.inl h1, by omega⟩
theorem zNt_G {c : Nat → Int} {T : Nat} (hz : ∀ t, T ≤ t → c t = 0) (hT : T ≤ 400) (Q : Nat → Nat → Prop) (b : Nat) : ∀ (n t : Nat) (f : Int), 400 ≤ n + t → Q (zNt c n t f).1 b → (∃ k, GNots Q c k t b) ∧ t ≤ (zNt c n t f).1
  | 0, t, f, hn, h => ⟨⟨0, by rw [hz t (by omega)]; decide, h⟩, Nat.le_refl _⟩
  | n + 1, t, f, hn, h => by
    by_cases hc : c t = 5
    · rw [zNt_s hc] at h ⊢
      obtain ⟨⟨k, hk⟩, h2⟩ := zNt_G hz hT Q b n (t + 1) (1 - f) (by omega) h
      exact ⟨⟨k + 1, hc, hk⟩, by omega⟩
    · rw [zNt_n hc] at h ⊢
      exact ⟨⟨0, hc, h⟩, Nat.le_refl _⟩
theorem zFp_i {f : Int} {r : zR} {q : Nat × Nat × zD} (h : zFp f r = .inr q) : ∃ p, r = .inr p ∧ q.1 = p.1 := by
  cases r with
  | inl a => cases h
  | inr p => cases h; exact ⟨p, rfl, rfl⟩
theorem zCm_G {S : zP} {c : Nat → Int} {t l : Nat} {q : Nat × Nat × zD} (h : zCm S c t l = .inr q) : ∃ p r, S t l = .inr p ∧ S (p.1 + 1) p.2.1 = .inr r ∧ q.1 = r.1 := by
  cases hp : S t l with
  | inl f => rw [zCm_f hp] at h; cases h
  | inr p =>
    by_cases hc : 160 ≤ c p.1 ∧ c p.1 ≤ 162
    · cases hr : S (p.1 + 1) p.2.1 with
      | inl f => rw [zCm_g hp hc hr] at h; cases h
      | inr r =>
        rw [zCm_s hp hc hr] at h
        cases h
        exact ⟨p, r, rfl, hr, rfl⟩
    · rw [zCm_n hp hc] at h; cases h
theorem zT_G {c vl : Nat → Int} {T : Nat} (hz : ∀ t, T ≤ t → c t = 0) (hT : T ≤ 400) : ∀ (m t l : Nat) (q : Nat × Nat × zD), zT c vl m t l = .inr q → GTest c m t q.1 ∧ t < q.1
  | 0, t, l, q, h => by
    rw [GTest_eq]
    refine zSeq_G (zSeq_G (fun t l q h => ?_) opA_i hz hT (by decide)) opO_i hz hT (by decide) t l q h
    obtain ⟨p, p1, p2⟩ := zFp_i h
    have hQ : GPos (fun _ _ => False) (GSum c 0) c (zNt c 400 t 0).1 q.1 ∧ (zNt c 400 t 0).1 < q.1 := by
      rw [p2]
      by_cases hc : c (zNt c 400 t 0).1 = 140
      · rw [zPos_b hc] at p1; cases p1
      · rw [zPos_c hc] at p1
        obtain ⟨u, v, u1, v1, e1⟩ := zCm_G p1
        obtain ⟨g1, g2⟩ := zS_G hz hT 0 _ _ _ u1
        obtain ⟨g3, g4⟩ := zS_G hz hT 0 _ _ _ v1
        rw [e1]
        exact ⟨Or.inr ⟨hc, u.1, g1, g3⟩, by omega⟩
    obtain ⟨⟨k, hk⟩, h2⟩ := zNt_G hz hT (GPos (fun _ _ => False) (GSum c 0) c) q.1 400 t 0 (by omega) hQ.1
    exact ⟨⟨k, hk⟩, by omega⟩
  | m + 1, t, l, q, h => by
    rw [GTest_eq]
    refine zSeq_G (zSeq_G (fun t l q h => ?_) opA_i hz hT (by decide)) opO_i hz hT (by decide) t l q h
    obtain ⟨p, p1, p2⟩ := zFp_i h
    have hQ : GPos (GTest c m) (GSum c (m + 1)) c (zNt c 400 t 0).1 q.1 ∧ (zNt c 400 t 0).1 < q.1 := by
      rw [p2]
      by_cases hc : c (zNt c 400 t 0).1 = 140
      · rw [zPos_b hc] at p1
        obtain ⟨u, u1, u2, u3⟩ := zBr_G p1
        obtain ⟨g1, g2⟩ := zT_G hz hT m _ _ u u1
        exact ⟨Or.inl ⟨hc, u.1, g1, u2, u3⟩, by omega⟩
      · rw [zPos_c hc] at p1
        obtain ⟨u, v, u1, v1, e1⟩ := zCm_G p1
        obtain ⟨g1, g2⟩ := zS_G hz hT (m + 1) _ _ _ u1
        obtain ⟨g3, g4⟩ := zS_G hz hT (m + 1) _ _ _ v1
        rw [e1]
        exact ⟨Or.inr ⟨hc, u.1, g1, g3⟩, by omega⟩
    obtain ⟨⟨k, hk⟩, h2⟩ := zNt_G hz hT (GPos (GTest c m) (GSum c (m + 1)) c) q.1 400 t 0 (by omega) hQ.1
    exact ⟨⟨k, hk⟩, by omega⟩
theorem zCl_G {c vl : Nat → Int} {T t l : Nat} (hz : ∀ t, T ≤ t → c t = 0) (hT : T ≤ 400) {q : Nat × Nat × zQ} (h : zCl c vl t l = .inr q) : GClause c t q.1 := by
  by_cases hc : c t = 1
  · cases hs : zS c vl 8 (t + 1) l with
    | inl f => rw [zCl_f hc hs] at h; cases h
    | inr p =>
      obtain ⟨g1, g2⟩ := zS_G hz hT 8 _ _ p hs
      by_cases h2 : c p.1 = 2
      · cases ht : zT c vl 8 (p.1 + 1) p.2.1 with
        | inl f => rw [zCl_g hc hs h2 ht] at h; cases h
        | inr r =>
          rw [zCl_s hc hs h2 ht] at h
          cases h
          exact ⟨hc, p.1, g1, Or.inl ⟨h2, (zT_G hz hT 8 _ _ r ht).1⟩⟩
      · rw [zCl_n hc hs h2] at h
        cases h
        exact ⟨hc, p.1, g1, Or.inr ⟨h2, rfl⟩⟩
  · rw [zCl_0 hc] at h; cases h
theorem zLw_G {c vl : Nat → Int} {T : Nat} (hz : ∀ t, T ≤ t → c t = 0) (hT : T ≤ 400) : ∀ (n t l : Nat) (qs : List zQ), zLw c vl T n t l = .inr qs → ∃ m, GLaw c T m t
  | 0, t, l, qs, h => by cases h
  | n + 1, t, l, qs, h => by
    cases hq : zCl c vl t l with
    | inl f => rw [zLw_f hq] at h; cases h
    | inr q =>
      have g := zCl_G hz hT hq
      by_cases hT9 : q.1 = T
      · rw [hT9] at g
        exact ⟨0, g⟩
      · by_cases hc : c q.1 = 159
        · rw [zLw_s hq hT9 hc] at h
          cases hr : zLw c vl T n (q.1 + 1) q.2.1 with
          | inl f => rw [hr] at h; cases h
          | inr ps =>
            obtain ⟨m, hm⟩ := zLw_G hz hT n (q.1 + 1) q.2.1 ps hr
            exact ⟨m + 1, q.1, g, hc, hm⟩
        · rw [zLw_n hq hT9 hc] at h; cases h
theorem zCd_z {f : Nat → Int} {L : List (Nat × Nat)} : ∀ t, L.length ≤ t → zCd f L t = 0 := fun t ht => zCd_n (List.getElem?_eq_none ht)
theorem zTx_G {f : Nat → Int} {N : Nat} (hT : (zTk f N 0).length ≤ 400) {qs : List zQ} (h : zTx f N = .inr qs) : LawG (zCd f (zTk f N 0)) (zTk f N 0).length := zLw_G zCd_z hT 12 0 0 qs h
theorem zpvw {f : Nat → Int} {L : List (Nat × Nat)} {I : aI1} (h15 : I 49 15 = L.length) (h : ∀ t, t ≤ L.length → I 57 t = zCd f L t) : pvw I = zCd f L := by
  funext i
  unfold pvw
  by_cases hi : (i : Int) < I 49 15
  · rw [if_pos hi]; exact h i (by omega)
  · rw [if_neg hi]; exact (zCd_z i (by omega)).symm
/-! the row of clauses -/
def zSm (A B : Nat ⊕ List zQ) : Prop := ∀ f, A = .inl f ↔ B = .inl f
def zLk (c vl : Nat → Int) (T m t l : Nat) : Nat ⊕ List zQ := if t = T then .inr [] else if c t = 159 then zLw c vl T m (t + 1) l else .inl t
theorem zLw_sm {c vl : Nat → Int} {T m t l : Nat} {q : Nat × Nat × zQ} (h : zCl c vl t l = .inr q) : zSm (zLw c vl T (m + 1) t l) (zLk c vl T m q.1 q.2.1) := by
  unfold zLk
  intro f
  by_cases hT : q.1 = T
  · rw [zLw_e h hT, if_pos hT]
    exact ⟨fun g => (by cases g), fun g => (by cases g)⟩
  · rw [if_neg hT]
    by_cases hc : c q.1 = 159
    · rw [zLw_s h hT hc, if_pos hc]
      cases zLw c vl T m (q.1 + 1) q.2.1 with
      | inl a => exact ⟨id, id⟩
      | inr a => exact ⟨fun g => (by cases g), fun g => (by cases g)⟩
    · rw [zLw_n h hT hc, if_neg hc]
theorem zSm_tr {A B C : Nat ⊕ List zQ} (h : zSm A B) (g : zSm B C) : zSm A C := fun f => (h f).trans (g f)
def zLG (c vl pl : Nat → Int) (T : Nat) (R : Nat ⊕ List zQ) (n : Int) (I : aI1) : Prop := (∃ f, R = .inl f ∧ f ≤ T ∧ I 49 18 = pl f ∧ 0 ≤ pl f) ∨ (∃ t l m : Nat, zFi I T t l ∧ n + m = 12 ∧ zSm R (zLk c vl T m t l))
theorem zLG_0 {c vl pl : Nat → Int} {T : Nat} {I I5 : aI1} (h : zRC T pl c vl I I5) (hf : zFi I T 0 0) : zLG c vl pl T (zLw c vl T 12 0 0) 1 I5 := by
  have h1 := h.2 0 0 hf
  cases hq : zCl c vl 0 0 with
  | inl f =>
    rw [hq] at h1
    exact Or.inl ⟨f, zLw_f hq, h1⟩
  | inr q =>
    rw [hq] at h1
    exact Or.inr ⟨q.1, q.2.1, 11, h1, rfl, zLw_sm hq⟩
theorem zLG_at {c vl pl : Nat → Int} {T : Nat} {R : Nat ⊕ List zQ} {n : Int} {I : aI1} (h : zLG c vl pl T R n I) (hb : I 49 18 = -1) : ∃ t l m : Nat, zFi I T t l ∧ n + m = 12 ∧ zSm R (zLk c vl T m t l) := by
  rcases h with ⟨f, f1, f2, f3, f4⟩ | h
  · omega
  · exact h
theorem zLG_s {c vl pl : Nat → Int} {T : Nat} {R : Nat ⊕ List zQ} {n : Int} {I I6 I7 : aI1} (h : zLG c vl pl T R n I) (hs : I 49 18 = -1 ∧ c (I 49 16).toNat = 159 ∧ I6 49 16 = I 49 16 + 1) (e17 : I6 49 17 = I 49 17) (e18 : I6 49 18 = I 49 18) (hT : c T = 0) (hn : ¬ n = 12) (h7 : zRC T pl c vl I6 I7) : zLG c vl pl T R (n + 1) I7 := by
  obtain ⟨s1, s2, s3⟩ := hs
  obtain ⟨t, l, m, q1, q2, q3⟩ := zLG_at h s1
  obtain ⟨a1, a2, a3, a4, a5⟩ := id q1
  rw [a2] at s2
  rw [show ((t : Int)).toNat = t from rfl] at s2
  have htT : ¬ t = T := fun e => by rw [e] at s2; omega
  obtain ⟨k, rfl⟩ : ∃ k, m = k + 1 := ⟨m - 1, by omega⟩
  have h8 := h7.2 (t + 1) l ⟨by omega, by omega, by omega, by omega, a5⟩
  have e9 : zLk c vl T (k + 1) t l = zLw c vl T (k + 1) (t + 1) l := (if_neg htT).trans (if_pos s2)
  rw [e9] at q3
  cases hq : zCl c vl (t + 1) l with
  | inl f =>
    rw [hq] at h8
    exact Or.inl ⟨f, (q3 f).mpr (zLw_f hq), h8⟩
  | inr q =>
    rw [hq] at h8
    exact Or.inr ⟨q.1, q.2.1, k, h8, by omega, zSm_tr q3 (zLw_sm hq)⟩
theorem zLG_f {c vl pl : Nat → Int} {T : Nat} {R : Nat ⊕ List zQ} {n k : Int} {I I6 I7 : aI1} (h : zLG c vl pl T R n I) (hs : I 49 18 = -1 ∧ c (I 49 16).toNat = 159 ∧ I6 49 16 = I 49 16 + 1) (e18 : I6 49 18 = I 49 18) (hT : c T = 0) (hn : n = 12) (h7 : zFT pl I6 I7) (hp : zPp pl T) : zLG c vl pl T R k I7 := by
  obtain ⟨s1, s2, s3⟩ := hs
  obtain ⟨t, l, m, q1, q2, q3⟩ := zLG_at h s1
  obtain ⟨a1, a2, a3, a4, a5⟩ := id q1
  rw [a2] at s2
  rw [show ((t : Int)).toNat = t from rfl] at s2
  have htT : ¬ t = T := fun e => by rw [e] at s2; omega
  obtain rfl : m = 0 := by omega
  have e9 : zLk c vl T 0 t l = .inl (t + 1) := (if_neg htT).trans (if_pos s2)
  refine Or.inl ⟨t + 1, (q3 (t + 1)).mpr e9, by omega, ?_, hp _ (by omega)⟩
  rw [h7.2 (by omega), show (I6 49 16).toNat = t + 1 by omega]
theorem zLG_e1 {c vl pl : Nat → Int} {T : Nat} {R : Nat ⊕ List zQ} {n : Int} {I : aI1} (h : zLG c vl pl T R n I) (nb : NB I) : ∃ f, R = .inl f ∧ I 49 18 = pl f := by
  rcases h with ⟨f, f1, f2, f3, f4⟩ | ⟨t, l, m, q1, -⟩
  · exact ⟨f, f1, f3⟩
  · exact absurd q1.1 nb
theorem zLG_e2 {c vl pl : Nat → Int} {T : Nat} {R : Nat ⊕ List zQ} {n : Int} {I I6 I7 : aI1} (h : zLG c vl pl T R n I) (hb : I 49 18 = -1) (z : I6 49 16 = I 49 16) (e18 : I6 49 18 = I 49 18) (hn : NOP c 159 I) (hlt : I6 49 16 < T) (h7 : zFT pl I6 I7) : ∃ f, R = .inl f ∧ I7 49 18 = pl f := by
  obtain ⟨t, l, m, q1, q2, q3⟩ := zLG_at h hb
  obtain ⟨a1, a2, a3, a4, a5⟩ := id q1
  have h1 := hn hb
  rw [a2] at h1
  rw [show ((t : Int)).toNat = t from rfl] at h1
  have e9 : zLk c vl T m t l = .inl t := (if_neg (by omega)).trans (if_neg h1)
  refine ⟨t, (q3 t).mpr e9, ?_⟩
  rw [h7.2 (by omega), z, a2]
  rfl
theorem zLG_e3 {c vl pl : Nat → Int} {T : Nat} {R : Nat ⊕ List zQ} {n : Int} {I I6 : aI1} (h : zLG c vl pl T R n I) (hb : I 49 18 = -1) (z : I6 49 16 = I 49 16) (hlt : ¬ I6 49 16 < T) : ∃ qs, R = .inr qs := by
  obtain ⟨t, l, m, q1, q2, q3⟩ := zLG_at h hb
  obtain ⟨a1, a2, a3, a4, a5⟩ := id q1
  have e9 : zLk c vl T m t l = .inr [] := if_pos (by omega)
  cases R with
  | inl f =>
    have h2 := (q3 f).mp rfl
    rw [e9] at h2
    cases h2
  | inr qs => exact ⟨qs, rfl⟩
/-- what reads leaves -/
def zRE (f : Nat → Int) (N : Nat) (x : Int) (I : aI1) : Prop := (∀ fp, zTx f N = .inl fp → x = 0 ∧ I 49 11 = zPc N (zTk f N 0) fp) ∧ (∀ qs, zTx f N = .inr qs → x = 1 ∧ I 49 11 = -1)
theorem zRE_0 {f : Nat → Int} {N : Nat} {x : Int} {I : aI1} {fp : Nat} (h : zTx f N = .inl fp) (hx : x = 0) (h1 : I 49 11 = zPc N (zTk f N 0) fp) : zRE f N x I := ⟨fun g hg => (by rw [h] at hg; cases hg; exact ⟨hx, h1⟩), fun qs hq => (by rw [h] at hq; cases hq)⟩
theorem zRE_1 {f : Nat → Int} {N : Nat} {x : Int} {I : aI1} {qs : List zQ} (h : zTx f N = .inr qs) (hx : x = 1) (h1 : I 49 11 = -1) : zRE f N x I := ⟨fun g hg => (by rw [h] at hg; cases hg), fun _ _ => ⟨hx, h1⟩⟩
theorem zpv_at {I : aI1} {L t : Nat} (h : I 49 15 = L) (ht : t ≤ L) (h0 : I 57 (I 49 15).toNat = 0) : pvw I t = I 57 t := by
  unfold pvw
  by_cases hi : (t : Int) < I 49 15
  · rw [if_pos hi]
  · rw [if_neg hi, show t = (I 49 15).toNat by omega]
    exact h0.symm
end
section
/-- a told law as the reference keeps it -/
def zKe (f : Nat → Int) (N : Nat) (k : Nat → Int) (t : Nat) : Prop := k (311 + t) = (zTk f N 0).length ∧ ∀ j, j < (zTk f N 0).length → k (317 + 400 * t + j) = zCd f (zTk f N 0) j ∧ k (2717 + 400 * t + j) = zVl f (zTk f N 0) j
def zRW (f : Nat → Int) (N : Nat) (x : Int) (I I' : aI1) : Prop := (∀ fp, zTx f N = .inl fp → x = -6 ∧ I' 51 = I 51 ∧ I' 49 11 = zPc N (zTk f N 0) fp) ∧ (∀ qs, zTx f N = .inr qs → x = I 51 310 ∧ I' 49 11 = -1 ∧ I' 51 310 = I 51 310 + 1 ∧ zKe f N (I' 51) (I 51 310).toNat ∧ (∀ j : Nat, ((j : Int) ≠ 310 ∧ (j : Int) ≠ 311 + I 51 310 ∧ ¬ (317 + 400 * I 51 310 ≤ j ∧ (j : Int) < 717 + 400 * I 51 310) ∧ ¬ (2717 + 400 * I 51 310 ≤ j ∧ (j : Int) < 3117 + 400 * I 51 310)) → I' 51 j = I 51 j))
set_option maxHeartbeats 4000000 in
set_option maxRecDepth 20000 in
theorem c6_X11_fault (l0 : Launch) {Ia Ja : aI1} {Ra : aR1} {Sa : aS1} (hL : LY Ra Sa) (hQ : RX Ia)  : CT l0 0 0 0 mX11_fault [kR (some 49)] Ia Ja Ra Sa (cI (fun x I' J' => Ia = I' ∧ Ja = J' ∧ x = Ia 49 11) Ra Sa) := by
  refine ct_in pn_X11 (Nat.le_of_ble_eq_true rfl) (fun X hX hT hIn => ?_)
  have hX : aK l0 X cX11_fault 1 RX11 (some .int) 0 0 0 := hX
  change WW X 0 [some (kR (some 49))] [] Ia Ja Ra Sa 0 0
  have qIa := RX_o hQ
  refine ww_aload_n hX (pc := 0) dX11_fault_0 rfl ?_
  refine ww_getI hX (pc := 1) fX11_40 (by decide) (xs_49 hL) dX11_fault_1 ?_
  refine rI hX (pc := 4) hT (Nat.le_refl 0) (Nat.le_refl 0) dX11_fault_4 ?_
  exact ⟨rfl, rfl, rfl⟩
end
section
theorem zLR_k {I I' : aI1} {S S' : aS1} {w : Nat} {qs : List zQ} (h : zLR I S w qs) (h0 : I' w = I w) (h1 : I' (w + 1) = I (w + 1)) (h2 : I' (w + 2) = I (w + 2)) (hS : SX S S') : zLR I' S' w qs := by
  obtain ⟨a1, a2, a3, n, b1, b2, b3, b4⟩ := h
  unfold zLR
  rw [h0, h1, h2]
  exact ⟨a1, a2, a3, n, hS _ _ b1, b2, b3, hS _ _ b4⟩
/-- what law leaves: by what the TEXT tells -/
def zCW (f : Nat → Int) (N : Nat) (x : Int) (I I' : aI1) (R R' : aR1) (S S' : aS1) : Prop := (∀ fp, zTx f N = .inl fp → x = -6 ∧ R' 4 = R 4 ∧ I' 1 9 = I 1 9 ∧ I' 10 0 = zPc N (zTk f N 0) fp) ∧ (∀ qs, zTx f N = .inr qs → x = I 1 9 ∧ I' 1 9 = I 1 9 + 1 ∧ I' 10 0 = -1 ∧ R' 4 = up1 (R 4) (I 1 9).toNat (some S.length) ∧ S'[S.length]? = some (12, 0) ∧ zLR I' S' S.length qs)
theorem zCW_0 {f : Nat → Int} {N fp : Nat} {x : Int} {I I' : aI1} {R R' : aR1} {S S' : aS1} (h : zTx f N = .inl fp) (h1 : x = -6 ∧ R' 4 = R 4 ∧ I' 1 9 = I 1 9 ∧ I' 10 0 = zPc N (zTk f N 0) fp) : zCW f N x I I' R R' S S' := ⟨fun g hg => (by rw [h] at hg; cases hg; exact h1), fun qs hq => (by rw [h] at hq; cases hq)⟩
theorem zCW_1 {f : Nat → Int} {N : Nat} {qs : List zQ} {x : Int} {I I' : aI1} {R R' : aR1} {S S' : aS1} (h : zTx f N = .inr qs) (h1 : x = I 1 9 ∧ I' 1 9 = I 1 9 + 1 ∧ I' 10 0 = -1 ∧ R' 4 = up1 (R 4) (I 1 9).toNat (some S.length) ∧ S'[S.length]? = some (12, 0) ∧ zLR I' S' S.length qs) : zCW f N x I I' R R' S S' := ⟨fun g hg => (by rw [h] at hg; cases hg), fun ps hq => (by rw [h] at hq; cases hq; exact h1)⟩
end
