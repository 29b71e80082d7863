theorem zDn_nx {f F G : Nat → Int} {dn : List (Nat × Nat)} {u v : Int} (h : zDn f dn F G) : zDn f dn (up1 F dn.length u) (up1 G dn.length v) := fun t p hp => by
  have ht := (List.getElem?_eq_some_iff.mp hp).1
  rw [up1_n _ _ (by omega), up1_n _ _ (by omega)]
  exact h t p hp
set_option maxHeartbeats 4000000 in
set_option maxRecDepth 20000 in
theorem c6_X7_findTokens (l0 : Launch) {Ia Ja : aI1} {Ra : aR1} {Sa : aS1} (hL : LY Ra Sa) (hI : XI Ia) (hR : LR Ia) {f : Nat → Int} {N : Nat} (hN : Ia 8 1 = N) (hf : ∀ j, j < N → f j = Ia 9 j)  : CT l0 8 0 0 mX7_findTokens [kR (some 10)] Ia Ja Ra Sa (cV (fun I' J' => Kp 10 15 Ia I' ∧ Kp 10 15 Ja J' ∧ LR I' ∧ True ∧ zTK I' (zCd f (zTk f N 0)) (zVl f (zTk f N 0)) (zTk f N 0).length ∧ ∀ t, t ≤ (zTk f N 0).length → I' 12 t = zPc N (zTk f N 0) t) Ra Sa) := by
  refine ct_in pn_X7 (Nat.le_of_ble_eq_true rfl) (fun X hX hT hIn => ?_)
  have hX : aK l0 X cX7_findTokens 3 RX7 none 8 0 0 := hX
  change WW X 0 [some (kR (some 10)), none, none] [] Ia Ja Ra Sa 0 0
  obtain ⟨hn1, hn2⟩ := hI.1
  obtain ⟨hk1, hk2⟩ := hI.2.1
  obtain ⟨hf1, hf2⟩ := hI.fu
  obtain ⟨hl1, hl2⟩ := hI.2.2.2.2.2.2.1
  have hq := hR.1
  unfold LRf at hq
  refine ww_aload_n hX (pc := 0) dX7_findTokens_0 rfl ?_
  refine ww_iconst hX (pc := 1) (x := 0) dX7_findTokens_1 rfl ?_
  refine ww_putI hX (pc := 2) (fun h9 => absurd h9 (by decide)) gX7_116 rfl (xs_10 hL) dX7_findTokens_2 ?_
  refine ww_nmH (fun I_2 eI_2 => ?_)
  have kI_2 : Kp 10 15 Ia I_2 := by rw [eI_2]; exact Kp_up (Kp_rf (a := 10) (b := 15)) _ _ (by decide)
  have r1_5_I_2 : I_2 1 5 = Ia 1 5 := Kp_at kI_2 1 5 (by decide)
  have r8_1_I_2 : I_2 8 1 = Ia 8 1 := Kp_at kI_2 8 1 (by decide)
  have rf_I_2 : FU (I_2 1 5) = FU (Ia 1 5) := by rw [r1_5_I_2]
  have lI_2 : LR I_2 := by rw [eI_2]; exact LR_6 hR (by omega) (by omega)
  have wI_2 := (congrFun (congrFun eI_2 10) 6).trans (up2_s _ _ _ _)
  have wI_2_7 : I_2 10 7 = Ia 10 7 := by rw [eI_2, up2_n _ _ (Or.inr (by decide))]
  have wI_2_8 : I_2 10 8 = Ia 10 8 := by rw [eI_2, up2_n _ _ (Or.inr (by decide))]
  have wI_2_9 : I_2 10 9 = Ia 10 9 := by rw [eI_2, up2_n _ _ (Or.inr (by decide))]
  have wI_2_10 : I_2 10 10 = Ia 10 10 := by rw [eI_2, up2_n _ _ (Or.inr (by decide))]
  have wI_2_11 : I_2 10 11 = Ia 10 11 := by rw [eI_2, up2_n _ _ (Or.inr (by decide))]
  have y13_I_2 : I_2 13 = Ia 13 := by rw [eI_2, up2_off _ _ _ (by decide)]
  have y14_I_2 : I_2 14 = Ia 14 := by rw [eI_2, up2_off _ _ _ (by decide)]
  have z0I_2 : I_2 10 0 = Ia 10 0 := by rw [eI_2, up2_n _ _ (Or.inr (by decide))]
  have hNb : I_2 8 1 = N := by rw [r8_1_I_2]; exact hN
  have hfb : ∀ j, j < N → f j = I_2 9 j := by rw [eI_2, up2_off _ _ _ (by decide)]; exact hf
  refine ww_aload_n hX (pc := 5) dX7_findTokens_5 rfl ?_
  refine ww_iconst hX (pc := 6) (x := 0) dX7_findTokens_6 rfl ?_
  refine vI1 hX (pc := 7) sX7_125 (xs_10 hL) (c6_X7_skipBlanks l0 hL (XI_kp hI kI_2 (by decide)) hNb hfb (by omega) (by omega)) (by decide) (Nat.le_refl 0) (Nat.le_refl 0) (Nat.le_of_ble_eq_true rfl) dX7_findTokens_7 (fun x_7 I_7 J_7 h_7 => ?_)
  obtain ⟨rfl, rfl, h_7⟩ := h_7
  refine ww_istore_n hX (pc := 10) (lv' := [some (kR (some 10)), some (kI x_7), none]) dX7_findTokens_10 (by decide) rfl rfl ?_
  have hl_11 : ∀ (n_11 : Nat) (q : Int) (I2 : aI1) (J2 : aI1), (Ia 8 1 - q).toNat = n_11 → (Kp 10 15 Ia I2 ∧ Kp 10 15 Ja J2 ∧ LR I2 ∧ True ∧ (0 ≤ q ∧ q ≤ Ia 8 1) ∧ (q < Ia 8 1 → ¬ f q.toNat = 32) ∧ ∃ dn : List (Nat × Nat), zTk f N 0 = dn ++ zTk f N q.toNat ∧ I2 10 6 = dn.length ∧ (dn.length : Int) ≤ q ∧ zDn f dn (I2 11) (I2 12)) → WW X 11 [some (kR (some 10)), some (kI q), none] [] I2 J2 Ra Sa 0 0 := by
    intro n_11
    induction n_11 using Nat.strongRecOn with
    | ind n_11 ih_11 =>
      intro q I2 J2 hm_11 hv_11
      have hq_11 := Sh0_i hm_11
      clear hm_11
      obtain ⟨kI2, kJ2, lI2, cI2, hq9, hb9, dn, ht9, hd6, hdl, hdn⟩ := hv_11
      have r1_5_I2 : I2 1 5 = Ia 1 5 := Kp_at kI2 1 5 (by decide)
      have r8_1_I2 : I2 8 1 = Ia 8 1 := Kp_at kI2 8 1 (by decide)
      have rf_I2 : FU (I2 1 5) = FU (Ia 1 5) := by rw [r1_5_I2]
      have qI2 := lI2.1
      unfold LRf at qI2
      have y9 : I2 9 = Ia 9 := kI2 9 (by omega)
      have hf2 : ∀ j, j < N → f j = I2 9 j := by rw [y9]; exact hf
      have hN2 : I2 8 1 = N := by rw [r8_1_I2]; exact hN
      refine ww_iload_n hX (pc := 11) dX7_findTokens_11 rfl ?_
      refine ww_aload_n hX (pc := 12) dX7_findTokens_12 rfl ?_
      refine ww_getR hX (pc := 13) fX7_28 (by decide) (xs_10 hL) (xr_10_1 hL) dX7_findTokens_13 ?_
      refine ww_getI hX (pc := 16) fX7_128 (by decide) (xs_8 hL) dX7_findTokens_16 ?_
      refine ww_icmp_ge hX (pc := 19) (tgt := 82) dX7_findTokens_19 (by decide) (fun h_19 => ?_) (fun h_19 => ?_)
      · simp only [w32_mod] at h_19
        refine ww_aload_n hX (pc := 82) dX7_findTokens_82 rfl ?_
        refine ww_getR hX (pc := 83) fX7_19 (by decide) (xs_10 hL) (xr_10_3 hL) dX7_findTokens_83 ?_
        refine ww_aload_n hX (pc := 86) dX7_findTokens_86 rfl ?_
        refine ww_getI hX (pc := 87) fX7_116 (by decide) (xs_10 hL) dX7_findTokens_87 ?_
        refine ww_aload_n hX (pc := 90) dX7_findTokens_90 rfl ?_
        refine ww_getR hX (pc := 91) fX7_28 (by decide) (xs_10 hL) (xr_10_1 hL) dX7_findTokens_91 ?_
        refine ww_getI hX (pc := 94) fX7_128 (by decide) (xs_8 hL) dX7_findTokens_94 ?_
        refine ww_iast hX (pc := 97) (xs_12 hL) (by decide) (by omega) (by omega) dX7_findTokens_97 ?_
        refine ww_nmH (fun I_97 eI_97 => ?_)
        have kI_97 : Kp 10 15 Ia I_97 := by rw [eI_97]; exact Kp_up kI2 _ _ (by decide)
        have r1_5_I_97 : I_97 1 5 = Ia 1 5 := Kp_at kI_97 1 5 (by decide)
        have r8_1_I_97 : I_97 8 1 = Ia 8 1 := Kp_at kI_97 8 1 (by decide)
        have rf_I_97 : FU (I_97 1 5) = FU (Ia 1 5) := by rw [r1_5_I_97]
        have lI_97 : LR I_97 := by rw [eI_97]; exact LR_c12 lI2 _
        have wI_97 : I_97 10 = I2 10 := by rw [eI_97, up2_off _ _ _ (by decide)]
        have wI_97_6 : I_97 10 6 = I2 10 6 := by rw [wI_97]
        have wI_97_7 : I_97 10 7 = I2 10 7 := by rw [wI_97]
        have wI_97_8 : I_97 10 8 = I2 10 8 := by rw [wI_97]
        have wI_97_9 : I_97 10 9 = I2 10 9 := by rw [wI_97]
        have wI_97_10 : I_97 10 10 = I2 10 10 := by rw [wI_97]
        have wI_97_11 : I_97 10 11 = I2 10 11 := by rw [wI_97]
        have z0I_97 : I_97 10 0 = I2 10 0 := by rw [wI_97]
        refine ww_aload_n hX (pc := 98) dX7_findTokens_98 rfl ?_
        refine ww_getR hX (pc := 99) fX7_15 (by decide) (xs_10 hL) (xr_10_2 hL) dX7_findTokens_99 ?_
        refine ww_aload_n hX (pc := 102) dX7_findTokens_102 rfl ?_
        refine ww_getI hX (pc := 103) fX7_116 (by decide) (xs_10 hL) dX7_findTokens_103 ?_
        refine ww_sipush hX (pc := 106) (x := 256) dX7_findTokens_106 (by decide) ?_
        refine ww_iast hX (pc := 109) (xs_11 hL) (by decide) (by omega) (by omega) dX7_findTokens_109 ?_
        refine ww_nmH (fun I_109 eI_109 => ?_)
        have kI_109 : Kp 10 15 Ia I_109 := by rw [eI_109]; exact Kp_up kI_97 _ _ (by decide)
        have r1_5_I_109 : I_109 1 5 = Ia 1 5 := Kp_at kI_109 1 5 (by decide)
        have r8_1_I_109 : I_109 8 1 = Ia 8 1 := Kp_at kI_109 8 1 (by decide)
        have rf_I_109 : FU (I_109 1 5) = FU (Ia 1 5) := by rw [r1_5_I_109]
        have lI_109 : LR I_109 := by rw [eI_109]; exact LR_c11 lI_97 _ (by omega) (by omega)
        have wI_109 : I_109 10 = I_97 10 := by rw [eI_109, up2_off _ _ _ (by decide)]
        have wI_109_6 : I_109 10 6 = I_97 10 6 := by rw [wI_109]
        have wI_109_7 : I_109 10 7 = I_97 10 7 := by rw [wI_109]
        have wI_109_8 : I_109 10 8 = I_97 10 8 := by rw [wI_109]
        have wI_109_9 : I_109 10 9 = I_97 10 9 := by rw [wI_109]
        have wI_109_10 : I_109 10 10 = I_97 10 10 := by rw [wI_109]
        have wI_109_11 : I_109 10 11 = I_97 10 11 := by rw [wI_109]
        have z0I_109 : I_109 10 0 = I_97 10 0 := by rw [wI_109]
        refine rV hX (pc := 110) hT (Nat.le_refl 0) (Nat.le_refl 0) dX7_findTokens_110 ?_
        have hnil : zTk f N q.toNat = [] := zTk_0 (by omega)
        rw [hnil, List.append_nil] at ht9
        have hfin := zTK_mk (I := I_109) ht9.symm (by omega) (by rw [show I_109 11 = up1 (I2 11) dn.length 256 by rw [eI_109, up2_row, show (I_97 10 6).toNat = dn.length by omega, eI_97, up2_off _ _ _ (by decide)], show I_109 12 = up1 (I2 12) dn.length (I2 8 1) by rw [eI_109, up2_off _ _ _ (by decide), eI_97, up2_row, show (I2 10 6).toNat = dn.length by omega]]; exact zDn_nx hdn) (by omega) (by omega) (by rw [eI_109, show (I_97 10 6).toNat = dn.length by omega, up2_s]) (by rw [eI_109, up2_off _ _ _ (by decide), eI_97, show (I2 10 6).toNat = dn.length by omega, up2_s]; omega)
        rw [← ht9] at hfin
        exact ⟨kI_109, kJ2, lI_109, trivial, hfin⟩
      · simp only [w32_mod] at h_19
        refine ww_aload_n hX (pc := 22) dX7_findTokens_22 rfl ?_
        refine ww_getI hX (pc := 23) fX7_116 (by decide) (xs_10 hL) dX7_findTokens_23 ?_
        refine ww_sipush hX (pc := 26) (x := 400) dX7_findTokens_26 (by decide) ?_
        refine ww_icmp_ge hX (pc := 29) (tgt := 82) dX7_findTokens_29 (by decide) (fun h_29 => ?_) (fun h_29 => ?_)
        · simp only [w32_mod] at h_29
          refine ww_aload_n hX (pc := 82) dX7_findTokens_82 rfl ?_
          refine ww_getR hX (pc := 83) fX7_19 (by decide) (xs_10 hL) (xr_10_3 hL) dX7_findTokens_83 ?_
          refine ww_aload_n hX (pc := 86) dX7_findTokens_86 rfl ?_
          refine ww_getI hX (pc := 87) fX7_116 (by decide) (xs_10 hL) dX7_findTokens_87 ?_
          refine ww_aload_n hX (pc := 90) dX7_findTokens_90 rfl ?_
          refine ww_getR hX (pc := 91) fX7_28 (by decide) (xs_10 hL) (xr_10_1 hL) dX7_findTokens_91 ?_
          refine ww_getI hX (pc := 94) fX7_128 (by decide) (xs_8 hL) dX7_findTokens_94 ?_
          refine ww_iast hX (pc := 97) (xs_12 hL) (by decide) (by omega) (by omega) dX7_findTokens_97 ?_
          refine ww_nmH (fun I_97 eI_97 => ?_)
          have kI_97 : Kp 10 15 Ia I_97 := by rw [eI_97]; exact Kp_up kI2 _ _ (by decide)
          have r1_5_I_97 : I_97 1 5 = Ia 1 5 := Kp_at kI_97 1 5 (by decide)
          have r8_1_I_97 : I_97 8 1 = Ia 8 1 := Kp_at kI_97 8 1 (by decide)
          have rf_I_97 : FU (I_97 1 5) = FU (Ia 1 5) := by rw [r1_5_I_97]
          have lI_97 : LR I_97 := by rw [eI_97]; exact LR_c12 lI2 _
          have wI_97 : I_97 10 = I2 10 := by rw [eI_97, up2_off _ _ _ (by decide)]
          have wI_97_6 : I_97 10 6 = I2 10 6 := by rw [wI_97]
          have wI_97_7 : I_97 10 7 = I2 10 7 := by rw [wI_97]
          have wI_97_8 : I_97 10 8 = I2 10 8 := by rw [wI_97]
          have wI_97_9 : I_97 10 9 = I2 10 9 := by rw [wI_97]
          have wI_97_10 : I_97 10 10 = I2 10 10 := by rw [wI_97]
          have wI_97_11 : I_97 10 11 = I2 10 11 := by rw [wI_97]
          have z0I_97 : I_97 10 0 = I2 10 0 := by rw [wI_97]
          refine ww_aload_n hX (pc := 98) dX7_findTokens_98 rfl ?_
          refine ww_getR hX (pc := 99) fX7_15 (by decide) (xs_10 hL) (xr_10_2 hL) dX7_findTokens_99 ?_
          refine ww_aload_n hX (pc := 102) dX7_findTokens_102 rfl ?_
          refine ww_getI hX (pc := 103) fX7_116 (by decide) (xs_10 hL) dX7_findTokens_103 ?_
          refine ww_sipush hX (pc := 106) (x := 256) dX7_findTokens_106 (by decide) ?_
          refine ww_iast hX (pc := 109) (xs_11 hL) (by decide) (by omega) (by omega) dX7_findTokens_109 ?_
          refine ww_nmH (fun I_109 eI_109 => ?_)
          have kI_109 : Kp 10 15 Ia I_109 := by rw [eI_109]; exact Kp_up kI_97 _ _ (by decide)
          have r1_5_I_109 : I_109 1 5 = Ia 1 5 := Kp_at kI_109 1 5 (by decide)
          have r8_1_I_109 : I_109 8 1 = Ia 8 1 := Kp_at kI_109 8 1 (by decide)
          have rf_I_109 : FU (I_109 1 5) = FU (Ia 1 5) := by rw [r1_5_I_109]
          have lI_109 : LR I_109 := by rw [eI_109]; exact LR_c11 lI_97 _ (by omega) (by omega)
          have wI_109 : I_109 10 = I_97 10 := by rw [eI_109, up2_off _ _ _ (by decide)]
          have wI_109_6 : I_109 10 6 = I_97 10 6 := by rw [wI_109]
          have wI_109_7 : I_109 10 7 = I_97 10 7 := by rw [wI_109]
          have wI_109_8 : I_109 10 8 = I_97 10 8 := by rw [wI_109]
          have wI_109_9 : I_109 10 9 = I_97 10 9 := by rw [wI_109]
          have wI_109_10 : I_109 10 10 = I_97 10 10 := by rw [wI_109]
          have wI_109_11 : I_109 10 11 = I_97 10 11 := by rw [wI_109]
          have z0I_109 : I_109 10 0 = I_97 10 0 := by rw [wI_109]
          refine rV hX (pc := 110) hT (Nat.le_refl 0) (Nat.le_refl 0) dX7_findTokens_110 ?_
          have hnil : zTk f N q.toNat = [] := zTk_0 (by omega)
          rw [hnil, List.append_nil] at ht9
          have hfin := zTK_mk (I := I_109) ht9.symm (by omega) (by rw [show I_109 11 = up1 (I2 11) dn.length 256 by rw [eI_109, up2_row, show (I_97 10 6).toNat = dn.length by omega, eI_97, up2_off _ _ _ (by decide)], show I_109 12 = up1 (I2 12) dn.length (I2 8 1) by rw [eI_109, up2_off _ _ _ (by decide), eI_97, up2_row, show (I2 10 6).toNat = dn.length by omega]]; exact zDn_nx hdn) (by omega) (by omega) (by rw [eI_109, show (I_97 10 6).toNat = dn.length by omega, up2_s]) (by rw [eI_109, up2_off _ _ _ (by decide), eI_97, show (I2 10 6).toNat = dn.length by omega, up2_s]; omega)
          rw [← ht9] at hfin
          exact ⟨kI_109, kJ2, lI_109, trivial, hfin⟩
        · simp only [w32_mod] at h_29
          refine ww_aload_n hX (pc := 32) dX7_findTokens_32 rfl ?_
          refine ww_iload_n hX (pc := 33) dX7_findTokens_33 rfl ?_
          refine vI1 hX (pc := 34) sX7_133 (xs_10 hL) (c6_X7_stopOf l0 hL (XI_kp hI kI2 (by decide)) hN2 hf2 (by omega) (by omega)) (by decide) (Nat.le_refl 0) (Nat.le_refl 0) (Nat.le_of_ble_eq_true rfl) dX7_findTokens_34 (fun x_34 I_34 J_34 h_34 => ?_)
          obtain ⟨rfl, rfl, h_34⟩ := h_34
          refine ww_istore_n hX (pc := 37) (lv' := [some (kR (some 10)), some (kI q), some (kI x_34)]) dX7_findTokens_37 (by decide) rfl rfl ?_
          refine ww_aload_n hX (pc := 38) dX7_findTokens_38 rfl ?_
          refine ww_getR hX (pc := 39) fX7_19 (by decide) (xs_10 hL) (xr_10_3 hL) dX7_findTokens_39 ?_
          refine ww_aload_n hX (pc := 42) dX7_findTokens_42 rfl ?_
          refine ww_getI hX (pc := 43) fX7_116 (by decide) (xs_10 hL) dX7_findTokens_43 ?_
          refine ww_iload_n hX (pc := 46) dX7_findTokens_46 rfl ?_
          refine ww_iast hX (pc := 47) (xs_12 hL) (by decide) (by omega) (by omega) dX7_findTokens_47 ?_
          refine ww_nmH (fun I_47 eI_47 => ?_)
          have kI_47 : Kp 10 15 Ia I_47 := by rw [eI_47]; exact Kp_up kI2 _ _ (by decide)
          have r1_5_I_47 : I_47 1 5 = Ia 1 5 := Kp_at kI_47 1 5 (by decide)
          have r8_1_I_47 : I_47 8 1 = Ia 8 1 := Kp_at kI_47 8 1 (by decide)
          have rf_I_47 : FU (I_47 1 5) = FU (Ia 1 5) := by rw [r1_5_I_47]
          have lI_47 : LR I_47 := by rw [eI_47]; exact LR_c12 lI2 _
          have wI_47 : I_47 10 = I2 10 := by rw [eI_47, up2_off _ _ _ (by decide)]
          have wI_47_6 : I_47 10 6 = I2 10 6 := by rw [wI_47]
          have wI_47_7 : I_47 10 7 = I2 10 7 := by rw [wI_47]
          have wI_47_8 : I_47 10 8 = I2 10 8 := by rw [wI_47]
          have wI_47_9 : I_47 10 9 = I2 10 9 := by rw [wI_47]
          have wI_47_10 : I_47 10 10 = I2 10 10 := by rw [wI_47]
          have wI_47_11 : I_47 10 11 = I2 10 11 := by rw [wI_47]
          have z0I_47 : I_47 10 0 = I2 10 0 := by rw [wI_47]
          have y9_47 : I_47 9 = Ia 9 := by rw [eI_47, up2_off _ _ _ (by decide)]; exact y9
          have y12_47 : I_47 12 = up1 (I2 12) dn.length q := by rw [eI_47, up2_row, show (I2 10 6).toNat = dn.length by omega]
          have y11_47 : I_47 11 = I2 11 := by rw [eI_47, up2_off _ _ _ (by decide)]
          refine ww_aload_n hX (pc := 48) dX7_findTokens_48 rfl ?_
          refine ww_getR hX (pc := 49) fX7_15 (by decide) (xs_10 hL) (xr_10_2 hL) dX7_findTokens_49 ?_
          refine ww_aload_n hX (pc := 52) dX7_findTokens_52 rfl ?_
          refine ww_getI hX (pc := 53) fX7_116 (by decide) (xs_10 hL) dX7_findTokens_53 ?_
          refine ww_aload_n hX (pc := 56) dX7_findTokens_56 rfl ?_
          refine ww_iload_n hX (pc := 57) dX7_findTokens_57 rfl ?_
          refine ww_iload_n hX (pc := 58) dX7_findTokens_58 rfl ?_
          refine vI2 hX (pc := 59) sX7_136 (xs_10 hL) (c6_X7_kindOf l0 hL (XI_kp hI kI_47 (by decide)) (f := f) (N := N) (by rw [r8_1_I_47]; exact hN) (by rw [y9_47]; exact hf) (by omega) (by omega) (by omega) (by rw [y9_47, ← y9]; exact h_34.2.1)) (by decide) (Nat.le_refl 0) (Nat.le_refl 0) (Nat.le_of_ble_eq_true rfl) dX7_findTokens_59 (fun x_59 I_59 J_59 h_59 => ?_)
          obtain ⟨rfl, rfl, h_59⟩ := h_59
          refine ww_iast hX (pc := 62) (xs_11 hL) (by decide) (by omega) (by omega) dX7_findTokens_62 ?_
          refine ww_nmH (fun I_62 eI_62 => ?_)
          have kI_62 : Kp 10 15 Ia I_62 := by rw [eI_62]; exact Kp_up kI_47 _ _ (by decide)
          have r1_5_I_62 : I_62 1 5 = Ia 1 5 := Kp_at kI_62 1 5 (by decide)
          have r8_1_I_62 : I_62 8 1 = Ia 8 1 := Kp_at kI_62 8 1 (by decide)
          have rf_I_62 : FU (I_62 1 5) = FU (Ia 1 5) := by rw [r1_5_I_62]
          have lI_62 : LR I_62 := by rw [eI_62]; exact LR_c11 lI_47 _ (by omega) (by omega)
          have wI_62 : I_62 10 = I_47 10 := by rw [eI_62, up2_off _ _ _ (by decide)]
          have wI_62_6 : I_62 10 6 = I_47 10 6 := by rw [wI_62]
          have wI_62_7 : I_62 10 7 = I_47 10 7 := by rw [wI_62]
          have wI_62_8 : I_62 10 8 = I_47 10 8 := by rw [wI_62]
          have wI_62_9 : I_62 10 9 = I_47 10 9 := by rw [wI_62]
          have wI_62_10 : I_62 10 10 = I_47 10 10 := by rw [wI_62]
          have wI_62_11 : I_62 10 11 = I_47 10 11 := by rw [wI_62]
          have z0I_62 : I_62 10 0 = I_47 10 0 := by rw [wI_62]
          have y11_62 : I_62 11 = up1 (I2 11) dn.length x_59 := by rw [eI_62, up2_row, show (I_47 10 6).toNat = dn.length by omega, y11_47]
          have y12_62 : I_62 12 = up1 (I2 12) dn.length q := by rw [eI_62, up2_off _ _ _ (by decide), y12_47]
          have hko : zKo f q.toNat (zSt f N q.toNat) x_59 := by have h9 := h_59.2; rw [show x_34.toNat = zSt f N q.toNat by omega] at h9; exact h9
          refine ww_aload_n hX (pc := 63) dX7_findTokens_63 rfl ?_
          refine ww_dupR hX (pc := 64) dX7_findTokens_64 ?_
          refine ww_getI hX (pc := 65) fX7_116 (by decide) (xs_10 hL) dX7_findTokens_65 ?_
          refine ww_iconst hX (pc := 68) (x := 1) dX7_findTokens_68 rfl ?_
          refine ww_iadd hX (pc := 69) dX7_findTokens_69 ?_
          refine ww_putI hX (pc := 70) (fun h9 => absurd h9 (by decide)) gX7_116 rfl (xs_10 hL) dX7_findTokens_70 ?_
          refine ww_nmH (fun I_70 eI_70 => ?_)
          have kI_70 : Kp 10 15 Ia I_70 := by rw [eI_70]; exact Kp_up kI_62 _ _ (by decide)
          have r1_5_I_70 : I_70 1 5 = Ia 1 5 := Kp_at kI_70 1 5 (by decide)
          have r8_1_I_70 : I_70 8 1 = Ia 8 1 := Kp_at kI_70 8 1 (by decide)
          have rf_I_70 : FU (I_70 1 5) = FU (Ia 1 5) := by rw [r1_5_I_70]
          have lI_70 : LR I_70 := by rw [eI_70]; exact LR_6 lI_62 (by omega) (by omega)
          have wI_70 := (congrFun (congrFun eI_70 10) 6).trans (up2_s _ _ _ _)
          have wI_70_7 : I_70 10 7 = I_62 10 7 := by rw [eI_70, up2_n _ _ (Or.inr (by decide))]
          have wI_70_8 : I_70 10 8 = I_62 10 8 := by rw [eI_70, up2_n _ _ (Or.inr (by decide))]
          have wI_70_9 : I_70 10 9 = I_62 10 9 := by rw [eI_70, up2_n _ _ (Or.inr (by decide))]
          have wI_70_10 : I_70 10 10 = I_62 10 10 := by rw [eI_70, up2_n _ _ (Or.inr (by decide))]
          have wI_70_11 : I_70 10 11 = I_62 10 11 := by rw [eI_70, up2_n _ _ (Or.inr (by decide))]
          have y13_I_70 : I_70 13 = I_62 13 := by rw [eI_70, up2_off _ _ _ (by decide)]
          have y14_I_70 : I_70 14 = I_62 14 := by rw [eI_70, up2_off _ _ _ (by decide)]
          have z0I_70 : I_70 10 0 = I_62 10 0 := by rw [eI_70, up2_n _ _ (Or.inr (by decide))]
          have y11_70 : I_70 11 = up1 (I2 11) dn.length x_59 := by rw [eI_70, up2_off _ _ _ (by decide), y11_62]
          have y12_70 : I_70 12 = up1 (I2 12) dn.length q := by rw [eI_70, up2_off _ _ _ (by decide), y12_62]
          have hdn2 : zDn f (dn ++ [(q.toNat, zSt f N q.toNat)]) (I_70 11) (I_70 12) := by rw [y11_70, y12_70]; exact zDn_ad hdn hko (by omega)
          have y9_70 : I_70 9 = Ia 9 := by rw [eI_70, up2_off _ _ _ (by decide), eI_62, up2_off _ _ _ (by decide)]; exact y9_47
          have hf70 : ∀ j, j < N → f j = I_70 9 j := by rw [y9_70]; exact hf
          have hN70 : I_70 8 1 = N := by rw [r8_1_I_70]; exact hN
          refine ww_aload_n hX (pc := 73) dX7_findTokens_73 rfl ?_
          refine ww_iload_n hX (pc := 74) dX7_findTokens_74 rfl ?_
          refine vI1 hX (pc := 75) sX7_125 (xs_10 hL) (c6_X7_skipBlanks l0 hL (XI_kp hI kI_70 (by decide)) hN70 hf70 (by omega) (by omega)) (by decide) (Nat.le_refl 0) (Nat.le_refl 0) (Nat.le_of_ble_eq_true rfl) dX7_findTokens_75 (fun x_75 I_75 J_75 h_75 => ?_)
          obtain ⟨rfl, rfl, h_75⟩ := h_75
          refine ww_istore_n hX (pc := 78) (lv' := [some (kR (some 10)), some (kI x_75), some (kI x_34)]) dX7_findTokens_78 (by decide) rfl rfl ?_
          refine ww_goto hX (pc := 79) (tgt := 11) dX7_findTokens_79 (by decide) ?_
          refine ww_sub [some (kR (some 10)), some (kI x_75), none] (aLe_s (aLe_s (aLe_n aLe_0))) ?_
          exact ih_11 _ (by have hm9 := Sh0_e hq_11; omega) x_75 I_70 J2 rfl ⟨kI_70, kJ2, lI_70, trivial, by omega, (fun h9 => h_75.2.1 (by omega)), dn ++ [(q.toNat, zSt f N q.toNat)], (by rw [ht9, zTk_t (by omega) (hb9 (by omega)), List.append_assoc, List.singleton_append, h_75.2.2, show x_34.toNat = zSt f N q.toNat by omega]), (by rw [List.length_append, List.length_singleton, wI_70]; omega), (by rw [List.length_append, List.length_singleton]; omega), hdn2⟩
  exact hl_11 _ x_7 I_2 Ja rfl ⟨kI_2, (Kp_rf (a := 10) (b := 15)), lI_2, trivial, by omega, (fun h9 => h_7.2.1 (by omega)), [], h_7.2.2.symm, (by rw [wI_2]; rfl), (by show (0 : Int) ≤ _; omega), zDn_0⟩
