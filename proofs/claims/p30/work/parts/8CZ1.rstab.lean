set_option maxHeartbeats 4000000 in
set_option maxRecDepth 20000 in
theorem c9_X11_trail (l0 : Launch) {Ia Ja : aI1} {Ra : aR1} {Sa : aS1} (hL : LY Ra Sa) (hQ : RX Ia)  : CT l0 1 0 0 mX11_trail [kR (some 49)] Ia Ja Ra Sa (cI (fun x I' J' => (Ch [50, 67] [0, 1, 10, 33] Ia I' ∧ Kp 49 73 Ja J' ∧ RX I' ∧ I' 49 10 = 0 ∧ (Ia 49 10 = 0 → x = -6 ∧ I' 49 33 = Ia 49 33 ∧ I' 67 = Ia 67) ∧ (¬ Ia 49 10 = 0 → x = min (Ia 49 10) 30 ∧ I' 49 33 = min (Ia 49 10) 30 ∧ (∀ j : Nat, (j : Int) < min (Ia 49 10) 30 → I' 67 j = i_and (Ia 55 j) 255))) ∧ RGQ9 x Ia I' Ja J') Ra Sa) := by
  refine ct_in pn_X11 (Nat.le_of_ble_eq_true rfl) (fun X hX hT hIn => ?_)
  have hX : aK l0 X cX11_trail 3 RX11 (some .int) 1 0 0 := hX
  change WW X 0 [some (kR (some 49)), none, none] [] Ia Ja Ra Sa 0 0
  have qIa := RX_o hQ
  refine ww_aload_n hX (pc := 0) dX11_trail_0 rfl ?_
  refine ww_getI hX (pc := 1) fX11_129 (by decide) (xs_49 hL) dX11_trail_1 ?_
  refine ww_nmI (fun v_4 hv_4 => ?_)
  refine ww_istore_n hX (pc := 4) (lv' := [some (kR (some 49)), some (kI v_4), none]) dX11_trail_4 (by decide) rfl rfl ?_
  refine ww_aload_n hX (pc := 5) dX11_trail_5 rfl ?_
  refine ww_iconst hX (pc := 6) (x := 0) dX11_trail_6 rfl ?_
  refine ww_putI hX (pc := 7) (fun h9 => absurd h9 (by decide)) gX11_129 rfl (xs_49 hL) dX11_trail_7 ?_
  refine ww_nmH (fun I_7 eI_7 => ?_)
  have kI_7 : Ch [50, 67] [0, 1, 10, 33] Ia I_7 := by rw [eI_7]; exact Ch_f Ch_rf (by decide)
  have cI_7 : RX I_7 := by rw [eI_7]; exact RX_10 hQ (by omega) (by omega)
  have qI_7 := RX_o cI_7
  have r304_I_7 : I_7 51 304 = Ia 51 304 := by rw [eI_7, up2_off _ _ _ (by decide)]
  have r305_I_7 : I_7 51 305 = Ia 51 305 := by rw [eI_7, up2_off _ _ _ (by decide)]
  have f33_I_7 : I_7 49 33 = Ia 49 33 := by rw [eI_7, up2_n _ _ (Or.inr (by decide))]
  have rf_I_7 : FU (I_7 51 304) = FU (Ia 51 304) := by rw [r304_I_7]
  have z10 : I_7 49 10 = 0 := by rw [eI_7, up2_s]
  have w7 : I_7 55 = Ia 55 := by rw [eI_7, up2_off _ _ _ (by decide)]
  have bkI_7 : BK9 Ia I_7 := by rw [eI_7]; exact BK9_f BK9_rf (by decide)
  have tkI_7 : TK9 Ia I_7 Ja Ja := by rw [eI_7]; exact TK9_f TK9_rf (by decide)
  refine ww_iload_n hX (pc := 10) dX11_trail_10 rfl ?_
  refine ww_if_ne hX (pc := 11) (tgt := 21) dX11_trail_11 (by decide) (fun h_11 => ?_) (fun h_11 => ?_)
  · simp only [w32_mod] at h_11
    refine ww_aload_n hX (pc := 21) dX11_trail_21 rfl ?_
    refine ww_iload_n hX (pc := 22) dX11_trail_22 rfl ?_
    refine ww_bipush hX (pc := 23) (x := 30) dX11_trail_23 (by decide) ?_
    refine ww_icmp_ge hX (pc := 25) (tgt := 32) dX11_trail_25 (by decide) (fun h_25 => ?_) (fun h_25 => ?_)
    · simp only [w32_mod] at h_25
      refine ww_bipush hX (pc := 32) (x := 30) dX11_trail_32 (by decide) ?_
      refine ww_putI hX (pc := 34) (fun h9 => absurd h9 (by decide)) gX11_334 rfl (xs_49 hL) dX11_trail_34 ?_
      refine ww_nmH (fun I_34 eI_34 => ?_)
      have kI_34 : Ch [50, 67] [0, 1, 10, 33] Ia I_34 := by rw [eI_34]; exact Ch_f kI_7 (by decide)
      have cI_34 : RX I_34 := by rw [eI_34]; exact RX_33 cI_7 (by omega) (by omega)
      have qI_34 := RX_o cI_34
      have r304_I_34 : I_34 51 304 = I_7 51 304 := by rw [eI_34, up2_off _ _ _ (by decide)]
      have r305_I_34 : I_34 51 305 = I_7 51 305 := by rw [eI_34, up2_off _ _ _ (by decide)]
      have f10_I_34 : I_34 49 10 = I_7 49 10 := by rw [eI_34, up2_n _ _ (Or.inr (by decide))]
      have rf_I_34 : FU (I_34 51 304) = FU (I_7 51 304) := by rw [r304_I_34]
      have z33 : I_34 49 33 = 30 := by rw [eI_34, up2_s]
      have w34 : I_34 55 = Ia 55 := by rw [eI_34, up2_off _ _ _ (by decide)]; exact w7
      have bkI_34 : BK9 Ia I_34 := by rw [eI_34]; exact BK9_f bkI_7 (by decide)
      have tkI_34 : TK9 Ia I_34 Ja Ja := by rw [eI_34]; exact TK9_f tkI_7 (by decide)
      refine ww_iconst hX (pc := 37) (x := 0) dX11_trail_37 rfl ?_
      refine ww_istore_n hX (pc := 38) (lv' := [some (kR (some 49)), some (kI v_4), some (kI 0)]) dX11_trail_38 (by decide) rfl rfl ?_
      have hl_39 : ∀ (n_39 : Nat) (i : Int) (I39 : aI1) (J39 : aI1), (30 - i).toNat = n_39 → (BK9 Ia I39 ∧ TK9 Ia I39 Ja J39 ∧ (Ch [50, 67] [0, 1, 10, 33] Ia I39 ∧ RX I39 ∧ Kp 49 73 Ja J39 ∧ I39 51 304 = I_34 51 304 ∧ I39 51 305 = I_34 51 305 ∧ I39 49 10 = I_34 49 10 ∧ I39 49 33 = I_34 49 33 ∧ (0 ≤ i ∧ i ≤ 30) ∧ I39 55 = Ia 55 ∧ (∀ j : Nat, (j : Int) < i → I39 67 j = i_and (Ia 55 j) 255))) → WW X 39 [some (kR (some 49)), some (kI v_4), some (kI i)] [] I39 J39 Ra Sa 0 0 := by
        intro n_39
        induction n_39 using Nat.strongRecOn with
        | ind n_39 ih_39 =>
          intro i I39 J39 hm_39 hv_39
          have hq_39 := Sh0_i hm_39
          clear hm_39
          obtain ⟨bkl39, tkl39, hv_39⟩ := hv_39
          obtain ⟨kI39, cI39, kJ39, r304_I39, r305_I39, f10_I39, f33_I39, hv, wj, htj⟩ := hv_39
          have qI39 := RX_o cI39
          have rf_I39 : FU (I39 51 304) = FU (I_34 51 304) := by rw [r304_I39]
          refine ww_iload_n hX (pc := 39) dX11_trail_39 rfl ?_
          refine ww_aload_n hX (pc := 40) dX11_trail_40 rfl ?_
          refine ww_getI hX (pc := 41) fX11_334 (by decide) (xs_49 hL) dX11_trail_41 ?_
          refine ww_icmp_ge hX (pc := 44) (tgt := 69) dX11_trail_44 (by decide) (fun h_44 => ?_) (fun h_44 => ?_)
          · simp only [w32_mod] at h_44
            refine ww_aload_n hX (pc := 69) dX11_trail_69 rfl ?_
            refine ww_aload_n hX (pc := 70) dX11_trail_70 rfl ?_
            refine ww_getI hX (pc := 71) fX11_334 (by decide) (xs_49 hL) dX11_trail_71 ?_
            refine vI1 hX (pc := 74) sX11_109 (xs_49 hL) (n9_X11_good l0 hL cI39) (by decide) (Nat.le_refl 0) (Nat.le_refl 0) (Nat.le_of_ble_eq_true rfl) dX11_trail_74 (fun x_74 I_74 J_74 h_74 => ?_)
            obtain ⟨h_74, qxI_74⟩ := h_74
            have kJ_74 : Kp 49 73 Ja J_74 := Kp_tr kJ39 h_74.2.1
            have kI_74 : Ch [50, 67] [0, 1, 10, 33] Ia I_74 := Ch_tr kI39 (Ch_wd h_74.1 (by decide) (by decide))
            have cI_74 : RX I_74 := h_74.2.2.1
            have qI_74 := RX_o cI_74
            have r304_I_74 : I_74 51 304 = I39 51 304 := by rw [h_74.1.1 51 (by decide) (by decide)]
            have r305_I_74 : I_74 51 305 = I39 51 305 := by rw [h_74.1.1 51 (by decide) (by decide)]
            have f10_I_74 : I_74 49 10 = I39 49 10 := h_74.1.2 10 (by decide)
            have f33_I_74 : I_74 49 33 = I39 49 33 := h_74.1.2 33 (by decide)
            have rf_I_74 : FU (I_74 51 304) = FU (I39 51 304) := by rw [r304_I_74]
            have xv74 := h_74.2.2.2
            refine rI hX (pc := 77) hT (Nat.le_refl 0) (Nat.le_refl 0) dX11_trail_77 ?_
            exact ⟨⟨kI_74, kJ_74, cI_74, by omega, (fun h9 => absurd h9 (by omega)), (fun _ => ⟨by omega, by omega, fun j hj => by rw [h_74.1.1 67 (by decide) (by decide)]; exact htj j (by omega)⟩)⟩, ⟨(fun h9 => absurd h9 (by have := h_74.2.2.2; omega)), (fun _ => GQ9_tr bkl39 qxI_74)⟩⟩
          · simp only [w32_mod] at h_44
            refine ww_aload_n hX (pc := 47) dX11_trail_47 rfl ?_
            refine ww_getR hX (pc := 48) fX11_77 (by decide) (xs_49 hL) (xr_49_32 hL) dX11_trail_48 ?_
            refine ww_iload_n hX (pc := 51) dX11_trail_51 rfl ?_
            refine ww_aload_n hX (pc := 52) dX11_trail_52 rfl ?_
            refine ww_getR hX (pc := 53) fX11_34 (by decide) (xs_49 hL) (xr_49_8 hL) dX11_trail_53 ?_
            refine ww_iload_n hX (pc := 56) dX11_trail_56 rfl ?_
            refine ww_bald hX (pc := 57) (xs_55 hL) (by decide) (by omega) (by omega) dX11_trail_57 ?_
            refine ww_sipush hX (pc := 58) (x := 255) dX11_trail_58 (by decide) ?_
            refine ww_iand hX (pc := 61) dX11_trail_61 ?_
            refine ww_iast hX (pc := 62) (xs_67 hL) (by decide) (by omega) (by omega) dX11_trail_62 ?_
            refine ww_nmH (fun I_62 eI_62 => ?_)
            have kI_62 : Ch [50, 67] [0, 1, 10, 33] Ia I_62 := by rw [eI_62]; exact Ch_r kI39 (by decide) (by decide)
            have cI_62 : RX I_62 := by rw [eI_62]; exact RX_r cI39 (by decide)
            have qI_62 := RX_o cI_62
            have r304_I_62 : I_62 51 304 = I39 51 304 := by rw [eI_62, up2_off _ _ _ (by decide)]
            have r305_I_62 : I_62 51 305 = I39 51 305 := by rw [eI_62, up2_off _ _ _ (by decide)]
            have f10_I_62 : I_62 49 10 = I39 49 10 := by rw [eI_62, up2_off _ _ _ (by decide)]
            have f33_I_62 : I_62 49 33 = I39 49 33 := by rw [eI_62, up2_off _ _ _ (by decide)]
            have rf_I_62 : FU (I_62 51 304) = FU (I39 51 304) := by rw [r304_I_62]
            have w62 : I_62 55 = Ia 55 := by rw [eI_62, up2_off _ _ _ (by decide)]; exact wj
            have t62 : ∀ j : Nat, (j : Int) < i + 1 → I_62 67 j = i_and (Ia 55 j) 255 := fun j hj => by
              rw [eI_62, up2_row]
              by_cases e9 : j = i.toNat
              · rw [e9, up1_s, wj]
              · rw [up1_n _ _ e9]; exact htj j (by omega)
            have bkI_62 : BK9 Ia I_62 := by rw [eI_62]; exact BK9_up bkl39 (by decide)
            have tkI_62 : TK9 Ia I_62 Ja J39 := by rw [eI_62]; exact TK9_up tkl39 (by decide)
            refine ww_iinc hX (pc := 63) (lv' := [some (kR (some 49)), some (kI v_4), some (kI (i + 1))]) dX11_trail_63 rfl (by decide) rfl rfl ?_
            refine ww_goto hX (pc := 66) (tgt := 39) dX11_trail_66 (by decide) ?_
            exact ih_39 _ (by have hm9 := Sh0_e hq_39; omega) (i + 1) I_62 J39 rfl ⟨bkI_62, tkI_62, ⟨kI_62, cI_62, kJ39, by omega, by omega, by omega, by omega, ⟨by omega, by omega⟩, w62, t62⟩⟩
      exact hl_39 _ 0 I_34 Ja rfl ⟨bkI_34, tkI_34, ⟨kI_34, cI_34, (Kp_rf (a := 49) (b := 73)), rfl, rfl, rfl, rfl, ⟨by omega, by omega⟩, w34, fun j hj => absurd hj (by omega)⟩⟩
    · simp only [w32_mod] at h_25
      refine ww_iload_n hX (pc := 28) dX11_trail_28 rfl ?_
      refine ww_goto hX (pc := 29) (tgt := 34) dX11_trail_29 (by decide) ?_
      refine ww_putI hX (pc := 34) (fun h9 => absurd h9 (by decide)) gX11_334 rfl (xs_49 hL) dX11_trail_34 ?_
      refine ww_nmH (fun I_34 eI_34 => ?_)
      have kI_34 : Ch [50, 67] [0, 1, 10, 33] Ia I_34 := by rw [eI_34]; exact Ch_f kI_7 (by decide)
      have cI_34 : RX I_34 := by rw [eI_34]; exact RX_33 cI_7 (by omega) (by omega)
      have qI_34 := RX_o cI_34
      have r304_I_34 : I_34 51 304 = I_7 51 304 := by rw [eI_34, up2_off _ _ _ (by decide)]
      have r305_I_34 : I_34 51 305 = I_7 51 305 := by rw [eI_34, up2_off _ _ _ (by decide)]
      have f10_I_34 : I_34 49 10 = I_7 49 10 := by rw [eI_34, up2_n _ _ (Or.inr (by decide))]
      have rf_I_34 : FU (I_34 51 304) = FU (I_7 51 304) := by rw [r304_I_34]
      have z33 : I_34 49 33 = v_4 := by rw [eI_34, up2_s]
      have w34 : I_34 55 = Ia 55 := by rw [eI_34, up2_off _ _ _ (by decide)]; exact w7
      have bkI_34 : BK9 Ia I_34 := by rw [eI_34]; exact BK9_f bkI_7 (by decide)
      have tkI_34 : TK9 Ia I_34 Ja Ja := by rw [eI_34]; exact TK9_f tkI_7 (by decide)
      refine ww_iconst hX (pc := 37) (x := 0) dX11_trail_37 rfl ?_
      refine ww_istore_n hX (pc := 38) (lv' := [some (kR (some 49)), some (kI v_4), some (kI 0)]) dX11_trail_38 (by decide) rfl rfl ?_
      have hl_39 : ∀ (n_39 : Nat) (i : Int) (I39 : aI1) (J39 : aI1), (30 - i).toNat = n_39 → (BK9 Ia I39 ∧ TK9 Ia I39 Ja J39 ∧ (Ch [50, 67] [0, 1, 10, 33] Ia I39 ∧ RX I39 ∧ Kp 49 73 Ja J39 ∧ I39 51 304 = I_34 51 304 ∧ I39 51 305 = I_34 51 305 ∧ I39 49 10 = I_34 49 10 ∧ I39 49 33 = I_34 49 33 ∧ (0 ≤ i ∧ i ≤ 30) ∧ I39 55 = Ia 55 ∧ (∀ j : Nat, (j : Int) < i → I39 67 j = i_and (Ia 55 j) 255))) → WW X 39 [some (kR (some 49)), some (kI v_4), some (kI i)] [] I39 J39 Ra Sa 0 0 := by
        intro n_39
        induction n_39 using Nat.strongRecOn with
        | ind n_39 ih_39 =>
          intro i I39 J39 hm_39 hv_39
          have hq_39 := Sh0_i hm_39
          clear hm_39
          obtain ⟨bkl39, tkl39, hv_39⟩ := hv_39
          obtain ⟨kI39, cI39, kJ39, r304_I39, r305_I39, f10_I39, f33_I39, hv, wj, htj⟩ := hv_39
          have qI39 := RX_o cI39
          have rf_I39 : FU (I39 51 304) = FU (I_34 51 304) := by rw [r304_I39]
          refine ww_iload_n hX (pc := 39) dX11_trail_39 rfl ?_
          refine ww_aload_n hX (pc := 40) dX11_trail_40 rfl ?_
          refine ww_getI hX (pc := 41) fX11_334 (by decide) (xs_49 hL) dX11_trail_41 ?_
          refine ww_icmp_ge hX (pc := 44) (tgt := 69) dX11_trail_44 (by decide) (fun h_44 => ?_) (fun h_44 => ?_)
          · simp only [w32_mod] at h_44
            refine ww_aload_n hX (pc := 69) dX11_trail_69 rfl ?_
            refine ww_aload_n hX (pc := 70) dX11_trail_70 rfl ?_
            refine ww_getI hX (pc := 71) fX11_334 (by decide) (xs_49 hL) dX11_trail_71 ?_
            refine vI1 hX (pc := 74) sX11_109 (xs_49 hL) (n9_X11_good l0 hL cI39) (by decide) (Nat.le_refl 0) (Nat.le_refl 0) (Nat.le_of_ble_eq_true rfl) dX11_trail_74 (fun x_74 I_74 J_74 h_74 => ?_)
            obtain ⟨h_74, qxI_74⟩ := h_74
            have kJ_74 : Kp 49 73 Ja J_74 := Kp_tr kJ39 h_74.2.1
            have kI_74 : Ch [50, 67] [0, 1, 10, 33] Ia I_74 := Ch_tr kI39 (Ch_wd h_74.1 (by decide) (by decide))
            have cI_74 : RX I_74 := h_74.2.2.1
            have qI_74 := RX_o cI_74
            have r304_I_74 : I_74 51 304 = I39 51 304 := by rw [h_74.1.1 51 (by decide) (by decide)]
            have r305_I_74 : I_74 51 305 = I39 51 305 := by rw [h_74.1.1 51 (by decide) (by decide)]
            have f10_I_74 : I_74 49 10 = I39 49 10 := h_74.1.2 10 (by decide)
            have f33_I_74 : I_74 49 33 = I39 49 33 := h_74.1.2 33 (by decide)
            have rf_I_74 : FU (I_74 51 304) = FU (I39 51 304) := by rw [r304_I_74]
            have xv74 := h_74.2.2.2
            refine rI hX (pc := 77) hT (Nat.le_refl 0) (Nat.le_refl 0) dX11_trail_77 ?_
            exact ⟨⟨kI_74, kJ_74, cI_74, by omega, (fun h9 => absurd h9 (by omega)), (fun _ => ⟨by omega, by omega, fun j hj => by rw [h_74.1.1 67 (by decide) (by decide)]; exact htj j (by omega)⟩)⟩, ⟨(fun h9 => absurd h9 (by have := h_74.2.2.2; omega)), (fun _ => GQ9_tr bkl39 qxI_74)⟩⟩
          · simp only [w32_mod] at h_44
            refine ww_aload_n hX (pc := 47) dX11_trail_47 rfl ?_
            refine ww_getR hX (pc := 48) fX11_77 (by decide) (xs_49 hL) (xr_49_32 hL) dX11_trail_48 ?_
            refine ww_iload_n hX (pc := 51) dX11_trail_51 rfl ?_
            refine ww_aload_n hX (pc := 52) dX11_trail_52 rfl ?_
            refine ww_getR hX (pc := 53) fX11_34 (by decide) (xs_49 hL) (xr_49_8 hL) dX11_trail_53 ?_
            refine ww_iload_n hX (pc := 56) dX11_trail_56 rfl ?_
            refine ww_bald hX (pc := 57) (xs_55 hL) (by decide) (by omega) (by omega) dX11_trail_57 ?_
            refine ww_sipush hX (pc := 58) (x := 255) dX11_trail_58 (by decide) ?_
            refine ww_iand hX (pc := 61) dX11_trail_61 ?_
            refine ww_iast hX (pc := 62) (xs_67 hL) (by decide) (by omega) (by omega) dX11_trail_62 ?_
            refine ww_nmH (fun I_62 eI_62 => ?_)
            have kI_62 : Ch [50, 67] [0, 1, 10, 33] Ia I_62 := by rw [eI_62]; exact Ch_r kI39 (by decide) (by decide)
            have cI_62 : RX I_62 := by rw [eI_62]; exact RX_r cI39 (by decide)
            have qI_62 := RX_o cI_62
            have r304_I_62 : I_62 51 304 = I39 51 304 := by rw [eI_62, up2_off _ _ _ (by decide)]
            have r305_I_62 : I_62 51 305 = I39 51 305 := by rw [eI_62, up2_off _ _ _ (by decide)]
            have f10_I_62 : I_62 49 10 = I39 49 10 := by rw [eI_62, up2_off _ _ _ (by decide)]
            have f33_I_62 : I_62 49 33 = I39 49 33 := by rw [eI_62, up2_off _ _ _ (by decide)]
            have rf_I_62 : FU (I_62 51 304) = FU (I39 51 304) := by rw [r304_I_62]
            have w62 : I_62 55 = Ia 55 := by rw [eI_62, up2_off _ _ _ (by decide)]; exact wj
            have t62 : ∀ j : Nat, (j : Int) < i + 1 → I_62 67 j = i_and (Ia 55 j) 255 := fun j hj => by
              rw [eI_62, up2_row]
              by_cases e9 : j = i.toNat
              · rw [e9, up1_s, wj]
              · rw [up1_n _ _ e9]; exact htj j (by omega)
            have bkI_62 : BK9 Ia I_62 := by rw [eI_62]; exact BK9_up bkl39 (by decide)
            have tkI_62 : TK9 Ia I_62 Ja J39 := by rw [eI_62]; exact TK9_up tkl39 (by decide)
            refine ww_iinc hX (pc := 63) (lv' := [some (kR (some 49)), some (kI v_4), some (kI (i + 1))]) dX11_trail_63 rfl (by decide) rfl rfl ?_
            refine ww_goto hX (pc := 66) (tgt := 39) dX11_trail_66 (by decide) ?_
            exact ih_39 _ (by have hm9 := Sh0_e hq_39; omega) (i + 1) I_62 J39 rfl ⟨bkI_62, tkI_62, ⟨kI_62, cI_62, kJ39, by omega, by omega, by omega, by omega, ⟨by omega, by omega⟩, w62, t62⟩⟩
      exact hl_39 _ 0 I_34 Ja rfl ⟨bkI_34, tkI_34, ⟨kI_34, cI_34, (Kp_rf (a := 49) (b := 73)), rfl, rfl, rfl, rfl, ⟨by omega, by omega⟩, w34, fun j hj => absurd hj (by omega)⟩⟩
  · simp only [w32_mod] at h_11
    refine ww_aload_n hX (pc := 14) dX11_trail_14 rfl ?_
    refine ww_bipush hX (pc := 15) (x := (-6)) dX11_trail_15 (by decide) ?_
    refine vI1 hX (pc := 17) sX11_105 (xs_49 hL) (n9_X11_refuses l0 hL cI_7 (by omega) (by omega)) (by decide) (Nat.le_refl 0) (Nat.le_refl 0) (Nat.le_of_ble_eq_true rfl) dX11_trail_17 (fun x_17 I_17 J_17 h_17 => ?_)
    obtain ⟨h_17, qxI_17⟩ := h_17
    have kJ_17 : Kp 49 73 Ja J_17 := Kp_tr (Kp_rf (a := 49) (b := 73)) h_17.2.1
    have kI_17 : Ch [50, 67] [0, 1, 10, 33] Ia I_17 := Ch_tr kI_7 (Ch_wd h_17.1 (by decide) (by decide))
    have cI_17 : RX I_17 := h_17.2.2.1
    have qI_17 := RX_o cI_17
    have r304_I_17 : I_17 51 304 = I_7 51 304 := by rw [h_17.1.1 51 (by decide) (by decide)]
    have r305_I_17 : I_17 51 305 = I_7 51 305 := by rw [h_17.1.1 51 (by decide) (by decide)]
    have f10_I_17 : I_17 49 10 = I_7 49 10 := h_17.1.2 10 (by decide)
    have f33_I_17 : I_17 49 33 = I_7 49 33 := h_17.1.2 33 (by decide)
    have rf_I_17 : FU (I_17 51 304) = FU (I_7 51 304) := by rw [r304_I_17]
    have xv17 := h_17.2.2.2
    refine rI hX (pc := 20) hT (Nat.le_refl 0) (Nat.le_refl 0) dX11_trail_20 ?_
    exact ⟨⟨kI_17, kJ_17, cI_17, by omega, (fun _ => ⟨by omega, by omega, by rw [h_17.1.1 67 (by decide) (by decide), eI_7, up2_off _ _ _ (by decide)]⟩), (fun h9 => absurd (by omega) h9)⟩, ⟨(fun _ => RQ9_tr bkI_7 tkI_7 qxI_17), (fun h9 => absurd h9 (by have := h_17.2.2.2; omega))⟩⟩
set_option maxHeartbeats 4000000 in
set_option maxRecDepth 20000 in
theorem c9_X11_row (l0 : Launch) {Ia Ja : aI1} {Ra : aR1} {Sa : aS1} (hL : LY Ra Sa) (hQ : RX Ia) (hbr : ∀ j : Nat, (j : Int) < Ia 49 10 → -128 ≤ Ia 55 j ∧ Ia 55 j ≤ 127)  : CT l0 2 0 0 mX11_row [kR (some 49)] Ia Ja Ra Sa (cI (fun x I' J' => (Ch [50, 51] [0, 1, 6, 10] Ia I' ∧ Kp 49 73 Ja J' ∧ RX I' ∧ I' 49 10 = 0 ∧ (Ia 49 10 = 0 → x = -6 ∧ I' 49 6 = Ia 49 6 ∧ I' 51 = Ia 51) ∧ (¬ Ia 49 10 = 0 → I' 49 6 = max 0 (Ia 49 10 - (FU (Ia 51 304) + 1)) ∧ (∀ j : Nat, I' 51 j = if (j : Int) < FU (Ia 51 304) + 1 then RWv (Ia 55) (Ia 49 10) (Ia 51 305) j else Ia 51 j) ∧ x = cnR (I' 51) (FU (Ia 51 304) + 1).toNat)) ∧ ((¬ Ia 49 10 = 0) → GQ9 Ia I') ∧ (¬ (¬ Ia 49 10 = 0) → RQ9 x Ia I' Ja J')) Ra Sa) := by
  refine ct_in pn_X11 (Nat.le_of_ble_eq_true rfl) (fun X hX hT hIn => ?_)
  have hX : aK l0 X cX11_row 3 RX11 (some .int) 2 0 0 := hX
  change WW X 0 [some (kR (some 49)), none, none] [] Ia Ja Ra Sa 0 0
  have qIa := RX_o hQ
  refine ww_aload_n hX (pc := 0) dX11_row_0 rfl ?_
  refine ww_getI hX (pc := 1) fX11_129 (by decide) (xs_49 hL) dX11_row_1 ?_
  refine ww_nmI (fun v_4 hv_4 => ?_)
  refine ww_istore_n hX (pc := 4) (lv' := [some (kR (some 49)), some (kI v_4), none]) dX11_row_4 (by decide) rfl rfl ?_
  refine ww_aload_n hX (pc := 5) dX11_row_5 rfl ?_
  refine ww_iconst hX (pc := 6) (x := 0) dX11_row_6 rfl ?_
  refine ww_putI hX (pc := 7) (fun h9 => absurd h9 (by decide)) gX11_129 rfl (xs_49 hL) dX11_row_7 ?_
  refine ww_nmH (fun I_7 eI_7 => ?_)
  have kI_7 : Ch [50, 51] [0, 1, 6, 10] Ia I_7 := by rw [eI_7]; exact Ch_f Ch_rf (by decide)
  have cI_7 : RX I_7 := by rw [eI_7]; exact RX_10 hQ (by omega) (by omega)
  have qI_7 := RX_o cI_7
  have r304_I_7 : I_7 51 304 = Ia 51 304 := by rw [eI_7, up2_off _ _ _ (by decide)]
  have r305_I_7 : I_7 51 305 = Ia 51 305 := by rw [eI_7, up2_off _ _ _ (by decide)]
  have f6_I_7 : I_7 49 6 = Ia 49 6 := by rw [eI_7, up2_n _ _ (Or.inr (by decide))]
  have rf_I_7 : FU (I_7 51 304) = FU (Ia 51 304) := by rw [r304_I_7]
  have z10 : I_7 49 10 = 0 := by rw [eI_7, up2_s]
  have w7 : I_7 55 = Ia 55 := by rw [eI_7, up2_off _ _ _ (by decide)]
  have g7 : I_7 51 = Ia 51 := by rw [eI_7, up2_off _ _ _ (by decide)]
  have bkI_7 : BK9 Ia I_7 := by rw [eI_7]; exact BK9_f BK9_rf (by decide)
  have tkI_7 : TK9 Ia I_7 Ja Ja := by rw [eI_7]; exact TK9_f TK9_rf (by decide)
  refine ww_iload_n hX (pc := 10) dX11_row_10 rfl ?_
  refine ww_if_ne hX (pc := 11) (tgt := 21) dX11_row_11 (by decide) (fun h_11 => ?_) (fun h_11 => ?_)
  · simp only [w32_mod] at h_11
    refine ww_iconst hX (pc := 21) (x := 0) dX11_row_21 rfl ?_
    refine ww_istore_n hX (pc := 22) (lv' := [some (kR (some 49)), some (kI v_4), some (kI 0)]) dX11_row_22 (by decide) rfl rfl ?_
    have hl_23 : ∀ (n_23 : Nat) (i : Int) (I23 : aI1) (J23 : aI1), (256 - i).toNat = n_23 → (BK9 Ia I23 ∧ TK9 Ia I23 Ja J23 ∧ (Ch [50, 51] [0, 1, 6, 10] Ia I23 ∧ RX I23 ∧ Kp 49 73 Ja J23 ∧ I23 51 304 = I_7 51 304 ∧ I23 51 305 = I_7 51 305 ∧ I23 49 6 = I_7 49 6 ∧ I23 49 10 = I_7 49 10 ∧ (0 ≤ i ∧ i ≤ FU (Ia 51 304) + 1) ∧ I23 55 = Ia 55 ∧ (∀ j : Nat, I23 51 j = if (j : Int) < i then RWv (Ia 55) (Ia 49 10) (Ia 51 305) j else Ia 51 j))) → WW X 23 [some (kR (some 49)), some (kI v_4), some (kI i)] [] I23 J23 Ra Sa 0 0 := by
      intro n_23
      induction n_23 using Nat.strongRecOn with
      | ind n_23 ih_23 =>
        intro i I23 J23 hm_23 hv_23
        have hq_23 := Sh0_i hm_23
        clear hm_23
        obtain ⟨bkl23, tkl23, hv_23⟩ := hv_23
        obtain ⟨kI23, cI23, kJ23, r304_I23, r305_I23, f6_I23, f10_I23, hv, wj, hej⟩ := hv_23
        have qI23 := RX_o cI23
        have rf_I23 : FU (I23 51 304) = FU (I_7 51 304) := by rw [r304_I23]
        refine ww_iload_n hX (pc := 23) dX11_row_23 rfl ?_
        refine ww_aload_n hX (pc := 24) dX11_row_24 rfl ?_
        refine vI0 hX (pc := 25) sX11_112 (xs_49 hL) (c_X11_states l0 hL cI23 ) (by decide) (Nat.le_refl 0) (Nat.le_refl 0) (Nat.le_of_ble_eq_true rfl) dX11_row_25 (fun x_25 I_25 J_25 h_25 => ?_)
        obtain ⟨rfl, rfl, h_25⟩ := h_25
        refine ww_icmp_ge hX (pc := 28) (tgt := 73) dX11_row_28 (by decide) (fun h_28 => ?_) (fun h_28 => ?_)
        · simp only [w32_mod] at h_28
          refine ww_aload_n hX (pc := 73) dX11_row_73 rfl ?_
          refine ww_iconst hX (pc := 74) (x := 0) dX11_row_74 rfl ?_
          refine ww_iload_n hX (pc := 75) dX11_row_75 rfl ?_
          refine ww_aload_n hX (pc := 76) dX11_row_76 rfl ?_
          refine vI0 hX (pc := 77) sX11_112 (xs_49 hL) (c_X11_states l0 hL cI23 ) (by decide) (Nat.le_refl 0) (Nat.le_refl 0) (Nat.le_of_ble_eq_true rfl) dX11_row_77 (fun x_77 I_77 J_77 h_77 => ?_)
          obtain ⟨rfl, rfl, h_77⟩ := h_77
          refine ww_isub hX (pc := 80) dX11_row_80 ?_
          refine sI2 hX (pc := 81) sX11_132 (c_X11_greater l0 (by omega) (by omega) (by omega) (by omega)) (by decide) (Nat.le_refl 0) (Nat.le_refl 0) (Nat.le_of_ble_eq_true rfl) dX11_row_81 (fun x_81 I_81 J_81 h_81 => ?_)
          obtain ⟨rfl, rfl, h_81⟩ := h_81
          refine ww_putI hX (pc := 84) (fun h9 => absurd h9 (by decide)) gX11_136 rfl (xs_49 hL) dX11_row_84 ?_
          refine ww_nmH (fun I_84 eI_84 => ?_)
          have kI_84 : Ch [50, 51] [0, 1, 6, 10] Ia I_84 := by rw [eI_84]; exact Ch_f kI23 (by decide)
          have cI_84 : RX I_84 := by rw [eI_84]; exact RX_f cI23 (by decide)
          have qI_84 := RX_o cI_84
          have r304_I_84 : I_84 51 304 = I23 51 304 := by rw [eI_84, up2_off _ _ _ (by decide)]
          have r305_I_84 : I_84 51 305 = I23 51 305 := by rw [eI_84, up2_off _ _ _ (by decide)]
          have f10_I_84 : I_84 49 10 = I23 49 10 := by rw [eI_84, up2_n _ _ (Or.inr (by decide))]
          have rf_I_84 : FU (I_84 51 304) = FU (I23 51 304) := by rw [r304_I_84]
          have z6 : I_84 49 6 = x_81 := by rw [eI_84, up2_s]
          have g84 : I_84 51 = I23 51 := by rw [eI_84, up2_off _ _ _ (by decide)]
          have hcr9 : ∀ t : Nat, (t : Int) ≤ FU (I_84 51 304) → -1 ≤ I_84 51 t ∧ I_84 51 t ≤ 7 := fun t ht => by
            rw [g84, hej t, if_pos (by omega)]
            unfold RWv
            split <;> omega
          have bkI_84 : BK9 Ia I_84 := by rw [eI_84]; exact BK9_f bkl23 (by decide)
          have tkI_84 : TK9 Ia I_84 Ja J23 := by rw [eI_84]; exact TK9_f tkl23 (by decide)
          refine ww_aload_n hX (pc := 87) dX11_row_87 rfl ?_
          refine ww_aload_n hX (pc := 88) dX11_row_88 rfl ?_
          refine vI0 hX (pc := 89) sX11_139 (xs_49 hL) (c5_X11_readMany l0 hL cI_84 hcr9) (by decide) (Nat.le_refl 0) (Nat.le_refl 0) (Nat.le_of_ble_eq_true rfl) dX11_row_89 (fun x_89 I_89 J_89 h_89 => ?_)
          obtain ⟨rfl, rfl, h_89⟩ := h_89
          refine vI1 hX (pc := 92) sX11_109 (xs_49 hL) (n9_X11_good l0 hL cI_84) (by decide) (Nat.le_refl 0) (Nat.le_refl 0) (Nat.le_of_ble_eq_true rfl) dX11_row_92 (fun x_92 I_92 J_92 h_92 => ?_)
          obtain ⟨h_92, qxI_92⟩ := h_92
          have kJ_92 : Kp 49 73 Ja J_92 := Kp_tr kJ23 h_92.2.1
          have kI_92 : Ch [50, 51] [0, 1, 6, 10] Ia I_92 := Ch_tr kI_84 (Ch_wd h_92.1 (by decide) (by decide))
          have cI_92 : RX I_92 := h_92.2.2.1
          have qI_92 := RX_o cI_92
          have r304_I_92 : I_92 51 304 = I_84 51 304 := by rw [h_92.1.1 51 (by decide) (by decide)]
          have r305_I_92 : I_92 51 305 = I_84 51 305 := by rw [h_92.1.1 51 (by decide) (by decide)]
          have f6_I_92 : I_92 49 6 = I_84 49 6 := h_92.1.2 6 (by decide)
          have f10_I_92 : I_92 49 10 = I_84 49 10 := h_92.1.2 10 (by decide)
          have rf_I_92 : FU (I_92 51 304) = FU (I_84 51 304) := by rw [r304_I_92]
          have xv92 := h_92.2.2.2
          refine rI hX (pc := 95) hT (Nat.le_refl 0) (Nat.le_refl 0) dX11_row_95 ?_
          exact ⟨⟨kI_92, kJ_92, cI_92, by omega, (fun h9 => absurd h9 (by omega)), (fun _ => ⟨by omega, (fun j => by rw [h_92.1.1 51 (by decide) (by decide), g84, hej j, show i = FU (Ia 51 304) + 1 by omega]), by rw [xv92, h_89, h_92.1.1 51 (by decide) (by decide), rf_I_84, rf_I23]; exact congrArg (fun z : Int => cnR (I_84 51) (z + 1).toNat) (by omega)⟩)⟩, ⟨(fun _ => GQ9_tr bkI_84 qxI_92), (fun h9 => absurd (by omega) h9)⟩⟩
        · simp only [w32_mod] at h_28
          refine ww_aload_n hX (pc := 31) dX11_row_31 rfl ?_
          refine ww_getR hX (pc := 32) fX11_20 (by decide) (xs_49 hL) (xr_49_3 hL) dX11_row_32 ?_
          refine ww_iconst hX (pc := 35) (x := 0) dX11_row_35 rfl ?_
          refine ww_iload_n hX (pc := 36) dX11_row_36 rfl ?_
          refine ww_iadd hX (pc := 37) dX11_row_37 ?_
          refine ww_iload_n hX (pc := 38) dX11_row_38 rfl ?_
          refine ww_iload_n hX (pc := 39) dX11_row_39 rfl ?_
          refine ww_icmp_ge hX (pc := 40) (tgt := 65) dX11_row_40 (by decide) (fun h_40 => ?_) (fun h_40 => ?_)
          · simp only [w32_mod] at h_40
            refine ww_iconst hX (pc := 65) (x := (-1)) dX11_row_65 rfl ?_
            refine ww_iast hX (pc := 66) (xs_51 hL) (by decide) (by omega) (by omega) dX11_row_66 ?_
            refine ww_nmH (fun I_66 eI_66 => ?_)
            have kI_66 : Ch [50, 51] [0, 1, 6, 10] Ia I_66 := by rw [eI_66]; exact Ch_r kI23 (by decide) (by decide)
            have cI_66 : RX I_66 := by rw [eI_66]; exact RX_lo cI23 (by omega)
            have qI_66 := RX_o cI_66
            have r304_I_66 : I_66 51 304 = I23 51 304 := by rw [eI_66, up2_n _ _ (Or.inr (by omega))]
            have r305_I_66 : I_66 51 305 = I23 51 305 := by rw [eI_66, up2_n _ _ (Or.inr (by omega))]
            have f6_I_66 : I_66 49 6 = I23 49 6 := by rw [eI_66, up2_off _ _ _ (by decide)]
            have f10_I_66 : I_66 49 10 = I23 49 10 := by rw [eI_66, up2_off _ _ _ (by decide)]
            have rf_I_66 : FU (I_66 51 304) = FU (I23 51 304) := by rw [r304_I_66]
            have w66 : I_66 55 = Ia 55 := by rw [eI_66, up2_off _ _ _ (by decide)]; exact wj
            have t66 : ∀ j : Nat, I_66 51 j = if (j : Int) < i + 1 then RWv (Ia 55) (Ia 49 10) (Ia 51 305) j else Ia 51 j := fun j => by
              rw [eI_66, up2_row]
              by_cases e9 : j = (0 + i).toNat
              · rw [e9, up1_s, if_pos (by omega)]
                unfold RWv
                rw [← wj, show (0 + i).toNat = i.toNat by omega]
                first
                | rw [if_pos ⟨by omega, by omega, by omega⟩]
                | rw [if_neg (by omega)]
              · rw [up1_n _ _ e9, hej j]
                by_cases e8 : (j : Int) < i
                · rw [if_pos e8, if_pos (by omega)]
                · rw [if_neg e8, if_neg (by omega)]
            have bkI_66 : BK9 Ia I_66 := by rw [eI_66]; exact BK9_up bkl23 (by decide)
            have tkI_66 : TK9 Ia I_66 Ja J23 := by rw [eI_66]; exact TK9_up tkl23 (by decide)
            refine ww_iinc hX (pc := 67) (lv' := [some (kR (some 49)), some (kI v_4), some (kI (i + 1))]) dX11_row_67 rfl (by decide) rfl rfl ?_
            refine ww_goto hX (pc := 70) (tgt := 23) dX11_row_70 (by decide) ?_
            exact ih_23 _ (by have hm9 := Sh0_e hq_23; omega) (i + 1) I_66 J23 rfl ⟨bkI_66, tkI_66, ⟨kI_66, cI_66, kJ23, by omega, by omega, by omega, by omega, ⟨by omega, by omega⟩, w66, t66⟩⟩
          · simp only [w32_mod] at h_40
            have hb9 := hbr i.toNat (by omega)
            rw [← wj] at hb9
            refine ww_aload_n hX (pc := 43) dX11_row_43 rfl ?_
            refine ww_aload_n hX (pc := 44) dX11_row_44 rfl ?_
            refine ww_getR hX (pc := 45) fX11_34 (by decide) (xs_49 hL) (xr_49_8 hL) dX11_row_45 ?_
            refine ww_iload_n hX (pc := 48) dX11_row_48 rfl ?_
            refine ww_bald hX (pc := 49) (xs_55 hL) (by decide) (by omega) (by omega) dX11_row_49 ?_
            refine vI1 hX (pc := 50) sX11_123 (xs_49 hL) (c_X11_isNews l0 hL cI23 (by omega) (by omega)) (by decide) (Nat.le_refl 0) (Nat.le_refl 0) (Nat.le_of_ble_eq_true rfl) dX11_row_50 (fun x_50 I_50 J_50 h_50 => ?_)
            obtain ⟨rfl, rfl, h_50⟩ := h_50
            refine ww_if_eq hX (pc := 53) (tgt := 65) dX11_row_53 (by decide) (fun h_53 => ?_) (fun h_53 => ?_)
            · simp only [w32_mod] at h_53
              refine ww_iconst hX (pc := 65) (x := (-1)) dX11_row_65 rfl ?_
              refine ww_iast hX (pc := 66) (xs_51 hL) (by decide) (by omega) (by omega) dX11_row_66 ?_
              refine ww_nmH (fun I_66 eI_66 => ?_)
              have kI_66 : Ch [50, 51] [0, 1, 6, 10] Ia I_66 := by rw [eI_66]; exact Ch_r kI23 (by decide) (by decide)
              have cI_66 : RX I_66 := by rw [eI_66]; exact RX_lo cI23 (by omega)
              have qI_66 := RX_o cI_66
              have r304_I_66 : I_66 51 304 = I23 51 304 := by rw [eI_66, up2_n _ _ (Or.inr (by omega))]
              have r305_I_66 : I_66 51 305 = I23 51 305 := by rw [eI_66, up2_n _ _ (Or.inr (by omega))]
              have f6_I_66 : I_66 49 6 = I23 49 6 := by rw [eI_66, up2_off _ _ _ (by decide)]
              have f10_I_66 : I_66 49 10 = I23 49 10 := by rw [eI_66, up2_off _ _ _ (by decide)]
              have rf_I_66 : FU (I_66 51 304) = FU (I23 51 304) := by rw [r304_I_66]
              have w66 : I_66 55 = Ia 55 := by rw [eI_66, up2_off _ _ _ (by decide)]; exact wj
              have t66 : ∀ j : Nat, I_66 51 j = if (j : Int) < i + 1 then RWv (Ia 55) (Ia 49 10) (Ia 51 305) j else Ia 51 j := fun j => by
                rw [eI_66, up2_row]
                by_cases e9 : j = (0 + i).toNat
                · rw [e9, up1_s, if_pos (by omega)]
                  unfold RWv
                  rw [← wj, show (0 + i).toNat = i.toNat by omega]
                  first
                  | rw [if_pos ⟨by omega, by omega, by omega⟩]
                  | rw [if_neg (by omega)]
                · rw [up1_n _ _ e9, hej j]
                  by_cases e8 : (j : Int) < i
                  · rw [if_pos e8, if_pos (by omega)]
                  · rw [if_neg e8, if_neg (by omega)]
              have bkI_66 : BK9 Ia I_66 := by rw [eI_66]; exact BK9_up bkl23 (by decide)
              have tkI_66 : TK9 Ia I_66 Ja J23 := by rw [eI_66]; exact TK9_up tkl23 (by decide)
              refine ww_iinc hX (pc := 67) (lv' := [some (kR (some 49)), some (kI v_4), some (kI (i + 1))]) dX11_row_67 rfl (by decide) rfl rfl ?_
              refine ww_goto hX (pc := 70) (tgt := 23) dX11_row_70 (by decide) ?_
              exact ih_23 _ (by have hm9 := Sh0_e hq_23; omega) (i + 1) I_66 J23 rfl ⟨bkI_66, tkI_66, ⟨kI_66, cI_66, kJ23, by omega, by omega, by omega, by omega, ⟨by omega, by omega⟩, w66, t66⟩⟩
            · simp only [w32_mod] at h_53
              have k_50 := h_50.2.mp (by omega)
              clear h_50
              refine ww_aload_n hX (pc := 56) dX11_row_56 rfl ?_
              refine ww_getR hX (pc := 57) fX11_34 (by decide) (xs_49 hL) (xr_49_8 hL) dX11_row_57 ?_
              refine ww_iload_n hX (pc := 60) dX11_row_60 rfl ?_
              refine ww_bald hX (pc := 61) (xs_55 hL) (by decide) (by omega) (by omega) dX11_row_61 ?_
              refine ww_goto hX (pc := 62) (tgt := 66) dX11_row_62 (by decide) ?_
              refine ww_iast hX (pc := 66) (xs_51 hL) (by decide) (by omega) (by omega) dX11_row_66 ?_
              refine ww_nmH (fun I_66 eI_66 => ?_)
              have kI_66 : Ch [50, 51] [0, 1, 6, 10] Ia I_66 := by rw [eI_66]; exact Ch_r kI23 (by decide) (by decide)
              have cI_66 : RX I_66 := by rw [eI_66]; exact RX_lo cI23 (by omega)
              have qI_66 := RX_o cI_66
              have r304_I_66 : I_66 51 304 = I23 51 304 := by rw [eI_66, up2_n _ _ (Or.inr (by omega))]
              have r305_I_66 : I_66 51 305 = I23 51 305 := by rw [eI_66, up2_n _ _ (Or.inr (by omega))]
              have f6_I_66 : I_66 49 6 = I23 49 6 := by rw [eI_66, up2_off _ _ _ (by decide)]
              have f10_I_66 : I_66 49 10 = I23 49 10 := by rw [eI_66, up2_off _ _ _ (by decide)]
              have rf_I_66 : FU (I_66 51 304) = FU (I23 51 304) := by rw [r304_I_66]
              have w66 : I_66 55 = Ia 55 := by rw [eI_66, up2_off _ _ _ (by decide)]; exact wj
              have t66 : ∀ j : Nat, I_66 51 j = if (j : Int) < i + 1 then RWv (Ia 55) (Ia 49 10) (Ia 51 305) j else Ia 51 j := fun j => by
                rw [eI_66, up2_row]
                by_cases e9 : j = (0 + i).toNat
                · rw [e9, up1_s, if_pos (by omega)]
                  unfold RWv
                  rw [← wj, show (0 + i).toNat = i.toNat by omega]
                  first
                  | rw [if_pos ⟨by omega, by omega, by omega⟩]
                  | rw [if_neg (by omega)]
                · rw [up1_n _ _ e9, hej j]
                  by_cases e8 : (j : Int) < i
                  · rw [if_pos e8, if_pos (by omega)]
                  · rw [if_neg e8, if_neg (by omega)]
              have bkI_66 : BK9 Ia I_66 := by rw [eI_66]; exact BK9_up bkl23 (by decide)
              have tkI_66 : TK9 Ia I_66 Ja J23 := by rw [eI_66]; exact TK9_up tkl23 (by decide)
              refine ww_iinc hX (pc := 67) (lv' := [some (kR (some 49)), some (kI v_4), some (kI (i + 1))]) dX11_row_67 rfl (by decide) rfl rfl ?_
              refine ww_goto hX (pc := 70) (tgt := 23) dX11_row_70 (by decide) ?_
              exact ih_23 _ (by have hm9 := Sh0_e hq_23; omega) (i + 1) I_66 J23 rfl ⟨bkI_66, tkI_66, ⟨kI_66, cI_66, kJ23, by omega, by omega, by omega, by omega, ⟨by omega, by omega⟩, w66, t66⟩⟩
    exact hl_23 _ 0 I_7 Ja rfl ⟨bkI_7, tkI_7, ⟨kI_7, cI_7, (Kp_rf (a := 49) (b := 73)), rfl, rfl, rfl, rfl, ⟨by omega, by omega⟩, w7, fun j => by rw [if_neg (by omega), g7]⟩⟩
  · simp only [w32_mod] at h_11
    refine ww_aload_n hX (pc := 14) dX11_row_14 rfl ?_
    refine ww_bipush hX (pc := 15) (x := (-6)) dX11_row_15 (by decide) ?_
    refine vI1 hX (pc := 17) sX11_105 (xs_49 hL) (n9_X11_refuses l0 hL cI_7 (by omega) (by omega)) (by decide) (Nat.le_refl 0) (Nat.le_refl 0) (Nat.le_of_ble_eq_true rfl) dX11_row_17 (fun x_17 I_17 J_17 h_17 => ?_)
    obtain ⟨h_17, qxI_17⟩ := h_17
    have kJ_17 : Kp 49 73 Ja J_17 := Kp_tr (Kp_rf (a := 49) (b := 73)) h_17.2.1
    have kI_17 : Ch [50, 51] [0, 1, 6, 10] Ia I_17 := Ch_tr kI_7 (Ch_wd h_17.1 (by decide) (by decide))
    have cI_17 : RX I_17 := h_17.2.2.1
    have qI_17 := RX_o cI_17
    have r304_I_17 : I_17 51 304 = I_7 51 304 := by rw [h_17.1.1 51 (by decide) (by decide)]
    have r305_I_17 : I_17 51 305 = I_7 51 305 := by rw [h_17.1.1 51 (by decide) (by decide)]
    have f6_I_17 : I_17 49 6 = I_7 49 6 := h_17.1.2 6 (by decide)
    have f10_I_17 : I_17 49 10 = I_7 49 10 := h_17.1.2 10 (by decide)
    have rf_I_17 : FU (I_17 51 304) = FU (I_7 51 304) := by rw [r304_I_17]
    have xv17 := h_17.2.2.2
    refine rI hX (pc := 20) hT (Nat.le_refl 0) (Nat.le_refl 0) dX11_row_20 ?_
    exact ⟨⟨kI_17, kJ_17, cI_17, by omega, (fun _ => ⟨by omega, by omega, (h_17.1.1 51 (by decide) (by decide)).trans g7⟩), (fun h9 => absurd (by omega) h9)⟩, ⟨(fun h9 => absurd h9 (by omega)), (fun _ => RQ9_tr bkI_7 tkI_7 qxI_17)⟩⟩
