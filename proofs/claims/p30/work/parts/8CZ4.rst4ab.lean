set_option maxHeartbeats 4000000 in
set_option maxRecDepth 20000 in
theorem c9_X11_splits (l0 : Launch) {Ia Ja : aI1} {Ra : aR1} {Sa : aS1} (hL : LY Ra Sa) (hQ : RX Ia) {a : Int} (ha0 : 0 ≤ a) (ha1 : a ≤ 400) {f : Nat → Int} {N : Nat} (hw : WD Ia) (hf : zTB f N (Ia 55)) (haN : a = N)  : CT l0 2 0 0 mX11_splits [kR (some 49), kI a] Ia Ja Ra Sa (cV (fun I' J' => Ch [57, 58, 59] [15] Ia I' ∧ Kp 49 49 Ja J' ∧ RX I' ∧ (0 ≤ I' 49 15 ∧ I' 49 15 ≤ 400) ∧ RG (I' 57) (I' 49 15 + 1) ∧ RG (I' 59) (I' 49 15 + 1) ∧ I' 57 (I' 49 15).toNat = 0 ∧ I' 49 15 = (zTk f N 0).length ∧ (∀ t, t ≤ (zTk f N 0).length → I' 57 t = zCd f (zTk f N 0) t ∧ I' 58 t = zVl f (zTk f N 0) t ∧ I' 59 t = zPc N (zTk f N 0) t)) Ra Sa) := by
  refine ct_in pn_X11 (Nat.le_of_ble_eq_true rfl) (fun X hX hT hIn => ?_)
  have hX : aK l0 X cX11_splits 6 RX11 none 2 0 0 := hX
  change WW X 0 [some (kR (some 49)), some (kI a), none, none, none, none] [] Ia Ja Ra Sa 0 0
  have qIa := RX_w hQ
  refine ww_aload_n hX (pc := 0) dX11_splits_0 rfl ?_
  refine ww_iconst hX (pc := 1) (x := 0) dX11_splits_1 rfl ?_
  refine ww_putI hX (pc := 2) (fun h9 => absurd h9 (by decide)) gX11_142 rfl (xs_49 hL) dX11_splits_2 ?_
  refine ww_nmH (fun I_2 eI_2 => ?_)
  have kI_2 : Ch [57, 58, 59] [15] Ia I_2 := by rw [eI_2]; exact Ch_f Ch_rf (by decide)
  have cI_2 : RX I_2 := by rw [eI_2]; exact RX_f hQ (by decide)
  have qI_2 := RX_w cI_2
  have w15_0 : I_2 49 15 = 0 := by rw [eI_2, up2_s]
  refine ww_iconst hX (pc := 5) (x := 0) dX11_splits_5 rfl ?_
  refine ww_istore_n hX (pc := 6) (lv' := [some (kR (some 49)), some (kI a), some (kI 0), none, none, none]) dX11_splits_6 (by decide) rfl rfl ?_
  have hl_7 : ∀ (n_7 : Nat) (k : Int) (I7 : aI1) (J7 : aI1), (a - k).toNat = n_7 → (Ch [57, 58, 59] [15] Ia I7 ∧ RX I7 ∧ Kp 49 49 Ja J7 ∧ (0 ≤ k ∧ k ≤ a) ∧ (0 ≤ I7 49 15 ∧ I7 49 15 ≤ k) ∧ RG (I7 57) (I7 49 15) ∧ RG (I7 59) (I7 49 15) ∧ ∃ dn : List (Nat × Nat), zTk f N 0 = dn ++ zTk f N k.toNat ∧ I7 49 15 = dn.length ∧ zRo f dn (I7 57) (I7 58) (I7 59)) → WW X 7 [some (kR (some 49)), some (kI a), some (kI k), none, none, none] [] I7 J7 Ra Sa 0 0 := by
    intro n_7
    induction n_7 using Nat.strongRecOn with
    | ind n_7 ih_7 =>
      intro k I7 J7 hm_7 hv_7
      have hq_7 := Sh0_i hm_7
      clear hm_7
      obtain ⟨kI7, cI7, kJ7, hv, hv1, hg57, hg59, dn, ht9, hd15, hdn⟩ := hv_7
      have qI7 := RX_w cI7
      have y55 : I7 55 = Ia 55 := kI7.1 55 (by decide) (by decide)
      refine ww_iload_n hX (pc := 7) dX11_splits_7 rfl ?_
      refine ww_iload_n hX (pc := 8) dX11_splits_8 rfl ?_
      refine ww_icmp_ge hX (pc := 9) (tgt := 263) dX11_splits_9 (by decide) (fun h_9 => ?_) (fun h_9 => ?_)
      · simp only [w32_mod] at h_9
        refine ww_aload_n hX (pc := 263) dX11_splits_263 rfl ?_
        refine ww_getR hX (pc := 264) fX11_49 (by decide) (xs_49 hL) (xr_49_14 hL) dX11_splits_264 ?_
        refine ww_aload_n hX (pc := 267) dX11_splits_267 rfl ?_
        refine ww_getI hX (pc := 268) fX11_142 (by decide) (xs_49 hL) dX11_splits_268 ?_
        refine ww_iload_n hX (pc := 271) dX11_splits_271 rfl ?_
        refine ww_iast hX (pc := 272) (xs_59 hL) (by decide) (by omega) (by omega) dX11_splits_272 ?_
        refine ww_nmH (fun I_272 eI_272 => ?_)
        have kI_272 : Ch [57, 58, 59] [15] Ia I_272 := by rw [eI_272]; exact Ch_r kI7 (by decide) (by decide)
        have cI_272 : RX I_272 := by rw [eI_272]; exact RX_r cI7 (by decide)
        have qI_272 := RX_w cI_272
        have f15_I_272 : I_272 49 15 = I7 49 15 := by rw [eI_272, up2_off _ _ _ (by decide)]
        have y59 : RG (I_272 59) (I7 49 15 + 1) := by rw [eI_272, up2_row]; exact RG_up hg59 (by omega) (by omega) (by omega)
        refine ww_aload_n hX (pc := 273) dX11_splits_273 rfl ?_
        refine ww_getR hX (pc := 274) fX11_43 (by decide) (xs_49 hL) (xr_49_12 hL) dX11_splits_274 ?_
        refine ww_aload_n hX (pc := 277) dX11_splits_277 rfl ?_
        refine ww_getI hX (pc := 278) fX11_142 (by decide) (xs_49 hL) dX11_splits_278 ?_
        refine ww_iconst hX (pc := 281) (x := 0) dX11_splits_281 rfl ?_
        refine ww_iast hX (pc := 282) (xs_57 hL) (by decide) (by omega) (by omega) dX11_splits_282 ?_
        refine ww_nmH (fun I_282 eI_282 => ?_)
        have kI_282 : Ch [57, 58, 59] [15] Ia I_282 := by rw [eI_282]; exact Ch_r kI_272 (by decide) (by decide)
        have cI_282 : RX I_282 := by rw [eI_282]; exact RX_r cI_272 (by decide)
        have qI_282 := RX_w cI_282
        have f15_I_282 : I_282 49 15 = I_272 49 15 := by rw [eI_282, up2_off _ _ _ (by decide)]
        have y57 : RG (I_282 57) (I7 49 15 + 1) := by rw [eI_282, up2_row, show I_272 49 15 = I7 49 15 by omega, show I_272 57 = I7 57 by rw [eI_272, up2_off _ _ _ (by decide)]]; exact RG_up hg57 (by omega) (by omega) (by omega)
        have y0 : I_282 57 (I7 49 15).toNat = 0 := by rw [eI_282, show I_272 49 15 = I7 49 15 by omega, up2_s]
        refine ww_aload_n hX (pc := 283) dX11_splits_283 rfl ?_
        refine ww_getR hX (pc := 284) fX11_46 (by decide) (xs_49 hL) (xr_49_13 hL) dX11_splits_284 ?_
        refine ww_aload_n hX (pc := 287) dX11_splits_287 rfl ?_
        refine ww_getI hX (pc := 288) fX11_142 (by decide) (xs_49 hL) dX11_splits_288 ?_
        refine ww_iconst hX (pc := 291) (x := 0) dX11_splits_291 rfl ?_
        refine ww_iast hX (pc := 292) (xs_58 hL) (by decide) (by omega) (by omega) dX11_splits_292 ?_
        refine ww_nmH (fun I_292 eI_292 => ?_)
        have kI_292 : Ch [57, 58, 59] [15] Ia I_292 := by rw [eI_292]; exact Ch_r kI_282 (by decide) (by decide)
        have cI_292 : RX I_292 := by rw [eI_292]; exact RX_r cI_282 (by decide)
        have qI_292 := RX_w cI_292
        have f15_I_292 : I_292 49 15 = I_282 49 15 := by rw [eI_292, up2_off _ _ _ (by decide)]
        have z15 : I_292 49 15 = I7 49 15 := by omega
        have z57 : RG (I_292 57) (I_292 49 15 + 1) := by rw [z15, eI_292, up2_off _ _ _ (by decide)]; exact y57
        have z59 : RG (I_292 59) (I_292 49 15 + 1) := by rw [z15, eI_292, up2_off _ _ _ (by decide), eI_282, up2_off _ _ _ (by decide)]; exact y59
        have z0 : I_292 57 (I_292 49 15).toNat = 0 := by rw [z15, eI_292, up2_off _ _ _ (by decide)]; exact y0
        rw [zTk_0 (n := N) (k := k.toNat) (by omega), List.append_nil] at ht9
        have zT15 : I_292 49 15 = (zTk f N 0).length := by rw [ht9]; omega
        have zTal := zRo_fin hdn (v := a) (n := N) (by omega)
        rw [← show I_292 57 = up1 (I7 57) dn.length 0 by rw [eI_292, up2_off _ _ _ (by decide), eI_282, up2_row, show (I_272 49 15).toNat = dn.length by omega, eI_272, up2_off _ _ _ (by decide)], ← show I_292 58 = up1 (I7 58) dn.length 0 by rw [eI_292, up2_row, show (I_282 49 15).toNat = dn.length by omega, eI_282, up2_off _ _ _ (by decide), eI_272, up2_off _ _ _ (by decide)], ← show I_292 59 = up1 (I7 59) dn.length a by rw [eI_292, up2_off _ _ _ (by decide), eI_282, up2_off _ _ _ (by decide), eI_272, up2_row, show (I7 49 15).toNat = dn.length by omega], ← ht9] at zTal
        refine rV hX (pc := 293) hT (Nat.le_refl 0) (Nat.le_refl 0) dX11_splits_293 ?_
        exact ⟨kI_292, kJ7, cI_292, ⟨by omega, by omega⟩, z57, z59, z0, zT15, zTal⟩
      · simp only [w32_mod] at h_9
        refine ww_aload_n hX (pc := 12) dX11_splits_12 rfl ?_
        refine ww_getR hX (pc := 13) fX11_34 (by decide) (xs_49 hL) (xr_49_8 hL) dX11_splits_13 ?_
        refine ww_iload_n hX (pc := 16) dX11_splits_16 rfl ?_
        refine ww_bald hX (pc := 17) (xs_55 hL) (by decide) (by omega) (by omega) dX11_splits_17 ?_
        have hb9 := hf k.toNat (by omega)
        rw [← y55] at hb9
        have hkb := zKl_B hb9
        refine ww_nmI (fun v_18 hv_18 => ?_)
        refine ww_istore_n hX (pc := 18) (lv' := [some (kR (some 49)), some (kI a), some (kI k), some (kI v_18), none, none]) dX11_splits_18 (by decide) rfl rfl ?_
        refine ww_iload_n hX (pc := 19) dX11_splits_19 rfl ?_
        refine ww_bipush hX (pc := 20) (x := 32) dX11_splits_20 (by decide) ?_
        refine ww_icmp_ne hX (pc := 22) (tgt := 31) dX11_splits_22 (by decide) (fun h_22 => ?_) (fun h_22 => ?_)
        · simp only [w32_mod] at h_22
          refine ww_iload_n hX (pc := 31) dX11_splits_31 rfl ?_
          refine ww_iconst hX (pc := 32) (x := 1) dX11_splits_32 rfl ?_
          refine ww_iadd hX (pc := 33) dX11_splits_33 ?_
          refine ww_nmI (fun v_34 hv_34 => ?_)
          refine ww_istore hX (pc := 34) (lv' := [some (kR (some 49)), some (kI a), some (kI k), some (kI v_18), some (kI v_34), none]) dX11_splits_34 (by decide) rfl rfl ?_
          have hj_100 : ∀ (u9 : Int), (k + 1 ≤ u9 ∧ u9 ≤ a ∧ u9.toNat = zSt f N k.toNat) → WW X 100 [some (kR (some 49)), some (kI a), some (kI k), some (kI v_18), some (kI u9), none] [] I7 J7 Ra Sa 0 0 := by
            intro u9 hv_100
            obtain ⟨hu1, hu2, hst9⟩ := hv_100
            refine ww_aload_n hX (pc := 100) dX11_splits_100 rfl ?_
            refine ww_getR hX (pc := 101) fX11_49 (by decide) (xs_49 hL) (xr_49_14 hL) dX11_splits_101 ?_
            refine ww_aload_n hX (pc := 104) dX11_splits_104 rfl ?_
            refine ww_getI hX (pc := 105) fX11_142 (by decide) (xs_49 hL) dX11_splits_105 ?_
            refine ww_iload_n hX (pc := 108) dX11_splits_108 rfl ?_
            refine ww_iast hX (pc := 109) (xs_59 hL) (by decide) (by omega) (by omega) dX11_splits_109 ?_
            refine ww_nmH (fun I_109 eI_109 => ?_)
            have kI_109 : Ch [57, 58, 59] [15] Ia I_109 := by rw [eI_109]; exact Ch_r kI7 (by decide) (by decide)
            have cI_109 : RX I_109 := by rw [eI_109]; exact RX_r cI7 (by decide)
            have qI_109 := RX_w cI_109
            have f15_I_109 : I_109 49 15 = I7 49 15 := by rw [eI_109, up2_off _ _ _ (by decide)]
            have g59 : RG (I_109 59) (I7 49 15 + 1) := by rw [eI_109, up2_row]; exact RG_up hg59 (by omega) (by omega) (by omega)
            refine ww_aload_n hX (pc := 110) dX11_splits_110 rfl ?_
            refine ww_getR hX (pc := 111) fX11_46 (by decide) (xs_49 hL) (xr_49_13 hL) dX11_splits_111 ?_
            refine ww_aload_n hX (pc := 114) dX11_splits_114 rfl ?_
            refine ww_getI hX (pc := 115) fX11_142 (by decide) (xs_49 hL) dX11_splits_115 ?_
            refine ww_iconst hX (pc := 118) (x := 0) dX11_splits_118 rfl ?_
            refine ww_iast hX (pc := 119) (xs_58 hL) (by decide) (by omega) (by omega) dX11_splits_119 ?_
            refine ww_nmH (fun I_119 eI_119 => ?_)
            have kI_119 : Ch [57, 58, 59] [15] Ia I_119 := by rw [eI_119]; exact Ch_r kI_109 (by decide) (by decide)
            have cI_119 : RX I_119 := by rw [eI_119]; exact RX_r cI_109 (by decide)
            have qI_119 := RX_w cI_119
            have f15_I_119 : I_119 49 15 = I_109 49 15 := by rw [eI_119, up2_off _ _ _ (by decide)]
            have hwc : WD I_119 := fun i hi => by rw [kI_119.1 54 (by decide) (by decide)]; exact hw i hi
            have hfc : zTB f N (I_119 55) := by rw [kI_119.1 55 (by decide) (by decide)]; exact hf
            refine ww_aload_n hX (pc := 120) dX11_splits_120 rfl ?_
            refine ww_getR hX (pc := 121) fX11_43 (by decide) (xs_49 hL) (xr_49_12 hL) dX11_splits_121 ?_
            refine ww_aload_n hX (pc := 124) dX11_splits_124 rfl ?_
            refine ww_getI hX (pc := 125) fX11_142 (by decide) (xs_49 hL) dX11_splits_125 ?_
            refine ww_iload_n hX (pc := 128) dX11_splits_128 rfl ?_
            refine sI1 hX (pc := 129) sX11_145 (c_X11_isSmall l0 (by omega) (by omega)) (by decide) (Nat.le_refl 0) (Nat.le_refl 0) (Nat.le_of_ble_eq_true rfl) dX11_splits_129 (fun x_129 I_129 J_129 h_129 => ?_)
            obtain ⟨rfl, rfl, h_129⟩ := h_129
            refine ww_if_eq hX (pc := 132) (tgt := 145) dX11_splits_132 (by decide) (fun h_132 => ?_) (fun h_132 => ?_)
            · simp only [w32_mod] at h_132
              refine ww_iload_n hX (pc := 145) dX11_splits_145 rfl ?_
              refine sI1 hX (pc := 146) sX11_148 (c_X11_isDigit l0 (by omega) (by omega)) (by decide) (Nat.le_refl 0) (Nat.le_refl 0) (Nat.le_of_ble_eq_true rfl) dX11_splits_146 (fun x_146 I_146 J_146 h_146 => ?_)
              obtain ⟨rfl, rfl, h_146⟩ := h_146
              refine ww_if_eq hX (pc := 149) (tgt := 157) dX11_splits_149 (by decide) (fun h_149 => ?_) (fun h_149 => ?_)
              · simp only [w32_mod] at h_149
                have hk0 : zKl (f k.toNat) = 0 := by have k3 := zKl_r (f k.toNat); have kq := hkb; unfold KLb at kq; omega
                refine ww_bipush hX (pc := 157) (x := 100) dX11_splits_157 (by decide) ?_
                refine ww_iload_n hX (pc := 159) dX11_splits_159 rfl ?_
                refine ww_sipush hX (pc := 160) (x := 255) dX11_splits_160 (by decide) ?_
                refine ww_iand hX (pc := 163) dX11_splits_163 ?_
                have hia : 0 ≤ i_and v_18 255 ∧ i_and v_18 255 ≤ 255 := by rw [i_and_comm]; exact i_and_le (by decide) (by decide) _
                refine ww_iadd hX (pc := 164) dX11_splits_164 ?_
                refine ww_iast hX (pc := 165) (xs_57 hL) (by decide) (by omega) (by omega) dX11_splits_165 ?_
                refine ww_nmH (fun I_165 eI_165 => ?_)
                have kI_165 : Ch [57, 58, 59] [15] Ia I_165 := by rw [eI_165]; exact Ch_r kI_119 (by decide) (by decide)
                have cI_165 : RX I_165 := by rw [eI_165]; exact RX_r cI_119 (by decide)
                have qI_165 := RX_w cI_165
                have f15_I_165 : I_165 49 15 = I_119 49 15 := by rw [eI_165, up2_off _ _ _ (by decide)]
                have g57 : RG (I_165 57) (I7 49 15 + 1) := by rw [eI_165, up2_row, show I_119 49 15 = I7 49 15 by omega, show I_119 57 = I7 57 by rw [eI_119, up2_off _ _ _ (by decide), eI_109, up2_off _ _ _ (by decide)]]; exact RG_up hg57 (by omega) (by omega) (by omega)
                have g59b : RG (I_165 59) (I7 49 15 + 1) := by rw [eI_165, up2_off _ _ _ (by decide), eI_119, up2_off _ _ _ (by decide)]; exact g59
                have w57 : I_165 57 = up1 (I7 57) dn.length (zCo f k.toNat (zSt f N k.toNat)) := by
                  rw [eI_165, up2_row, show (I_119 49 15).toNat = dn.length by omega, show I_119 57 = I7 57 by rw [eI_119, up2_off _ _ _ (by decide), eI_109, up2_off _ _ _ (by decide)]]
                  exact congrArg (up1 (I7 57) dn.length) (by rw [zCo_0 hk0, iand255]; omega)
                have w58 : I_165 58 = up1 (I7 58) dn.length 0 := by rw [eI_165, up2_off _ _ _ (by decide), eI_119, up2_row, show (I_109 49 15).toNat = dn.length by omega, eI_109, up2_off _ _ _ (by decide)]
                have w59 : I_165 59 = up1 (I7 59) dn.length k := by rw [eI_165, up2_off _ _ _ (by decide), eI_119, up2_off _ _ _ (by decide), eI_109, up2_row, show (I7 49 15).toNat = dn.length by omega]
                refine ww_iload_n hX (pc := 166) dX11_splits_166 rfl ?_
                refine ww_istore hX (pc := 167) (lv' := [some (kR (some 49)), some (kI a), some (kI k), some (kI v_18), some (kI u9), some (kI k)]) dX11_splits_167 (by decide) rfl rfl ?_
                have hl_169 : ∀ (n_169 : Nat) (q : Int) (I169 : aI1) (J169 : aI1), (400 - q).toNat = n_169 → (Ch [57, 58, 59] [15] Ia I169 ∧ RX I169 ∧ Kp 49 49 Ja J169 ∧ I169 49 15 = I_165 49 15 ∧ ((k ≤ q ∧ q ≤ u9) ∧ I169 57 = I_165 57 ∧ I169 59 = I_165 59 ∧ I169 58 = up1 (I7 58) dn.length (zNu f k.toNat (q - k).toNat) ∧ (zKl (f k.toNat) = 2 ∨ q = k))) → WW X 169 [some (kR (some 49)), some (kI a), some (kI k), some (kI v_18), some (kI u9), some (kI q)] [] I169 J169 Ra Sa 0 0 := by
                  intro n_169
                  induction n_169 using Nat.strongRecOn with
                  | ind n_169 ih_169 =>
                    intro q I169 J169 hm_169 hv_169
                    have hq_169 := Sh0_i hm_169
                    clear hm_169
                    obtain ⟨kI169, cI169, kJ169, f15_I169, hq, hr57, hr59, hr58, hqd⟩ := hv_169
                    have qI169 := RX_w cI169
                    have hval : I169 58 dn.length = zNu f k.toNat (q - k).toNat := by rw [hr58, up1_s]
                    have hval2 : I169 58 (I169 49 15).toNat = zNu f k.toNat (q - k).toNat := by rw [show (I169 49 15).toNat = dn.length by omega]; exact hval
                    refine ww_iload hX (pc := 169) dX11_splits_169 rfl ?_
                    refine ww_iload hX (pc := 171) dX11_splits_171 rfl ?_
                    refine ww_icmp_ge hX (pc := 173) (tgt := 247) dX11_splits_173 (by decide) (fun h_173 => ?_) (fun h_173 => ?_)
                    · simp only [w32_mod] at h_173
                      refine ww_aload_n hX (pc := 247) dX11_splits_247 rfl ?_
                      refine ww_dupR hX (pc := 248) dX11_splits_248 ?_
                      refine ww_getI hX (pc := 249) fX11_142 (by decide) (xs_49 hL) dX11_splits_249 ?_
                      refine ww_iconst hX (pc := 252) (x := 1) dX11_splits_252 rfl ?_
                      refine ww_iadd hX (pc := 253) dX11_splits_253 ?_
                      refine ww_putI hX (pc := 254) (fun h9 => absurd h9 (by decide)) gX11_142 rfl (xs_49 hL) dX11_splits_254 ?_
                      refine ww_nmH (fun I_254 eI_254 => ?_)
                      have kI_254 : Ch [57, 58, 59] [15] Ia I_254 := by rw [eI_254]; exact Ch_f kI169 (by decide)
                      have cI_254 : RX I_254 := by rw [eI_254]; exact RX_f cI169 (by decide)
                      have qI_254 := RX_w cI_254
                      have w15 : I_254 49 15 = I7 49 15 + 1 := by
                        have h9 : I_254 49 15 = I169 49 15 + 1 := by rw [eI_254, up2_s]
                        omega
                      have g57c : RG (I_254 57) (I_254 49 15) := by rw [w15, eI_254, up2_off _ _ _ (by decide), hr57]; exact g57
                      have g59c : RG (I_254 59) (I_254 49 15) := by rw [w15, eI_254, up2_off _ _ _ (by decide), hr59]; exact g59b
                      have hva : zNu f k.toNat (q - k).toNat = zVa f k.toNat (zSt f N k.toNat) := by
                        by_cases h9 : zKl (f k.toNat) = 2
                        · rw [zVa_2 h9, show (q - k).toNat = zSt f N k.toNat - k.toNat by first | omega | (have kq := hkb; unfold KLb at kq; omega) | (have kq := hk7; unfold KLb at kq; omega)]
                        · rw [zVa_0 h9, show (q - k).toNat = 0 by omega]
                          rfl
                      have hdn2 : zRo f (dn ++ [(k.toNat, zSt f N k.toNat)]) (I_254 57) (I_254 58) (I_254 59) := by
                        rw [eI_254, up2_off _ _ _ (by decide), up2_off _ _ _ (by decide), up2_off _ _ _ (by decide), hr57, hr58, hr59, w57, w59]
                        exact zRo_ad hdn rfl hva (by omega)
                      refine ww_iload hX (pc := 257) dX11_splits_257 rfl ?_
                      refine ww_istore_n hX (pc := 259) (lv' := [some (kR (some 49)), some (kI a), some (kI u9), some (kI v_18), some (kI u9), some (kI q)]) dX11_splits_259 (by decide) rfl rfl ?_
                      refine ww_goto hX (pc := 260) (tgt := 7) dX11_splits_260 (by decide) ?_
                      refine ww_sub [some (kR (some 49)), some (kI a), some (kI u9), none, none, none] (aLe_s (aLe_s (aLe_s (aLe_n (aLe_n (aLe_n aLe_0)))))) ?_
                      exact ih_7 _ (by have hm9 := Sh0_e hq_7; omega) u9 I_254 J169 rfl ⟨kI_254, cI_254, kJ169, ⟨by omega, by omega⟩, ⟨by omega, by omega⟩, g57c, g59c, dn ++ [(k.toNat, zSt f N k.toNat)], (by rw [ht9, zTk_t (by omega) (by omega), List.append_assoc, List.singleton_append, hst9]), (by rw [List.length_append, List.length_singleton]; omega), hdn2⟩
                    · simp only [w32_mod] at h_173
                      refine ww_iload_n hX (pc := 176) dX11_splits_176 rfl ?_
                      refine sI1 hX (pc := 177) sX11_148 (c_X11_isDigit l0 (by omega) (by omega)) (by decide) (Nat.le_refl 0) (Nat.le_refl 0) (Nat.le_of_ble_eq_true rfl) dX11_splits_177 (fun x_177 I_177 J_177 h_177 => ?_)
                      obtain ⟨rfl, rfl, h_177⟩ := h_177
                      refine ww_if_eq hX (pc := 180) (tgt := 247) dX11_splits_180 (by decide) (fun h_180 => ?_) (fun h_180 => ?_)
                      · simp only [w32_mod] at h_180
                        refine ww_aload_n hX (pc := 247) dX11_splits_247 rfl ?_
                        refine ww_dupR hX (pc := 248) dX11_splits_248 ?_
                        refine ww_getI hX (pc := 249) fX11_142 (by decide) (xs_49 hL) dX11_splits_249 ?_
                        refine ww_iconst hX (pc := 252) (x := 1) dX11_splits_252 rfl ?_
                        refine ww_iadd hX (pc := 253) dX11_splits_253 ?_
                        refine ww_putI hX (pc := 254) (fun h9 => absurd h9 (by decide)) gX11_142 rfl (xs_49 hL) dX11_splits_254 ?_
                        refine ww_nmH (fun I_254 eI_254 => ?_)
                        have kI_254 : Ch [57, 58, 59] [15] Ia I_254 := by rw [eI_254]; exact Ch_f kI169 (by decide)
                        have cI_254 : RX I_254 := by rw [eI_254]; exact RX_f cI169 (by decide)
                        have qI_254 := RX_w cI_254
                        have w15 : I_254 49 15 = I7 49 15 + 1 := by
                          have h9 : I_254 49 15 = I169 49 15 + 1 := by rw [eI_254, up2_s]
                          omega
                        have g57c : RG (I_254 57) (I_254 49 15) := by rw [w15, eI_254, up2_off _ _ _ (by decide), hr57]; exact g57
                        have g59c : RG (I_254 59) (I_254 49 15) := by rw [w15, eI_254, up2_off _ _ _ (by decide), hr59]; exact g59b
                        have hva : zNu f k.toNat (q - k).toNat = zVa f k.toNat (zSt f N k.toNat) := by
                          by_cases h9 : zKl (f k.toNat) = 2
                          · rw [zVa_2 h9, show (q - k).toNat = zSt f N k.toNat - k.toNat by first | omega | (have kq := hkb; unfold KLb at kq; omega) | (have kq := hk7; unfold KLb at kq; omega)]
                          · rw [zVa_0 h9, show (q - k).toNat = 0 by omega]
                            rfl
                        have hdn2 : zRo f (dn ++ [(k.toNat, zSt f N k.toNat)]) (I_254 57) (I_254 58) (I_254 59) := by
                          rw [eI_254, up2_off _ _ _ (by decide), up2_off _ _ _ (by decide), up2_off _ _ _ (by decide), hr57, hr58, hr59, w57, w59]
                          exact zRo_ad hdn rfl hva (by omega)
                        refine ww_iload hX (pc := 257) dX11_splits_257 rfl ?_
                        refine ww_istore_n hX (pc := 259) (lv' := [some (kR (some 49)), some (kI a), some (kI u9), some (kI v_18), some (kI u9), some (kI q)]) dX11_splits_259 (by decide) rfl rfl ?_
                        refine ww_goto hX (pc := 260) (tgt := 7) dX11_splits_260 (by decide) ?_
                        refine ww_sub [some (kR (some 49)), some (kI a), some (kI u9), none, none, none] (aLe_s (aLe_s (aLe_s (aLe_n (aLe_n (aLe_n aLe_0)))))) ?_
                        exact ih_7 _ (by have hm9 := Sh0_e hq_7; omega) u9 I_254 J169 rfl ⟨kI_254, cI_254, kJ169, ⟨by omega, by omega⟩, ⟨by omega, by omega⟩, g57c, g59c, dn ++ [(k.toNat, zSt f N k.toNat)], (by rw [ht9, zTk_t (by omega) (by omega), List.append_assoc, List.singleton_append, hst9]), (by rw [List.length_append, List.length_singleton]; omega), hdn2⟩
                      · simp only [w32_mod] at h_180
                        have k_177 := h_177.2.mp (by omega)
                        clear h_177
                        have hq2 := zSt_all (f := f) (n := N) (k := k.toNat) (q := q.toNat) (by omega) (by omega)
                        have hb7 := hf q.toNat (by omega)
                        rw [← (kI169.1 55 (by decide) (by decide) : I169 55 = Ia 55)] at hb7
                        have hk7 := zKl_B hb7
                        have hzr := zNu_r (f := f) (a := k.toNat) (q - k).toNat (fun i hi => zKl_2.mp ((zSt_all (n := N) (k := k.toNat) (by omega) (by omega)).trans (hkb.2.mpr (by omega))))
                        refine ww_aload_n hX (pc := 183) dX11_splits_183 rfl ?_
                        refine ww_getR hX (pc := 184) fX11_46 (by decide) (xs_49 hL) (xr_49_13 hL) dX11_splits_184 ?_
                        refine ww_aload_n hX (pc := 187) dX11_splits_187 rfl ?_
                        refine ww_getI hX (pc := 188) fX11_142 (by decide) (xs_49 hL) dX11_splits_188 ?_
                        refine ww_aload_n hX (pc := 191) dX11_splits_191 rfl ?_
                        refine ww_getR hX (pc := 192) fX11_46 (by decide) (xs_49 hL) (xr_49_13 hL) dX11_splits_192 ?_
                        refine ww_aload_n hX (pc := 195) dX11_splits_195 rfl ?_
                        refine ww_getI hX (pc := 196) fX11_142 (by decide) (xs_49 hL) dX11_splits_196 ?_
                        refine ww_iald hX (pc := 199) (xs_58 hL) (by decide) (by omega) (by omega) dX11_splits_199 ?_
                        refine ww_ldc hX (pc := 200) (x := 1000000) dX11_splits_200 tb_1327 ?_
                        refine ww_icmp_le hX (pc := 202) (tgt := 217) dX11_splits_202 (by decide) (fun h_202 => ?_) (fun h_202 => ?_)
                        · simp only [w32_mod] at h_202
                          refine ww_bipush hX (pc := 217) (x := 10) dX11_splits_217 (by decide) ?_
                          refine ww_aload_n hX (pc := 219) dX11_splits_219 rfl ?_
                          refine ww_getR hX (pc := 220) fX11_46 (by decide) (xs_49 hL) (xr_49_13 hL) dX11_splits_220 ?_
                          refine ww_aload_n hX (pc := 223) dX11_splits_223 rfl ?_
                          refine ww_getI hX (pc := 224) fX11_142 (by decide) (xs_49 hL) dX11_splits_224 ?_
                          refine ww_iald hX (pc := 227) (xs_58 hL) (by decide) (by omega) (by omega) dX11_splits_227 ?_
                          refine ww_imul hX (pc := 228) dX11_splits_228 ?_
                          refine ww_aload_n hX (pc := 229) dX11_splits_229 rfl ?_
                          refine ww_getR hX (pc := 230) fX11_34 (by decide) (xs_49 hL) (xr_49_8 hL) dX11_splits_230 ?_
                          refine ww_iload hX (pc := 233) dX11_splits_233 rfl ?_
                          refine ww_bald hX (pc := 235) (xs_55 hL) (by decide) (by omega) (by omega) dX11_splits_235 ?_
                          refine ww_iadd hX (pc := 236) dX11_splits_236 ?_
                          refine ww_bipush hX (pc := 237) (x := 48) dX11_splits_237 (by decide) ?_
                          refine ww_isub hX (pc := 239) dX11_splits_239 ?_
                          refine ww_iast hX (pc := 240) (xs_58 hL) (by decide) (by omega) (by omega) dX11_splits_240 ?_
                          refine ww_nmH (fun I_240 eI_240 => ?_)
                          have kI_240 : Ch [57, 58, 59] [15] Ia I_240 := by rw [eI_240]; exact Ch_r kI169 (by decide) (by decide)
                          have cI_240 : RX I_240 := by rw [eI_240]; exact RX_r cI169 (by decide)
                          have qI_240 := RX_w cI_240
                          have f15_I_240 : I_240 49 15 = I169 49 15 := by rw [eI_240, up2_off _ _ _ (by decide)]
                          have y58b : I_240 58 = up1 (I7 58) dn.length (zNu f k.toNat (q + 1 - k).toNat) := by
                            rw [eI_240, up2_row]
                            refine (congrArg (fun F => up1 F _ _) hr58).trans ?_
                            rw [show (I169 49 15).toNat = dn.length by omega, up1_up1]
                            refine congrArg (up1 (I7 58) dn.length) ?_
                            rw [show (q + 1 - k).toNat = (q - k).toNat + 1 by omega]
                            exact (by rw [zNu_f (by omega), show k.toNat + (q - k).toNat = q.toNat by omega]; have kq := hkb; have kr := hk7; unfold KLb at kq kr; omega)
                          refine ww_iinc hX (pc := 241) (lv' := [some (kR (some 49)), some (kI a), some (kI k), some (kI v_18), some (kI u9), some (kI (q + 1))]) dX11_splits_241 rfl (by decide) rfl rfl ?_
                          refine ww_goto hX (pc := 244) (tgt := 169) dX11_splits_244 (by decide) ?_
                          exact ih_169 _ (by have hm9 := Sh0_e hq_169; omega) (q + 1) I_240 J169 rfl ⟨kI_240, cI_240, kJ169, by omega, ⟨by omega, by omega⟩, by rw [eI_240, up2_off _ _ _ (by decide)]; exact hr57, by rw [eI_240, up2_off _ _ _ (by decide)]; exact hr59, y58b, Or.inl (hkb.2.mpr (by omega))⟩
                        · simp only [w32_mod] at h_202
                          refine ww_aload_n hX (pc := 205) dX11_splits_205 rfl ?_
                          refine ww_getR hX (pc := 206) fX11_46 (by decide) (xs_49 hL) (xr_49_13 hL) dX11_splits_206 ?_
                          refine ww_aload_n hX (pc := 209) dX11_splits_209 rfl ?_
                          refine ww_getI hX (pc := 210) fX11_142 (by decide) (xs_49 hL) dX11_splits_210 ?_
                          refine ww_iald hX (pc := 213) (xs_58 hL) (by decide) (by omega) (by omega) dX11_splits_213 ?_
                          refine ww_goto hX (pc := 214) (tgt := 240) dX11_splits_214 (by decide) ?_
                          refine ww_iast hX (pc := 240) (xs_58 hL) (by decide) (by omega) (by omega) dX11_splits_240 ?_
                          refine ww_nmH (fun I_240 eI_240 => ?_)
                          have kI_240 : Ch [57, 58, 59] [15] Ia I_240 := by rw [eI_240]; exact Ch_r kI169 (by decide) (by decide)
                          have cI_240 : RX I_240 := by rw [eI_240]; exact RX_r cI169 (by decide)
                          have qI_240 := RX_w cI_240
                          have f15_I_240 : I_240 49 15 = I169 49 15 := by rw [eI_240, up2_off _ _ _ (by decide)]
                          have y58b : I_240 58 = up1 (I7 58) dn.length (zNu f k.toNat (q + 1 - k).toNat) := by
                            rw [eI_240, up2_row]
                            refine (congrArg (fun F => up1 F _ _) hr58).trans ?_
                            rw [show (I169 49 15).toNat = dn.length by omega, up1_up1]
                            refine congrArg (up1 (I7 58) dn.length) ?_
                            rw [show (q + 1 - k).toNat = (q - k).toNat + 1 by omega]
                            exact (by rw [zNu_t (by omega)]; omega)
                          refine ww_iinc hX (pc := 241) (lv' := [some (kR (some 49)), some (kI a), some (kI k), some (kI v_18), some (kI u9), some (kI (q + 1))]) dX11_splits_241 rfl (by decide) rfl rfl ?_
                          refine ww_goto hX (pc := 244) (tgt := 169) dX11_splits_244 (by decide) ?_
                          exact ih_169 _ (by have hm9 := Sh0_e hq_169; omega) (q + 1) I_240 J169 rfl ⟨kI_240, cI_240, kJ169, by omega, ⟨by omega, by omega⟩, by rw [eI_240, up2_off _ _ _ (by decide)]; exact hr57, by rw [eI_240, up2_off _ _ _ (by decide)]; exact hr59, y58b, Or.inl (hkb.2.mpr (by omega))⟩
                exact hl_169 _ k I_165 J7 rfl ⟨kI_165, cI_165, kJ7, rfl, ⟨by omega, by omega⟩, rfl, rfl, (by rw [w58, show (k - k).toNat = 0 by omega]; rfl), Or.inr rfl⟩
              · simp only [w32_mod] at h_149
                have k_146 := h_146.2.mp (by omega)
                clear h_146
                refine ww_bipush hX (pc := 152) (x := 50) dX11_splits_152 (by decide) ?_
                refine ww_goto hX (pc := 154) (tgt := 165) dX11_splits_154 (by decide) ?_
                refine ww_iast hX (pc := 165) (xs_57 hL) (by decide) (by omega) (by omega) dX11_splits_165 ?_
                refine ww_nmH (fun I_165 eI_165 => ?_)
                have kI_165 : Ch [57, 58, 59] [15] Ia I_165 := by rw [eI_165]; exact Ch_r kI_119 (by decide) (by decide)
                have cI_165 : RX I_165 := by rw [eI_165]; exact RX_r cI_119 (by decide)
                have qI_165 := RX_w cI_165
                have f15_I_165 : I_165 49 15 = I_119 49 15 := by rw [eI_165, up2_off _ _ _ (by decide)]
                have g57 : RG (I_165 57) (I7 49 15 + 1) := by rw [eI_165, up2_row, show I_119 49 15 = I7 49 15 by omega, show I_119 57 = I7 57 by rw [eI_119, up2_off _ _ _ (by decide), eI_109, up2_off _ _ _ (by decide)]]; exact RG_up hg57 (by omega) (by omega) (by omega)
                have g59b : RG (I_165 59) (I7 49 15 + 1) := by rw [eI_165, up2_off _ _ _ (by decide), eI_119, up2_off _ _ _ (by decide)]; exact g59
                have w57 : I_165 57 = up1 (I7 57) dn.length (zCo f k.toNat (zSt f N k.toNat)) := by
                  rw [eI_165, up2_row, show (I_119 49 15).toNat = dn.length by omega, show I_119 57 = I7 57 by rw [eI_119, up2_off _ _ _ (by decide), eI_109, up2_off _ _ _ (by decide)]]
                  exact congrArg (up1 (I7 57) dn.length) ((zCo_2 (hkb.2.mpr (by omega))).symm)
                have w58 : I_165 58 = up1 (I7 58) dn.length 0 := by rw [eI_165, up2_off _ _ _ (by decide), eI_119, up2_row, show (I_109 49 15).toNat = dn.length by omega, eI_109, up2_off _ _ _ (by decide)]
                have w59 : I_165 59 = up1 (I7 59) dn.length k := by rw [eI_165, up2_off _ _ _ (by decide), eI_119, up2_off _ _ _ (by decide), eI_109, up2_row, show (I7 49 15).toNat = dn.length by omega]
                refine ww_iload_n hX (pc := 166) dX11_splits_166 rfl ?_
                refine ww_istore hX (pc := 167) (lv' := [some (kR (some 49)), some (kI a), some (kI k), some (kI v_18), some (kI u9), some (kI k)]) dX11_splits_167 (by decide) rfl rfl ?_
                have hl_169 : ∀ (n_169 : Nat) (q : Int) (I169 : aI1) (J169 : aI1), (400 - q).toNat = n_169 → (Ch [57, 58, 59] [15] Ia I169 ∧ RX I169 ∧ Kp 49 49 Ja J169 ∧ I169 49 15 = I_165 49 15 ∧ ((k ≤ q ∧ q ≤ u9) ∧ I169 57 = I_165 57 ∧ I169 59 = I_165 59 ∧ I169 58 = up1 (I7 58) dn.length (zNu f k.toNat (q - k).toNat) ∧ (zKl (f k.toNat) = 2 ∨ q = k))) → WW X 169 [some (kR (some 49)), some (kI a), some (kI k), some (kI v_18), some (kI u9), some (kI q)] [] I169 J169 Ra Sa 0 0 := by
                  intro n_169
                  induction n_169 using Nat.strongRecOn with
                  | ind n_169 ih_169 =>
                    intro q I169 J169 hm_169 hv_169
                    have hq_169 := Sh0_i hm_169
                    clear hm_169
                    obtain ⟨kI169, cI169, kJ169, f15_I169, hq, hr57, hr59, hr58, hqd⟩ := hv_169
                    have qI169 := RX_w cI169
                    have hval : I169 58 dn.length = zNu f k.toNat (q - k).toNat := by rw [hr58, up1_s]
                    have hval2 : I169 58 (I169 49 15).toNat = zNu f k.toNat (q - k).toNat := by rw [show (I169 49 15).toNat = dn.length by omega]; exact hval
                    refine ww_iload hX (pc := 169) dX11_splits_169 rfl ?_
                    refine ww_iload hX (pc := 171) dX11_splits_171 rfl ?_
                    refine ww_icmp_ge hX (pc := 173) (tgt := 247) dX11_splits_173 (by decide) (fun h_173 => ?_) (fun h_173 => ?_)
                    · simp only [w32_mod] at h_173
                      refine ww_aload_n hX (pc := 247) dX11_splits_247 rfl ?_
                      refine ww_dupR hX (pc := 248) dX11_splits_248 ?_
                      refine ww_getI hX (pc := 249) fX11_142 (by decide) (xs_49 hL) dX11_splits_249 ?_
                      refine ww_iconst hX (pc := 252) (x := 1) dX11_splits_252 rfl ?_
                      refine ww_iadd hX (pc := 253) dX11_splits_253 ?_
                      refine ww_putI hX (pc := 254) (fun h9 => absurd h9 (by decide)) gX11_142 rfl (xs_49 hL) dX11_splits_254 ?_
                      refine ww_nmH (fun I_254 eI_254 => ?_)
                      have kI_254 : Ch [57, 58, 59] [15] Ia I_254 := by rw [eI_254]; exact Ch_f kI169 (by decide)
                      have cI_254 : RX I_254 := by rw [eI_254]; exact RX_f cI169 (by decide)
                      have qI_254 := RX_w cI_254
                      have w15 : I_254 49 15 = I7 49 15 + 1 := by
                        have h9 : I_254 49 15 = I169 49 15 + 1 := by rw [eI_254, up2_s]
                        omega
                      have g57c : RG (I_254 57) (I_254 49 15) := by rw [w15, eI_254, up2_off _ _ _ (by decide), hr57]; exact g57
                      have g59c : RG (I_254 59) (I_254 49 15) := by rw [w15, eI_254, up2_off _ _ _ (by decide), hr59]; exact g59b
                      have hva : zNu f k.toNat (q - k).toNat = zVa f k.toNat (zSt f N k.toNat) := by
                        by_cases h9 : zKl (f k.toNat) = 2
                        · rw [zVa_2 h9, show (q - k).toNat = zSt f N k.toNat - k.toNat by first | omega | (have kq := hkb; unfold KLb at kq; omega) | (have kq := hk7; unfold KLb at kq; omega)]
                        · rw [zVa_0 h9, show (q - k).toNat = 0 by omega]
                          rfl
                      have hdn2 : zRo f (dn ++ [(k.toNat, zSt f N k.toNat)]) (I_254 57) (I_254 58) (I_254 59) := by
                        rw [eI_254, up2_off _ _ _ (by decide), up2_off _ _ _ (by decide), up2_off _ _ _ (by decide), hr57, hr58, hr59, w57, w59]
                        exact zRo_ad hdn rfl hva (by omega)
                      refine ww_iload hX (pc := 257) dX11_splits_257 rfl ?_
                      refine ww_istore_n hX (pc := 259) (lv' := [some (kR (some 49)), some (kI a), some (kI u9), some (kI v_18), some (kI u9), some (kI q)]) dX11_splits_259 (by decide) rfl rfl ?_
                      refine ww_goto hX (pc := 260) (tgt := 7) dX11_splits_260 (by decide) ?_
                      refine ww_sub [some (kR (some 49)), some (kI a), some (kI u9), none, none, none] (aLe_s (aLe_s (aLe_s (aLe_n (aLe_n (aLe_n aLe_0)))))) ?_
                      exact ih_7 _ (by have hm9 := Sh0_e hq_7; omega) u9 I_254 J169 rfl ⟨kI_254, cI_254, kJ169, ⟨by omega, by omega⟩, ⟨by omega, by omega⟩, g57c, g59c, dn ++ [(k.toNat, zSt f N k.toNat)], (by rw [ht9, zTk_t (by omega) (by omega), List.append_assoc, List.singleton_append, hst9]), (by rw [List.length_append, List.length_singleton]; omega), hdn2⟩
                    · simp only [w32_mod] at h_173
                      refine ww_iload_n hX (pc := 176) dX11_splits_176 rfl ?_
                      refine sI1 hX (pc := 177) sX11_148 (c_X11_isDigit l0 (by omega) (by omega)) (by decide) (Nat.le_refl 0) (Nat.le_refl 0) (Nat.le_of_ble_eq_true rfl) dX11_splits_177 (fun x_177 I_177 J_177 h_177 => ?_)
                      obtain ⟨rfl, rfl, h_177⟩ := h_177
                      refine ww_if_eq hX (pc := 180) (tgt := 247) dX11_splits_180 (by decide) (fun h_180 => ?_) (fun h_180 => ?_)
                      · simp only [w32_mod] at h_180
                        refine ww_aload_n hX (pc := 247) dX11_splits_247 rfl ?_
                        refine ww_dupR hX (pc := 248) dX11_splits_248 ?_
                        refine ww_getI hX (pc := 249) fX11_142 (by decide) (xs_49 hL) dX11_splits_249 ?_
                        refine ww_iconst hX (pc := 252) (x := 1) dX11_splits_252 rfl ?_
                        refine ww_iadd hX (pc := 253) dX11_splits_253 ?_
                        refine ww_putI hX (pc := 254) (fun h9 => absurd h9 (by decide)) gX11_142 rfl (xs_49 hL) dX11_splits_254 ?_
                        refine ww_nmH (fun I_254 eI_254 => ?_)
                        have kI_254 : Ch [57, 58, 59] [15] Ia I_254 := by rw [eI_254]; exact Ch_f kI169 (by decide)
                        have cI_254 : RX I_254 := by rw [eI_254]; exact RX_f cI169 (by decide)
                        have qI_254 := RX_w cI_254
                        have w15 : I_254 49 15 = I7 49 15 + 1 := by
                          have h9 : I_254 49 15 = I169 49 15 + 1 := by rw [eI_254, up2_s]
                          omega
                        have g57c : RG (I_254 57) (I_254 49 15) := by rw [w15, eI_254, up2_off _ _ _ (by decide), hr57]; exact g57
                        have g59c : RG (I_254 59) (I_254 49 15) := by rw [w15, eI_254, up2_off _ _ _ (by decide), hr59]; exact g59b
                        have hva : zNu f k.toNat (q - k).toNat = zVa f k.toNat (zSt f N k.toNat) := by
                          by_cases h9 : zKl (f k.toNat) = 2
                          · rw [zVa_2 h9, show (q - k).toNat = zSt f N k.toNat - k.toNat by first | omega | (have kq := hkb; unfold KLb at kq; omega) | (have kq := hk7; unfold KLb at kq; omega)]
                          · rw [zVa_0 h9, show (q - k).toNat = 0 by omega]
                            rfl
                        have hdn2 : zRo f (dn ++ [(k.toNat, zSt f N k.toNat)]) (I_254 57) (I_254 58) (I_254 59) := by
                          rw [eI_254, up2_off _ _ _ (by decide), up2_off _ _ _ (by decide), up2_off _ _ _ (by decide), hr57, hr58, hr59, w57, w59]
                          exact zRo_ad hdn rfl hva (by omega)
                        refine ww_iload hX (pc := 257) dX11_splits_257 rfl ?_
                        refine ww_istore_n hX (pc := 259) (lv' := [some (kR (some 49)), some (kI a), some (kI u9), some (kI v_18), some (kI u9), some (kI q)]) dX11_splits_259 (by decide) rfl rfl ?_
                        refine ww_goto hX (pc := 260) (tgt := 7) dX11_splits_260 (by decide) ?_
                        refine ww_sub [some (kR (some 49)), some (kI a), some (kI u9), none, none, none] (aLe_s (aLe_s (aLe_s (aLe_n (aLe_n (aLe_n aLe_0)))))) ?_
                        exact ih_7 _ (by have hm9 := Sh0_e hq_7; omega) u9 I_254 J169 rfl ⟨kI_254, cI_254, kJ169, ⟨by omega, by omega⟩, ⟨by omega, by omega⟩, g57c, g59c, dn ++ [(k.toNat, zSt f N k.toNat)], (by rw [ht9, zTk_t (by omega) (by omega), List.append_assoc, List.singleton_append, hst9]), (by rw [List.length_append, List.length_singleton]; omega), hdn2⟩
                      · simp only [w32_mod] at h_180
                        have k_177 := h_177.2.mp (by omega)
                        clear h_177
                        have hq2 := zSt_all (f := f) (n := N) (k := k.toNat) (q := q.toNat) (by omega) (by omega)
                        have hb7 := hf q.toNat (by omega)
                        rw [← (kI169.1 55 (by decide) (by decide) : I169 55 = Ia 55)] at hb7
                        have hk7 := zKl_B hb7
                        have hzr := zNu_r (f := f) (a := k.toNat) (q - k).toNat (fun i hi => zKl_2.mp ((zSt_all (n := N) (k := k.toNat) (by omega) (by omega)).trans (hkb.2.mpr (by omega))))
                        refine ww_aload_n hX (pc := 183) dX11_splits_183 rfl ?_
                        refine ww_getR hX (pc := 184) fX11_46 (by decide) (xs_49 hL) (xr_49_13 hL) dX11_splits_184 ?_
                        refine ww_aload_n hX (pc := 187) dX11_splits_187 rfl ?_
                        refine ww_getI hX (pc := 188) fX11_142 (by decide) (xs_49 hL) dX11_splits_188 ?_
                        refine ww_aload_n hX (pc := 191) dX11_splits_191 rfl ?_
                        refine ww_getR hX (pc := 192) fX11_46 (by decide) (xs_49 hL) (xr_49_13 hL) dX11_splits_192 ?_
                        refine ww_aload_n hX (pc := 195) dX11_splits_195 rfl ?_
                        refine ww_getI hX (pc := 196) fX11_142 (by decide) (xs_49 hL) dX11_splits_196 ?_
                        refine ww_iald hX (pc := 199) (xs_58 hL) (by decide) (by omega) (by omega) dX11_splits_199 ?_
                        refine ww_ldc hX (pc := 200) (x := 1000000) dX11_splits_200 tb_1327 ?_
                        refine ww_icmp_le hX (pc := 202) (tgt := 217) dX11_splits_202 (by decide) (fun h_202 => ?_) (fun h_202 => ?_)
                        · simp only [w32_mod] at h_202
                          refine ww_bipush hX (pc := 217) (x := 10) dX11_splits_217 (by decide) ?_
                          refine ww_aload_n hX (pc := 219) dX11_splits_219 rfl ?_
                          refine ww_getR hX (pc := 220) fX11_46 (by decide) (xs_49 hL) (xr_49_13 hL) dX11_splits_220 ?_
                          refine ww_aload_n hX (pc := 223) dX11_splits_223 rfl ?_
                          refine ww_getI hX (pc := 224) fX11_142 (by decide) (xs_49 hL) dX11_splits_224 ?_
                          refine ww_iald hX (pc := 227) (xs_58 hL) (by decide) (by omega) (by omega) dX11_splits_227 ?_
                          refine ww_imul hX (pc := 228) dX11_splits_228 ?_
                          refine ww_aload_n hX (pc := 229) dX11_splits_229 rfl ?_
                          refine ww_getR hX (pc := 230) fX11_34 (by decide) (xs_49 hL) (xr_49_8 hL) dX11_splits_230 ?_
                          refine ww_iload hX (pc := 233) dX11_splits_233 rfl ?_
                          refine ww_bald hX (pc := 235) (xs_55 hL) (by decide) (by omega) (by omega) dX11_splits_235 ?_
                          refine ww_iadd hX (pc := 236) dX11_splits_236 ?_
                          refine ww_bipush hX (pc := 237) (x := 48) dX11_splits_237 (by decide) ?_
                          refine ww_isub hX (pc := 239) dX11_splits_239 ?_
                          refine ww_iast hX (pc := 240) (xs_58 hL) (by decide) (by omega) (by omega) dX11_splits_240 ?_
                          refine ww_nmH (fun I_240 eI_240 => ?_)
                          have kI_240 : Ch [57, 58, 59] [15] Ia I_240 := by rw [eI_240]; exact Ch_r kI169 (by decide) (by decide)
                          have cI_240 : RX I_240 := by rw [eI_240]; exact RX_r cI169 (by decide)
                          have qI_240 := RX_w cI_240
                          have f15_I_240 : I_240 49 15 = I169 49 15 := by rw [eI_240, up2_off _ _ _ (by decide)]
                          have y58b : I_240 58 = up1 (I7 58) dn.length (zNu f k.toNat (q + 1 - k).toNat) := by
                            rw [eI_240, up2_row]
                            refine (congrArg (fun F => up1 F _ _) hr58).trans ?_
                            rw [show (I169 49 15).toNat = dn.length by omega, up1_up1]
                            refine congrArg (up1 (I7 58) dn.length) ?_
                            rw [show (q + 1 - k).toNat = (q - k).toNat + 1 by omega]
                            exact (by rw [zNu_f (by omega), show k.toNat + (q - k).toNat = q.toNat by omega]; have kq := hkb; have kr := hk7; unfold KLb at kq kr; omega)
                          refine ww_iinc hX (pc := 241) (lv' := [some (kR (some 49)), some (kI a), some (kI k), some (kI v_18), some (kI u9), some (kI (q + 1))]) dX11_splits_241 rfl (by decide) rfl rfl ?_
                          refine ww_goto hX (pc := 244) (tgt := 169) dX11_splits_244 (by decide) ?_
                          exact ih_169 _ (by have hm9 := Sh0_e hq_169; omega) (q + 1) I_240 J169 rfl ⟨kI_240, cI_240, kJ169, by omega, ⟨by omega, by omega⟩, by rw [eI_240, up2_off _ _ _ (by decide)]; exact hr57, by rw [eI_240, up2_off _ _ _ (by decide)]; exact hr59, y58b, Or.inl (hkb.2.mpr (by omega))⟩
                        · simp only [w32_mod] at h_202
                          refine ww_aload_n hX (pc := 205) dX11_splits_205 rfl ?_
                          refine ww_getR hX (pc := 206) fX11_46 (by decide) (xs_49 hL) (xr_49_13 hL) dX11_splits_206 ?_
                          refine ww_aload_n hX (pc := 209) dX11_splits_209 rfl ?_
                          refine ww_getI hX (pc := 210) fX11_142 (by decide) (xs_49 hL) dX11_splits_210 ?_
                          refine ww_iald hX (pc := 213) (xs_58 hL) (by decide) (by omega) (by omega) dX11_splits_213 ?_
                          refine ww_goto hX (pc := 214) (tgt := 240) dX11_splits_214 (by decide) ?_
                          refine ww_iast hX (pc := 240) (xs_58 hL) (by decide) (by omega) (by omega) dX11_splits_240 ?_
                          refine ww_nmH (fun I_240 eI_240 => ?_)
                          have kI_240 : Ch [57, 58, 59] [15] Ia I_240 := by rw [eI_240]; exact Ch_r kI169 (by decide) (by decide)
                          have cI_240 : RX I_240 := by rw [eI_240]; exact RX_r cI169 (by decide)
                          have qI_240 := RX_w cI_240
                          have f15_I_240 : I_240 49 15 = I169 49 15 := by rw [eI_240, up2_off _ _ _ (by decide)]
                          have y58b : I_240 58 = up1 (I7 58) dn.length (zNu f k.toNat (q + 1 - k).toNat) := by
                            rw [eI_240, up2_row]
                            refine (congrArg (fun F => up1 F _ _) hr58).trans ?_
                            rw [show (I169 49 15).toNat = dn.length by omega, up1_up1]
                            refine congrArg (up1 (I7 58) dn.length) ?_
                            rw [show (q + 1 - k).toNat = (q - k).toNat + 1 by omega]
                            exact (by rw [zNu_t (by omega)]; omega)
                          refine ww_iinc hX (pc := 241) (lv' := [some (kR (some 49)), some (kI a), some (kI k), some (kI v_18), some (kI u9), some (kI (q + 1))]) dX11_splits_241 rfl (by decide) rfl rfl ?_
                          refine ww_goto hX (pc := 244) (tgt := 169) dX11_splits_244 (by decide) ?_
                          exact ih_169 _ (by have hm9 := Sh0_e hq_169; omega) (q + 1) I_240 J169 rfl ⟨kI_240, cI_240, kJ169, by omega, ⟨by omega, by omega⟩, by rw [eI_240, up2_off _ _ _ (by decide)]; exact hr57, by rw [eI_240, up2_off _ _ _ (by decide)]; exact hr59, y58b, Or.inl (hkb.2.mpr (by omega))⟩
                exact hl_169 _ k I_165 J7 rfl ⟨kI_165, cI_165, kJ7, rfl, ⟨by omega, by omega⟩, rfl, rfl, (by rw [w58, show (k - k).toNat = 0 by omega]; rfl), Or.inr rfl⟩
            · simp only [w32_mod] at h_132
              have k_129 := h_129.2.mp (by omega)
              clear h_129
              refine ww_aload_n hX (pc := 135) dX11_splits_135 rfl ?_
              refine ww_iload_n hX (pc := 136) dX11_splits_136 rfl ?_
              refine ww_iload hX (pc := 137) dX11_splits_137 rfl ?_
              refine vI2 hX (pc := 139) sX11_151 (xs_49 hL) (c6_X11_wordOf l0 hL cI_119 (by omega) (by omega) (by omega) hwc hfc (by omega)) (by decide) (Nat.le_refl 0) (Nat.le_refl 0) (Nat.le_of_ble_eq_true rfl) dX11_splits_139 (fun x_139 I_139 J_139 h_139 => ?_)
              obtain ⟨rfl, rfl, h_139⟩ := h_139
              refine ww_goto hX (pc := 142) (tgt := 165) dX11_splits_142 (by decide) ?_
              refine ww_iast hX (pc := 165) (xs_57 hL) (by decide) (by omega) (by omega) dX11_splits_165 ?_
              refine ww_nmH (fun I_165 eI_165 => ?_)
              have kI_165 : Ch [57, 58, 59] [15] Ia I_165 := by rw [eI_165]; exact Ch_r kI_119 (by decide) (by decide)
              have cI_165 : RX I_165 := by rw [eI_165]; exact RX_r cI_119 (by decide)
              have qI_165 := RX_w cI_165
              have f15_I_165 : I_165 49 15 = I_119 49 15 := by rw [eI_165, up2_off _ _ _ (by decide)]
              have hwr := (zWc_r f k.toNat u9.toNat).1
              have g57 : RG (I_165 57) (I7 49 15 + 1) := by rw [eI_165, up2_row, show I_119 49 15 = I7 49 15 by omega, show I_119 57 = I7 57 by rw [eI_119, up2_off _ _ _ (by decide), eI_109, up2_off _ _ _ (by decide)]]; exact RG_up hg57 (by omega) (by omega) (by omega)
              have g59b : RG (I_165 59) (I7 49 15 + 1) := by rw [eI_165, up2_off _ _ _ (by decide), eI_119, up2_off _ _ _ (by decide)]; exact g59
              have w57 : I_165 57 = up1 (I7 57) dn.length (zCo f k.toNat (zSt f N k.toNat)) := by
                rw [eI_165, up2_row, show (I_119 49 15).toNat = dn.length by omega, show I_119 57 = I7 57 by rw [eI_119, up2_off _ _ _ (by decide), eI_109, up2_off _ _ _ (by decide)]]
                exact congrArg (up1 (I7 57) dn.length) ((h_139.trans (by rw [hst9])).trans (zCo_1 (hkb.1.mpr (by omega))).symm)
              have w58 : I_165 58 = up1 (I7 58) dn.length 0 := by rw [eI_165, up2_off _ _ _ (by decide), eI_119, up2_row, show (I_109 49 15).toNat = dn.length by omega, eI_109, up2_off _ _ _ (by decide)]
              have w59 : I_165 59 = up1 (I7 59) dn.length k := by rw [eI_165, up2_off _ _ _ (by decide), eI_119, up2_off _ _ _ (by decide), eI_109, up2_row, show (I7 49 15).toNat = dn.length by omega]
              refine ww_iload_n hX (pc := 166) dX11_splits_166 rfl ?_
              refine ww_istore hX (pc := 167) (lv' := [some (kR (some 49)), some (kI a), some (kI k), some (kI v_18), some (kI u9), some (kI k)]) dX11_splits_167 (by decide) rfl rfl ?_
              have hl_169 : ∀ (n_169 : Nat) (q : Int) (I169 : aI1) (J169 : aI1), (400 - q).toNat = n_169 → (Ch [57, 58, 59] [15] Ia I169 ∧ RX I169 ∧ Kp 49 49 Ja J169 ∧ I169 49 15 = I_165 49 15 ∧ ((k ≤ q ∧ q ≤ u9) ∧ I169 57 = I_165 57 ∧ I169 59 = I_165 59 ∧ I169 58 = up1 (I7 58) dn.length (zNu f k.toNat (q - k).toNat) ∧ (zKl (f k.toNat) = 2 ∨ q = k))) → WW X 169 [some (kR (some 49)), some (kI a), some (kI k), some (kI v_18), some (kI u9), some (kI q)] [] I169 J169 Ra Sa 0 0 := by
                intro n_169
                induction n_169 using Nat.strongRecOn with
                | ind n_169 ih_169 =>
                  intro q I169 J169 hm_169 hv_169
                  have hq_169 := Sh0_i hm_169
                  clear hm_169
                  obtain ⟨kI169, cI169, kJ169, f15_I169, hq, hr57, hr59, hr58, hqd⟩ := hv_169
                  have qI169 := RX_w cI169
                  have hval : I169 58 dn.length = zNu f k.toNat (q - k).toNat := by rw [hr58, up1_s]
                  have hval2 : I169 58 (I169 49 15).toNat = zNu f k.toNat (q - k).toNat := by rw [show (I169 49 15).toNat = dn.length by omega]; exact hval
                  refine ww_iload hX (pc := 169) dX11_splits_169 rfl ?_
                  refine ww_iload hX (pc := 171) dX11_splits_171 rfl ?_
                  refine ww_icmp_ge hX (pc := 173) (tgt := 247) dX11_splits_173 (by decide) (fun h_173 => ?_) (fun h_173 => ?_)
                  · simp only [w32_mod] at h_173
                    refine ww_aload_n hX (pc := 247) dX11_splits_247 rfl ?_
                    refine ww_dupR hX (pc := 248) dX11_splits_248 ?_
                    refine ww_getI hX (pc := 249) fX11_142 (by decide) (xs_49 hL) dX11_splits_249 ?_
                    refine ww_iconst hX (pc := 252) (x := 1) dX11_splits_252 rfl ?_
                    refine ww_iadd hX (pc := 253) dX11_splits_253 ?_
                    refine ww_putI hX (pc := 254) (fun h9 => absurd h9 (by decide)) gX11_142 rfl (xs_49 hL) dX11_splits_254 ?_
                    refine ww_nmH (fun I_254 eI_254 => ?_)
                    have kI_254 : Ch [57, 58, 59] [15] Ia I_254 := by rw [eI_254]; exact Ch_f kI169 (by decide)
                    have cI_254 : RX I_254 := by rw [eI_254]; exact RX_f cI169 (by decide)
                    have qI_254 := RX_w cI_254
                    have w15 : I_254 49 15 = I7 49 15 + 1 := by
                      have h9 : I_254 49 15 = I169 49 15 + 1 := by rw [eI_254, up2_s]
                      omega
                    have g57c : RG (I_254 57) (I_254 49 15) := by rw [w15, eI_254, up2_off _ _ _ (by decide), hr57]; exact g57
                    have g59c : RG (I_254 59) (I_254 49 15) := by rw [w15, eI_254, up2_off _ _ _ (by decide), hr59]; exact g59b
                    have hva : zNu f k.toNat (q - k).toNat = zVa f k.toNat (zSt f N k.toNat) := by
                      by_cases h9 : zKl (f k.toNat) = 2
                      · rw [zVa_2 h9, show (q - k).toNat = zSt f N k.toNat - k.toNat by first | omega | (have kq := hkb; unfold KLb at kq; omega) | (have kq := hk7; unfold KLb at kq; omega)]
                      · rw [zVa_0 h9, show (q - k).toNat = 0 by omega]
                        rfl
                    have hdn2 : zRo f (dn ++ [(k.toNat, zSt f N k.toNat)]) (I_254 57) (I_254 58) (I_254 59) := by
                      rw [eI_254, up2_off _ _ _ (by decide), up2_off _ _ _ (by decide), up2_off _ _ _ (by decide), hr57, hr58, hr59, w57, w59]
                      exact zRo_ad hdn rfl hva (by omega)
                    refine ww_iload hX (pc := 257) dX11_splits_257 rfl ?_
                    refine ww_istore_n hX (pc := 259) (lv' := [some (kR (some 49)), some (kI a), some (kI u9), some (kI v_18), some (kI u9), some (kI q)]) dX11_splits_259 (by decide) rfl rfl ?_
                    refine ww_goto hX (pc := 260) (tgt := 7) dX11_splits_260 (by decide) ?_
                    refine ww_sub [some (kR (some 49)), some (kI a), some (kI u9), none, none, none] (aLe_s (aLe_s (aLe_s (aLe_n (aLe_n (aLe_n aLe_0)))))) ?_
                    exact ih_7 _ (by have hm9 := Sh0_e hq_7; omega) u9 I_254 J169 rfl ⟨kI_254, cI_254, kJ169, ⟨by omega, by omega⟩, ⟨by omega, by omega⟩, g57c, g59c, dn ++ [(k.toNat, zSt f N k.toNat)], (by rw [ht9, zTk_t (by omega) (by omega), List.append_assoc, List.singleton_append, hst9]), (by rw [List.length_append, List.length_singleton]; omega), hdn2⟩
                  · simp only [w32_mod] at h_173
                    refine ww_iload_n hX (pc := 176) dX11_splits_176 rfl ?_
                    refine sI1 hX (pc := 177) sX11_148 (c_X11_isDigit l0 (by omega) (by omega)) (by decide) (Nat.le_refl 0) (Nat.le_refl 0) (Nat.le_of_ble_eq_true rfl) dX11_splits_177 (fun x_177 I_177 J_177 h_177 => ?_)
                    obtain ⟨rfl, rfl, h_177⟩ := h_177
                    refine ww_if_eq hX (pc := 180) (tgt := 247) dX11_splits_180 (by decide) (fun h_180 => ?_) (fun h_180 => ?_)
                    · simp only [w32_mod] at h_180
                      refine ww_aload_n hX (pc := 247) dX11_splits_247 rfl ?_
                      refine ww_dupR hX (pc := 248) dX11_splits_248 ?_
                      refine ww_getI hX (pc := 249) fX11_142 (by decide) (xs_49 hL) dX11_splits_249 ?_
                      refine ww_iconst hX (pc := 252) (x := 1) dX11_splits_252 rfl ?_
                      refine ww_iadd hX (pc := 253) dX11_splits_253 ?_
                      refine ww_putI hX (pc := 254) (fun h9 => absurd h9 (by decide)) gX11_142 rfl (xs_49 hL) dX11_splits_254 ?_
                      refine ww_nmH (fun I_254 eI_254 => ?_)
                      have kI_254 : Ch [57, 58, 59] [15] Ia I_254 := by rw [eI_254]; exact Ch_f kI169 (by decide)
                      have cI_254 : RX I_254 := by rw [eI_254]; exact RX_f cI169 (by decide)
                      have qI_254 := RX_w cI_254
                      have w15 : I_254 49 15 = I7 49 15 + 1 := by
                        have h9 : I_254 49 15 = I169 49 15 + 1 := by rw [eI_254, up2_s]
                        omega
                      have g57c : RG (I_254 57) (I_254 49 15) := by rw [w15, eI_254, up2_off _ _ _ (by decide), hr57]; exact g57
                      have g59c : RG (I_254 59) (I_254 49 15) := by rw [w15, eI_254, up2_off _ _ _ (by decide), hr59]; exact g59b
                      have hva : zNu f k.toNat (q - k).toNat = zVa f k.toNat (zSt f N k.toNat) := by
                        by_cases h9 : zKl (f k.toNat) = 2
                        · rw [zVa_2 h9, show (q - k).toNat = zSt f N k.toNat - k.toNat by first | omega | (have kq := hkb; unfold KLb at kq; omega) | (have kq := hk7; unfold KLb at kq; omega)]
                        · rw [zVa_0 h9, show (q - k).toNat = 0 by omega]
                          rfl
                      have hdn2 : zRo f (dn ++ [(k.toNat, zSt f N k.toNat)]) (I_254 57) (I_254 58) (I_254 59) := by
                        rw [eI_254, up2_off _ _ _ (by decide), up2_off _ _ _ (by decide), up2_off _ _ _ (by decide), hr57, hr58, hr59, w57, w59]
                        exact zRo_ad hdn rfl hva (by omega)
                      refine ww_iload hX (pc := 257) dX11_splits_257 rfl ?_
                      refine ww_istore_n hX (pc := 259) (lv' := [some (kR (some 49)), some (kI a), some (kI u9), some (kI v_18), some (kI u9), some (kI q)]) dX11_splits_259 (by decide) rfl rfl ?_
                      refine ww_goto hX (pc := 260) (tgt := 7) dX11_splits_260 (by decide) ?_
                      refine ww_sub [some (kR (some 49)), some (kI a), some (kI u9), none, none, none] (aLe_s (aLe_s (aLe_s (aLe_n (aLe_n (aLe_n aLe_0)))))) ?_
                      exact ih_7 _ (by have hm9 := Sh0_e hq_7; omega) u9 I_254 J169 rfl ⟨kI_254, cI_254, kJ169, ⟨by omega, by omega⟩, ⟨by omega, by omega⟩, g57c, g59c, dn ++ [(k.toNat, zSt f N k.toNat)], (by rw [ht9, zTk_t (by omega) (by omega), List.append_assoc, List.singleton_append, hst9]), (by rw [List.length_append, List.length_singleton]; omega), hdn2⟩
                    · simp only [w32_mod] at h_180
                      have k_177 := h_177.2.mp (by omega)
                      clear h_177
                      have hq2 := zSt_all (f := f) (n := N) (k := k.toNat) (q := q.toNat) (by omega) (by omega)
                      have hb7 := hf q.toNat (by omega)
                      rw [← (kI169.1 55 (by decide) (by decide) : I169 55 = Ia 55)] at hb7
                      have hk7 := zKl_B hb7
                      have hzr := zNu_r (f := f) (a := k.toNat) (q - k).toNat (fun i hi => zKl_2.mp ((zSt_all (n := N) (k := k.toNat) (by omega) (by omega)).trans (hkb.2.mpr (by omega))))
                      refine ww_aload_n hX (pc := 183) dX11_splits_183 rfl ?_
                      refine ww_getR hX (pc := 184) fX11_46 (by decide) (xs_49 hL) (xr_49_13 hL) dX11_splits_184 ?_
                      refine ww_aload_n hX (pc := 187) dX11_splits_187 rfl ?_
                      refine ww_getI hX (pc := 188) fX11_142 (by decide) (xs_49 hL) dX11_splits_188 ?_
                      refine ww_aload_n hX (pc := 191) dX11_splits_191 rfl ?_
                      refine ww_getR hX (pc := 192) fX11_46 (by decide) (xs_49 hL) (xr_49_13 hL) dX11_splits_192 ?_
                      refine ww_aload_n hX (pc := 195) dX11_splits_195 rfl ?_
                      refine ww_getI hX (pc := 196) fX11_142 (by decide) (xs_49 hL) dX11_splits_196 ?_
                      refine ww_iald hX (pc := 199) (xs_58 hL) (by decide) (by omega) (by omega) dX11_splits_199 ?_
                      refine ww_ldc hX (pc := 200) (x := 1000000) dX11_splits_200 tb_1327 ?_
                      refine ww_icmp_le hX (pc := 202) (tgt := 217) dX11_splits_202 (by decide) (fun h_202 => ?_) (fun h_202 => ?_)
                      · simp only [w32_mod] at h_202
                        refine ww_bipush hX (pc := 217) (x := 10) dX11_splits_217 (by decide) ?_
                        refine ww_aload_n hX (pc := 219) dX11_splits_219 rfl ?_
                        refine ww_getR hX (pc := 220) fX11_46 (by decide) (xs_49 hL) (xr_49_13 hL) dX11_splits_220 ?_
                        refine ww_aload_n hX (pc := 223) dX11_splits_223 rfl ?_
                        refine ww_getI hX (pc := 224) fX11_142 (by decide) (xs_49 hL) dX11_splits_224 ?_
                        refine ww_iald hX (pc := 227) (xs_58 hL) (by decide) (by omega) (by omega) dX11_splits_227 ?_
                        refine ww_imul hX (pc := 228) dX11_splits_228 ?_
                        refine ww_aload_n hX (pc := 229) dX11_splits_229 rfl ?_
                        refine ww_getR hX (pc := 230) fX11_34 (by decide) (xs_49 hL) (xr_49_8 hL) dX11_splits_230 ?_
                        refine ww_iload hX (pc := 233) dX11_splits_233 rfl ?_
                        refine ww_bald hX (pc := 235) (xs_55 hL) (by decide) (by omega) (by omega) dX11_splits_235 ?_
                        refine ww_iadd hX (pc := 236) dX11_splits_236 ?_
                        refine ww_bipush hX (pc := 237) (x := 48) dX11_splits_237 (by decide) ?_
                        refine ww_isub hX (pc := 239) dX11_splits_239 ?_
                        refine ww_iast hX (pc := 240) (xs_58 hL) (by decide) (by omega) (by omega) dX11_splits_240 ?_
                        refine ww_nmH (fun I_240 eI_240 => ?_)
                        have kI_240 : Ch [57, 58, 59] [15] Ia I_240 := by rw [eI_240]; exact Ch_r kI169 (by decide) (by decide)
                        have cI_240 : RX I_240 := by rw [eI_240]; exact RX_r cI169 (by decide)
                        have qI_240 := RX_w cI_240
                        have f15_I_240 : I_240 49 15 = I169 49 15 := by rw [eI_240, up2_off _ _ _ (by decide)]
                        have y58b : I_240 58 = up1 (I7 58) dn.length (zNu f k.toNat (q + 1 - k).toNat) := by
                          rw [eI_240, up2_row]
                          refine (congrArg (fun F => up1 F _ _) hr58).trans ?_
                          rw [show (I169 49 15).toNat = dn.length by omega, up1_up1]
                          refine congrArg (up1 (I7 58) dn.length) ?_
                          rw [show (q + 1 - k).toNat = (q - k).toNat + 1 by omega]
                          exact (by rw [zNu_f (by omega), show k.toNat + (q - k).toNat = q.toNat by omega]; have kq := hkb; have kr := hk7; unfold KLb at kq kr; omega)
                        refine ww_iinc hX (pc := 241) (lv' := [some (kR (some 49)), some (kI a), some (kI k), some (kI v_18), some (kI u9), some (kI (q + 1))]) dX11_splits_241 rfl (by decide) rfl rfl ?_
                        refine ww_goto hX (pc := 244) (tgt := 169) dX11_splits_244 (by decide) ?_
                        exact ih_169 _ (by have hm9 := Sh0_e hq_169; omega) (q + 1) I_240 J169 rfl ⟨kI_240, cI_240, kJ169, by omega, ⟨by omega, by omega⟩, by rw [eI_240, up2_off _ _ _ (by decide)]; exact hr57, by rw [eI_240, up2_off _ _ _ (by decide)]; exact hr59, y58b, Or.inl (hkb.2.mpr (by omega))⟩
                      · simp only [w32_mod] at h_202
                        refine ww_aload_n hX (pc := 205) dX11_splits_205 rfl ?_
                        refine ww_getR hX (pc := 206) fX11_46 (by decide) (xs_49 hL) (xr_49_13 hL) dX11_splits_206 ?_
                        refine ww_aload_n hX (pc := 209) dX11_splits_209 rfl ?_
                        refine ww_getI hX (pc := 210) fX11_142 (by decide) (xs_49 hL) dX11_splits_210 ?_
                        refine ww_iald hX (pc := 213) (xs_58 hL) (by decide) (by omega) (by omega) dX11_splits_213 ?_
                        refine ww_goto hX (pc := 214) (tgt := 240) dX11_splits_214 (by decide) ?_
                        refine ww_iast hX (pc := 240) (xs_58 hL) (by decide) (by omega) (by omega) dX11_splits_240 ?_
                        refine ww_nmH (fun I_240 eI_240 => ?_)
                        have kI_240 : Ch [57, 58, 59] [15] Ia I_240 := by rw [eI_240]; exact Ch_r kI169 (by decide) (by decide)
                        have cI_240 : RX I_240 := by rw [eI_240]; exact RX_r cI169 (by decide)
                        have qI_240 := RX_w cI_240
                        have f15_I_240 : I_240 49 15 = I169 49 15 := by rw [eI_240, up2_off _ _ _ (by decide)]
                        have y58b : I_240 58 = up1 (I7 58) dn.length (zNu f k.toNat (q + 1 - k).toNat) := by
                          rw [eI_240, up2_row]
                          refine (congrArg (fun F => up1 F _ _) hr58).trans ?_
                          rw [show (I169 49 15).toNat = dn.length by omega, up1_up1]
                          refine congrArg (up1 (I7 58) dn.length) ?_
                          rw [show (q + 1 - k).toNat = (q - k).toNat + 1 by omega]
                          exact (by rw [zNu_t (by omega)]; omega)
                        refine ww_iinc hX (pc := 241) (lv' := [some (kR (some 49)), some (kI a), some (kI k), some (kI v_18), some (kI u9), some (kI (q + 1))]) dX11_splits_241 rfl (by decide) rfl rfl ?_
                        refine ww_goto hX (pc := 244) (tgt := 169) dX11_splits_244 (by decide) ?_
                        exact ih_169 _ (by have hm9 := Sh0_e hq_169; omega) (q + 1) I_240 J169 rfl ⟨kI_240, cI_240, kJ169, by omega, ⟨by omega, by omega⟩, by rw [eI_240, up2_off _ _ _ (by decide)]; exact hr57, by rw [eI_240, up2_off _ _ _ (by decide)]; exact hr59, y58b, Or.inl (hkb.2.mpr (by omega))⟩
              exact hl_169 _ k I_165 J7 rfl ⟨kI_165, cI_165, kJ7, rfl, ⟨by omega, by omega⟩, rfl, rfl, (by rw [w58, show (k - k).toNat = 0 by omega]; rfl), Or.inr rfl⟩
          refine ww_iload_n hX (pc := 36) dX11_splits_36 rfl ?_
          refine sI1 hX (pc := 37) sX11_145 (c_X11_isSmall l0 (by omega) (by omega)) (by decide) (Nat.le_refl 0) (Nat.le_refl 0) (Nat.le_of_ble_eq_true rfl) dX11_splits_37 (fun x_37 I_37 J_37 h_37 => ?_)
          obtain ⟨rfl, rfl, h_37⟩ := h_37
          refine ww_if_eq hX (pc := 40) (tgt := 68) dX11_splits_40 (by decide) (fun h_40 => ?_) (fun h_40 => ?_)
          · simp only [w32_mod] at h_40
            refine ww_iload_n hX (pc := 68) dX11_splits_68 rfl ?_
            refine sI1 hX (pc := 69) sX11_148 (c_X11_isDigit l0 (by omega) (by omega)) (by decide) (Nat.le_refl 0) (Nat.le_refl 0) (Nat.le_of_ble_eq_true rfl) dX11_splits_69 (fun x_69 I_69 J_69 h_69 => ?_)
            obtain ⟨rfl, rfl, h_69⟩ := h_69
            refine ww_if_eq hX (pc := 72) (tgt := 100) dX11_splits_72 (by decide) (fun h_72 => ?_) (fun h_72 => ?_)
            · simp only [w32_mod] at h_72
              have hst9 : v_34.toNat = zSt f N k.toNat := by rw [show v_34.toNat = k.toNat + 1 by omega]; exact zSW_e zSW_0 (fun h9 => by have k2 := h9.2; have k3 := zKl_r (f k.toNat); have kq := hkb; unfold KLb at kq; omega)
              exact hj_100 v_34 ⟨by omega, by omega, hst9⟩
            · simp only [w32_mod] at h_72
              have k_69 := h_69.2.mp (by omega)
              clear h_69
              have hl_75 : ∀ (n_75 : Nat) (u : Int), (a - u).toNat = n_75 → (((k + 1 ≤ u ∧ u ≤ a) ∧ zSW f N k.toNat u.toNat)) → WW X 75 [some (kR (some 49)), some (kI a), some (kI k), some (kI v_18), some (kI u), none] [] I7 J7 Ra Sa 0 0 := by
                intro n_75
                induction n_75 using Nat.strongRecOn with
                | ind n_75 ih_75 =>
                  intro u hm_75 hv_75
                  have hq_75 := Sh0_i hm_75
                  clear hm_75
                  obtain ⟨hu, hsw⟩ := hv_75
                  refine ww_iload hX (pc := 75) dX11_splits_75 rfl ?_
                  refine ww_iload_n hX (pc := 77) dX11_splits_77 rfl ?_
                  refine ww_icmp_ge hX (pc := 78) (tgt := 100) dX11_splits_78 (by decide) (fun h_78 => ?_) (fun h_78 => ?_)
                  · simp only [w32_mod] at h_78
                    have hst9 : u.toNat = zSt f N k.toNat := zSW_e hsw (fun h9 => absurd h9.1.1 (by omega))
                    exact hj_100 u ⟨by omega, by omega, hst9⟩
                  · simp only [w32_mod] at h_78
                    refine ww_aload_n hX (pc := 81) dX11_splits_81 rfl ?_
                    refine ww_getR hX (pc := 82) fX11_34 (by decide) (xs_49 hL) (xr_49_8 hL) dX11_splits_82 ?_
                    refine ww_iload hX (pc := 85) dX11_splits_85 rfl ?_
                    refine ww_bald hX (pc := 87) (xs_55 hL) (by decide) (by omega) (by omega) dX11_splits_87 ?_
                    have hb8 := hf u.toNat (by omega)
                    rw [← y55] at hb8
                    refine sI1 hX (pc := 88) sX11_148 (c_X11_isDigit l0 (by omega) (by omega)) (by decide) (Nat.le_refl 0) (Nat.le_refl 0) (Nat.le_of_ble_eq_true rfl) dX11_splits_88 (fun x_88 I_88 J_88 h_88 => ?_)
                    obtain ⟨rfl, rfl, h_88⟩ := h_88
                    refine ww_if_eq hX (pc := 91) (tgt := 100) dX11_splits_91 (by decide) (fun h_91 => ?_) (fun h_91 => ?_)
                    · simp only [w32_mod] at h_91
                      have hst9 : u.toNat = zSt f N k.toNat := zSW_e hsw (fun h9 => by have k1 := zKl_b hb8; have k2 := h9.1.2; have kq := hkb; unfold KLb at kq; omega)
                      exact hj_100 u ⟨by omega, by omega, hst9⟩
                    · simp only [w32_mod] at h_91
                      have k_88 := h_88.2.mp (by omega)
                      clear h_88
                      refine ww_iinc hX (pc := 94) (lv' := [some (kR (some 49)), some (kI a), some (kI k), some (kI v_18), some (kI (u + 1)), none]) dX11_splits_94 rfl (by decide) rfl rfl ?_
                      refine ww_goto hX (pc := 97) (tgt := 75) dX11_splits_97 (by decide) ?_
                      exact ih_75 _ (by have hm9 := Sh0_e hq_75; omega) (u + 1) rfl ⟨by omega, by rw [show (u + 1).toNat = u.toNat + 1 by omega]; exact zSW_s hsw (by omega) (by have k1 := zKl_b hb8; have kq := hkb; unfold KLb at kq; omega) (by have kq := hkb; unfold KLb at kq; omega)⟩
              exact hl_75 _ v_34 rfl ⟨by omega, by rw [show v_34.toNat = k.toNat + 1 by omega]; exact zSW_0⟩
          · simp only [w32_mod] at h_40
            have k_37 := h_37.2.mp (by omega)
            clear h_37
            have hl_43 : ∀ (n_43 : Nat) (u : Int), (a - u).toNat = n_43 → (((k + 1 ≤ u ∧ u ≤ a) ∧ zSW f N k.toNat u.toNat)) → WW X 43 [some (kR (some 49)), some (kI a), some (kI k), some (kI v_18), some (kI u), none] [] I7 J7 Ra Sa 0 0 := by
              intro n_43
              induction n_43 using Nat.strongRecOn with
              | ind n_43 ih_43 =>
                intro u hm_43 hv_43
                have hq_43 := Sh0_i hm_43
                clear hm_43
                obtain ⟨hu, hsw⟩ := hv_43
                refine ww_iload hX (pc := 43) dX11_splits_43 rfl ?_
                refine ww_iload_n hX (pc := 45) dX11_splits_45 rfl ?_
                refine ww_icmp_ge hX (pc := 46) (tgt := 68) dX11_splits_46 (by decide) (fun h_46 => ?_) (fun h_46 => ?_)
                · simp only [w32_mod] at h_46
                  have hst9 : u.toNat = zSt f N k.toNat := zSW_e hsw (fun h9 => absurd h9.1.1 (by omega))
                  refine ww_iload_n hX (pc := 68) dX11_splits_68 rfl ?_
                  refine sI1 hX (pc := 69) sX11_148 (c_X11_isDigit l0 (by omega) (by omega)) (by decide) (Nat.le_refl 0) (Nat.le_refl 0) (Nat.le_of_ble_eq_true rfl) dX11_splits_69 (fun x_69 I_69 J_69 h_69 => ?_)
                  obtain ⟨rfl, rfl, h_69⟩ := h_69
                  refine ww_if_eq hX (pc := 72) (tgt := 100) dX11_splits_72 (by decide) (fun h_72 => ?_) (fun h_72 => ?_)
                  · simp only [w32_mod] at h_72
                    exact hj_100 u ⟨by omega, by omega, hst9⟩
                  · simp only [w32_mod] at h_72
                    have k_69 := h_69.2.mp (by omega)
                    clear h_69
                    exfalso
                    omega
                · simp only [w32_mod] at h_46
                  refine ww_aload_n hX (pc := 49) dX11_splits_49 rfl ?_
                  refine ww_getR hX (pc := 50) fX11_34 (by decide) (xs_49 hL) (xr_49_8 hL) dX11_splits_50 ?_
                  refine ww_iload hX (pc := 53) dX11_splits_53 rfl ?_
                  refine ww_bald hX (pc := 55) (xs_55 hL) (by decide) (by omega) (by omega) dX11_splits_55 ?_
                  have hb8 := hf u.toNat (by omega)
                  rw [← y55] at hb8
                  refine sI1 hX (pc := 56) sX11_145 (c_X11_isSmall l0 (by omega) (by omega)) (by decide) (Nat.le_refl 0) (Nat.le_refl 0) (Nat.le_of_ble_eq_true rfl) dX11_splits_56 (fun x_56 I_56 J_56 h_56 => ?_)
                  obtain ⟨rfl, rfl, h_56⟩ := h_56
                  refine ww_if_eq hX (pc := 59) (tgt := 68) dX11_splits_59 (by decide) (fun h_59 => ?_) (fun h_59 => ?_)
                  · simp only [w32_mod] at h_59
                    have hst9 : u.toNat = zSt f N k.toNat := zSW_e hsw (fun h9 => by have k1 := zKl_b hb8; have k2 := h9.1.2; have kq := hkb; unfold KLb at kq; omega)
                    refine ww_iload_n hX (pc := 68) dX11_splits_68 rfl ?_
                    refine sI1 hX (pc := 69) sX11_148 (c_X11_isDigit l0 (by omega) (by omega)) (by decide) (Nat.le_refl 0) (Nat.le_refl 0) (Nat.le_of_ble_eq_true rfl) dX11_splits_69 (fun x_69 I_69 J_69 h_69 => ?_)
                    obtain ⟨rfl, rfl, h_69⟩ := h_69
                    refine ww_if_eq hX (pc := 72) (tgt := 100) dX11_splits_72 (by decide) (fun h_72 => ?_) (fun h_72 => ?_)
                    · simp only [w32_mod] at h_72
                      exact hj_100 u ⟨by omega, by omega, hst9⟩
                    · simp only [w32_mod] at h_72
                      have k_69 := h_69.2.mp (by omega)
                      clear h_69
                      exfalso
                      omega
                  · simp only [w32_mod] at h_59
                    have k_56 := h_56.2.mp (by omega)
                    clear h_56
                    refine ww_iinc hX (pc := 62) (lv' := [some (kR (some 49)), some (kI a), some (kI k), some (kI v_18), some (kI (u + 1)), none]) dX11_splits_62 rfl (by decide) rfl rfl ?_
                    refine ww_goto hX (pc := 65) (tgt := 43) dX11_splits_65 (by decide) ?_
                    exact ih_43 _ (by have hm9 := Sh0_e hq_43; omega) (u + 1) rfl ⟨by omega, by rw [show (u + 1).toNat = u.toNat + 1 by omega]; exact zSW_s hsw (by omega) (by have k1 := zKl_b hb8; have kq := hkb; unfold KLb at kq; omega) (by have kq := hkb; unfold KLb at kq; omega)⟩
            exact hl_43 _ v_34 rfl ⟨by omega, by rw [show v_34.toNat = k.toNat + 1 by omega]; exact zSW_0⟩
        · simp only [w32_mod] at h_22
          refine ww_iinc hX (pc := 25) (lv' := [some (kR (some 49)), some (kI a), some (kI (k + 1)), some (kI v_18), none, none]) dX11_splits_25 rfl (by decide) rfl rfl ?_
          refine ww_goto hX (pc := 28) (tgt := 7) dX11_splits_28 (by decide) ?_
          refine ww_sub [some (kR (some 49)), some (kI a), some (kI (k + 1)), none, none, none] (aLe_s (aLe_s (aLe_s (aLe_n (aLe_n (aLe_n aLe_0)))))) ?_
          exact ih_7 _ (by have hm9 := Sh0_e hq_7; omega) (k + 1) I7 J7 rfl ⟨kI7, cI7, kJ7, ⟨by omega, by omega⟩, ⟨by omega, by omega⟩, hg57, hg59, dn, (by rw [ht9, zTk_b (by omega) (by omega), show (k + 1).toNat = k.toNat + 1 by omega]), hd15, hdn⟩
  exact hl_7 _ 0 I_2 Ja rfl ⟨kI_2, cI_2, (Kp_rf (a := 49) (b := 49)), ⟨by omega, by omega⟩, ⟨by omega, by omega⟩, fun j hj => by omega, fun j hj => by omega, [], rfl, by omega, zRo_0⟩
