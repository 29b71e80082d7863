section
/-- row 51 emptied -/
def EMr (F : Nat → Int) (j : Nat) : Int := if j < 256 then -1 else if j = 307 ∨ j = 308 ∨ j = 309 then 0 else F j
theorem EMr_o {F : Nat → Int} {j : Nat} (h : 256 ≤ j) (h1 : ¬ (j = 307 ∨ j = 308 ∨ j = 309)) : EMr F j = F j := by
  unfold EMr
  rw [if_neg (by omega), if_neg h1]
theorem EMr_c {F : Nat → Int} {j : Nat} (h : j < 256) : EMr F j = -1 := if_pos h
theorem EMr_z {F : Nat → Int} {j : Nat} (h1 : j = 307 ∨ j = 308 ∨ j = 309) : EMr F j = 0 := by
  unfold EMr
  rw [if_neg (by omega), if_pos h1]
set_option maxHeartbeats 4000000 in
set_option maxRecDepth 20000 in
theorem c5_X11_empties (l0 : Launch) {Ia Ja : aI1} {Ra : aR1} {Sa : aS1} (hL : LY Ra Sa) (hQ : RX Ia)  : CT l0 0 0 0 mX11_empties [kR (some 49)] Ia Ja Ra Sa (cV (fun I' J' => Ch [51] [] Ia I' ∧ Kp 49 73 Ja J' ∧ RX I' ∧ I' 51 = EMr (Ia 51)) Ra Sa) := by
  refine ct_in pn_X11 (Nat.le_of_ble_eq_true rfl) (fun X hX hT hIn => ?_)
  have hX : aK l0 X cX11_empties 2 RX11 none 0 0 0 := hX
  change WW X 0 [some (kR (some 49)), none] [] Ia Ja Ra Sa 0 0
  have qIa := RX_o hQ
  refine ww_iconst hX (pc := 0) (x := 0) dX11_empties_0 rfl ?_
  refine ww_istore_n hX (pc := 1) (lv' := [some (kR (some 49)), some (kI 0)]) dX11_empties_1 (by decide) rfl rfl ?_
  have hl_2 : ∀ (n_2 : Nat) (i : Int) (I2 : aI1) (J2 : aI1), (256 - i).toNat = n_2 → (Ch [51] [] Ia I2 ∧ RX I2 ∧ Kp 49 73 Ja J2 ∧ I2 51 304 = Ia 51 304 ∧ I2 51 305 = Ia 51 305 ∧ (0 ≤ i ∧ i ≤ 256) ∧ (∀ j : Nat, I2 51 j = if (j : Int) < i then -1 else Ia 51 j)) → WW X 2 [some (kR (some 49)), some (kI i)] [] I2 J2 Ra Sa 0 0 := by
    intro n_2
    induction n_2 using Nat.strongRecOn with
    | ind n_2 ih_2 =>
      intro i I2 J2 hm_2 hv_2
      have hq_2 := Sh0_i hm_2
      clear hm_2
      obtain ⟨kI2, cI2, kJ2, r304_I2, r305_I2, hv, hej⟩ := hv_2
      have qI2 := RX_o cI2
      have rf_I2 : FU (I2 51 304) = FU (Ia 51 304) := by rw [r304_I2]
      refine ww_iload_n hX (pc := 2) dX11_empties_2 rfl ?_
      refine ww_sipush hX (pc := 3) (x := 256) dX11_empties_3 (by decide) ?_
      refine ww_icmp_ge hX (pc := 6) (tgt := 24) dX11_empties_6 (by decide) (fun h_6 => ?_) (fun h_6 => ?_)
      · simp only [w32_mod] at h_6
        refine ww_aload_n hX (pc := 24) dX11_empties_24 rfl ?_
        refine ww_getR hX (pc := 25) fX11_20 (by decide) (xs_49 hL) (xr_49_3 hL) dX11_empties_25 ?_
        refine ww_sipush hX (pc := 28) (x := 307) dX11_empties_28 (by decide) ?_
        refine ww_iconst hX (pc := 31) (x := 0) dX11_empties_31 rfl ?_
        refine ww_iast hX (pc := 32) (xs_51 hL) (by decide) (by omega) (by omega) dX11_empties_32 ?_
        refine ww_nmH (fun I_32 eI_32 => ?_)
        have kI_32 : Ch [51] [] Ia I_32 := by rw [eI_32]; exact Ch_r kI2 (by decide) (by decide)
        have cI_32 : RX I_32 := by rw [eI_32]; exact RX_307 cI2 (by omega) (by omega)
        have qI_32 := RX_o cI_32
        have r304_I_32 : I_32 51 304 = I2 51 304 := by rw [eI_32, up2_n _ _ (Or.inr (by decide))]
        have r305_I_32 : I_32 51 305 = I2 51 305 := by rw [eI_32, up2_n _ _ (Or.inr (by decide))]
        have rf_I_32 : FU (I_32 51 304) = FU (I2 51 304) := by rw [r304_I_32]
        refine ww_aload_n hX (pc := 33) dX11_empties_33 rfl ?_
        refine ww_getR hX (pc := 34) fX11_20 (by decide) (xs_49 hL) (xr_49_3 hL) dX11_empties_34 ?_
        refine ww_sipush hX (pc := 37) (x := 308) dX11_empties_37 (by decide) ?_
        refine ww_iconst hX (pc := 40) (x := 0) dX11_empties_40 rfl ?_
        refine ww_iast hX (pc := 41) (xs_51 hL) (by decide) (by omega) (by omega) dX11_empties_41 ?_
        refine ww_nmH (fun I_41 eI_41 => ?_)
        have kI_41 : Ch [51] [] Ia I_41 := by rw [eI_41]; exact Ch_r kI_32 (by decide) (by decide)
        have cI_41 : RX I_41 := by rw [eI_41]; exact RX_308 cI_32 (by omega) (by omega)
        have qI_41 := RX_o cI_41
        have r304_I_41 : I_41 51 304 = I_32 51 304 := by rw [eI_41, up2_n _ _ (Or.inr (by decide))]
        have r305_I_41 : I_41 51 305 = I_32 51 305 := by rw [eI_41, up2_n _ _ (Or.inr (by decide))]
        have rf_I_41 : FU (I_41 51 304) = FU (I_32 51 304) := by rw [r304_I_41]
        refine ww_aload_n hX (pc := 42) dX11_empties_42 rfl ?_
        refine ww_getR hX (pc := 43) fX11_20 (by decide) (xs_49 hL) (xr_49_3 hL) dX11_empties_43 ?_
        refine ww_sipush hX (pc := 46) (x := 309) dX11_empties_46 (by decide) ?_
        refine ww_iconst hX (pc := 49) (x := 0) dX11_empties_49 rfl ?_
        refine ww_iast hX (pc := 50) (xs_51 hL) (by decide) (by omega) (by omega) dX11_empties_50 ?_
        refine ww_nmH (fun I_50 eI_50 => ?_)
        have kI_50 : Ch [51] [] Ia I_50 := by rw [eI_50]; exact Ch_r kI_41 (by decide) (by decide)
        have cI_50 : RX I_50 := by rw [eI_50]; exact RX_309 cI_41 (by omega) (by omega)
        have qI_50 := RX_o cI_50
        have r304_I_50 : I_50 51 304 = I_41 51 304 := by rw [eI_50, up2_n _ _ (Or.inr (by decide))]
        have r305_I_50 : I_50 51 305 = I_41 51 305 := by rw [eI_50, up2_n _ _ (Or.inr (by decide))]
        have rf_I_50 : FU (I_50 51 304) = FU (I_41 51 304) := by rw [r304_I_50]
        refine rV hX (pc := 51) hT (Nat.le_refl 0) (Nat.le_refl 0) dX11_empties_51 ?_
        exact ⟨kI_50, kJ2, cI_50, (by
            rw [eI_50, up2_row, eI_41, up2_row, eI_32, up2_row]
            funext j
            by_cases e1 : j = 309
            · subst e1; exact (up1_s _ _ _).trans (EMr_z (by decide)).symm
            · by_cases e2 : j = 308
              · subst e2; exact (up1_n _ _ (by decide)).trans ((up1_s _ _ _).trans (EMr_z (by decide)).symm)
              · by_cases e3 : j = 307
                · subst e3; exact (up1_n _ _ (by decide)).trans ((up1_n _ _ (by decide)).trans ((up1_s _ _ _).trans (EMr_z (by decide)).symm))
                · refine (up1_n _ _ e1).trans ((up1_n _ _ e2).trans ((up1_n _ _ e3).trans ?_))
                  rw [hej j]
                  by_cases e4 : j < 256
                  · rw [if_pos (by omega), EMr_c e4]
                  · rw [if_neg (by omega), EMr_o (by omega) (by omega)])⟩
      · simp only [w32_mod] at h_6
        refine ww_aload_n hX (pc := 9) dX11_empties_9 rfl ?_
        refine ww_getR hX (pc := 10) fX11_20 (by decide) (xs_49 hL) (xr_49_3 hL) dX11_empties_10 ?_
        refine ww_iconst hX (pc := 13) (x := 0) dX11_empties_13 rfl ?_
        refine ww_iload_n hX (pc := 14) dX11_empties_14 rfl ?_
        refine ww_iadd hX (pc := 15) dX11_empties_15 ?_
        refine ww_iconst hX (pc := 16) (x := (-1)) dX11_empties_16 rfl ?_
        refine ww_iast hX (pc := 17) (xs_51 hL) (by decide) (by omega) (by omega) dX11_empties_17 ?_
        refine ww_nmH (fun I_17 eI_17 => ?_)
        have kI_17 : Ch [51] [] Ia I_17 := by rw [eI_17]; exact Ch_r kI2 (by decide) (by decide)
        have cI_17 : RX I_17 := by rw [eI_17]; exact RX_lo cI2 (by omega)
        have qI_17 := RX_o cI_17
        have r304_I_17 : I_17 51 304 = I2 51 304 := by rw [eI_17, up2_n _ _ (Or.inr (by omega))]
        have r305_I_17 : I_17 51 305 = I2 51 305 := by rw [eI_17, up2_n _ _ (Or.inr (by omega))]
        have rf_I_17 : FU (I_17 51 304) = FU (I2 51 304) := by rw [r304_I_17]
        have t17 : ∀ j : Nat, I_17 51 j = if (j : Int) < i + 1 then -1 else Ia 51 j := fun j => by
          rw [eI_17, up2_row]
          by_cases e9 : j = (0 + i).toNat
          · rw [e9, up1_s, if_pos (by omega)]
          · rw [up1_n _ _ e9, hej j]
            by_cases e8 : (j : Int) < i
            · rw [if_pos e8, if_pos (by omega)]
            · rw [if_neg e8, if_neg (by omega)]
        refine ww_iinc hX (pc := 18) (lv' := [some (kR (some 49)), some (kI (i + 1))]) dX11_empties_18 rfl (by decide) rfl rfl ?_
        refine ww_goto hX (pc := 21) (tgt := 2) dX11_empties_21 (by decide) ?_
        exact ih_2 _ (by have hm9 := Sh0_e hq_2; omega) (i + 1) I_17 J2 rfl ⟨kI_17, cI_17, kJ2, by omega, by omega, ⟨by omega, by omega⟩, t17⟩
  exact hl_2 _ 0 Ia Ja rfl ⟨Ch_rf, hQ, (Kp_rf (a := 49) (b := 73)), rfl, rfl, ⟨by omega, by omega⟩, fun j => by rw [if_neg (by omega)]⟩
set_option maxHeartbeats 4000000 in
set_option maxRecDepth 20000 in
theorem c5_X11_lamps (l0 : Launch) {Ia Ja : aI1} {Ra : aR1} {Sa : aS1} (hL : LY Ra Sa) (hQ : RX Ia) {a : Int} (ha0 : -2147483648 ≤ a) (ha1 : a < 2147483648)  : CT l0 1 0 0 mX11_lamps [kR (some 49), kI a] Ia Ja Ra Sa (cI (fun x I' J' => Ch [50, 51] [0, 1] Ia I' ∧ Kp 49 73 Ja J' ∧ RX I' ∧ (¬ (1 ≤ a ∧ a ≤ 8) → x = -1 ∧ I' 51 = Ia 51) ∧ ((1 ≤ a ∧ a ≤ 8) → x = Ia 51 304 ∧ I' 51 304 = a ∧ I' 51 306 = 0 ∧ I' 51 307 = 0 ∧ I' 51 308 = 0 ∧ I' 51 309 = 0 ∧ (∀ j, j < 8 → I' 51 (256 + j) = 1) ∧ (∀ s, s < 256 → I' 51 s = -1) ∧ (∀ j : Nat, 264 ≤ j → j ≠ 304 → j ≠ 306 → j ≠ 307 → j ≠ 308 → j ≠ 309 → I' 51 j = Ia 51 j))) Ra Sa) := by
  refine ct_in pn_X11 (Nat.le_of_ble_eq_true rfl) (fun X hX hT hIn => ?_)
  have hX : aK l0 X cX11_lamps 4 RX11 (some .int) 1 0 0 := hX
  change WW X 0 [some (kR (some 49)), some (kI a), none, none] [] Ia Ja Ra Sa 0 0
  have qIa := RX_o hQ
  refine ww_iload_n hX (pc := 0) dX11_lamps_0 rfl ?_
  refine ww_iconst hX (pc := 1) (x := 1) dX11_lamps_1 rfl ?_
  refine ww_bipush hX (pc := 2) (x := 8) dX11_lamps_2 (by decide) ?_
  refine sI3 hX (pc := 4) sX11_101 (c_X11_lies l0 (by omega) (by omega) (by omega) (by omega) (by omega) (by omega)) (by decide) (Nat.le_refl 0) (Nat.le_refl 0) (Nat.le_of_ble_eq_true rfl) dX11_lamps_4 (fun x_4 I_4 J_4 h_4 => ?_)
  obtain ⟨rfl, rfl, h_4⟩ := h_4
  refine ww_if_ne hX (pc := 7) (tgt := 16) dX11_lamps_7 (by decide) (fun h_7 => ?_) (fun h_7 => ?_)
  · simp only [w32_mod] at h_7
    have k_4 := h_4.2.mp (by omega)
    clear h_4
    refine ww_aload_n hX (pc := 16) dX11_lamps_16 rfl ?_
    refine ww_getR hX (pc := 17) fX11_20 (by decide) (xs_49 hL) (xr_49_3 hL) dX11_lamps_17 ?_
    refine ww_sipush hX (pc := 20) (x := 304) dX11_lamps_20 (by decide) ?_
    refine ww_iald hX (pc := 23) (xs_51 hL) (by decide) (by omega) (by omega) dX11_lamps_23 ?_
    refine ww_toI (b := Ia 51 304) rfl ?_
    refine ww_nmI (fun v_24 hv_24 => ?_)
    refine ww_istore_n hX (pc := 24) (lv' := [some (kR (some 49)), some (kI a), some (kI v_24), none]) dX11_lamps_24 (by decide) rfl rfl ?_
    refine ww_aload_n hX (pc := 25) dX11_lamps_25 rfl ?_
    refine ww_getR hX (pc := 26) fX11_20 (by decide) (xs_49 hL) (xr_49_3 hL) dX11_lamps_26 ?_
    refine ww_sipush hX (pc := 29) (x := 304) dX11_lamps_29 (by decide) ?_
    refine ww_iload_n hX (pc := 32) dX11_lamps_32 rfl ?_
    refine ww_iast hX (pc := 33) (xs_51 hL) (by decide) (by omega) (by omega) dX11_lamps_33 ?_
    refine ww_nmH (fun I_33 eI_33 => ?_)
    have kI_33 : Ch [50, 51] [0, 1] Ia I_33 := by rw [eI_33]; exact Ch_r Ch_rf (by decide) (by decide)
    have cI_33 : RX I_33 := by rw [eI_33]; exact RX_304 hQ (by omega) (by omega)
    have qI_33 := RX_o cI_33
    have r305_I_33 : I_33 51 305 = Ia 51 305 := by rw [eI_33, up2_n _ _ (Or.inr (by decide))]
    have g33 : I_33 51 = up1 (Ia 51) 304 a := by rw [eI_33, up2_row]; rfl
    refine ww_aload_n hX (pc := 34) dX11_lamps_34 rfl ?_
    refine ww_getR hX (pc := 35) fX11_20 (by decide) (xs_49 hL) (xr_49_3 hL) dX11_lamps_35 ?_
    refine ww_sipush hX (pc := 38) (x := 306) dX11_lamps_38 (by decide) ?_
    refine ww_iconst hX (pc := 41) (x := 0) dX11_lamps_41 rfl ?_
    refine ww_iast hX (pc := 42) (xs_51 hL) (by decide) (by omega) (by omega) dX11_lamps_42 ?_
    refine ww_nmH (fun I_42 eI_42 => ?_)
    have kI_42 : Ch [50, 51] [0, 1] Ia I_42 := by rw [eI_42]; exact Ch_r kI_33 (by decide) (by decide)
    have cI_42 : RX I_42 := by rw [eI_42]; exact RX_lo cI_33 (by decide)
    have qI_42 := RX_o cI_42
    have r304_I_42 : I_42 51 304 = I_33 51 304 := by rw [eI_42, up2_n _ _ (Or.inr (by decide))]
    have r305_I_42 : I_42 51 305 = I_33 51 305 := by rw [eI_42, up2_n _ _ (Or.inr (by decide))]
    have rf_I_42 : FU (I_42 51 304) = FU (I_33 51 304) := by rw [r304_I_42]
    have g42 : I_42 51 = up1 (up1 (Ia 51) 304 a) 306 0 := by rw [eI_42, up2_row, g33]; rfl
    refine ww_iconst hX (pc := 43) (x := 0) dX11_lamps_43 rfl ?_
    refine ww_istore_n hX (pc := 44) (lv' := [some (kR (some 49)), some (kI a), some (kI v_24), some (kI 0)]) dX11_lamps_44 (by decide) rfl rfl ?_
    have hl_45 : ∀ (n_45 : Nat) (i : Int) (I45 : aI1) (J45 : aI1), (8 - i).toNat = n_45 → (Ch [50, 51] [0, 1] Ia I45 ∧ RX I45 ∧ Kp 49 73 Ja J45 ∧ I45 51 304 = I_42 51 304 ∧ I45 51 305 = I_42 51 305 ∧ (0 ≤ i ∧ i ≤ 8) ∧ (∀ j : Nat, I45 51 j = if 256 ≤ (j : Int) ∧ (j : Int) < 256 + i then 1 else up1 (up1 (Ia 51) 304 a) 306 0 j)) → WW X 45 [some (kR (some 49)), some (kI a), some (kI v_24), some (kI i)] [] I45 J45 Ra Sa 0 0 := by
      intro n_45
      induction n_45 using Nat.strongRecOn with
      | ind n_45 ih_45 =>
        intro i I45 J45 hm_45 hv_45
        have hq_45 := Sh0_i hm_45
        clear hm_45
        obtain ⟨kI45, cI45, kJ45, r304_I45, r305_I45, hv, hoj⟩ := hv_45
        have qI45 := RX_o cI45
        have rf_I45 : FU (I45 51 304) = FU (I_42 51 304) := by rw [r304_I45]
        refine ww_iload_n hX (pc := 45) dX11_lamps_45 rfl ?_
        refine ww_bipush hX (pc := 46) (x := 8) dX11_lamps_46 (by decide) ?_
        refine ww_icmp_ge hX (pc := 48) (tgt := 68) dX11_lamps_48 (by decide) (fun h_48 => ?_) (fun h_48 => ?_)
        · simp only [w32_mod] at h_48
          refine ww_aload_n hX (pc := 68) dX11_lamps_68 rfl ?_
          refine vV0 hX (pc := 69) sX11_98 (xs_49 hL) (c5_X11_empties l0 hL cI45 ) (by decide) (Nat.le_refl 0) (Nat.le_refl 0) (Nat.le_of_ble_eq_true rfl) dX11_lamps_69 (fun I_69 J_69 h_69 => ?_)
          have kJ_69 : Kp 49 73 Ja J_69 := Kp_tr kJ45 h_69.2.1
          have kI_69 : Ch [50, 51] [0, 1] Ia I_69 := Ch_tr kI45 (Ch_wd h_69.1 (by decide) (by decide))
          have cI_69 : RX I_69 := h_69.2.2.1
          have qI_69 := RX_o cI_69
          have xv69 := h_69.2.2.2
          refine ww_aload_n hX (pc := 72) dX11_lamps_72 rfl ?_
          refine ww_iload_n hX (pc := 73) dX11_lamps_73 rfl ?_
          refine vI1 hX (pc := 74) sX11_109 (xs_49 hL) (c_X11_good l0 hL cI_69 ) (by decide) (Nat.le_refl 0) (Nat.le_refl 0) (Nat.le_of_ble_eq_true rfl) dX11_lamps_74 (fun x_74 I_74 J_74 h_74 => ?_)
          have kJ_74 : Kp 49 73 Ja J_74 := Kp_tr kJ_69 h_74.2.1
          have kI_74 : Ch [50, 51] [0, 1] Ia I_74 := Ch_tr kI_69 (Ch_wd h_74.1 (by decide) (by decide))
          have cI_74 : RX I_74 := h_74.2.2.1
          have qI_74 := RX_o cI_74
          have r304_I_74 : I_74 51 304 = I_69 51 304 := by rw [h_74.1.1 51 (by decide) (by decide)]
          have r305_I_74 : I_74 51 305 = I_69 51 305 := by rw [h_74.1.1 51 (by decide) (by decide)]
          have rf_I_74 : FU (I_74 51 304) = FU (I_69 51 304) := by rw [r304_I_74]
          have xv74 := h_74.2.2.2
          refine rI hX (pc := 77) hT (Nat.le_refl 0) (Nat.le_refl 0) dX11_lamps_77 ?_
          exact ⟨kI_74, kJ_74, cI_74, (fun h9 => absurd (by omega) h9), (fun _ => (by
                have y9 : I_74 51 = EMr (I45 51) := (h_74.1.1 51 (by decide) (by decide)).trans xv69
                rw [y9]
                refine ⟨by rw [xv74, hv_24], ?_, ?_, EMr_z (by decide), EMr_z (by decide), EMr_z (by decide), fun j hj => ?_, fun s hs => EMr_c hs, fun j h1 h2 h3 h4 h5 h6 => ?_⟩
                · rw [EMr_o (by decide) (by decide), hoj 304, if_neg (by omega), up1_n _ _ (by decide), up1_s]
                · rw [EMr_o (by decide) (by decide), hoj 306, if_neg (by omega), up1_s]
                · rw [EMr_o (by omega) (by omega), hoj (256 + j), if_pos (by omega)]
                · rw [EMr_o (by omega) (by omega), hoj j, if_neg (by omega), up1_n _ _ h3, up1_n _ _ h2]))⟩
        · simp only [w32_mod] at h_48
          refine ww_aload_n hX (pc := 51) dX11_lamps_51 rfl ?_
          refine ww_getR hX (pc := 52) fX11_20 (by decide) (xs_49 hL) (xr_49_3 hL) dX11_lamps_52 ?_
          refine ww_sipush hX (pc := 55) (x := 256) dX11_lamps_55 (by decide) ?_
          refine ww_iload_n hX (pc := 58) dX11_lamps_58 rfl ?_
          refine ww_iadd hX (pc := 59) dX11_lamps_59 ?_
          refine ww_iconst hX (pc := 60) (x := 1) dX11_lamps_60 rfl ?_
          refine ww_iast hX (pc := 61) (xs_51 hL) (by decide) (by omega) (by omega) dX11_lamps_61 ?_
          refine ww_nmH (fun I_61 eI_61 => ?_)
          have kI_61 : Ch [50, 51] [0, 1] Ia I_61 := by rw [eI_61]; exact Ch_r kI45 (by decide) (by decide)
          have cI_61 : RX I_61 := by rw [eI_61]; exact RX_lo cI45 (by omega)
          have qI_61 := RX_o cI_61
          have r304_I_61 : I_61 51 304 = I45 51 304 := by rw [eI_61, up2_n _ _ (Or.inr (by omega))]
          have r305_I_61 : I_61 51 305 = I45 51 305 := by rw [eI_61, up2_n _ _ (Or.inr (by omega))]
          have rf_I_61 : FU (I_61 51 304) = FU (I45 51 304) := by rw [r304_I_61]
          have t61 : ∀ j : Nat, I_61 51 j = if 256 ≤ (j : Int) ∧ (j : Int) < 256 + (i + 1) then 1 else up1 (up1 (Ia 51) 304 a) 306 0 j := fun j => by
            rw [eI_61, up2_row]
            by_cases e9 : j = (256 + i).toNat
            · rw [e9, up1_s, if_pos (by omega)]
            · rw [up1_n _ _ e9, hoj j]
              by_cases e8 : 256 ≤ (j : Int) ∧ (j : Int) < 256 + i
              · rw [if_pos e8, if_pos (by omega)]
              · rw [if_neg e8, if_neg (by omega)]
          refine ww_iinc hX (pc := 62) (lv' := [some (kR (some 49)), some (kI a), some (kI v_24), some (kI (i + 1))]) dX11_lamps_62 rfl (by decide) rfl rfl ?_
          refine ww_goto hX (pc := 65) (tgt := 45) dX11_lamps_65 (by decide) ?_
          exact ih_45 _ (by have hm9 := Sh0_e hq_45; omega) (i + 1) I_61 J45 rfl ⟨kI_61, cI_61, kJ45, by omega, by omega, ⟨by omega, by omega⟩, t61⟩
    exact hl_45 _ 0 I_42 Ja rfl ⟨kI_42, cI_42, (Kp_rf (a := 49) (b := 73)), rfl, rfl, ⟨by omega, by omega⟩, fun j => by rw [if_neg (by omega), g42]⟩
  · simp only [w32_mod] at h_7
    refine ww_aload_n hX (pc := 10) dX11_lamps_10 rfl ?_
    refine ww_iconst hX (pc := 11) (x := (-1)) dX11_lamps_11 rfl ?_
    refine vI1 hX (pc := 12) sX11_105 (xs_49 hL) (c_X11_refuses l0 hL hQ (by omega) (by omega)) (by decide) (Nat.le_refl 0) (Nat.le_refl 0) (Nat.le_of_ble_eq_true rfl) dX11_lamps_12 (fun x_12 I_12 J_12 h_12 => ?_)
    have kJ_12 : Kp 49 73 Ja J_12 := Kp_tr (Kp_rf (a := 49) (b := 73)) h_12.2.1
    have kI_12 : Ch [50, 51] [0, 1] Ia I_12 := Ch_tr Ch_rf (Ch_wd h_12.1 (by decide) (by decide))
    have cI_12 : RX I_12 := h_12.2.2.1
    have qI_12 := RX_o cI_12
    have r304_I_12 : I_12 51 304 = Ia 51 304 := by rw [h_12.1.1 51 (by decide) (by decide)]
    have r305_I_12 : I_12 51 305 = Ia 51 305 := by rw [h_12.1.1 51 (by decide) (by decide)]
    have rf_I_12 : FU (I_12 51 304) = FU (Ia 51 304) := by rw [r304_I_12]
    have xv12 := h_12.2.2.2
    refine rI hX (pc := 15) hT (Nat.le_refl 0) (Nat.le_refl 0) dX11_lamps_15 ?_
    exact ⟨kI_12, kJ_12, cI_12, (fun _ => ⟨xv12, h_12.1.1 51 (by decide) (by decide)⟩), (fun h9 => absurd h9 (by omega))⟩
set_option maxHeartbeats 4000000 in
set_option maxRecDepth 20000 in
theorem c5_X11_news (l0 : Launch) {Ia Ja : aI1} {Ra : aR1} {Sa : aS1} (hL : LY Ra Sa) (hQ : RX Ia) {a : Int} (ha0 : -2147483648 ≤ a) (ha1 : a < 2147483648)  : CT l0 1 0 0 mX11_news [kR (some 49), kI a] Ia Ja Ra Sa (cI (fun x I' J' => Ch [50, 51] [0, 1] Ia I' ∧ Kp 49 73 Ja J' ∧ RX I' ∧ (¬ (2 ≤ a ∧ a ≤ 8) → x = -1 ∧ I' 51 = Ia 51) ∧ ((2 ≤ a ∧ a ≤ 8) → x = Ia 51 305 ∧ I' 51 = EMr (up1 (Ia 51) 305 a))) Ra Sa) := by
  refine ct_in pn_X11 (Nat.le_of_ble_eq_true rfl) (fun X hX hT hIn => ?_)
  have hX : aK l0 X cX11_news 3 RX11 (some .int) 1 0 0 := hX
  change WW X 0 [some (kR (some 49)), some (kI a), none] [] Ia Ja Ra Sa 0 0
  have qIa := RX_o hQ
  refine ww_iload_n hX (pc := 0) dX11_news_0 rfl ?_
  refine ww_iconst hX (pc := 1) (x := 2) dX11_news_1 rfl ?_
  refine ww_bipush hX (pc := 2) (x := 8) dX11_news_2 (by decide) ?_
  refine sI3 hX (pc := 4) sX11_101 (c_X11_lies l0 (by omega) (by omega) (by omega) (by omega) (by omega) (by omega)) (by decide) (Nat.le_refl 0) (Nat.le_refl 0) (Nat.le_of_ble_eq_true rfl) dX11_news_4 (fun x_4 I_4 J_4 h_4 => ?_)
  obtain ⟨rfl, rfl, h_4⟩ := h_4
  refine ww_if_ne hX (pc := 7) (tgt := 16) dX11_news_7 (by decide) (fun h_7 => ?_) (fun h_7 => ?_)
  · simp only [w32_mod] at h_7
    have k_4 := h_4.2.mp (by omega)
    clear h_4
    refine ww_aload_n hX (pc := 16) dX11_news_16 rfl ?_
    refine ww_getR hX (pc := 17) fX11_20 (by decide) (xs_49 hL) (xr_49_3 hL) dX11_news_17 ?_
    refine ww_sipush hX (pc := 20) (x := 305) dX11_news_20 (by decide) ?_
    refine ww_iald hX (pc := 23) (xs_51 hL) (by decide) (by omega) (by omega) dX11_news_23 ?_
    refine ww_toI (b := Ia 51 305) rfl ?_
    refine ww_nmI (fun v_24 hv_24 => ?_)
    refine ww_istore_n hX (pc := 24) (lv' := [some (kR (some 49)), some (kI a), some (kI v_24)]) dX11_news_24 (by decide) rfl rfl ?_
    refine ww_aload_n hX (pc := 25) dX11_news_25 rfl ?_
    refine ww_getR hX (pc := 26) fX11_20 (by decide) (xs_49 hL) (xr_49_3 hL) dX11_news_26 ?_
    refine ww_sipush hX (pc := 29) (x := 305) dX11_news_29 (by decide) ?_
    refine ww_iload_n hX (pc := 32) dX11_news_32 rfl ?_
    refine ww_iast hX (pc := 33) (xs_51 hL) (by decide) (by omega) (by omega) dX11_news_33 ?_
    refine ww_nmH (fun I_33 eI_33 => ?_)
    have kI_33 : Ch [50, 51] [0, 1] Ia I_33 := by rw [eI_33]; exact Ch_r Ch_rf (by decide) (by decide)
    have cI_33 : RX I_33 := by rw [eI_33]; exact RX_305 hQ (by omega) (by omega)
    have qI_33 := RX_o cI_33
    have r304_I_33 : I_33 51 304 = Ia 51 304 := by rw [eI_33, up2_n _ _ (Or.inr (by decide))]
    have rf_I_33 : FU (I_33 51 304) = FU (Ia 51 304) := by rw [r304_I_33]
    have g33 : I_33 51 = up1 (Ia 51) 305 a := by rw [eI_33, up2_row]; rfl
    refine ww_aload_n hX (pc := 34) dX11_news_34 rfl ?_
    refine vV0 hX (pc := 35) sX11_98 (xs_49 hL) (c5_X11_empties l0 hL cI_33 ) (by decide) (Nat.le_refl 0) (Nat.le_refl 0) (Nat.le_of_ble_eq_true rfl) dX11_news_35 (fun I_35 J_35 h_35 => ?_)
    have kJ_35 : Kp 49 73 Ja J_35 := Kp_tr (Kp_rf (a := 49) (b := 73)) h_35.2.1
    have kI_35 : Ch [50, 51] [0, 1] Ia I_35 := Ch_tr kI_33 (Ch_wd h_35.1 (by decide) (by decide))
    have cI_35 : RX I_35 := h_35.2.2.1
    have qI_35 := RX_o cI_35
    have xv35 := h_35.2.2.2
    refine ww_aload_n hX (pc := 38) dX11_news_38 rfl ?_
    refine ww_iload_n hX (pc := 39) dX11_news_39 rfl ?_
    refine vI1 hX (pc := 40) sX11_109 (xs_49 hL) (c_X11_good l0 hL cI_35 ) (by decide) (Nat.le_refl 0) (Nat.le_refl 0) (Nat.le_of_ble_eq_true rfl) dX11_news_40 (fun x_40 I_40 J_40 h_40 => ?_)
    have kJ_40 : Kp 49 73 Ja J_40 := Kp_tr kJ_35 h_40.2.1
    have kI_40 : Ch [50, 51] [0, 1] Ia I_40 := Ch_tr kI_35 (Ch_wd h_40.1 (by decide) (by decide))
    have cI_40 : RX I_40 := h_40.2.2.1
    have qI_40 := RX_o cI_40
    have r304_I_40 : I_40 51 304 = I_35 51 304 := by rw [h_40.1.1 51 (by decide) (by decide)]
    have r305_I_40 : I_40 51 305 = I_35 51 305 := by rw [h_40.1.1 51 (by decide) (by decide)]
    have rf_I_40 : FU (I_40 51 304) = FU (I_35 51 304) := by rw [r304_I_40]
    have xv40 := h_40.2.2.2
    refine rI hX (pc := 43) hT (Nat.le_refl 0) (Nat.le_refl 0) dX11_news_43 ?_
    exact ⟨kI_40, kJ_40, cI_40, (fun h9 => absurd (by omega) h9), (fun _ => ⟨by rw [xv40, hv_24], by rw [h_40.1.1 51 (by decide) (by decide), xv35, g33]⟩)⟩
  · simp only [w32_mod] at h_7
    refine ww_aload_n hX (pc := 10) dX11_news_10 rfl ?_
    refine ww_iconst hX (pc := 11) (x := (-1)) dX11_news_11 rfl ?_
    refine vI1 hX (pc := 12) sX11_105 (xs_49 hL) (c_X11_refuses l0 hL hQ (by omega) (by omega)) (by decide) (Nat.le_refl 0) (Nat.le_refl 0) (Nat.le_of_ble_eq_true rfl) dX11_news_12 (fun x_12 I_12 J_12 h_12 => ?_)
    have kJ_12 : Kp 49 73 Ja J_12 := Kp_tr (Kp_rf (a := 49) (b := 73)) h_12.2.1
    have kI_12 : Ch [50, 51] [0, 1] Ia I_12 := Ch_tr Ch_rf (Ch_wd h_12.1 (by decide) (by decide))
    have cI_12 : RX I_12 := h_12.2.2.1
    have qI_12 := RX_o cI_12
    have r304_I_12 : I_12 51 304 = Ia 51 304 := by rw [h_12.1.1 51 (by decide) (by decide)]
    have r305_I_12 : I_12 51 305 = Ia 51 305 := by rw [h_12.1.1 51 (by decide) (by decide)]
    have rf_I_12 : FU (I_12 51 304) = FU (Ia 51 304) := by rw [r304_I_12]
    have xv12 := h_12.2.2.2
    refine rI hX (pc := 15) hT (Nat.le_refl 0) (Nat.le_refl 0) dX11_news_15 ?_
    exact ⟨kI_12, kJ_12, cI_12, (fun _ => ⟨xv12, h_12.1.1 51 (by decide) (by decide)⟩), (fun h9 => absurd h9 (by omega))⟩
set_option maxHeartbeats 4000000 in
set_option maxRecDepth 20000 in
theorem c5_X11_oil (l0 : Launch) {Ia Ja : aI1} {Ra : aR1} {Sa : aS1} (hL : LY Ra Sa) (hQ : RX Ia) {a b : Int} (ha0 : -2147483648 ≤ a) (ha1 : a < 2147483648) (hb0 : -2147483648 ≤ b) (hb1 : b < 2147483648)  : CT l0 2 0 0 mX11_oil [kR (some 49), kI a, kI b] Ia Ja Ra Sa (cI (fun x I' J' => Ch [50, 51] [0, 1] Ia I' ∧ Kp 49 73 Ja J' ∧ RX I' ∧ (¬ (0 ≤ a ∧ a < Ia 51 304 ∧ 0 ≤ b ∧ b ≤ 99) → x = -1 ∧ I' 51 = Ia 51) ∧ ((0 ≤ a ∧ a < Ia 51 304 ∧ 0 ≤ b ∧ b ≤ 99) → x = Ia 51 (256 + a.toNat) ∧ I' 51 = up1 (Ia 51) (256 + a.toNat) b)) Ra Sa) := by
  refine ct_in pn_X11 (Nat.le_of_ble_eq_true rfl) (fun X hX hT hIn => ?_)
  have hX : aK l0 X cX11_oil 4 RX11 (some .int) 2 0 0 := hX
  change WW X 0 [some (kR (some 49)), some (kI a), some (kI b), none] [] Ia Ja Ra Sa 0 0
  have qIa := RX_o hQ
  refine ww_aload_n hX (pc := 0) dX11_oil_0 rfl ?_
  refine ww_iload_n hX (pc := 1) dX11_oil_1 rfl ?_
  refine vI1 hX (pc := 2) sX11_116 (xs_49 hL) (c_X11_isLamp l0 hL hQ (by omega) (by omega)) (by decide) (Nat.le_refl 0) (Nat.le_refl 0) (Nat.le_of_ble_eq_true rfl) dX11_oil_2 (fun x_2 I_2 J_2 h_2 => ?_)
  obtain ⟨rfl, rfl, h_2⟩ := h_2
  refine ww_if_eq hX (pc := 5) (tgt := 18) dX11_oil_5 (by decide) (fun h_5 => ?_) (fun h_5 => ?_)
  · simp only [w32_mod] at h_5
    refine ww_aload_n hX (pc := 18) dX11_oil_18 rfl ?_
    refine ww_iconst hX (pc := 19) (x := (-1)) dX11_oil_19 rfl ?_
    refine vI1 hX (pc := 20) sX11_105 (xs_49 hL) (c_X11_refuses l0 hL hQ (by omega) (by omega)) (by decide) (Nat.le_refl 0) (Nat.le_refl 0) (Nat.le_of_ble_eq_true rfl) dX11_oil_20 (fun x_20 I_20 J_20 h_20 => ?_)
    have kJ_20 : Kp 49 73 Ja J_20 := Kp_tr (Kp_rf (a := 49) (b := 73)) h_20.2.1
    have kI_20 : Ch [50, 51] [0, 1] Ia I_20 := Ch_tr Ch_rf (Ch_wd h_20.1 (by decide) (by decide))
    have cI_20 : RX I_20 := h_20.2.2.1
    have qI_20 := RX_o cI_20
    have r304_I_20 : I_20 51 304 = Ia 51 304 := by rw [h_20.1.1 51 (by decide) (by decide)]
    have r305_I_20 : I_20 51 305 = Ia 51 305 := by rw [h_20.1.1 51 (by decide) (by decide)]
    have rf_I_20 : FU (I_20 51 304) = FU (Ia 51 304) := by rw [r304_I_20]
    have xv20 := h_20.2.2.2
    refine rI hX (pc := 23) hT (Nat.le_refl 0) (Nat.le_refl 0) dX11_oil_23 ?_
    exact ⟨kI_20, kJ_20, cI_20, (fun _ => ⟨xv20, h_20.1.1 51 (by decide) (by decide)⟩), (fun h9 => absurd h9 (by omega))⟩
  · simp only [w32_mod] at h_5
    have k_2 := h_2.2.mp (by omega)
    clear h_2
    refine ww_iload_n hX (pc := 8) dX11_oil_8 rfl ?_
    refine ww_iconst hX (pc := 9) (x := 0) dX11_oil_9 rfl ?_
    refine ww_bipush hX (pc := 10) (x := 99) dX11_oil_10 (by decide) ?_
    refine sI3 hX (pc := 12) sX11_101 (c_X11_lies l0 (by omega) (by omega) (by omega) (by omega) (by omega) (by omega)) (by decide) (Nat.le_refl 0) (Nat.le_refl 0) (Nat.le_of_ble_eq_true rfl) dX11_oil_12 (fun x_12 I_12 J_12 h_12 => ?_)
    obtain ⟨rfl, rfl, h_12⟩ := h_12
    refine ww_if_ne hX (pc := 15) (tgt := 24) dX11_oil_15 (by decide) (fun h_15 => ?_) (fun h_15 => ?_)
    · simp only [w32_mod] at h_15
      have k_12 := h_12.2.mp (by omega)
      clear h_12
      refine ww_aload_n hX (pc := 24) dX11_oil_24 rfl ?_
      refine ww_getR hX (pc := 25) fX11_20 (by decide) (xs_49 hL) (xr_49_3 hL) dX11_oil_25 ?_
      refine ww_sipush hX (pc := 28) (x := 256) dX11_oil_28 (by decide) ?_
      refine ww_iload_n hX (pc := 31) dX11_oil_31 rfl ?_
      refine ww_iadd hX (pc := 32) dX11_oil_32 ?_
      refine ww_iald hX (pc := 33) (xs_51 hL) (by decide) (by omega) (by omega) dX11_oil_33 ?_
      refine ww_nmI (fun v_34 hv_34 => ?_)
      refine ww_istore_n hX (pc := 34) (lv' := [some (kR (some 49)), some (kI a), some (kI b), some (kI v_34)]) dX11_oil_34 (by decide) rfl rfl ?_
      refine ww_aload_n hX (pc := 35) dX11_oil_35 rfl ?_
      refine ww_getR hX (pc := 36) fX11_20 (by decide) (xs_49 hL) (xr_49_3 hL) dX11_oil_36 ?_
      refine ww_sipush hX (pc := 39) (x := 256) dX11_oil_39 (by decide) ?_
      refine ww_iload_n hX (pc := 42) dX11_oil_42 rfl ?_
      refine ww_iadd hX (pc := 43) dX11_oil_43 ?_
      refine ww_iload_n hX (pc := 44) dX11_oil_44 rfl ?_
      refine ww_iast hX (pc := 45) (xs_51 hL) (by decide) (by omega) (by omega) dX11_oil_45 ?_
      refine ww_nmH (fun I_45 eI_45 => ?_)
      have kI_45 : Ch [50, 51] [0, 1] Ia I_45 := by rw [eI_45]; exact Ch_r Ch_rf (by decide) (by decide)
      have cI_45 : RX I_45 := by rw [eI_45]; exact RX_lo hQ (by omega)
      have qI_45 := RX_o cI_45
      have r304_I_45 : I_45 51 304 = Ia 51 304 := by rw [eI_45, up2_n _ _ (Or.inr (by omega))]
      have r305_I_45 : I_45 51 305 = Ia 51 305 := by rw [eI_45, up2_n _ _ (Or.inr (by omega))]
      have rf_I_45 : FU (I_45 51 304) = FU (Ia 51 304) := by rw [r304_I_45]
      have g45 : I_45 51 = up1 (Ia 51) (256 + a.toNat) b := by rw [eI_45, up2_row, show (256 + a).toNat = 256 + a.toNat by omega]
      refine ww_aload_n hX (pc := 46) dX11_oil_46 rfl ?_
      refine ww_iload_n hX (pc := 47) dX11_oil_47 rfl ?_
      refine vI1 hX (pc := 48) sX11_109 (xs_49 hL) (c_X11_good l0 hL cI_45 ) (by decide) (Nat.le_refl 0) (Nat.le_refl 0) (Nat.le_of_ble_eq_true rfl) dX11_oil_48 (fun x_48 I_48 J_48 h_48 => ?_)
      have kJ_48 : Kp 49 73 Ja J_48 := Kp_tr (Kp_rf (a := 49) (b := 73)) h_48.2.1
      have kI_48 : Ch [50, 51] [0, 1] Ia I_48 := Ch_tr kI_45 (Ch_wd h_48.1 (by decide) (by decide))
      have cI_48 : RX I_48 := h_48.2.2.1
      have qI_48 := RX_o cI_48
      have r304_I_48 : I_48 51 304 = I_45 51 304 := by rw [h_48.1.1 51 (by decide) (by decide)]
      have r305_I_48 : I_48 51 305 = I_45 51 305 := by rw [h_48.1.1 51 (by decide) (by decide)]
      have rf_I_48 : FU (I_48 51 304) = FU (I_45 51 304) := by rw [r304_I_48]
      have xv48 := h_48.2.2.2
      refine rI hX (pc := 51) hT (Nat.le_refl 0) (Nat.le_refl 0) dX11_oil_51 ?_
      exact ⟨kI_48, kJ_48, cI_48, (fun h9 => absurd (by omega) h9), (fun _ => ⟨by rw [xv48, hv_34]; exact congrArg _ (by omega), by rw [h_48.1.1 51 (by decide) (by decide), g45]⟩)⟩
    · simp only [w32_mod] at h_15
      refine ww_aload_n hX (pc := 18) dX11_oil_18 rfl ?_
      refine ww_iconst hX (pc := 19) (x := (-1)) dX11_oil_19 rfl ?_
      refine vI1 hX (pc := 20) sX11_105 (xs_49 hL) (c_X11_refuses l0 hL hQ (by omega) (by omega)) (by decide) (Nat.le_refl 0) (Nat.le_refl 0) (Nat.le_of_ble_eq_true rfl) dX11_oil_20 (fun x_20 I_20 J_20 h_20 => ?_)
      have kJ_20 : Kp 49 73 Ja J_20 := Kp_tr (Kp_rf (a := 49) (b := 73)) h_20.2.1
      have kI_20 : Ch [50, 51] [0, 1] Ia I_20 := Ch_tr Ch_rf (Ch_wd h_20.1 (by decide) (by decide))
      have cI_20 : RX I_20 := h_20.2.2.1
      have qI_20 := RX_o cI_20
      have r304_I_20 : I_20 51 304 = Ia 51 304 := by rw [h_20.1.1 51 (by decide) (by decide)]
      have r305_I_20 : I_20 51 305 = Ia 51 305 := by rw [h_20.1.1 51 (by decide) (by decide)]
      have rf_I_20 : FU (I_20 51 304) = FU (Ia 51 304) := by rw [r304_I_20]
      have xv20 := h_20.2.2.2
      refine rI hX (pc := 23) hT (Nat.le_refl 0) (Nat.le_refl 0) dX11_oil_23 ?_
      exact ⟨kI_20, kJ_20, cI_20, (fun _ => ⟨xv20, h_20.1.1 51 (by decide) (by decide)⟩), (fun h9 => absurd h9 (by omega))⟩
set_option maxHeartbeats 4000000 in
set_option maxRecDepth 20000 in
theorem c5_X11_broken (l0 : Launch) {Ia Ja : aI1} {Ra : aR1} {Sa : aS1} (hL : LY Ra Sa) (hQ : RX Ia) {a b : Int} (ha0 : -2147483648 ≤ a) (ha1 : a < 2147483648) (hb0 : -2147483648 ≤ b) (hb1 : b < 2147483648)  : CT l0 2 0 0 mX11_broken [kR (some 49), kI a, kI b] Ia Ja Ra Sa (cI (fun x I' J' => Ch [50, 51] [0, 1] Ia I' ∧ Kp 49 73 Ja J' ∧ RX I' ∧ (¬ (0 ≤ a ∧ a < Ia 51 304 ∧ 0 ≤ b ∧ b ≤ 1) → x = -1 ∧ I' 51 = Ia 51) ∧ ((0 ≤ a ∧ a < Ia 51 304 ∧ 0 ≤ b ∧ b ≤ 1) → x = i_and (i_shr (Ia 51 306) a) 1 ∧ I' 51 = up1 (Ia 51) 306 (i_or (i_and (Ia 51 306) (i_xor (i_shl 1 a) (-1))) (i_shl b a)))) Ra Sa) := by
  refine ct_in pn_X11 (Nat.le_of_ble_eq_true rfl) (fun X hX hT hIn => ?_)
  have hX : aK l0 X cX11_broken 4 RX11 (some .int) 2 0 0 := hX
  change WW X 0 [some (kR (some 49)), some (kI a), some (kI b), none] [] Ia Ja Ra Sa 0 0
  have qIa := RX_o hQ
  refine ww_aload_n hX (pc := 0) dX11_broken_0 rfl ?_
  refine ww_iload_n hX (pc := 1) dX11_broken_1 rfl ?_
  refine vI1 hX (pc := 2) sX11_116 (xs_49 hL) (c_X11_isLamp l0 hL hQ (by omega) (by omega)) (by decide) (Nat.le_refl 0) (Nat.le_refl 0) (Nat.le_of_ble_eq_true rfl) dX11_broken_2 (fun x_2 I_2 J_2 h_2 => ?_)
  obtain ⟨rfl, rfl, h_2⟩ := h_2
  refine ww_if_eq hX (pc := 5) (tgt := 17) dX11_broken_5 (by decide) (fun h_5 => ?_) (fun h_5 => ?_)
  · simp only [w32_mod] at h_5
    refine ww_aload_n hX (pc := 17) dX11_broken_17 rfl ?_
    refine ww_iconst hX (pc := 18) (x := (-1)) dX11_broken_18 rfl ?_
    refine vI1 hX (pc := 19) sX11_105 (xs_49 hL) (c_X11_refuses l0 hL hQ (by omega) (by omega)) (by decide) (Nat.le_refl 0) (Nat.le_refl 0) (Nat.le_of_ble_eq_true rfl) dX11_broken_19 (fun x_19 I_19 J_19 h_19 => ?_)
    have kJ_19 : Kp 49 73 Ja J_19 := Kp_tr (Kp_rf (a := 49) (b := 73)) h_19.2.1
    have kI_19 : Ch [50, 51] [0, 1] Ia I_19 := Ch_tr Ch_rf (Ch_wd h_19.1 (by decide) (by decide))
    have cI_19 : RX I_19 := h_19.2.2.1
    have qI_19 := RX_o cI_19
    have r304_I_19 : I_19 51 304 = Ia 51 304 := by rw [h_19.1.1 51 (by decide) (by decide)]
    have r305_I_19 : I_19 51 305 = Ia 51 305 := by rw [h_19.1.1 51 (by decide) (by decide)]
    have rf_I_19 : FU (I_19 51 304) = FU (Ia 51 304) := by rw [r304_I_19]
    have xv19 := h_19.2.2.2
    refine rI hX (pc := 22) hT (Nat.le_refl 0) (Nat.le_refl 0) dX11_broken_22 ?_
    exact ⟨kI_19, kJ_19, cI_19, (fun _ => ⟨xv19, h_19.1.1 51 (by decide) (by decide)⟩), (fun h9 => absurd h9 (by omega))⟩
  · simp only [w32_mod] at h_5
    have k_2 := h_2.2.mp (by omega)
    clear h_2
    refine ww_iload_n hX (pc := 8) dX11_broken_8 rfl ?_
    refine ww_iconst hX (pc := 9) (x := 0) dX11_broken_9 rfl ?_
    refine ww_iconst hX (pc := 10) (x := 1) dX11_broken_10 rfl ?_
    refine sI3 hX (pc := 11) sX11_101 (c_X11_lies l0 (by omega) (by omega) (by omega) (by omega) (by omega) (by omega)) (by decide) (Nat.le_refl 0) (Nat.le_refl 0) (Nat.le_of_ble_eq_true rfl) dX11_broken_11 (fun x_11 I_11 J_11 h_11 => ?_)
    obtain ⟨rfl, rfl, h_11⟩ := h_11
    refine ww_if_ne hX (pc := 14) (tgt := 23) dX11_broken_14 (by decide) (fun h_14 => ?_) (fun h_14 => ?_)
    · simp only [w32_mod] at h_14
      have k_11 := h_11.2.mp (by omega)
      clear h_11
      refine ww_aload_n hX (pc := 23) dX11_broken_23 rfl ?_
      refine ww_getR hX (pc := 24) fX11_20 (by decide) (xs_49 hL) (xr_49_3 hL) dX11_broken_24 ?_
      refine ww_sipush hX (pc := 27) (x := 306) dX11_broken_27 (by decide) ?_
      refine ww_iald hX (pc := 30) (xs_51 hL) (by decide) (by omega) (by omega) dX11_broken_30 ?_
      refine ww_toI (b := Ia 51 306) rfl ?_
      refine ww_iload_n hX (pc := 31) dX11_broken_31 rfl ?_
      refine ww_ishr hX (pc := 32) dX11_broken_32 ?_
      refine ww_iconst hX (pc := 33) (x := 1) dX11_broken_33 rfl ?_
      refine ww_iand hX (pc := 34) dX11_broken_34 ?_
      refine ww_nmI (fun v_35 hv_35 => ?_)
      refine ww_istore_n hX (pc := 35) (lv' := [some (kR (some 49)), some (kI a), some (kI b), some (kI v_35)]) dX11_broken_35 (by decide) rfl rfl ?_
      refine ww_aload_n hX (pc := 36) dX11_broken_36 rfl ?_
      refine ww_getR hX (pc := 37) fX11_20 (by decide) (xs_49 hL) (xr_49_3 hL) dX11_broken_37 ?_
      refine ww_sipush hX (pc := 40) (x := 306) dX11_broken_40 (by decide) ?_
      refine ww_aload_n hX (pc := 43) dX11_broken_43 rfl ?_
      refine ww_getR hX (pc := 44) fX11_20 (by decide) (xs_49 hL) (xr_49_3 hL) dX11_broken_44 ?_
      refine ww_sipush hX (pc := 47) (x := 306) dX11_broken_47 (by decide) ?_
      refine ww_iald hX (pc := 50) (xs_51 hL) (by decide) (by omega) (by omega) dX11_broken_50 ?_
      refine ww_toI (b := Ia 51 306) rfl ?_
      refine ww_iconst hX (pc := 51) (x := 1) dX11_broken_51 rfl ?_
      refine ww_iload_n hX (pc := 52) dX11_broken_52 rfl ?_
      refine ww_ishl hX (pc := 53) dX11_broken_53 ?_
      refine ww_iconst hX (pc := 54) (x := (-1)) dX11_broken_54 rfl ?_
      refine ww_ixor hX (pc := 55) dX11_broken_55 ?_
      refine ww_iand hX (pc := 56) dX11_broken_56 ?_
      refine ww_iload_n hX (pc := 57) dX11_broken_57 rfl ?_
      refine ww_iload_n hX (pc := 58) dX11_broken_58 rfl ?_
      refine ww_ishl hX (pc := 59) dX11_broken_59 ?_
      refine ww_ior hX (pc := 60) dX11_broken_60 ?_
      refine ww_iast hX (pc := 61) (xs_51 hL) (by decide) (by omega) (by omega) dX11_broken_61 ?_
      refine ww_nmH (fun I_61 eI_61 => ?_)
      have kI_61 : Ch [50, 51] [0, 1] Ia I_61 := by rw [eI_61]; exact Ch_r Ch_rf (by decide) (by decide)
      have cI_61 : RX I_61 := by rw [eI_61]; exact RX_lo hQ (by decide)
      have qI_61 := RX_o cI_61
      have r304_I_61 : I_61 51 304 = Ia 51 304 := by rw [eI_61, up2_n _ _ (Or.inr (by decide))]
      have r305_I_61 : I_61 51 305 = Ia 51 305 := by rw [eI_61, up2_n _ _ (Or.inr (by decide))]
      have rf_I_61 : FU (I_61 51 304) = FU (Ia 51 304) := by rw [r304_I_61]
      have g61 : I_61 51 = up1 (Ia 51) 306 (i_or (i_and (Ia 51 306) (i_xor (i_shl 1 a) (-1))) (i_shl b a)) := by rw [eI_61, up2_row]; rfl
      refine ww_aload_n hX (pc := 62) dX11_broken_62 rfl ?_
      refine ww_iload_n hX (pc := 63) dX11_broken_63 rfl ?_
      refine vI1 hX (pc := 64) sX11_109 (xs_49 hL) (c_X11_good l0 hL cI_61 ) (by decide) (Nat.le_refl 0) (Nat.le_refl 0) (Nat.le_of_ble_eq_true rfl) dX11_broken_64 (fun x_64 I_64 J_64 h_64 => ?_)
      have kJ_64 : Kp 49 73 Ja J_64 := Kp_tr (Kp_rf (a := 49) (b := 73)) h_64.2.1
      have kI_64 : Ch [50, 51] [0, 1] Ia I_64 := Ch_tr kI_61 (Ch_wd h_64.1 (by decide) (by decide))
      have cI_64 : RX I_64 := h_64.2.2.1
      have qI_64 := RX_o cI_64
      have r304_I_64 : I_64 51 304 = I_61 51 304 := by rw [h_64.1.1 51 (by decide) (by decide)]
      have r305_I_64 : I_64 51 305 = I_61 51 305 := by rw [h_64.1.1 51 (by decide) (by decide)]
      have rf_I_64 : FU (I_64 51 304) = FU (I_61 51 304) := by rw [r304_I_64]
      have xv64 := h_64.2.2.2
      refine rI hX (pc := 67) hT (Nat.le_refl 0) (Nat.le_refl 0) dX11_broken_67 ?_
      exact ⟨kI_64, kJ_64, cI_64, (fun h9 => absurd (by omega) h9), (fun _ => ⟨by rw [xv64, hv_35], by rw [h_64.1.1 51 (by decide) (by decide), g61]⟩)⟩
    · simp only [w32_mod] at h_14
      refine ww_aload_n hX (pc := 17) dX11_broken_17 rfl ?_
      refine ww_iconst hX (pc := 18) (x := (-1)) dX11_broken_18 rfl ?_
      refine vI1 hX (pc := 19) sX11_105 (xs_49 hL) (c_X11_refuses l0 hL hQ (by omega) (by omega)) (by decide) (Nat.le_refl 0) (Nat.le_refl 0) (Nat.le_of_ble_eq_true rfl) dX11_broken_19 (fun x_19 I_19 J_19 h_19 => ?_)
      have kJ_19 : Kp 49 73 Ja J_19 := Kp_tr (Kp_rf (a := 49) (b := 73)) h_19.2.1
      have kI_19 : Ch [50, 51] [0, 1] Ia I_19 := Ch_tr Ch_rf (Ch_wd h_19.1 (by decide) (by decide))
      have cI_19 : RX I_19 := h_19.2.2.1
      have qI_19 := RX_o cI_19
      have r304_I_19 : I_19 51 304 = Ia 51 304 := by rw [h_19.1.1 51 (by decide) (by decide)]
      have r305_I_19 : I_19 51 305 = Ia 51 305 := by rw [h_19.1.1 51 (by decide) (by decide)]
      have rf_I_19 : FU (I_19 51 304) = FU (Ia 51 304) := by rw [r304_I_19]
      have xv19 := h_19.2.2.2
      refine rI hX (pc := 22) hT (Nat.le_refl 0) (Nat.le_refl 0) dX11_broken_22 ?_
      exact ⟨kI_19, kJ_19, cI_19, (fun _ => ⟨xv19, h_19.1.1 51 (by decide) (by decide)⟩), (fun h9 => absurd h9 (by omega))⟩
set_option maxHeartbeats 4000000 in
set_option maxRecDepth 20000 in
theorem c5_X11_read (l0 : Launch) {Ia Ja : aI1} {Ra : aR1} {Sa : aS1} (hL : LY Ra Sa) (hQ : RX Ia) {a b : Int} (ha0 : -2147483648 ≤ a) (ha1 : a < 2147483648) (hb0 : -2147483648 ≤ b) (hb1 : b < 2147483648)  : CT l0 2 0 0 mX11_read [kR (some 49), kI a, kI b] Ia Ja Ra Sa (cI (fun x I' J' => Ch [50, 51] [0, 1] Ia I' ∧ Kp 49 73 Ja J' ∧ RX I' ∧ (¬ (0 ≤ a ∧ a ≤ FU (Ia 51 304) ∧ (b = -1 ∨ (0 ≤ b ∧ b < Ia 51 305))) → x = -1 ∧ I' 51 = Ia 51) ∧ ((0 ≤ a ∧ a ≤ FU (Ia 51 304) ∧ (b = -1 ∨ (0 ≤ b ∧ b < Ia 51 305))) → x = Ia 51 a.toNat ∧ I' 51 = up1 (Ia 51) a.toNat b)) Ra Sa) := by
  refine ct_in pn_X11 (Nat.le_of_ble_eq_true rfl) (fun X hX hT hIn => ?_)
  have hX : aK l0 X cX11_read 4 RX11 (some .int) 2 0 0 := hX
  change WW X 0 [some (kR (some 49)), some (kI a), some (kI b), none] [] Ia Ja Ra Sa 0 0
  have qIa := RX_o hQ
  refine ww_aload_n hX (pc := 0) dX11_read_0 rfl ?_
  refine ww_iload_n hX (pc := 1) dX11_read_1 rfl ?_
  refine vI1 hX (pc := 2) sX11_120 (xs_49 hL) (c_X11_isState l0 hL hQ (by omega) (by omega)) (by decide) (Nat.le_refl 0) (Nat.le_refl 0) (Nat.le_of_ble_eq_true rfl) dX11_read_2 (fun x_2 I_2 J_2 h_2 => ?_)
  obtain ⟨rfl, rfl, h_2⟩ := h_2
  refine ww_if_eq hX (pc := 5) (tgt := 21) dX11_read_5 (by decide) (fun h_5 => ?_) (fun h_5 => ?_)
  · simp only [w32_mod] at h_5
    refine ww_aload_n hX (pc := 21) dX11_read_21 rfl ?_
    refine ww_iconst hX (pc := 22) (x := (-1)) dX11_read_22 rfl ?_
    refine vI1 hX (pc := 23) sX11_105 (xs_49 hL) (c_X11_refuses l0 hL hQ (by omega) (by omega)) (by decide) (Nat.le_refl 0) (Nat.le_refl 0) (Nat.le_of_ble_eq_true rfl) dX11_read_23 (fun x_23 I_23 J_23 h_23 => ?_)
    have kJ_23 : Kp 49 73 Ja J_23 := Kp_tr (Kp_rf (a := 49) (b := 73)) h_23.2.1
    have kI_23 : Ch [50, 51] [0, 1] Ia I_23 := Ch_tr Ch_rf (Ch_wd h_23.1 (by decide) (by decide))
    have cI_23 : RX I_23 := h_23.2.2.1
    have qI_23 := RX_o cI_23
    have r304_I_23 : I_23 51 304 = Ia 51 304 := by rw [h_23.1.1 51 (by decide) (by decide)]
    have r305_I_23 : I_23 51 305 = Ia 51 305 := by rw [h_23.1.1 51 (by decide) (by decide)]
    have rf_I_23 : FU (I_23 51 304) = FU (Ia 51 304) := by rw [r304_I_23]
    have xv23 := h_23.2.2.2
    refine rI hX (pc := 26) hT (Nat.le_refl 0) (Nat.le_refl 0) dX11_read_26 ?_
    exact ⟨kI_23, kJ_23, cI_23, (fun _ => ⟨xv23, h_23.1.1 51 (by decide) (by decide)⟩), (fun h9 => absurd h9 (by omega))⟩
  · simp only [w32_mod] at h_5
    have k_2 := h_2.2.mp (by omega)
    clear h_2
    refine ww_iload_n hX (pc := 8) dX11_read_8 rfl ?_
    refine ww_iconst hX (pc := 9) (x := (-1)) dX11_read_9 rfl ?_
    refine ww_icmp_eq hX (pc := 10) (tgt := 27) dX11_read_10 (by decide) (fun h_10 => ?_) (fun h_10 => ?_)
    · simp only [w32_mod] at h_10
      refine ww_aload_n hX (pc := 27) dX11_read_27 rfl ?_
      refine ww_iload_n hX (pc := 28) dX11_read_28 rfl ?_
      refine vI1 hX (pc := 29) sX11_126 (xs_49 hL) (c_X11_readOf l0 hL hQ (by omega) (by omega)) (by decide) (Nat.le_refl 0) (Nat.le_refl 0) (Nat.le_of_ble_eq_true rfl) dX11_read_29 (fun x_29 I_29 J_29 h_29 => ?_)
      obtain ⟨rfl, rfl, h_29⟩ := h_29
      refine ww_istore_n hX (pc := 32) (lv' := [some (kR (some 49)), some (kI a), some (kI b), some (kI x_29)]) dX11_read_32 (by decide) rfl rfl ?_
      refine ww_aload_n hX (pc := 33) dX11_read_33 rfl ?_
      refine ww_getR hX (pc := 34) fX11_20 (by decide) (xs_49 hL) (xr_49_3 hL) dX11_read_34 ?_
      refine ww_iconst hX (pc := 37) (x := 0) dX11_read_37 rfl ?_
      refine ww_iload_n hX (pc := 38) dX11_read_38 rfl ?_
      refine ww_iadd hX (pc := 39) dX11_read_39 ?_
      refine ww_iload_n hX (pc := 40) dX11_read_40 rfl ?_
      refine ww_iast hX (pc := 41) (xs_51 hL) (by decide) (by omega) (by omega) dX11_read_41 ?_
      refine ww_nmH (fun I_41 eI_41 => ?_)
      have kI_41 : Ch [50, 51] [0, 1] Ia I_41 := by rw [eI_41]; exact Ch_r Ch_rf (by decide) (by decide)
      have cI_41 : RX I_41 := by rw [eI_41]; exact RX_lo hQ (by omega)
      have qI_41 := RX_o cI_41
      have r304_I_41 : I_41 51 304 = Ia 51 304 := by rw [eI_41, up2_n _ _ (Or.inr (by omega))]
      have r305_I_41 : I_41 51 305 = Ia 51 305 := by rw [eI_41, up2_n _ _ (Or.inr (by omega))]
      have rf_I_41 : FU (I_41 51 304) = FU (Ia 51 304) := by rw [r304_I_41]
      have g41 : I_41 51 = up1 (Ia 51) a.toNat b := by rw [eI_41, up2_row, show (0 + a).toNat = a.toNat by omega]
      refine ww_aload_n hX (pc := 42) dX11_read_42 rfl ?_
      refine ww_iload_n hX (pc := 43) dX11_read_43 rfl ?_
      refine vI1 hX (pc := 44) sX11_109 (xs_49 hL) (c_X11_good l0 hL cI_41 ) (by decide) (Nat.le_refl 0) (Nat.le_refl 0) (Nat.le_of_ble_eq_true rfl) dX11_read_44 (fun x_44 I_44 J_44 h_44 => ?_)
      have kJ_44 : Kp 49 73 Ja J_44 := Kp_tr (Kp_rf (a := 49) (b := 73)) h_44.2.1
      have kI_44 : Ch [50, 51] [0, 1] Ia I_44 := Ch_tr kI_41 (Ch_wd h_44.1 (by decide) (by decide))
      have cI_44 : RX I_44 := h_44.2.2.1
      have qI_44 := RX_o cI_44
      have r304_I_44 : I_44 51 304 = I_41 51 304 := by rw [h_44.1.1 51 (by decide) (by decide)]
      have r305_I_44 : I_44 51 305 = I_41 51 305 := by rw [h_44.1.1 51 (by decide) (by decide)]
      have rf_I_44 : FU (I_44 51 304) = FU (I_41 51 304) := by rw [r304_I_44]
      have xv44 := h_44.2.2.2
      refine rI hX (pc := 47) hT (Nat.le_refl 0) (Nat.le_refl 0) dX11_read_47 ?_
      exact ⟨kI_44, kJ_44, cI_44, (fun h9 => absurd (by omega) h9), (fun _ => ⟨by rw [xv44]; exact h_29, by rw [h_44.1.1 51 (by decide) (by decide), g41]⟩)⟩
    · simp only [w32_mod] at h_10
      refine ww_aload_n hX (pc := 13) dX11_read_13 rfl ?_
      refine ww_iload_n hX (pc := 14) dX11_read_14 rfl ?_
      refine vI1 hX (pc := 15) sX11_123 (xs_49 hL) (c_X11_isNews l0 hL hQ (by omega) (by omega)) (by decide) (Nat.le_refl 0) (Nat.le_refl 0) (Nat.le_of_ble_eq_true rfl) dX11_read_15 (fun x_15 I_15 J_15 h_15 => ?_)
      obtain ⟨rfl, rfl, h_15⟩ := h_15
      refine ww_if_ne hX (pc := 18) (tgt := 27) dX11_read_18 (by decide) (fun h_18 => ?_) (fun h_18 => ?_)
      · simp only [w32_mod] at h_18
        have k_15 := h_15.2.mp (by omega)
        clear h_15
        refine ww_aload_n hX (pc := 27) dX11_read_27 rfl ?_
        refine ww_iload_n hX (pc := 28) dX11_read_28 rfl ?_
        refine vI1 hX (pc := 29) sX11_126 (xs_49 hL) (c_X11_readOf l0 hL hQ (by omega) (by omega)) (by decide) (Nat.le_refl 0) (Nat.le_refl 0) (Nat.le_of_ble_eq_true rfl) dX11_read_29 (fun x_29 I_29 J_29 h_29 => ?_)
        obtain ⟨rfl, rfl, h_29⟩ := h_29
        refine ww_istore_n hX (pc := 32) (lv' := [some (kR (some 49)), some (kI a), some (kI b), some (kI x_29)]) dX11_read_32 (by decide) rfl rfl ?_
        refine ww_aload_n hX (pc := 33) dX11_read_33 rfl ?_
        refine ww_getR hX (pc := 34) fX11_20 (by decide) (xs_49 hL) (xr_49_3 hL) dX11_read_34 ?_
        refine ww_iconst hX (pc := 37) (x := 0) dX11_read_37 rfl ?_
        refine ww_iload_n hX (pc := 38) dX11_read_38 rfl ?_
        refine ww_iadd hX (pc := 39) dX11_read_39 ?_
        refine ww_iload_n hX (pc := 40) dX11_read_40 rfl ?_
        refine ww_iast hX (pc := 41) (xs_51 hL) (by decide) (by omega) (by omega) dX11_read_41 ?_
        refine ww_nmH (fun I_41 eI_41 => ?_)
        have kI_41 : Ch [50, 51] [0, 1] Ia I_41 := by rw [eI_41]; exact Ch_r Ch_rf (by decide) (by decide)
        have cI_41 : RX I_41 := by rw [eI_41]; exact RX_lo hQ (by omega)
        have qI_41 := RX_o cI_41
        have r304_I_41 : I_41 51 304 = Ia 51 304 := by rw [eI_41, up2_n _ _ (Or.inr (by omega))]
        have r305_I_41 : I_41 51 305 = Ia 51 305 := by rw [eI_41, up2_n _ _ (Or.inr (by omega))]
        have rf_I_41 : FU (I_41 51 304) = FU (Ia 51 304) := by rw [r304_I_41]
        have g41 : I_41 51 = up1 (Ia 51) a.toNat b := by rw [eI_41, up2_row, show (0 + a).toNat = a.toNat by omega]
        refine ww_aload_n hX (pc := 42) dX11_read_42 rfl ?_
        refine ww_iload_n hX (pc := 43) dX11_read_43 rfl ?_
        refine vI1 hX (pc := 44) sX11_109 (xs_49 hL) (c_X11_good l0 hL cI_41 ) (by decide) (Nat.le_refl 0) (Nat.le_refl 0) (Nat.le_of_ble_eq_true rfl) dX11_read_44 (fun x_44 I_44 J_44 h_44 => ?_)
        have kJ_44 : Kp 49 73 Ja J_44 := Kp_tr (Kp_rf (a := 49) (b := 73)) h_44.2.1
        have kI_44 : Ch [50, 51] [0, 1] Ia I_44 := Ch_tr kI_41 (Ch_wd h_44.1 (by decide) (by decide))
        have cI_44 : RX I_44 := h_44.2.2.1
        have qI_44 := RX_o cI_44
        have r304_I_44 : I_44 51 304 = I_41 51 304 := by rw [h_44.1.1 51 (by decide) (by decide)]
        have r305_I_44 : I_44 51 305 = I_41 51 305 := by rw [h_44.1.1 51 (by decide) (by decide)]
        have rf_I_44 : FU (I_44 51 304) = FU (I_41 51 304) := by rw [r304_I_44]
        have xv44 := h_44.2.2.2
        refine rI hX (pc := 47) hT (Nat.le_refl 0) (Nat.le_refl 0) dX11_read_47 ?_
        exact ⟨kI_44, kJ_44, cI_44, (fun h9 => absurd (by omega) h9), (fun _ => ⟨by rw [xv44]; exact h_29, by rw [h_44.1.1 51 (by decide) (by decide), g41]⟩)⟩
      · simp only [w32_mod] at h_18
        refine ww_aload_n hX (pc := 21) dX11_read_21 rfl ?_
        refine ww_iconst hX (pc := 22) (x := (-1)) dX11_read_22 rfl ?_
        refine vI1 hX (pc := 23) sX11_105 (xs_49 hL) (c_X11_refuses l0 hL hQ (by omega) (by omega)) (by decide) (Nat.le_refl 0) (Nat.le_refl 0) (Nat.le_of_ble_eq_true rfl) dX11_read_23 (fun x_23 I_23 J_23 h_23 => ?_)
        have kJ_23 : Kp 49 73 Ja J_23 := Kp_tr (Kp_rf (a := 49) (b := 73)) h_23.2.1
        have kI_23 : Ch [50, 51] [0, 1] Ia I_23 := Ch_tr Ch_rf (Ch_wd h_23.1 (by decide) (by decide))
        have cI_23 : RX I_23 := h_23.2.2.1
        have qI_23 := RX_o cI_23
        have r304_I_23 : I_23 51 304 = Ia 51 304 := by rw [h_23.1.1 51 (by decide) (by decide)]
        have r305_I_23 : I_23 51 305 = Ia 51 305 := by rw [h_23.1.1 51 (by decide) (by decide)]
        have rf_I_23 : FU (I_23 51 304) = FU (Ia 51 304) := by rw [r304_I_23]
        have xv23 := h_23.2.2.2
        refine rI hX (pc := 26) hT (Nat.le_refl 0) (Nat.le_refl 0) dX11_read_26 ?_
        exact ⟨kI_23, kJ_23, cI_23, (fun _ => ⟨xv23, h_23.1.1 51 (by decide) (by decide)⟩), (fun h9 => absurd h9 (by omega))⟩
set_option maxHeartbeats 4000000 in
set_option maxRecDepth 20000 in
theorem c5_X11_unwant (l0 : Launch) {Ia Ja : aI1} {Ra : aR1} {Sa : aS1} (hL : LY Ra Sa) (hQ : RX Ia)  : CT l0 0 0 0 mX11_unwant [kR (some 49)] Ia Ja Ra Sa (cI (fun x I' J' => Ch [51] [1] Ia I' ∧ Kp 49 73 Ja J' ∧ RX I' ∧ x = Ia 51 309 ∧ I' 51 = up1 (Ia 51) 309 0) Ra Sa) := by
  refine ct_in pn_X11 (Nat.le_of_ble_eq_true rfl) (fun X hX hT hIn => ?_)
  have hX : aK l0 X cX11_unwant 2 RX11 (some .int) 0 0 0 := hX
  change WW X 0 [some (kR (some 49)), none] [] Ia Ja Ra Sa 0 0
  have qIa := RX_o hQ
  refine ww_aload_n hX (pc := 0) dX11_unwant_0 rfl ?_
  refine ww_getR hX (pc := 1) fX11_20 (by decide) (xs_49 hL) (xr_49_3 hL) dX11_unwant_1 ?_
  refine ww_sipush hX (pc := 4) (x := 309) dX11_unwant_4 (by decide) ?_
  refine ww_iald hX (pc := 7) (xs_51 hL) (by decide) (by omega) (by omega) dX11_unwant_7 ?_
  refine ww_toI (b := Ia 51 309) rfl ?_
  refine ww_nmI (fun v_8 hv_8 => ?_)
  refine ww_istore_n hX (pc := 8) (lv' := [some (kR (some 49)), some (kI v_8)]) dX11_unwant_8 (by decide) rfl rfl ?_
  refine ww_aload_n hX (pc := 9) dX11_unwant_9 rfl ?_
  refine ww_getR hX (pc := 10) fX11_20 (by decide) (xs_49 hL) (xr_49_3 hL) dX11_unwant_10 ?_
  refine ww_sipush hX (pc := 13) (x := 309) dX11_unwant_13 (by decide) ?_
  refine ww_iconst hX (pc := 16) (x := 0) dX11_unwant_16 rfl ?_
  refine ww_iast hX (pc := 17) (xs_51 hL) (by decide) (by omega) (by omega) dX11_unwant_17 ?_
  refine ww_nmH (fun I_17 eI_17 => ?_)
  have kI_17 : Ch [51] [1] Ia I_17 := by rw [eI_17]; exact Ch_r Ch_rf (by decide) (by decide)
  have cI_17 : RX I_17 := by rw [eI_17]; exact RX_309 hQ (by omega) (by omega)
  have qI_17 := RX_o cI_17
  have g17 : I_17 51 = up1 (Ia 51) 309 0 := by rw [eI_17, up2_row]; rfl
  refine ww_aload_n hX (pc := 18) dX11_unwant_18 rfl ?_
  refine ww_dupR hX (pc := 19) dX11_unwant_19 ?_
  refine ww_getI hX (pc := 20) fX11_11 (by decide) (xs_49 hL) dX11_unwant_20 ?_
  refine ww_iconst hX (pc := 23) (x := 1) dX11_unwant_23 rfl ?_
  refine ww_iadd hX (pc := 24) dX11_unwant_24 ?_
  refine ww_putI hX (pc := 25) (fun h9 => absurd h9 (by decide)) gX11_11 rfl (xs_49 hL) dX11_unwant_25 ?_
  refine ww_nmH (fun I_25 eI_25 => ?_)
  have kI_25 : Ch [51] [1] Ia I_25 := by rw [eI_25]; exact Ch_f kI_17 (by decide)
  have cI_25 : RX I_25 := by rw [eI_25]; exact RX_f cI_17 (by decide)
  have qI_25 := RX_o cI_25
  have r309_I_25 : I_25 51 309 = I_17 51 309 := by rw [eI_25, up2_off _ _ _ (by decide)]
  have g25 : I_25 51 = I_17 51 := by rw [eI_25, up2_off _ _ _ (by decide)]
  refine ww_iload_n hX (pc := 28) dX11_unwant_28 rfl ?_
  refine rI hX (pc := 29) hT (Nat.le_refl 0) (Nat.le_refl 0) dX11_unwant_29 ?_
  exact ⟨kI_25, (Kp_rf (a := 49) (b := 73)), cI_25, hv_8, g25.trans g17⟩
set_option maxHeartbeats 4000000 in
set_option maxRecDepth 20000 in
theorem c5_X11_dawn (l0 : Launch) {Ia Ja : aI1} {Ra : aR1} {Sa : aS1} (hL : LY Ra Sa) (hQ : RX Ia)  : CT l0 1 0 0 mX11_dawn [kR (some 49)] Ia Ja Ra Sa (cI (fun x I' J' => Ch [51] [1] Ia I' ∧ Kp 49 73 Ja J' ∧ RX I' ∧ I' 51 = up1 (up1 (Ia 51) 307 0) 308 0) Ra Sa) := by
  refine ct_in pn_X11 (Nat.le_of_ble_eq_true rfl) (fun X hX hT hIn => ?_)
  have hX : aK l0 X cX11_dawn 2 RX11 (some .int) 1 0 0 := hX
  change WW X 0 [some (kR (some 49)), none] [] Ia Ja Ra Sa 0 0
  have qIa := RX_o hQ
  refine ww_aload_n hX (pc := 0) dX11_dawn_0 rfl ?_
  refine ww_getR hX (pc := 1) fX11_20 (by decide) (xs_49 hL) (xr_49_3 hL) dX11_dawn_1 ?_
  refine ww_sipush hX (pc := 4) (x := 307) dX11_dawn_4 (by decide) ?_
  refine ww_iald hX (pc := 7) (xs_51 hL) (by decide) (by omega) (by omega) dX11_dawn_7 ?_
  refine ww_toI (b := Ia 51 307) rfl ?_
  refine sI1 hX (pc := 8) sX11_259 (c_X11_ones l0 ) (by decide) (Nat.le_refl 0) (Nat.le_refl 0) (Nat.le_of_ble_eq_true rfl) dX11_dawn_8 (fun x_8 I_8 J_8 h_8 => ?_)
  obtain ⟨rfl, rfl, h_8⟩ := h_8
  refine ww_istore_n hX (pc := 11) (lv' := [some (kR (some 49)), some (kI x_8)]) dX11_dawn_11 (by decide) rfl rfl ?_
  refine ww_aload_n hX (pc := 12) dX11_dawn_12 rfl ?_
  refine ww_getR hX (pc := 13) fX11_20 (by decide) (xs_49 hL) (xr_49_3 hL) dX11_dawn_13 ?_
  refine ww_sipush hX (pc := 16) (x := 307) dX11_dawn_16 (by decide) ?_
  refine ww_iconst hX (pc := 19) (x := 0) dX11_dawn_19 rfl ?_
  refine ww_iast hX (pc := 20) (xs_51 hL) (by decide) (by omega) (by omega) dX11_dawn_20 ?_
  refine ww_nmH (fun I_20 eI_20 => ?_)
  have kI_20 : Ch [51] [1] Ia I_20 := by rw [eI_20]; exact Ch_r Ch_rf (by decide) (by decide)
  have cI_20 : RX I_20 := by rw [eI_20]; exact RX_307 hQ (by omega) (by omega)
  have qI_20 := RX_o cI_20
  have g20 : I_20 51 = up1 (Ia 51) 307 0 := by rw [eI_20, up2_row]; rfl
  refine ww_aload_n hX (pc := 21) dX11_dawn_21 rfl ?_
  refine ww_getR hX (pc := 22) fX11_20 (by decide) (xs_49 hL) (xr_49_3 hL) dX11_dawn_22 ?_
  refine ww_sipush hX (pc := 25) (x := 308) dX11_dawn_25 (by decide) ?_
  refine ww_iconst hX (pc := 28) (x := 0) dX11_dawn_28 rfl ?_
  refine ww_iast hX (pc := 29) (xs_51 hL) (by decide) (by omega) (by omega) dX11_dawn_29 ?_
  refine ww_nmH (fun I_29 eI_29 => ?_)
  have kI_29 : Ch [51] [1] Ia I_29 := by rw [eI_29]; exact Ch_r kI_20 (by decide) (by decide)
  have cI_29 : RX I_29 := by rw [eI_29]; exact RX_308 cI_20 (by omega) (by omega)
  have qI_29 := RX_o cI_29
  have r307_I_29 : I_29 51 307 = I_20 51 307 := by rw [eI_29, up2_n _ _ (Or.inr (by decide))]
  have g29 : I_29 51 = up1 (up1 (Ia 51) 307 0) 308 0 := by rw [eI_29, up2_row, g20]; rfl
  refine ww_aload_n hX (pc := 30) dX11_dawn_30 rfl ?_
  refine ww_dupR hX (pc := 31) dX11_dawn_31 ?_
  refine ww_getI hX (pc := 32) fX11_11 (by decide) (xs_49 hL) dX11_dawn_32 ?_
  refine ww_iconst hX (pc := 35) (x := 1) dX11_dawn_35 rfl ?_
  refine ww_iadd hX (pc := 36) dX11_dawn_36 ?_
  refine ww_putI hX (pc := 37) (fun h9 => absurd h9 (by decide)) gX11_11 rfl (xs_49 hL) dX11_dawn_37 ?_
  refine ww_nmH (fun I_37 eI_37 => ?_)
  have kI_37 : Ch [51] [1] Ia I_37 := by rw [eI_37]; exact Ch_f kI_29 (by decide)
  have cI_37 : RX I_37 := by rw [eI_37]; exact RX_f cI_29 (by decide)
  have qI_37 := RX_o cI_37
  have r307_I_37 : I_37 51 307 = I_29 51 307 := by rw [eI_37, up2_off _ _ _ (by decide)]
  have g37 : I_37 51 = I_29 51 := by rw [eI_37, up2_off _ _ _ (by decide)]
  refine ww_iload_n hX (pc := 40) dX11_dawn_40 rfl ?_
  refine rI hX (pc := 41) hT (Nat.le_refl 0) (Nat.le_refl 0) dX11_dawn_41 ?_
  exact ⟨kI_37, (Kp_rf (a := 49) (b := 73)), cI_37, g37.trans g29⟩
set_option maxHeartbeats 4000000 in
set_option maxRecDepth 20000 in
theorem c5_X11_want (l0 : Launch) {Ia Ja : aI1} {Ra : aR1} {Sa : aS1} (hL : LY Ra Sa) (hQ : RX Ia) {a : Int} (ha0 : -2147483648 ≤ a) (ha1 : a < 2147483648)  : CT l0 2 0 0 mX11_want [kR (some 49), kI a] Ia Ja Ra Sa (cI (fun x I' J' => Ch [50, 51] [0, 1] Ia I' ∧ Kp 49 73 Ja J' ∧ RX I' ∧ (¬ (0 ≤ a ∧ a < Ia 51 305) → x = -1 ∧ I' 51 = Ia 51) ∧ ((0 ≤ a ∧ a < Ia 51 305) → (16 ≤ Ia 51 309 → x = -5 ∧ I' 51 = Ia 51) ∧ (Ia 51 309 < 16 → x = Ia 51 309 + 1 ∧ I' 51 = up1 (up1 (Ia 51) (288 + (Ia 51 309).toNat) a) 309 (Ia 51 309 + 1)))) Ra Sa) := by
  refine ct_in pn_X11 (Nat.le_of_ble_eq_true rfl) (fun X hX hT hIn => ?_)
  have hX : aK l0 X cX11_want 2 RX11 (some .int) 2 0 0 := hX
  change WW X 0 [some (kR (some 49)), some (kI a)] [] Ia Ja Ra Sa 0 0
  have qIa := RX_o hQ
  refine ww_aload_n hX (pc := 0) dX11_want_0 rfl ?_
  refine ww_iload_n hX (pc := 1) dX11_want_1 rfl ?_
  refine vI1 hX (pc := 2) sX11_123 (xs_49 hL) (c_X11_isNews l0 hL hQ (by omega) (by omega)) (by decide) (Nat.le_refl 0) (Nat.le_refl 0) (Nat.le_of_ble_eq_true rfl) dX11_want_2 (fun x_2 I_2 J_2 h_2 => ?_)
  obtain ⟨rfl, rfl, h_2⟩ := h_2
  refine ww_if_ne hX (pc := 5) (tgt := 14) dX11_want_5 (by decide) (fun h_5 => ?_) (fun h_5 => ?_)
  · simp only [w32_mod] at h_5
    have k_2 := h_2.2.mp (by omega)
    clear h_2
    refine ww_aload_n hX (pc := 14) dX11_want_14 rfl ?_
    refine ww_getR hX (pc := 15) fX11_20 (by decide) (xs_49 hL) (xr_49_3 hL) dX11_want_15 ?_
    refine ww_sipush hX (pc := 18) (x := 309) dX11_want_18 (by decide) ?_
    refine ww_iald hX (pc := 21) (xs_51 hL) (by decide) (by omega) (by omega) dX11_want_21 ?_
    refine ww_toI (b := Ia 51 309) rfl ?_
    refine ww_bipush hX (pc := 22) (x := 16) dX11_want_22 (by decide) ?_
    refine ww_icmp_ne hX (pc := 24) (tgt := 34) dX11_want_24 (by decide) (fun h_24 => ?_) (fun h_24 => ?_)
    · simp only [w32_mod] at h_24
      refine ww_aload_n hX (pc := 34) dX11_want_34 rfl ?_
      refine ww_getR hX (pc := 35) fX11_20 (by decide) (xs_49 hL) (xr_49_3 hL) dX11_want_35 ?_
      refine ww_sipush hX (pc := 38) (x := 288) dX11_want_38 (by decide) ?_
      refine ww_aload_n hX (pc := 41) dX11_want_41 rfl ?_
      refine ww_getR hX (pc := 42) fX11_20 (by decide) (xs_49 hL) (xr_49_3 hL) dX11_want_42 ?_
      refine ww_sipush hX (pc := 45) (x := 309) dX11_want_45 (by decide) ?_
      refine ww_iald hX (pc := 48) (xs_51 hL) (by decide) (by omega) (by omega) dX11_want_48 ?_
      refine ww_toI (b := Ia 51 309) rfl ?_
      refine ww_iadd hX (pc := 49) dX11_want_49 ?_
      refine ww_iload_n hX (pc := 50) dX11_want_50 rfl ?_
      refine ww_iast hX (pc := 51) (xs_51 hL) (by decide) (by omega) (by omega) dX11_want_51 ?_
      refine ww_nmH (fun I_51 eI_51 => ?_)
      have kI_51 : Ch [50, 51] [0, 1] Ia I_51 := by rw [eI_51]; exact Ch_r Ch_rf (by decide) (by decide)
      have cI_51 : RX I_51 := by rw [eI_51]; exact RX_lo hQ (by omega)
      have qI_51 := RX_o cI_51
      have r304_I_51 : I_51 51 304 = Ia 51 304 := by rw [eI_51, up2_n _ _ (Or.inr (by omega))]
      have r305_I_51 : I_51 51 305 = Ia 51 305 := by rw [eI_51, up2_n _ _ (Or.inr (by omega))]
      have r309_I_51 : I_51 51 309 = Ia 51 309 := by rw [eI_51, up2_n _ _ (Or.inr (by omega))]
      have rf_I_51 : FU (I_51 51 304) = FU (Ia 51 304) := by rw [r304_I_51]
      have g51 : I_51 51 = up1 (Ia 51) (288 + (Ia 51 309).toNat) a := by rw [eI_51, up2_row]; exact congrArg (fun z => up1 (Ia 51) z a) (by omega)
      refine ww_aload_n hX (pc := 52) dX11_want_52 rfl ?_
      refine ww_getR hX (pc := 53) fX11_20 (by decide) (xs_49 hL) (xr_49_3 hL) dX11_want_53 ?_
      refine ww_sipush hX (pc := 56) (x := 309) dX11_want_56 (by decide) ?_
      refine ww_dup2 hX (pc := 59) dX11_want_59 ?_
      refine ww_iald hX (pc := 60) (xs_51 hL) (by decide) (by omega) (by omega) dX11_want_60 ?_
      refine ww_toI (b := I_51 51 309) rfl ?_
      refine ww_iconst hX (pc := 61) (x := 1) dX11_want_61 rfl ?_
      refine ww_iadd hX (pc := 62) dX11_want_62 ?_
      refine ww_iast hX (pc := 63) (xs_51 hL) (by decide) (by omega) (by omega) dX11_want_63 ?_
      refine ww_nmH (fun I_63 eI_63 => ?_)
      have kI_63 : Ch [50, 51] [0, 1] Ia I_63 := by rw [eI_63]; exact Ch_r kI_51 (by decide) (by decide)
      have cI_63 : RX I_63 := by rw [eI_63]; exact RX_309 cI_51 (by omega) (by omega)
      have qI_63 := RX_o cI_63
      have r304_I_63 : I_63 51 304 = I_51 51 304 := by rw [eI_63, up2_n _ _ (Or.inr (by decide))]
      have r305_I_63 : I_63 51 305 = I_51 51 305 := by rw [eI_63, up2_n _ _ (Or.inr (by decide))]
      have rf_I_63 : FU (I_63 51 304) = FU (I_51 51 304) := by rw [r304_I_63]
      have g63 : I_63 51 = up1 (up1 (Ia 51) (288 + (Ia 51 309).toNat) a) 309 (Ia 51 309 + 1) := by
        rw [eI_63, up2_row, g51]
        exact congrArg (fun z => up1 (up1 (Ia 51) (288 + (Ia 51 309).toNat) a) 309 (z + 1)) (by rw [← g51]; exact r309_I_51)
      refine ww_aload_n hX (pc := 64) dX11_want_64 rfl ?_
      refine ww_aload_n hX (pc := 65) dX11_want_65 rfl ?_
      refine ww_getR hX (pc := 66) fX11_20 (by decide) (xs_49 hL) (xr_49_3 hL) dX11_want_66 ?_
      refine ww_sipush hX (pc := 69) (x := 309) dX11_want_69 (by decide) ?_
      refine ww_iald hX (pc := 72) (xs_51 hL) (by decide) (by omega) (by omega) dX11_want_72 ?_
      refine ww_toI (b := I_63 51 309) rfl ?_
      refine vI1 hX (pc := 73) sX11_109 (xs_49 hL) (c_X11_good l0 hL cI_63 ) (by decide) (Nat.le_refl 0) (Nat.le_refl 0) (Nat.le_of_ble_eq_true rfl) dX11_want_73 (fun x_73 I_73 J_73 h_73 => ?_)
      have kJ_73 : Kp 49 73 Ja J_73 := Kp_tr (Kp_rf (a := 49) (b := 73)) h_73.2.1
      have kI_73 : Ch [50, 51] [0, 1] Ia I_73 := Ch_tr kI_63 (Ch_wd h_73.1 (by decide) (by decide))
      have cI_73 : RX I_73 := h_73.2.2.1
      have qI_73 := RX_o cI_73
      have r304_I_73 : I_73 51 304 = I_63 51 304 := by rw [h_73.1.1 51 (by decide) (by decide)]
      have r305_I_73 : I_73 51 305 = I_63 51 305 := by rw [h_73.1.1 51 (by decide) (by decide)]
      have r309_I_73 : I_73 51 309 = I_63 51 309 := by rw [h_73.1.1 51 (by decide) (by decide)]
      have rf_I_73 : FU (I_73 51 304) = FU (I_63 51 304) := by rw [r304_I_73]
      have xv73 := h_73.2.2.2
      refine rI hX (pc := 76) hT (Nat.le_refl 0) (Nat.le_refl 0) dX11_want_76 ?_
      exact ⟨kI_73, kJ_73, cI_73, (fun h9 => absurd (by omega) h9), (fun _ => ⟨(fun h9 => absurd h9 (by omega)), (fun _ => ⟨by rw [xv73, g63]; exact up1_s _ _ _, by rw [h_73.1.1 51 (by decide) (by decide), g63]⟩)⟩)⟩
    · simp only [w32_mod] at h_24
      refine ww_aload_n hX (pc := 27) dX11_want_27 rfl ?_
      refine ww_bipush hX (pc := 28) (x := (-5)) dX11_want_28 (by decide) ?_
      refine vI1 hX (pc := 30) sX11_105 (xs_49 hL) (c_X11_refuses l0 hL hQ (by omega) (by omega)) (by decide) (Nat.le_refl 0) (Nat.le_refl 0) (Nat.le_of_ble_eq_true rfl) dX11_want_30 (fun x_30 I_30 J_30 h_30 => ?_)
      have kJ_30 : Kp 49 73 Ja J_30 := Kp_tr (Kp_rf (a := 49) (b := 73)) h_30.2.1
      have kI_30 : Ch [50, 51] [0, 1] Ia I_30 := Ch_tr Ch_rf (Ch_wd h_30.1 (by decide) (by decide))
      have cI_30 : RX I_30 := h_30.2.2.1
      have qI_30 := RX_o cI_30
      have r304_I_30 : I_30 51 304 = Ia 51 304 := by rw [h_30.1.1 51 (by decide) (by decide)]
      have r305_I_30 : I_30 51 305 = Ia 51 305 := by rw [h_30.1.1 51 (by decide) (by decide)]
      have r309_I_30 : I_30 51 309 = Ia 51 309 := by rw [h_30.1.1 51 (by decide) (by decide)]
      have rf_I_30 : FU (I_30 51 304) = FU (Ia 51 304) := by rw [r304_I_30]
      have xv30 := h_30.2.2.2
      refine rI hX (pc := 33) hT (Nat.le_refl 0) (Nat.le_refl 0) dX11_want_33 ?_
      exact ⟨kI_30, kJ_30, cI_30, (fun h9 => absurd (by omega) h9), (fun _ => ⟨(fun _ => ⟨xv30, h_30.1.1 51 (by decide) (by decide)⟩), (fun h9 => absurd h9 (by omega))⟩)⟩
  · simp only [w32_mod] at h_5
    refine ww_aload_n hX (pc := 8) dX11_want_8 rfl ?_
    refine ww_iconst hX (pc := 9) (x := (-1)) dX11_want_9 rfl ?_
    refine vI1 hX (pc := 10) sX11_105 (xs_49 hL) (c_X11_refuses l0 hL hQ (by omega) (by omega)) (by decide) (Nat.le_refl 0) (Nat.le_refl 0) (Nat.le_of_ble_eq_true rfl) dX11_want_10 (fun x_10 I_10 J_10 h_10 => ?_)
    have kJ_10 : Kp 49 73 Ja J_10 := Kp_tr (Kp_rf (a := 49) (b := 73)) h_10.2.1
    have kI_10 : Ch [50, 51] [0, 1] Ia I_10 := Ch_tr Ch_rf (Ch_wd h_10.1 (by decide) (by decide))
    have cI_10 : RX I_10 := h_10.2.2.1
    have qI_10 := RX_o cI_10
    have r304_I_10 : I_10 51 304 = Ia 51 304 := by rw [h_10.1.1 51 (by decide) (by decide)]
    have r305_I_10 : I_10 51 305 = Ia 51 305 := by rw [h_10.1.1 51 (by decide) (by decide)]
    have r309_I_10 : I_10 51 309 = Ia 51 309 := by rw [h_10.1.1 51 (by decide) (by decide)]
    have rf_I_10 : FU (I_10 51 304) = FU (Ia 51 304) := by rw [r304_I_10]
    have xv10 := h_10.2.2.2
    refine rI hX (pc := 13) hT (Nat.le_refl 0) (Nat.le_refl 0) dX11_want_13 ?_
    exact ⟨kI_10, kJ_10, cI_10, (fun _ => ⟨xv10, h_10.1.1 51 (by decide) (by decide)⟩), (fun h9 => absurd h9 (by omega))⟩
set_option maxHeartbeats 4000000 in
set_option maxRecDepth 20000 in
theorem c5_X11_end (l0 : Launch) {Ia Ja : aI1} {Ra : aR1} {Sa : aS1} (hL : LY Ra Sa) (hQ : RX Ia) {a : Int} (ha0 : -2147483648 ≤ a) (ha1 : a < 2147483648)  : CT l0 1 0 0 mX11_end [kR (some 49), kI a] Ia Ja Ra Sa (cI (fun x I' J' => Ch [] [10] Ia I' ∧ Kp 49 73 Ja J' ∧ RX I' ∧ ((0 ≤ a ∧ a ≤ Ia 49 10) → x = a ∧ I' 49 10 = a) ∧ (¬ (0 ≤ a ∧ a ≤ Ia 49 10) → x = -1 ∧ I' 49 10 = Ia 49 10)) Ra Sa) := by
  refine ct_in pn_X11 (Nat.le_of_ble_eq_true rfl) (fun X hX hT hIn => ?_)
  have hX : aK l0 X cX11_end 2 RX11 (some .int) 1 0 0 := hX
  change WW X 0 [some (kR (some 49)), some (kI a)] [] Ia Ja Ra Sa 0 0
  have qIa := RX_o hQ
  refine ww_iload_n hX (pc := 0) dX11_end_0 rfl ?_
  refine ww_iconst hX (pc := 1) (x := 0) dX11_end_1 rfl ?_
  refine ww_aload_n hX (pc := 2) dX11_end_2 rfl ?_
  refine ww_getI hX (pc := 3) fX11_129 (by decide) (xs_49 hL) dX11_end_3 ?_
  refine sI3 hX (pc := 6) sX11_101 (c_X11_lies l0 (by omega) (by omega) (by omega) (by omega) (by omega) (by omega)) (by decide) (Nat.le_refl 0) (Nat.le_refl 0) (Nat.le_of_ble_eq_true rfl) dX11_end_6 (fun x_6 I_6 J_6 h_6 => ?_)
  obtain ⟨rfl, rfl, h_6⟩ := h_6
  refine ww_if_ne hX (pc := 9) (tgt := 14) dX11_end_9 (by decide) (fun h_9 => ?_) (fun h_9 => ?_)
  · simp only [w32_mod] at h_9
    have k_6 := h_6.2.mp (by omega)
    clear h_6
    refine ww_aload_n hX (pc := 14) dX11_end_14 rfl ?_
    refine ww_iload_n hX (pc := 15) dX11_end_15 rfl ?_
    refine ww_putI hX (pc := 16) (fun h9 => absurd h9 (by decide)) gX11_129 rfl (xs_49 hL) dX11_end_16 ?_
    refine ww_nmH (fun I_16 eI_16 => ?_)
    have kI_16 : Ch [] [10] Ia I_16 := by rw [eI_16]; exact Ch_f Ch_rf (by decide)
    have cI_16 : RX I_16 := by rw [eI_16]; exact RX_10 hQ (by omega) (by omega)
    have qI_16 := RX_o cI_16
    have r304_I_16 : I_16 51 304 = Ia 51 304 := by rw [eI_16, up2_off _ _ _ (by decide)]
    have r305_I_16 : I_16 51 305 = Ia 51 305 := by rw [eI_16, up2_off _ _ _ (by decide)]
    have rf_I_16 : FU (I_16 51 304) = FU (Ia 51 304) := by rw [r304_I_16]
    have z10 : I_16 49 10 = a := by rw [eI_16, up2_s]
    refine ww_iload_n hX (pc := 19) dX11_end_19 rfl ?_
    refine rI hX (pc := 20) hT (Nat.le_refl 0) (Nat.le_refl 0) dX11_end_20 ?_
    exact ⟨kI_16, (Kp_rf (a := 49) (b := 73)), cI_16, by omega, by omega⟩
  · simp only [w32_mod] at h_9
    refine ww_iconst hX (pc := 12) (x := (-1)) dX11_end_12 rfl ?_
    refine rI hX (pc := 13) hT (Nat.le_refl 0) (Nat.le_refl 0) dX11_end_13 ?_
    exact ⟨Ch_rf, (Kp_rf (a := 49) (b := 73)), hQ, by omega, by omega⟩
end
section
set_option maxHeartbeats 4000000 in
set_option maxRecDepth 20000 in
theorem c5_X11_reads (l0 : Launch) {Ia Ja : aI1} {Ra : aR1} {Sa : aS1} (hL : LY Ra Sa) (hQ : RX Ia)  : CT l0 34 0 0 mX11_reads [kR (some 49)] Ia Ja Ra Sa (cI (fun x I' J' => Ch [57, 58, 59] [10, 11, 15, 16, 17, 18] Ia I' ∧ Kp 49 73 Ja J' ∧ RX I' ∧ (0 ≤ x ∧ x ≤ 1) ∧ (x = 1 → (0 ≤ I' 49 15 ∧ I' 49 15 ≤ 400) ∧ RG (I' 57) (I' 49 15) ∧ LawG (pvw I') (I' 49 15).toNat) ∧ I' 49 10 = 0) Ra Sa) := by
  refine ct_in pn_X11 (Nat.le_of_ble_eq_true rfl) (fun X hX hT hIn => ?_)
  have hX : aK l0 X cX11_reads 2 RX11 (some .boolean) 34 0 0 := hX
  change WW X 0 [some (kR (some 49)), none] [] Ia Ja Ra Sa 0 0
  have qIa := RX_w hQ
  refine ww_aload_n hX (pc := 0) dX11_reads_0 rfl ?_
  refine ww_aload_n hX (pc := 1) dX11_reads_1 rfl ?_
  refine ww_getI hX (pc := 2) fX11_129 (by decide) (xs_49 hL) dX11_reads_2 ?_
  refine vV1 hX (pc := 5) sX11_203 (xs_49 hL) (c_X11_splits l0 hL hQ (by omega) (by omega)) (by decide) (Nat.le_refl 0) (Nat.le_refl 0) (Nat.le_of_ble_eq_true rfl) dX11_reads_5 (fun I_5 J_5 h_5 => ?_)
  have kJ_5 : Kp 49 73 Ja J_5 := Kp_tr (Kp_rf (a := 49) (b := 73)) h_5.2.1
  have kI_5 : Ch [57, 58, 59] [10, 11, 15, 16, 17, 18] Ia I_5 := Ch_tr Ch_rf (Ch_wd h_5.1 (by decide) (by decide))
  have cI_5 : RX I_5 := h_5.2.2.1
  have qI_5 := RX_w cI_5
  have f10_I_5 : I_5 49 10 = Ia 49 10 := h_5.1.2 10 (by decide)
  have f16_I_5 : I_5 49 16 = Ia 49 16 := h_5.1.2 16 (by decide)
  have f17_I_5 : I_5 49 17 = Ia 49 17 := h_5.1.2 17 (by decide)
  have f18_I_5 : I_5 49 18 = Ia 49 18 := h_5.1.2 18 (by decide)
  refine ww_aload_n hX (pc := 8) dX11_reads_8 rfl ?_
  refine ww_iconst hX (pc := 9) (x := 0) dX11_reads_9 rfl ?_
  refine ww_putI hX (pc := 10) (fun h9 => absurd h9 (by decide)) gX11_129 rfl (xs_49 hL) dX11_reads_10 ?_
  refine ww_nmH (fun I_10 eI_10 => ?_)
  have kI_10 : Ch [57, 58, 59] [10, 11, 15, 16, 17, 18] Ia I_10 := by rw [eI_10]; exact Ch_f kI_5 (by decide)
  have cI_10 : RX I_10 := by rw [eI_10]; exact RX_10 cI_5 (by omega) (by omega)
  have qI_10 := RX_w cI_10
  have f15_I_10 : I_10 49 15 = I_5 49 15 := by rw [eI_10, up2_n _ _ (Or.inr (by decide))]
  have f16_I_10 : I_10 49 16 = I_5 49 16 := by rw [eI_10, up2_n _ _ (Or.inr (by decide))]
  have f17_I_10 : I_10 49 17 = I_5 49 17 := by rw [eI_10, up2_n _ _ (Or.inr (by decide))]
  have f18_I_10 : I_10 49 18 = I_5 49 18 := by rw [eI_10, up2_n _ _ (Or.inr (by decide))]
  have z10 : I_10 49 10 = 0 := by rw [eI_10, up2_s]
  refine ww_aload_n hX (pc := 13) dX11_reads_13 rfl ?_
  refine ww_iconst hX (pc := 14) (x := 0) dX11_reads_14 rfl ?_
  refine ww_putI hX (pc := 15) (fun h9 => absurd h9 (by decide)) gX11_162 rfl (xs_49 hL) dX11_reads_15 ?_
  refine ww_nmH (fun I_15 eI_15 => ?_)
  have kI_15 : Ch [57, 58, 59] [10, 11, 15, 16, 17, 18] Ia I_15 := by rw [eI_15]; exact Ch_f kI_10 (by decide)
  have cI_15 : RX I_15 := by rw [eI_15]; exact RX_f cI_10 (by decide)
  have qI_15 := RX_w cI_15
  have f10_I_15 : I_15 49 10 = I_10 49 10 := by rw [eI_15, up2_n _ _ (Or.inr (by decide))]
  have f15_I_15 : I_15 49 15 = I_10 49 15 := by rw [eI_15, up2_n _ _ (Or.inr (by decide))]
  have f17_I_15 : I_15 49 17 = I_10 49 17 := by rw [eI_15, up2_n _ _ (Or.inr (by decide))]
  have f18_I_15 : I_15 49 18 = I_10 49 18 := by rw [eI_15, up2_n _ _ (Or.inr (by decide))]
  have w16_15 : I_15 49 16 = 0 := by rw [eI_15, up2_s]
  refine ww_aload_n hX (pc := 18) dX11_reads_18 rfl ?_
  refine ww_iconst hX (pc := 19) (x := 0) dX11_reads_19 rfl ?_
  refine ww_putI hX (pc := 20) (fun h9 => absurd h9 (by decide)) gX11_171 rfl (xs_49 hL) dX11_reads_20 ?_
  refine ww_nmH (fun I_20 eI_20 => ?_)
  have kI_20 : Ch [57, 58, 59] [10, 11, 15, 16, 17, 18] Ia I_20 := by rw [eI_20]; exact Ch_f kI_15 (by decide)
  have cI_20 : RX I_20 := by rw [eI_20]; exact RX_f cI_15 (by decide)
  have qI_20 := RX_w cI_20
  have f10_I_20 : I_20 49 10 = I_15 49 10 := by rw [eI_20, up2_n _ _ (Or.inr (by decide))]
  have f15_I_20 : I_20 49 15 = I_15 49 15 := by rw [eI_20, up2_n _ _ (Or.inr (by decide))]
  have f16_I_20 : I_20 49 16 = I_15 49 16 := by rw [eI_20, up2_n _ _ (Or.inr (by decide))]
  have f18_I_20 : I_20 49 18 = I_15 49 18 := by rw [eI_20, up2_n _ _ (Or.inr (by decide))]
  refine ww_aload_n hX (pc := 23) dX11_reads_23 rfl ?_
  refine ww_iconst hX (pc := 24) (x := (-1)) dX11_reads_24 rfl ?_
  refine ww_putI hX (pc := 25) (fun h9 => absurd h9 (by decide)) gX11_155 rfl (xs_49 hL) dX11_reads_25 ?_
  refine ww_nmH (fun I_25 eI_25 => ?_)
  have kI_25 : Ch [57, 58, 59] [10, 11, 15, 16, 17, 18] Ia I_25 := by rw [eI_25]; exact Ch_f kI_20 (by decide)
  have cI_25 : RX I_25 := by rw [eI_25]; exact RX_f cI_20 (by decide)
  have qI_25 := RX_w cI_25
  have f10_I_25 : I_25 49 10 = I_20 49 10 := by rw [eI_25, up2_n _ _ (Or.inr (by decide))]
  have f15_I_25 : I_25 49 15 = I_20 49 15 := by rw [eI_25, up2_n _ _ (Or.inr (by decide))]
  have f16_I_25 : I_25 49 16 = I_20 49 16 := by rw [eI_25, up2_n _ _ (Or.inr (by decide))]
  have f17_I_25 : I_25 49 17 = I_20 49 17 := by rw [eI_25, up2_n _ _ (Or.inr (by decide))]
  have w18_25 : I_25 49 18 = -1 := by rw [eI_25, up2_s]
  have pI_25 : PI I_25 := PI_mk h_5.2.2.2 (by rw [eI_25, up2_off _ _ _ (by decide), eI_20, up2_off _ _ _ (by decide), eI_15, up2_off _ _ _ (by decide), eI_10, up2_off _ _ _ (by decide)]) (by rw [eI_25, up2_off _ _ _ (by decide), eI_20, up2_off _ _ _ (by decide), eI_15, up2_off _ _ _ (by decide), eI_10, up2_off _ _ _ (by decide)]) (by omega) (by omega) w18_25
  obtain ⟨c, hcI_25⟩ : ∃ c, pvw I_25 = c := ⟨_, rfl⟩
  have oI_25 := PI_o pI_25
  refine ww_aload_n hX (pc := 28) dX11_reads_28 rfl ?_
  refine vV0 hX (pc := 29) sX11_206 (xs_49 hL) (c_X11_readClause l0 hL cI_25 pI_25 hcI_25) (by decide) (Nat.le_refl 0) (Nat.le_refl 0) (Nat.le_of_ble_eq_true rfl) dX11_reads_29 (fun I_29 J_29 h_29 => ?_)
  have kJ_29 : Kp 49 73 Ja J_29 := Kp_tr kJ_5 h_29.2.1
  have kI_29 : Ch [57, 58, 59] [10, 11, 15, 16, 17, 18] Ia I_29 := Ch_tr kI_25 (Ch_wd h_29.1 (by decide) (by decide))
  have cI_29 : RX I_29 := h_29.2.2.1
  have qI_29 := RX_w cI_29
  have f10_I_29 : I_29 49 10 = I_25 49 10 := h_29.1.2 10 (by decide)
  have f15_I_29 : I_29 49 15 = I_25 49 15 := h_29.1.2 15 (by decide)
  have pI_29 : PI I_29 := h_29.2.2.2.1
  have oI_29 := PI_o pI_29
  have yI_29 := h_29.2.2.2.2
  have hcI_29 := pvw_tr h_29.1 (by decide) (by decide) hcI_25
  refine ww_iconst hX (pc := 32) (x := 1) dX11_reads_32 rfl ?_
  refine ww_istore_n hX (pc := 33) (lv' := [some (kR (some 49)), some (kI 1)]) dX11_reads_33 (by decide) rfl rfl ?_
  have hl_34 : ∀ (n_34 : Nat) (n : Int) (I34 : aI1) (J34 : aI1), (I34 49 15 - I34 49 16).toNat = n_34 → (Ch [57, 58, 59] [10, 11, 15, 16, 17, 18] Ia I34 ∧ RX I34 ∧ Kp 49 73 Ja J34 ∧ I34 49 10 = I_29 49 10 ∧ I34 49 15 = I_29 49 15 ∧ PI I34 ∧ pvw I34 = c ∧ LW c I34) → WW X 34 [some (kR (some 49)), some (kI n)] [] I34 J34 Ra Sa 0 0 := by
    intro n_34
    induction n_34 using Nat.strongRecOn with
    | ind n_34 ih_34 =>
      intro n I34 J34 hm_34 hv_34
      have hq_34 := Sh0_i hm_34
      clear hm_34
      obtain ⟨kI34, cI34, kJ34, f10_I34, f15_I34, pI34, hcI34, hlw⟩ := hv_34
      have qI34 := RX_w cI34
      have oI34 := PI_o pI34
      have tI34 := PI_t pI34
      refine ww_aload_n hX (pc := 34) dX11_reads_34 rfl ?_
      refine ww_bipush hX (pc := 35) (x := 59) dX11_reads_35 (by decide) ?_
      refine sI1 hX (pc := 37) sX11_190 (c_X11_sign l0 ) (by decide) (Nat.le_refl 0) (Nat.le_refl 0) (Nat.le_of_ble_eq_true rfl) dX11_reads_37 (fun x_37 I_37 J_37 h_37 => ?_)
      obtain ⟨rfl, rfl, h_37⟩ := h_37
      refine vI1 hX (pc := 40) sX11_165 (xs_49 hL) (c_X11_takes0 l0 hL cI34 pI34 hcI34 (by omega) (by omega)) (by decide) (Nat.le_refl 0) (Nat.le_refl 0) (Nat.le_of_ble_eq_true rfl) dX11_reads_40 (fun x_40 I_40 J_40 h_40 => ?_)
      have kJ_40 : Kp 49 73 Ja J_40 := Kp_tr kJ34 h_40.2.1
      have kI_40 : Ch [57, 58, 59] [10, 11, 15, 16, 17, 18] Ia I_40 := Ch_tr kI34 (Ch_wd h_40.1 (by decide) (by decide))
      have cI_40 : RX I_40 := h_40.2.2.1
      have qI_40 := RX_w cI_40
      have f10_I_40 : I_40 49 10 = I34 49 10 := h_40.1.2 10 (by decide)
      have f15_I_40 : I_40 49 15 = I34 49 15 := h_40.1.2 15 (by decide)
      have f17_I_40 : I_40 49 17 = I34 49 17 := h_40.1.2 17 (by decide)
      have f18_I_40 : I_40 49 18 = I34 49 18 := h_40.1.2 18 (by decide)
      have pI_40 : PI I_40 := h_40.2.2.2.1
      have oI_40 := PI_o pI_40
      have yI_40 := h_40.2.2.2.2
      have hcI_40 := pvw_tr h_40.1 (by decide) (by decide) hcI34
      refine ww_if_eq hX (pc := 43) (tgt := 73) dX11_reads_43 (by decide) (fun h_43 => ?_) (fun h_43 => ?_)
      · simp only [w32_mod] at h_43
        have z40 := (TK_0 yI_40.2.2.2 (by omega)).1
        refine ww_aload_n hX (pc := 73) dX11_reads_73 rfl ?_
        refine vI0 hX (pc := 74) sX11_158 (xs_49 hL) (c_X11_fine l0 hL cI_40  pI_40) (by decide) (Nat.le_refl 0) (Nat.le_refl 0) (Nat.le_of_ble_eq_true rfl) dX11_reads_74 (fun x_74 I_74 J_74 h_74 => ?_)
        obtain ⟨rfl, rfl, h_74⟩ := h_74
        refine ww_if_eq hX (pc := 77) (tgt := 95) dX11_reads_77 (by decide) (fun h_77 => ?_) (fun h_77 => ?_)
        · simp only [w32_mod] at h_77
          have nb74 := FN_0 h_74.2 (by omega)
          refine ww_aload_n hX (pc := 95) dX11_reads_95 rfl ?_
          refine ww_aload_n hX (pc := 96) dX11_reads_96 rfl ?_
          refine ww_getI hX (pc := 97) fX11_155 (by decide) (xs_49 hL) dX11_reads_97 ?_
          refine ww_putI hX (pc := 100) (fun h9 => absurd h9 (by decide)) gX11_40 rfl (xs_49 hL) dX11_reads_100 ?_
          refine ww_nmH (fun I_100 eI_100 => ?_)
          have kI_100 : Ch [57, 58, 59] [10, 11, 15, 16, 17, 18] Ia I_100 := by rw [eI_100]; exact Ch_f kI_40 (by decide)
          have cI_100 : RX I_100 := by rw [eI_100]; exact RX_f cI_40 (by decide)
          have qI_100 := RX_w cI_100
          have f10_I_100 : I_100 49 10 = I_40 49 10 := by rw [eI_100, up2_n _ _ (Or.inr (by decide))]
          have f15_I_100 : I_100 49 15 = I_40 49 15 := by rw [eI_100, up2_n _ _ (Or.inr (by decide))]
          have f16_I_100 : I_100 49 16 = I_40 49 16 := by rw [eI_100, up2_n _ _ (Or.inr (by decide))]
          have f17_I_100 : I_100 49 17 = I_40 49 17 := by rw [eI_100, up2_n _ _ (Or.inr (by decide))]
          have f18_I_100 : I_100 49 18 = I_40 49 18 := by rw [eI_100, up2_n _ _ (Or.inr (by decide))]
          have e57 : I_100 57 = I_40 57 := by rw [eI_100, up2_off _ _ _ (by decide)]
          have epv : pvw I_100 = c := by
            rw [← hcI_40]
            funext i
            unfold pvw
            rw [e57, f15_I_100]
          have pI_100 : PI I_100 := by rw [eI_100]; exact PI_g pI_40 (by decide)
          have oI_100 := PI_o pI_100
          refine ww_aload_n hX (pc := 103) dX11_reads_103 rfl ?_
          refine vI0 hX (pc := 104) sX11_158 (xs_49 hL) (c_X11_fine l0 hL cI_100  pI_100) (by decide) (Nat.le_refl 0) (Nat.le_refl 0) (Nat.le_of_ble_eq_true rfl) dX11_reads_104 (fun x_104 I_104 J_104 h_104 => ?_)
          obtain ⟨rfl, rfl, h_104⟩ := h_104
          refine rZ hX (pc := 107) hT (Nat.le_refl 0) (Nat.le_refl 0) dX11_reads_107 (by omega) ?_
          exact ⟨kI_100, kJ_40, cI_100, (by omega), (fun h1 => by have b9 := FN_1 h_104.2 h1; exact absurd (show I_40 49 18 = -1 by omega) nb74), by omega⟩
        · simp only [w32_mod] at h_77
          have bb74 := FN_1 h_74.2 (by omega)
          refine ww_aload_n hX (pc := 80) dX11_reads_80 rfl ?_
          refine ww_getI hX (pc := 81) fX11_162 (by decide) (xs_49 hL) dX11_reads_81 ?_
          refine ww_aload_n hX (pc := 84) dX11_reads_84 rfl ?_
          refine ww_getI hX (pc := 85) fX11_142 (by decide) (xs_49 hL) dX11_reads_85 ?_
          refine ww_icmp_ge hX (pc := 88) (tgt := 95) dX11_reads_88 (by decide) (fun h_88 => ?_) (fun h_88 => ?_)
          · simp only [w32_mod] at h_88
            refine ww_aload_n hX (pc := 95) dX11_reads_95 rfl ?_
            refine ww_aload_n hX (pc := 96) dX11_reads_96 rfl ?_
            refine ww_getI hX (pc := 97) fX11_155 (by decide) (xs_49 hL) dX11_reads_97 ?_
            refine ww_putI hX (pc := 100) (fun h9 => absurd h9 (by decide)) gX11_40 rfl (xs_49 hL) dX11_reads_100 ?_
            refine ww_nmH (fun I_100 eI_100 => ?_)
            have kI_100 : Ch [57, 58, 59] [10, 11, 15, 16, 17, 18] Ia I_100 := by rw [eI_100]; exact Ch_f kI_40 (by decide)
            have cI_100 : RX I_100 := by rw [eI_100]; exact RX_f cI_40 (by decide)
            have qI_100 := RX_w cI_100
            have f10_I_100 : I_100 49 10 = I_40 49 10 := by rw [eI_100, up2_n _ _ (Or.inr (by decide))]
            have f15_I_100 : I_100 49 15 = I_40 49 15 := by rw [eI_100, up2_n _ _ (Or.inr (by decide))]
            have f16_I_100 : I_100 49 16 = I_40 49 16 := by rw [eI_100, up2_n _ _ (Or.inr (by decide))]
            have f17_I_100 : I_100 49 17 = I_40 49 17 := by rw [eI_100, up2_n _ _ (Or.inr (by decide))]
            have f18_I_100 : I_100 49 18 = I_40 49 18 := by rw [eI_100, up2_n _ _ (Or.inr (by decide))]
            have e57 : I_100 57 = I_40 57 := by rw [eI_100, up2_off _ _ _ (by decide)]
            have epv : pvw I_100 = c := by
              rw [← hcI_40]
              funext i
              unfold pvw
              rw [e57, f15_I_100]
            have pI_100 : PI I_100 := by rw [eI_100]; exact PI_g pI_40 (by decide)
            have oI_100 := PI_o pI_100
            refine ww_aload_n hX (pc := 103) dX11_reads_103 rfl ?_
            refine vI0 hX (pc := 104) sX11_158 (xs_49 hL) (c_X11_fine l0 hL cI_100  pI_100) (by decide) (Nat.le_refl 0) (Nat.le_refl 0) (Nat.le_of_ble_eq_true rfl) dX11_reads_104 (fun x_104 I_104 J_104 h_104 => ?_)
            obtain ⟨rfl, rfl, h_104⟩ := h_104
            refine rZ hX (pc := 107) hT (Nat.le_refl 0) (Nat.le_refl 0) dX11_reads_107 (by omega) ?_
            exact ⟨kI_100, kJ_40, cI_100, (by omega), (fun h1 => by
                  have b9 := FN_1 h_104.2 h1
                  exact ⟨⟨by omega, by omega⟩, (fun j hj => pI_100.2.2.2.1 j (by omega)), (by rw [epv]; exact (hlw (by omega) _).1 (by omega))⟩), by omega⟩
          · simp only [w32_mod] at h_88
            refine ww_aload_n hX (pc := 91) dX11_reads_91 rfl ?_
            refine vV0 hX (pc := 92) sX11_168 (xs_49 hL) (c_X11_faults l0 hL cI_40  pI_40) (by decide) (Nat.le_refl 0) (Nat.le_refl 0) (Nat.le_of_ble_eq_true rfl) dX11_reads_92 (fun I_92 J_92 h_92 => ?_)
            have kJ_92 : Kp 49 73 Ja J_92 := Kp_tr kJ_40 h_92.2.1
            have kI_92 : Ch [57, 58, 59] [10, 11, 15, 16, 17, 18] Ia I_92 := Ch_tr kI_40 (Ch_wd h_92.1 (by decide) (by decide))
            have cI_92 : RX I_92 := h_92.2.2.1
            have qI_92 := RX_w cI_92
            have f10_I_92 : I_92 49 10 = I_40 49 10 := h_92.1.2 10 (by decide)
            have f15_I_92 : I_92 49 15 = I_40 49 15 := h_92.1.2 15 (by decide)
            have f16_I_92 : I_92 49 16 = I_40 49 16 := h_92.1.2 16 (by decide)
            have f17_I_92 : I_92 49 17 = I_40 49 17 := h_92.1.2 17 (by decide)
            have pI_92 : PI I_92 := h_92.2.2.2.1
            have oI_92 := PI_o pI_92
            have yI_92 := h_92.2.2.2.2
            have hcI_92 := pvw_tr h_92.1 (by decide) (by decide) hcI_40
            refine ww_aload_n hX (pc := 95) dX11_reads_95 rfl ?_
            refine ww_aload_n hX (pc := 96) dX11_reads_96 rfl ?_
            refine ww_getI hX (pc := 97) fX11_155 (by decide) (xs_49 hL) dX11_reads_97 ?_
            refine ww_putI hX (pc := 100) (fun h9 => absurd h9 (by decide)) gX11_40 rfl (xs_49 hL) dX11_reads_100 ?_
            refine ww_nmH (fun I_100 eI_100 => ?_)
            have kI_100 : Ch [57, 58, 59] [10, 11, 15, 16, 17, 18] Ia I_100 := by rw [eI_100]; exact Ch_f kI_92 (by decide)
            have cI_100 : RX I_100 := by rw [eI_100]; exact RX_f cI_92 (by decide)
            have qI_100 := RX_w cI_100
            have f10_I_100 : I_100 49 10 = I_92 49 10 := by rw [eI_100, up2_n _ _ (Or.inr (by decide))]
            have f15_I_100 : I_100 49 15 = I_92 49 15 := by rw [eI_100, up2_n _ _ (Or.inr (by decide))]
            have f16_I_100 : I_100 49 16 = I_92 49 16 := by rw [eI_100, up2_n _ _ (Or.inr (by decide))]
            have f17_I_100 : I_100 49 17 = I_92 49 17 := by rw [eI_100, up2_n _ _ (Or.inr (by decide))]
            have f18_I_100 : I_100 49 18 = I_92 49 18 := by rw [eI_100, up2_n _ _ (Or.inr (by decide))]
            have e57 : I_100 57 = I_92 57 := by rw [eI_100, up2_off _ _ _ (by decide)]
            have epv : pvw I_100 = c := by
              rw [← hcI_92]
              funext i
              unfold pvw
              rw [e57, f15_I_100]
            have pI_100 : PI I_100 := by rw [eI_100]; exact PI_g pI_92 (by decide)
            have oI_100 := PI_o pI_100
            refine ww_aload_n hX (pc := 103) dX11_reads_103 rfl ?_
            refine vI0 hX (pc := 104) sX11_158 (xs_49 hL) (c_X11_fine l0 hL cI_100  pI_100) (by decide) (Nat.le_refl 0) (Nat.le_refl 0) (Nat.le_of_ble_eq_true rfl) dX11_reads_104 (fun x_104 I_104 J_104 h_104 => ?_)
            obtain ⟨rfl, rfl, h_104⟩ := h_104
            refine rZ hX (pc := 107) hT (Nat.le_refl 0) (Nat.le_refl 0) dX11_reads_107 (by omega) ?_
            exact ⟨kI_100, kJ_92, cI_100, (by omega), (fun h1 => by have b9 := FN_1 h_104.2 h1; exact absurd (show I_92 49 18 = -1 by omega) yI_92.2), by omega⟩
      · simp only [w32_mod] at h_43
        have s40 := TK_1 yI_40.2.2.2 (by omega)
        refine ww_iload_n hX (pc := 46) dX11_reads_46 rfl ?_
        refine ww_bipush hX (pc := 47) (x := 12) dX11_reads_47 (by decide) ?_
        refine ww_icmp_ne hX (pc := 49) (tgt := 56) dX11_reads_49 (by decide) (fun h_49 => ?_) (fun h_49 => ?_)
        · simp only [w32_mod] at h_49
          refine ww_aload_n hX (pc := 56) dX11_reads_56 rfl ?_
          refine vI0 hX (pc := 57) sX11_158 (xs_49 hL) (c_X11_fine l0 hL cI_40  pI_40) (by decide) (Nat.le_refl 0) (Nat.le_refl 0) (Nat.le_of_ble_eq_true rfl) dX11_reads_57 (fun x_57 I_57 J_57 h_57 => ?_)
          obtain ⟨rfl, rfl, h_57⟩ := h_57
          refine ww_if_eq hX (pc := 60) (tgt := 67) dX11_reads_60 (by decide) (fun h_60 => ?_) (fun h_60 => ?_)
          · simp only [w32_mod] at h_60
            have nb57 := FN_0 h_57.2 (by omega)
            refine ww_iinc hX (pc := 67) (lv' := [some (kR (some 49)), some (kI (n + 1))]) dX11_reads_67 rfl (by decide) rfl rfl ?_
            refine ww_goto hX (pc := 70) (tgt := 34) dX11_reads_70 (by decide) ?_
            exact ih_34 _ (by have hm9 := Sh0_e hq_34; omega) (n + 1) I_40 J_40 rfl ⟨kI_40, cI_40, kJ_40, by omega, by omega, pI_40, hcI_40, LW_no nb57⟩
          · simp only [w32_mod] at h_60
            have bb57 := FN_1 h_57.2 (by omega)
            refine ww_aload_n hX (pc := 63) dX11_reads_63 rfl ?_
            refine vV0 hX (pc := 64) sX11_206 (xs_49 hL) (c_X11_readClause l0 hL cI_40 pI_40 hcI_40) (by decide) (Nat.le_refl 0) (Nat.le_refl 0) (Nat.le_of_ble_eq_true rfl) dX11_reads_64 (fun I_64 J_64 h_64 => ?_)
            have kJ_64 : Kp 49 73 Ja J_64 := Kp_tr kJ_40 h_64.2.1
            have kI_64 : Ch [57, 58, 59] [10, 11, 15, 16, 17, 18] Ia I_64 := Ch_tr kI_40 (Ch_wd h_64.1 (by decide) (by decide))
            have cI_64 : RX I_64 := h_64.2.2.1
            have qI_64 := RX_w cI_64
            have f10_I_64 : I_64 49 10 = I_40 49 10 := h_64.1.2 10 (by decide)
            have f15_I_64 : I_64 49 15 = I_40 49 15 := h_64.1.2 15 (by decide)
            have pI_64 : PI I_64 := h_64.2.2.2.1
            have oI_64 := PI_o pI_64
            have yI_64 := h_64.2.2.2.2
            have hcI_64 := pvw_tr h_64.1 (by decide) (by decide) hcI_40
            refine ww_iinc hX (pc := 67) (lv' := [some (kR (some 49)), some (kI (n + 1))]) dX11_reads_67 rfl (by decide) rfl rfl ?_
            refine ww_goto hX (pc := 70) (tgt := 34) dX11_reads_70 (by decide) ?_
            exact ih_34 _ (by have hm9 := Sh0_e hq_34; omega) (n + 1) I_64 J_64 rfl ⟨kI_64, cI_64, kJ_64, by omega, by omega, pI_64, hcI_64, LW_s hlw (by omega) (by omega) (by omega) (by omega) yI_64.1⟩
        · simp only [w32_mod] at h_49
          refine ww_aload_n hX (pc := 52) dX11_reads_52 rfl ?_
          refine vV0 hX (pc := 53) sX11_168 (xs_49 hL) (c_X11_faults l0 hL cI_40  pI_40) (by decide) (Nat.le_refl 0) (Nat.le_refl 0) (Nat.le_of_ble_eq_true rfl) dX11_reads_53 (fun I_53 J_53 h_53 => ?_)
          have kJ_53 : Kp 49 73 Ja J_53 := Kp_tr kJ_40 h_53.2.1
          have kI_53 : Ch [57, 58, 59] [10, 11, 15, 16, 17, 18] Ia I_53 := Ch_tr kI_40 (Ch_wd h_53.1 (by decide) (by decide))
          have cI_53 : RX I_53 := h_53.2.2.1
          have qI_53 := RX_w cI_53
          have f10_I_53 : I_53 49 10 = I_40 49 10 := h_53.1.2 10 (by decide)
          have f15_I_53 : I_53 49 15 = I_40 49 15 := h_53.1.2 15 (by decide)
          have f16_I_53 : I_53 49 16 = I_40 49 16 := h_53.1.2 16 (by decide)
          have f17_I_53 : I_53 49 17 = I_40 49 17 := h_53.1.2 17 (by decide)
          have pI_53 : PI I_53 := h_53.2.2.2.1
          have oI_53 := PI_o pI_53
          have yI_53 := h_53.2.2.2.2
          have hcI_53 := pvw_tr h_53.1 (by decide) (by decide) hcI_40
          refine ww_aload_n hX (pc := 56) dX11_reads_56 rfl ?_
          refine vI0 hX (pc := 57) sX11_158 (xs_49 hL) (c_X11_fine l0 hL cI_53  pI_53) (by decide) (Nat.le_refl 0) (Nat.le_refl 0) (Nat.le_of_ble_eq_true rfl) dX11_reads_57 (fun x_57 I_57 J_57 h_57 => ?_)
          obtain ⟨rfl, rfl, h_57⟩ := h_57
          refine ww_if_eq hX (pc := 60) (tgt := 67) dX11_reads_60 (by decide) (fun h_60 => ?_) (fun h_60 => ?_)
          · simp only [w32_mod] at h_60
            have nb57 := FN_0 h_57.2 (by omega)
            refine ww_iinc hX (pc := 67) (lv' := [some (kR (some 49)), some (kI (n + 1))]) dX11_reads_67 rfl (by decide) rfl rfl ?_
            refine ww_goto hX (pc := 70) (tgt := 34) dX11_reads_70 (by decide) ?_
            exact ih_34 _ (by have hm9 := Sh0_e hq_34; omega) (n + 1) I_53 J_53 rfl ⟨kI_53, cI_53, kJ_53, by omega, by omega, pI_53, hcI_53, LW_no yI_53.2⟩
          · simp only [w32_mod] at h_60
            have bb57 := FN_1 h_57.2 (by omega)
            exact absurd bb57 yI_53.2
  exact hl_34 _ 1 I_29 J_29 rfl ⟨kI_29, cI_29, kJ_29, rfl, rfl, pI_29, hcI_29, LW_0 (by omega) yI_29.1⟩
end
section
theorem imgR_at {I : aI1} {a : Int} (h0 : 0 ≤ a) {j : Nat} (hj : j < 5117) : imgR I a 5117 52 (5117 * a.toNat + j) = I 51 j := by
  unfold imgR
  rw [upR_s]
  show (if 5117 * a ≤ ((5117 * a.toNat + j : Nat) : Int) ∧ ((5117 * a.toNat + j : Nat) : Int) < 5117 * a + 5117 then I 51 (((5117 * a.toNat + j : Nat) : Int) - 5117 * a).toNat else I 52 (5117 * a.toNat + j)) = I 51 j
  rw [if_pos (by omega)]
  exact congrArg _ (by omega)
theorem imgR_of {I : aI1} {a : Int} (h0 : 0 ≤ a) {b : Nat} (hb : b < 5117 * a.toNat ∨ 5117 * a.toNat + 5117 ≤ b) : imgR I a 5117 52 b = I 52 b := by
  unfold imgR
  rw [upR_s]
  show (if 5117 * a ≤ (b : Int) ∧ (b : Int) < 5117 * a + 5117 then I 51 ((b : Int) - 5117 * a).toNat else I 52 b) = I 52 b
  rw [if_neg (by omega)]
theorem backR_at {I : aI1} {a : Int} (h0 : 0 ≤ a) {j : Nat} (hj : j < 5117) : backR I a 5117 51 j = I 52 (5117 * a.toNat + j) := by
  unfold backR
  rw [upR_s]
  show (if (j : Int) < 5117 then I 52 (5117 * a + j).toNat else I 51 j) = I 52 (5117 * a.toNat + j)
  rw [if_pos (by omega)]
  exact congrArg _ (by omega)
set_option maxHeartbeats 4000000 in
set_option maxRecDepth 20000 in
theorem c3_X11_image (l0 : Launch) {Ia Ja : aI1} {Ra : aR1} {Sa : aS1} (hL : LY Ra Sa) (hQ : RX Ia) {a : Int} (ha0 : -2147483648 ≤ a) (ha1 : a < 2147483648)  : CT l0 2 0 0 mX11_image [kR (some 49), kI a] Ia Ja Ra Sa (cI (fun x I' J' => Ch [50, 52, 53] [0, 1] Ia I' ∧ Kp 49 73 Ja J' ∧ RX I' ∧ (¬ (0 ≤ a ∧ a < 2) → x = -1 ∧ I' 53 = Ia 53 ∧ I' 52 = Ia 52) ∧ ((0 ≤ a ∧ a < 2) → x = 0 ∧ I' 53 = up1 (Ia 53) a.toNat 1 ∧ (∀ j : Nat, j < 5117 → I' 52 (5117 * a.toNat + j) = Ia 51 j) ∧ (∀ b : Nat, (b < 5117 * a.toNat ∨ 5117 * a.toNat + 5117 ≤ b) → I' 52 b = Ia 52 b))) Ra Sa) := by
  refine ct_in pn_X11 (Nat.le_of_ble_eq_true rfl) (fun X hX hT hIn => ?_)
  have hX : aK l0 X cX11_image 3 RX11 (some .int) 2 0 0 := hX
  change WW X 0 [some (kR (some 49)), some (kI a), none] [] Ia Ja Ra Sa 0 0
  have qIa := RX_o hQ
  refine ww_iload_n hX (pc := 0) dX11_image_0 rfl ?_
  refine ww_iconst hX (pc := 1) (x := 0) dX11_image_1 rfl ?_
  refine ww_iconst hX (pc := 2) (x := 1) dX11_image_2 rfl ?_
  refine sI3 hX (pc := 3) sX11_101 (c_X11_lies l0 (by omega) (by omega) (by omega) (by omega) (by omega) (by omega)) (by decide) (Nat.le_refl 0) (Nat.le_refl 0) (Nat.le_of_ble_eq_true rfl) dX11_image_3 (fun x_3 I_3 J_3 h_3 => ?_)
  obtain ⟨rfl, rfl, h_3⟩ := h_3
  refine ww_if_ne hX (pc := 6) (tgt := 15) dX11_image_6 (by decide) (fun h_6 => ?_) (fun h_6 => ?_)
  · simp only [w32_mod] at h_6
    have k_3 := h_3.2.mp (by omega)
    clear h_3
    refine ww_iconst hX (pc := 15) (x := 0) dX11_image_15 rfl ?_
    refine ww_istore_n hX (pc := 16) (lv' := [some (kR (some 49)), some (kI a), some (kI 0)]) dX11_image_16 (by decide) rfl rfl ?_
    have hl_17 : ∀ (n_17 : Nat) (i : Int) (I17 : aI1), (5117 - i).toNat = n_17 → (Ch [50, 52, 53] [0, 1] Ia I17 ∧ (0 ≤ i ∧ i ≤ 5117) ∧ I17 = imgR Ia a i) → WW X 17 [some (kR (some 49)), some (kI a), some (kI i)] [] I17 Ja Ra Sa 0 0 := by
      intro n_17
      induction n_17 using Nat.strongRecOn with
      | ind n_17 ih_17 =>
        intro i I17 hm_17 hv_17
        have hq_17 := Sh0_i hm_17
        clear hm_17
        obtain ⟨kI17, hv, eI17⟩ := hv_17
        refine ww_iload_n hX (pc := 17) dX11_image_17 rfl ?_
        refine ww_sipush hX (pc := 18) (x := 5117) dX11_image_18 (by decide) ?_
        refine ww_icmp_ge hX (pc := 21) (tgt := 48) dX11_image_21 (by decide) (fun h_21 => ?_) (fun h_21 => ?_)
        · simp only [w32_mod] at h_21
          refine ww_aload_n hX (pc := 48) dX11_image_48 rfl ?_
          refine ww_getR hX (pc := 49) fX11_26 (by decide) (xs_49 hL) (xr_49_5 hL) dX11_image_49 ?_
          refine ww_iload_n hX (pc := 52) dX11_image_52 rfl ?_
          refine ww_iconst hX (pc := 53) (x := 1) dX11_image_53 rfl ?_
          refine ww_zast hX (pc := 54) (xs_53 hL) (by decide) (by omega) (by omega) (by decide) dX11_image_54 ?_
          refine ww_nmH (fun I_54 eI_54 => ?_)
          have kI_54 : Ch [50, 52, 53] [0, 1] Ia I_54 := by rw [eI_54]; exact Ch_r kI17 (by decide) (by decide)
          have cI_54 : RX I_54 := by rw [eI_54, eI17, show i = 5117 by omega]; exact RX_img hQ (by omega) (by omega)
          refine ww_aload_n hX (pc := 55) dX11_image_55 rfl ?_
          refine ww_iconst hX (pc := 56) (x := 0) dX11_image_56 rfl ?_
          refine vI1 hX (pc := 57) sX11_109 (xs_49 hL) (c_X11_good l0 hL cI_54 ) (by decide) (Nat.le_refl 0) (Nat.le_refl 0) (Nat.le_of_ble_eq_true rfl) dX11_image_57 (fun x_57 I_57 J_57 h_57 => ?_)
          have kJ_57 : Kp 49 73 Ja J_57 := Kp_tr (Kp_rf (a := 49) (b := 73)) h_57.2.1
          have kI_57 : Ch [50, 52, 53] [0, 1] Ia I_57 := Ch_tr kI_54 (Ch_wd h_57.1 (by decide) (by decide))
          have cI_57 : RX I_57 := h_57.2.2.1
          have qI_57 := RX_o cI_57
          refine rI hX (pc := 60) hT (Nat.le_refl 0) (Nat.le_refl 0) dX11_image_60 ?_
          exact ⟨kI_57, kJ_57, cI_57, (fun h9 => absurd (by omega) h9), (fun _ => ⟨h_57.2.2.2, (by rw [h_57.1.1 53 (by decide) (by decide), eI_54, up2_row, eI17]; unfold imgR; rw [upR_n _ _ (by decide)]), (fun j hj => by rw [h_57.1.1 52 (by decide) (by decide), eI_54, up2_off _ _ _ (by decide), eI17, show i = 5117 by omega]; exact imgR_at (by omega) hj), (fun b hb => by rw [h_57.1.1 52 (by decide) (by decide), eI_54, up2_off _ _ _ (by decide), eI17, show i = 5117 by omega]; exact imgR_of (by omega) hb)⟩)⟩
        · simp only [w32_mod] at h_21
          refine ww_aload_n hX (pc := 24) dX11_image_24 rfl ?_
          refine ww_getR hX (pc := 25) fX11_23 (by decide) (xs_49 hL) (xr_49_4 hL) dX11_image_25 ?_
          refine ww_sipush hX (pc := 28) (x := 5117) dX11_image_28 (by decide) ?_
          refine ww_iload_n hX (pc := 31) dX11_image_31 rfl ?_
          refine ww_imul hX (pc := 32) dX11_image_32 ?_
          refine ww_iload_n hX (pc := 33) dX11_image_33 rfl ?_
          refine ww_iadd hX (pc := 34) dX11_image_34 ?_
          refine ww_aload_n hX (pc := 35) dX11_image_35 rfl ?_
          refine ww_getR hX (pc := 36) fX11_20 (by decide) (xs_49 hL) (xr_49_3 hL) dX11_image_36 ?_
          refine ww_iload_n hX (pc := 39) dX11_image_39 rfl ?_
          refine ww_iald hX (pc := 40) (xs_51 hL) (by decide) (by omega) (by omega) dX11_image_40 ?_
          refine ww_iast hX (pc := 41) (xs_52 hL) (by decide) (by omega) (by omega) dX11_image_41 ?_
          refine ww_nmH (fun I_41 eI_41 => ?_)
          have kI_41 : Ch [50, 52, 53] [0, 1] Ia I_41 := by rw [eI_41]; exact Ch_r kI17 (by decide) (by decide)
          refine ww_iinc hX (pc := 42) (lv' := [some (kR (some 49)), some (kI a), some (kI (i + 1))]) dX11_image_42 rfl (by decide) rfl rfl ?_
          refine ww_goto hX (pc := 45) (tgt := 17) dX11_image_45 (by decide) ?_
          exact ih_17 _ (by have hm9 := Sh0_e hq_17; omega) (i + 1) I_41 rfl ⟨kI_41, ⟨by omega, by omega⟩, by rw [eI_41, eI17]; exact imgR_s _ (by omega) (by omega)⟩
    exact hl_17 _ 0 Ia rfl ⟨Ch_rf, ⟨by omega, by omega⟩, imgR_0 _ _⟩
  · simp only [w32_mod] at h_6
    refine ww_aload_n hX (pc := 9) dX11_image_9 rfl ?_
    refine ww_iconst hX (pc := 10) (x := (-1)) dX11_image_10 rfl ?_
    refine vI1 hX (pc := 11) sX11_105 (xs_49 hL) (c_X11_refuses l0 hL hQ (by omega) (by omega)) (by decide) (Nat.le_refl 0) (Nat.le_refl 0) (Nat.le_of_ble_eq_true rfl) dX11_image_11 (fun x_11 I_11 J_11 h_11 => ?_)
    have kJ_11 : Kp 49 73 Ja J_11 := Kp_tr (Kp_rf (a := 49) (b := 73)) h_11.2.1
    have kI_11 : Ch [50, 52, 53] [0, 1] Ia I_11 := Ch_tr Ch_rf (Ch_wd h_11.1 (by decide) (by decide))
    have cI_11 : RX I_11 := h_11.2.2.1
    have qI_11 := RX_o cI_11
    refine rI hX (pc := 14) hT (Nat.le_refl 0) (Nat.le_refl 0) dX11_image_14 ?_
    exact ⟨kI_11, kJ_11, cI_11, (fun _ => ⟨h_11.2.2.2, h_11.1.1 53 (by decide) (by decide), h_11.1.1 52 (by decide) (by decide)⟩), (fun h9 => absurd h9 (by omega))⟩
set_option maxHeartbeats 4000000 in
set_option maxRecDepth 20000 in
theorem c3_X11_back (l0 : Launch) {Ia Ja : aI1} {Ra : aR1} {Sa : aS1} (hL : LY Ra Sa) (hQ : RX Ia) {a : Int} (ha0 : -2147483648 ≤ a) (ha1 : a < 2147483648)  : CT l0 2 0 0 mX11_back [kR (some 49), kI a] Ia Ja Ra Sa (cI (fun x I' J' => Ch [50, 51] [0, 1] Ia I' ∧ Kp 49 73 Ja J' ∧ RX I' ∧ (¬ (0 ≤ a ∧ a < 2) → x = -1 ∧ I' 51 = Ia 51) ∧ ((0 ≤ a ∧ a < 2) → (Ia 53 a.toNat = 0 → x = -2 ∧ I' 51 = Ia 51) ∧ (¬ Ia 53 a.toNat = 0 → x = 0 ∧ ∀ j : Nat, j < 5117 → I' 51 j = Ia 52 (5117 * a.toNat + j)))) Ra Sa) := by
  refine ct_in pn_X11 (Nat.le_of_ble_eq_true rfl) (fun X hX hT hIn => ?_)
  have hX : aK l0 X cX11_back 3 RX11 (some .int) 2 0 0 := hX
  change WW X 0 [some (kR (some 49)), some (kI a), none] [] Ia Ja Ra Sa 0 0
  have qIa := RX_o hQ
  refine ww_iload_n hX (pc := 0) dX11_back_0 rfl ?_
  refine ww_iconst hX (pc := 1) (x := 0) dX11_back_1 rfl ?_
  refine ww_iconst hX (pc := 2) (x := 1) dX11_back_2 rfl ?_
  refine sI3 hX (pc := 3) sX11_101 (c_X11_lies l0 (by omega) (by omega) (by omega) (by omega) (by omega) (by omega)) (by decide) (Nat.le_refl 0) (Nat.le_refl 0) (Nat.le_of_ble_eq_true rfl) dX11_back_3 (fun x_3 I_3 J_3 h_3 => ?_)
  obtain ⟨rfl, rfl, h_3⟩ := h_3
  refine ww_if_ne hX (pc := 6) (tgt := 15) dX11_back_6 (by decide) (fun h_6 => ?_) (fun h_6 => ?_)
  · simp only [w32_mod] at h_6
    have k_3 := h_3.2.mp (by omega)
    clear h_3
    refine ww_aload_n hX (pc := 15) dX11_back_15 rfl ?_
    refine ww_getR hX (pc := 16) fX11_26 (by decide) (xs_49 hL) (xr_49_5 hL) dX11_back_16 ?_
    refine ww_iload_n hX (pc := 19) dX11_back_19 rfl ?_
    have h53 : Ia 53 a.toNat = 0 ∨ Ia 53 a.toNat = 1 := (hQ.2.1 a.toNat (by omega)).imp id And.left
    refine ww_zald hX (pc := 20) (xs_53 hL) (by decide) (by omega) (by omega) dX11_back_20 ?_
    refine ww_if_ne hX (pc := 21) (tgt := 31) dX11_back_21 (by decide) (fun h_21 => ?_) (fun h_21 => ?_)
    · simp only [w32_mod] at h_21
      refine ww_iconst hX (pc := 31) (x := 0) dX11_back_31 rfl ?_
      refine ww_istore_n hX (pc := 32) (lv' := [some (kR (some 49)), some (kI a), some (kI 0)]) dX11_back_32 (by decide) rfl rfl ?_
      have hl_33 : ∀ (n_33 : Nat) (i : Int) (I33 : aI1), (5117 - i).toNat = n_33 → (Ch [50, 51] [0, 1] Ia I33 ∧ (0 ≤ i ∧ i ≤ 5117) ∧ I33 = backR Ia a i) → WW X 33 [some (kR (some 49)), some (kI a), some (kI i)] [] I33 Ja Ra Sa 0 0 := by
        intro n_33
        induction n_33 using Nat.strongRecOn with
        | ind n_33 ih_33 =>
          intro i I33 hm_33 hv_33
          have hq_33 := Sh0_i hm_33
          clear hm_33
          obtain ⟨kI33, hv, eI33⟩ := hv_33
          refine ww_iload_n hX (pc := 33) dX11_back_33 rfl ?_
          refine ww_sipush hX (pc := 34) (x := 5117) dX11_back_34 (by decide) ?_
          refine ww_icmp_ge hX (pc := 37) (tgt := 64) dX11_back_37 (by decide) (fun h_37 => ?_) (fun h_37 => ?_)
          · simp only [w32_mod] at h_37
            have cI33 : RX I33 := by rw [eI33, show i = 5117 by omega]; exact RX_back hQ (by omega) (by omega) (by omega)
            refine ww_aload_n hX (pc := 64) dX11_back_64 rfl ?_
            refine ww_iconst hX (pc := 65) (x := 0) dX11_back_65 rfl ?_
            refine vI1 hX (pc := 66) sX11_109 (xs_49 hL) (c_X11_good l0 hL cI33 ) (by decide) (Nat.le_refl 0) (Nat.le_refl 0) (Nat.le_of_ble_eq_true rfl) dX11_back_66 (fun x_66 I_66 J_66 h_66 => ?_)
            have kJ_66 : Kp 49 73 Ja J_66 := Kp_tr (Kp_rf (a := 49) (b := 73)) h_66.2.1
            have kI_66 : Ch [50, 51] [0, 1] Ia I_66 := Ch_tr kI33 (Ch_wd h_66.1 (by decide) (by decide))
            have cI_66 : RX I_66 := h_66.2.2.1
            have qI_66 := RX_o cI_66
            refine rI hX (pc := 69) hT (Nat.le_refl 0) (Nat.le_refl 0) dX11_back_69 ?_
            exact ⟨kI_66, kJ_66, cI_66, (fun h9 => absurd (by omega) h9), (fun _ => ⟨fun h9 => absurd h9 (by omega), fun _ => ⟨h_66.2.2.2, fun j hj => by rw [h_66.1.1 51 (by decide) (by decide), eI33, show i = 5117 by omega]; exact backR_at (by omega) hj⟩⟩)⟩
          · simp only [w32_mod] at h_37
            refine ww_aload_n hX (pc := 40) dX11_back_40 rfl ?_
            refine ww_getR hX (pc := 41) fX11_20 (by decide) (xs_49 hL) (xr_49_3 hL) dX11_back_41 ?_
            refine ww_iload_n hX (pc := 44) dX11_back_44 rfl ?_
            refine ww_aload_n hX (pc := 45) dX11_back_45 rfl ?_
            refine ww_getR hX (pc := 46) fX11_23 (by decide) (xs_49 hL) (xr_49_4 hL) dX11_back_46 ?_
            refine ww_sipush hX (pc := 49) (x := 5117) dX11_back_49 (by decide) ?_
            refine ww_iload_n hX (pc := 52) dX11_back_52 rfl ?_
            refine ww_imul hX (pc := 53) dX11_back_53 ?_
            refine ww_iload_n hX (pc := 54) dX11_back_54 rfl ?_
            refine ww_iadd hX (pc := 55) dX11_back_55 ?_
            refine ww_iald hX (pc := 56) (xs_52 hL) (by decide) (by omega) (by omega) dX11_back_56 ?_
            refine ww_iast hX (pc := 57) (xs_51 hL) (by decide) (by omega) (by omega) dX11_back_57 ?_
            refine ww_nmH (fun I_57 eI_57 => ?_)
            have kI_57 : Ch [50, 51] [0, 1] Ia I_57 := by rw [eI_57]; exact Ch_r kI33 (by decide) (by decide)
            refine ww_iinc hX (pc := 58) (lv' := [some (kR (some 49)), some (kI a), some (kI (i + 1))]) dX11_back_58 rfl (by decide) rfl rfl ?_
            refine ww_goto hX (pc := 61) (tgt := 33) dX11_back_61 (by decide) ?_
            exact ih_33 _ (by have hm9 := Sh0_e hq_33; omega) (i + 1) I_57 rfl ⟨kI_57, ⟨by omega, by omega⟩, by rw [eI_57, eI33]; exact backR_s _ (by omega)⟩
      exact hl_33 _ 0 Ia rfl ⟨Ch_rf, ⟨by omega, by omega⟩, backR_0 _ _⟩
    · simp only [w32_mod] at h_21
      refine ww_aload_n hX (pc := 24) dX11_back_24 rfl ?_
      refine ww_bipush hX (pc := 25) (x := (-2)) dX11_back_25 (by decide) ?_
      refine vI1 hX (pc := 27) sX11_105 (xs_49 hL) (c_X11_refuses l0 hL hQ (by omega) (by omega)) (by decide) (Nat.le_refl 0) (Nat.le_refl 0) (Nat.le_of_ble_eq_true rfl) dX11_back_27 (fun x_27 I_27 J_27 h_27 => ?_)
      have kJ_27 : Kp 49 73 Ja J_27 := Kp_tr (Kp_rf (a := 49) (b := 73)) h_27.2.1
      have kI_27 : Ch [50, 51] [0, 1] Ia I_27 := Ch_tr Ch_rf (Ch_wd h_27.1 (by decide) (by decide))
      have cI_27 : RX I_27 := h_27.2.2.1
      have qI_27 := RX_o cI_27
      refine rI hX (pc := 30) hT (Nat.le_refl 0) (Nat.le_refl 0) dX11_back_30 ?_
      exact ⟨kI_27, kJ_27, cI_27, (fun h9 => absurd (by omega) h9), (fun _ => ⟨fun _ => ⟨h_27.2.2.2, h_27.1.1 51 (by decide) (by decide)⟩, fun h9 => absurd (by omega) h9⟩)⟩
  · simp only [w32_mod] at h_6
    refine ww_aload_n hX (pc := 9) dX11_back_9 rfl ?_
    refine ww_iconst hX (pc := 10) (x := (-1)) dX11_back_10 rfl ?_
    refine vI1 hX (pc := 11) sX11_105 (xs_49 hL) (c_X11_refuses l0 hL hQ (by omega) (by omega)) (by decide) (Nat.le_refl 0) (Nat.le_refl 0) (Nat.le_of_ble_eq_true rfl) dX11_back_11 (fun x_11 I_11 J_11 h_11 => ?_)
    have kJ_11 : Kp 49 73 Ja J_11 := Kp_tr (Kp_rf (a := 49) (b := 73)) h_11.2.1
    have kI_11 : Ch [50, 51] [0, 1] Ia I_11 := Ch_tr Ch_rf (Ch_wd h_11.1 (by decide) (by decide))
    have cI_11 : RX I_11 := h_11.2.2.1
    have qI_11 := RX_o cI_11
    refine rI hX (pc := 14) hT (Nat.le_refl 0) (Nat.le_refl 0) dX11_back_14 ?_
    exact ⟨kI_11, kJ_11, cI_11, (fun _ => ⟨h_11.2.2.2, h_11.1.1 51 (by decide) (by decide)⟩), (fun h9 => absurd h9 (by omega))⟩
set_option maxHeartbeats 4000000 in
set_option maxRecDepth 20000 in
theorem c2_X11_torn (l0 : Launch) {Ia Ja : aI1} {Ra : aR1} {Sa : aS1} (hL : LY Ra Sa) (hQ : RX Ia)  : CT l0 0 0 0 mX11_torn [kR (some 49)] Ia Ja Ra Sa (cI (fun x I' J' => Ia = I' ∧ Ja = J' ∧ x = Ia 49 6) Ra Sa) := by
  refine ct_in pn_X11 (Nat.le_of_ble_eq_true rfl) (fun X hX hT hIn => ?_)
  have hX : aK l0 X cX11_torn 1 RX11 (some .int) 0 0 0 := hX
  change WW X 0 [some (kR (some 49))] [] Ia Ja Ra Sa 0 0
  have qIa := RX_o hQ
  refine ww_aload_n hX (pc := 0) dX11_torn_0 rfl ?_
  refine ww_getI hX (pc := 1) fX11_136 (by decide) (xs_49 hL) dX11_torn_1 ?_
  refine rI hX (pc := 4) hT (Nat.le_refl 0) (Nat.le_refl 0) dX11_torn_4 ?_
  exact ⟨rfl, rfl, rfl⟩
end
