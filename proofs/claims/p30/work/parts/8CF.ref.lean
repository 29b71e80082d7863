/-- row 51 emptied -/
def EMr (F : Nat → Int) (j : Nat) : Int := if j < 256 then -1 else if j = 307 ∨ j = 308 ∨ j = 309 then 0 else F j
theorem EMr_o {F : Nat → Int} {j : Nat} (h : 256 ≤ j) (h1 : ¬ (j = 307 ∨ j = 308 ∨ j = 309)) : EMr F j = F j := by
  unfold EMr
  rw [if_neg (by omega), if_neg h1]
theorem EMr_c {F : Nat → Int} {j : Nat} (h : j < 256) : EMr F j = -1 := if_pos h
theorem EMr_z {F : Nat → Int} {j : Nat} (h1 : j = 307 ∨ j = 308 ∨ j = 309) : EMr F j = 0 := by
  unfold EMr
  rw [if_neg (by omega), if_pos h1]
set_option maxHeartbeats 4000000 in
set_option maxRecDepth 20000 in
theorem c5_X11_empties (l0 : Launch) {Ia Ja : aI1} {Ra : aR1} {Sa : aS1} (hL : LY Ra Sa) (hQ : RX Ia)  : CT l0 0 0 0 mX11_empties [kR (some 49)] Ia Ja Ra Sa (cV (fun I' J' => Ch [51] [] Ia I' ∧ Kp 49 73 Ja J' ∧ RX I' ∧ I' 51 = EMr (Ia 51)) Ra Sa) := by
  refine ct_in pn_X11 (Nat.le_of_ble_eq_true rfl) (fun X hX hT hIn => ?_)
  have hX : aK l0 X cX11_empties 2 RX11 none 0 0 0 := hX
  change WW X 0 [some (kR (some 49)), none] [] Ia Ja Ra Sa 0 0
  have qIa := RX_o hQ
  refine ww_iconst hX (pc := 0) (x := 0) dX11_empties_0 rfl ?_
  refine ww_istore_n hX (pc := 1) (lv' := [some (kR (some 49)), some (kI 0)]) dX11_empties_1 (by decide) rfl rfl ?_
  have hl_2 : ∀ (n_2 : Nat) (i : Int) (I2 : aI1) (J2 : aI1), (256 - i).toNat = n_2 → (Ch [51] [] Ia I2 ∧ RX I2 ∧ Kp 49 73 Ja J2 ∧ I2 51 304 = Ia 51 304 ∧ I2 51 305 = Ia 51 305 ∧ (0 ≤ i ∧ i ≤ 256) ∧ (∀ j : Nat, I2 51 j = if (j : Int) < i then -1 else Ia 51 j)) → WW X 2 [some (kR (some 49)), some (kI i)] [] I2 J2 Ra Sa 0 0 := by
    intro n_2
    induction n_2 using Nat.strongRecOn with
    | ind n_2 ih_2 =>
      intro i I2 J2 hm_2 hv_2
      have hq_2 := Sh0_i hm_2
      clear hm_2
      obtain ⟨kI2, cI2, kJ2, r304_I2, r305_I2, hv, hej⟩ := hv_2
      have qI2 := RX_o cI2
      have rf_I2 : FU (I2 51 304) = FU (Ia 51 304) := by rw [r304_I2]
      refine ww_iload_n hX (pc := 2) dX11_empties_2 rfl ?_
      refine ww_sipush hX (pc := 3) (x := 256) dX11_empties_3 (by decide) ?_
      refine ww_icmp_ge hX (pc := 6) (tgt := 24) dX11_empties_6 (by decide) (fun h_6 => ?_) (fun h_6 => ?_)
      · simp only [w32_mod] at h_6
        refine ww_aload_n hX (pc := 24) dX11_empties_24 rfl ?_
        refine ww_getR hX (pc := 25) fX11_20 (by decide) (xs_49 hL) (xr_49_3 hL) dX11_empties_25 ?_
        refine ww_sipush hX (pc := 28) (x := 307) dX11_empties_28 (by decide) ?_
        refine ww_iconst hX (pc := 31) (x := 0) dX11_empties_31 rfl ?_
        refine ww_iast hX (pc := 32) (xs_51 hL) (by decide) (by omega) (by omega) dX11_empties_32 ?_
        refine ww_nmH (fun I_32 eI_32 => ?_)
        have kI_32 : Ch [51] [] Ia I_32 := by rw [eI_32]; exact Ch_r kI2 (by decide) (by decide)
        have cI_32 : RX I_32 := by rw [eI_32]; exact RX_307 cI2 (by omega) (by omega)
        have qI_32 := RX_o cI_32
        have r304_I_32 : I_32 51 304 = I2 51 304 := by rw [eI_32, up2_n _ _ (Or.inr (by decide))]
        have r305_I_32 : I_32 51 305 = I2 51 305 := by rw [eI_32, up2_n _ _ (Or.inr (by decide))]
        have rf_I_32 : FU (I_32 51 304) = FU (I2 51 304) := by rw [r304_I_32]
        refine ww_aload_n hX (pc := 33) dX11_empties_33 rfl ?_
        refine ww_getR hX (pc := 34) fX11_20 (by decide) (xs_49 hL) (xr_49_3 hL) dX11_empties_34 ?_
        refine ww_sipush hX (pc := 37) (x := 308) dX11_empties_37 (by decide) ?_
        refine ww_iconst hX (pc := 40) (x := 0) dX11_empties_40 rfl ?_
        refine ww_iast hX (pc := 41) (xs_51 hL) (by decide) (by omega) (by omega) dX11_empties_41 ?_
        refine ww_nmH (fun I_41 eI_41 => ?_)
        have kI_41 : Ch [51] [] Ia I_41 := by rw [eI_41]; exact Ch_r kI_32 (by decide) (by decide)
        have cI_41 : RX I_41 := by rw [eI_41]; exact RX_308 cI_32 (by omega) (by omega)
        have qI_41 := RX_o cI_41
        have r304_I_41 : I_41 51 304 = I_32 51 304 := by rw [eI_41, up2_n _ _ (Or.inr (by decide))]
        have r305_I_41 : I_41 51 305 = I_32 51 305 := by rw [eI_41, up2_n _ _ (Or.inr (by decide))]
        have rf_I_41 : FU (I_41 51 304) = FU (I_32 51 304) := by rw [r304_I_41]
        refine ww_aload_n hX (pc := 42) dX11_empties_42 rfl ?_
        refine ww_getR hX (pc := 43) fX11_20 (by decide) (xs_49 hL) (xr_49_3 hL) dX11_empties_43 ?_
        refine ww_sipush hX (pc := 46) (x := 309) dX11_empties_46 (by decide) ?_
        refine ww_iconst hX (pc := 49) (x := 0) dX11_empties_49 rfl ?_
        refine ww_iast hX (pc := 50) (xs_51 hL) (by decide) (by omega) (by omega) dX11_empties_50 ?_
        refine ww_nmH (fun I_50 eI_50 => ?_)
        have kI_50 : Ch [51] [] Ia I_50 := by rw [eI_50]; exact Ch_r kI_41 (by decide) (by decide)
        have cI_50 : RX I_50 := by rw [eI_50]; exact RX_309 cI_41 (by omega) (by omega)
        have qI_50 := RX_o cI_50
        have r304_I_50 : I_50 51 304 = I_41 51 304 := by rw [eI_50, up2_n _ _ (Or.inr (by decide))]
        have r305_I_50 : I_50 51 305 = I_41 51 305 := by rw [eI_50, up2_n _ _ (Or.inr (by decide))]
        have rf_I_50 : FU (I_50 51 304) = FU (I_41 51 304) := by rw [r304_I_50]
        refine rV hX (pc := 51) hT (Nat.le_refl 0) (Nat.le_refl 0) dX11_empties_51 ?_
        exact ⟨kI_50, kJ2, cI_50, (by
            rw [eI_50, up2_row, eI_41, up2_row, eI_32, up2_row]
            funext j
            by_cases e1 : j = 309
            · subst e1; exact (up1_s _ _ _).trans (EMr_z (by decide)).symm
            · by_cases e2 : j = 308
              · subst e2; exact (up1_n _ _ (by decide)).trans ((up1_s _ _ _).trans (EMr_z (by decide)).symm)
              · by_cases e3 : j = 307
                · subst e3; exact (up1_n _ _ (by decide)).trans ((up1_n _ _ (by decide)).trans ((up1_s _ _ _).trans (EMr_z (by decide)).symm))
                · refine (up1_n _ _ e1).trans ((up1_n _ _ e2).trans ((up1_n _ _ e3).trans ?_))
                  rw [hej j]
                  by_cases e4 : j < 256
                  · rw [if_pos (by omega), EMr_c e4]
                  · rw [if_neg (by omega), EMr_o (by omega) (by omega)])⟩
      · simp only [w32_mod] at h_6
        refine ww_aload_n hX (pc := 9) dX11_empties_9 rfl ?_
        refine ww_getR hX (pc := 10) fX11_20 (by decide) (xs_49 hL) (xr_49_3 hL) dX11_empties_10 ?_
        refine ww_iconst hX (pc := 13) (x := 0) dX11_empties_13 rfl ?_
        refine ww_iload_n hX (pc := 14) dX11_empties_14 rfl ?_
        refine ww_iadd hX (pc := 15) dX11_empties_15 ?_
        refine ww_iconst hX (pc := 16) (x := (-1)) dX11_empties_16 rfl ?_
        refine ww_iast hX (pc := 17) (xs_51 hL) (by decide) (by omega) (by omega) dX11_empties_17 ?_
        refine ww_nmH (fun I_17 eI_17 => ?_)
        have kI_17 : Ch [51] [] Ia I_17 := by rw [eI_17]; exact Ch_r kI2 (by decide) (by decide)
        have cI_17 : RX I_17 := by rw [eI_17]; exact RX_lo cI2 (by omega)
        have qI_17 := RX_o cI_17
        have r304_I_17 : I_17 51 304 = I2 51 304 := by rw [eI_17, up2_n _ _ (Or.inr (by omega))]
        have r305_I_17 : I_17 51 305 = I2 51 305 := by rw [eI_17, up2_n _ _ (Or.inr (by omega))]
        have rf_I_17 : FU (I_17 51 304) = FU (I2 51 304) := by rw [r304_I_17]
        have t17 : ∀ j : Nat, I_17 51 j = if (j : Int) < i + 1 then -1 else Ia 51 j := fun j => by
          rw [eI_17, up2_row]
          by_cases e9 : j = (0 + i).toNat
          · rw [e9, up1_s, if_pos (by omega)]
          · rw [up1_n _ _ e9, hej j]
            by_cases e8 : (j : Int) < i
            · rw [if_pos e8, if_pos (by omega)]
            · rw [if_neg e8, if_neg (by omega)]
        refine ww_iinc hX (pc := 18) (lv' := [some (kR (some 49)), some (kI (i + 1))]) dX11_empties_18 rfl (by decide) rfl rfl ?_
        refine ww_goto hX (pc := 21) (tgt := 2) dX11_empties_21 (by decide) ?_
        exact ih_2 _ (by have hm9 := Sh0_e hq_2; omega) (i + 1) I_17 J2 rfl ⟨kI_17, cI_17, kJ2, by omega, by omega, ⟨by omega, by omega⟩, t17⟩
  exact hl_2 _ 0 Ia Ja rfl ⟨Ch_rf, hQ, (Kp_rf (a := 49) (b := 73)), rfl, rfl, ⟨by omega, by omega⟩, fun j => by rw [if_neg (by omega)]⟩
