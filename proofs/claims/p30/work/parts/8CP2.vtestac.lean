set_option maxHeartbeats 4000000 in
set_option maxRecDepth 20000 in
theorem c6_X11_plainOf (l0 : Launch) {Ia Ja : aI1} {Ra : aR1} {Sa : aS1} (hL : LY Ra Sa) (hQ : RX Ia) {la : Int} (hla : 0 ≤ la ∧ la ≤ 1) {t a : Nat} {c : Nat → Int} (hE : EV Ia t c a) {vl : Nat → Int} {en : zE} (hV : zEV Ia t vl en) (hB : zB1 Ia) {m b : Nat} {D : zD} (hG : zG (zPl (zTu c vl m) (zS c vl m) c) a b D) (hrec : ∀ mp, m = mp + 1 → VTest l0 mp)  : CT l0 (4 * m + 7) 0 0 mX11_plainOf [kR (some 49), kI la] Ia Ja Ra Sa (cI (fun x I' J' => Ch [] [19, 21] Ia I' ∧ Kp 49 73 Ja J' ∧ RX I' ∧ EV I' t c b ∧ zB1 I' ∧ (0 ≤ x ∧ x ≤ 1) ∧ zRv la (Ia 49 21) (I' 49 21) x (D en)) Ra Sa) := by
  refine ct_in pn_X11 (Nat.le_of_ble_eq_true rfl) (fun X hX hT hIn => ?_)
  have hX : aK l0 X cX11_plainOf 3 RX11 (some .boolean) (4 * m + 7) 0 0 := hX
  change WW X 0 [some (kR (some 49)), some (kI la), none] [] Ia Ja Ra Sa 0 0
  have qIa := RX_w hQ
  have oIa := EV_o hE
  obtain ⟨t1, f, Dp, hNa, hGp, hDp⟩ := zG_pl hG
  have hlp := zG_lt (zPos_l m) hGp
  refine ww_iconst hX (pc := 0) (x := 0) dX11_plainOf_0 rfl ?_
  refine ww_istore_n hX (pc := 1) (lv' := [some (kR (some 49)), some (kI la), some (kI 0)]) dX11_plainOf_1 (by decide) rfl rfl ?_
  have hl_2 : ∀ (n_2 : Nat) (ng : Int) (I2 : aI1) (J2 : aI1), (400 * t + b - I2 49 19).toNat = n_2 → (Ch [] [19, 21] Ia I2 ∧ RX I2 ∧ Kp 49 73 Ja J2 ∧ (0 ≤ ng ∧ ng ≤ 1) ∧ ∃ p9 : Nat, EV I2 t c p9 ∧ zB1 I2 ∧ I2 49 21 = Ia 49 21 ∧ zHN c p9 ng t1 f) → WW X 2 [some (kR (some 49)), some (kI la), some (kI ng)] [] I2 J2 Ra Sa 0 0 := by
    intro n_2
    induction n_2 using Nat.strongRecOn with
    | ind n_2 ih_2 =>
      intro ng I2 J2 hm_2 hv_2
      have hq_2 := Sh0_i hm_2
      clear hm_2
      obtain ⟨kI2, cI2, kJ2, hng, p9, vI2, bI2, hb2, hH2⟩ := hv_2
      have qI2 := RX_w cI2
      have oI2 := EV_o vI2
      have hle2 := zHN_le hH2
      refine ww_aload_n hX (pc := 2) dX11_plainOf_2 rfl ?_
      refine ww_iconst hX (pc := 3) (x := 5) dX11_plainOf_3 rfl ?_
      refine vI1 hX (pc := 4) sX11_240 (xs_49 hL) (c_X11_passes0 l0 hL cI2  (by omega) (by omega) vI2) (by omega) (Nat.le_refl 0) (Nat.le_refl 0) (Nat.le_of_ble_eq_true rfl) dX11_plainOf_4 (fun x_4 I_4 J_4 h_4 => ?_)
      have kJ_4 : Kp 49 73 Ja J_4 := Kp_tr kJ2 h_4.2.1
      have kI_4 : Ch [] [19, 21] Ia I_4 := Ch_tr kI2 (Ch_wd h_4.1 (by decide) (by decide))
      have cI_4 : RX I_4 := h_4.2.2.1
      have qI_4 := RX_w cI_4
      have f20_I_4 : I_4 49 20 = I2 49 20 := h_4.1.2 20 (by decide)
      have f21_I_4 : I_4 49 21 = I2 49 21 := h_4.1.2 21 (by decide)
      have vI_4 : EV I_4 t c (p9 + x_4.toNat) := h_4.2.2.2.1
      have oI_4 := EV_o vI_4
      have yI_4 := h_4.2.2.2.2
      have bI_4 : zB1 I_4 := zB1_e bI2 f21_I_4
      refine ww_if_eq hX (pc := 7) (tgt := 23) dX11_plainOf_7 (by decide) (fun h_7 => ?_) (fun h_7 => ?_)
      · simp only [w32_mod] at h_7
        have hN9 := zHN_no hH2 (PS_0 yI_4.2 (by omega))
        have w4 : EV I_4 t c t1 := EV_to vI_4 (by omega)
        refine ww_aload_n hX (pc := 23) dX11_plainOf_23 rfl ?_
        refine ww_iload_n hX (pc := 24) dX11_plainOf_24 rfl ?_
        refine vI1 hX (pc := 25) sX11_253 (xs_49 hL) (c6_X11_positiveOf l0 hL cI_4  (by omega) w4 (zEV_ch kI_4 (by decide) (by decide) hV) bI_4 hGp hrec) (by omega) (Nat.le_refl 0) (Nat.le_refl 0) (Nat.le_of_ble_eq_true rfl) dX11_plainOf_25 (fun x_25 I_25 J_25 h_25 => ?_)
        have kJ_25 : Kp 49 73 Ja J_25 := Kp_tr kJ_4 h_25.2.1
        have kI_25 : Ch [] [19, 21] Ia I_25 := Ch_tr kI_4 (Ch_wd h_25.1 (by decide) (by decide))
        have cI_25 : RX I_25 := h_25.2.2.1
        have qI_25 := RX_w cI_25
        have f20_I_25 : I_25 49 20 = I_4 49 20 := h_25.1.2 20 (by decide)
        have vI_25 : EV I_25 t c b := h_25.2.2.2.1
        have oI_25 := EV_o vI_25
        have yI_25 := h_25.2.2.2.2
        have bI_25 : zB1 I_25 := yI_25.1
        refine ww_iload_n hX (pc := 28) dX11_plainOf_28 rfl ?_
        refine ww_icmp_eq hX (pc := 29) (tgt := 36) dX11_plainOf_29 (by decide) (fun h_29 => ?_) (fun h_29 => ?_)
        · simp only [w32_mod] at h_29
          refine ww_iconst hX (pc := 36) (x := 0) dX11_plainOf_36 rfl ?_
          refine rZ hX (pc := 37) hT (Nat.le_refl 0) (Nat.le_refl 0) dX11_plainOf_37 (by decide) ?_
          exact ⟨kI_25, kJ_25, cI_25, vI_25, bI_25, by omega, zRv_fl hDp (zRv_cg yI_25.2.2 (by omega) rfl) yI_25.2.1 (fun g => by omega) (fun g => by omega)⟩
        · simp only [w32_mod] at h_29
          refine ww_iconst hX (pc := 32) (x := 1) dX11_plainOf_32 rfl ?_
          refine ww_goto hX (pc := 33) (tgt := 37) dX11_plainOf_33 (by decide) ?_
          refine rZ hX (pc := 37) hT (Nat.le_refl 0) (Nat.le_refl 0) dX11_plainOf_37 (by decide) ?_
          exact ⟨kI_25, kJ_25, cI_25, vI_25, bI_25, by omega, zRv_fl hDp (zRv_cg yI_25.2.2 (by omega) rfl) yI_25.2.1 (fun g => by omega) (fun g => by omega)⟩
      · simp only [w32_mod] at h_7
        have hc9 := PS_1 yI_4.2 (by omega)
        have hz9 := EV_z (i := p9) vI2 (by omega)
        have hN9 := zHN_op hH2 hc9 (by omega)
        have hle9 := zHN_le hN9
        have w4 : EV I_4 t c (p9 + 1) := EV_to vI_4 (by omega)
        refine ww_iload_n hX (pc := 10) dX11_plainOf_10 rfl ?_
        refine ww_if_ne hX (pc := 11) (tgt := 18) dX11_plainOf_11 (by decide) (fun h_11 => ?_) (fun h_11 => ?_)
        · simp only [w32_mod] at h_11
          refine ww_iconst hX (pc := 18) (x := 0) dX11_plainOf_18 rfl ?_
          refine ww_istore_n hX (pc := 19) (lv' := [some (kR (some 49)), some (kI la), some (kI 0)]) dX11_plainOf_19 (by decide) rfl rfl ?_
          refine ww_goto hX (pc := 20) (tgt := 2) dX11_plainOf_20 (by decide) ?_
          exact ih_2 _ (by have hm9 := Sh0_e hq_2; omega) 0 I_4 J_4 rfl ⟨kI_4, cI_4, kJ_4, by omega, ⟨p9 + 1, w4, bI_4, by omega, (by have hN8 := hN9; first | exact hN8 | (rw [show (1 : Int) - ng = 1 by omega] at hN8; exact hN8) | (rw [show (1 : Int) - ng = 0 by omega] at hN8; exact hN8))⟩⟩
        · simp only [w32_mod] at h_11
          refine ww_iconst hX (pc := 14) (x := 1) dX11_plainOf_14 rfl ?_
          refine ww_goto hX (pc := 15) (tgt := 19) dX11_plainOf_15 (by decide) ?_
          refine ww_istore_n hX (pc := 19) (lv' := [some (kR (some 49)), some (kI la), some (kI 1)]) dX11_plainOf_19 (by decide) rfl rfl ?_
          refine ww_goto hX (pc := 20) (tgt := 2) dX11_plainOf_20 (by decide) ?_
          exact ih_2 _ (by have hm9 := Sh0_e hq_2; omega) 1 I_4 J_4 rfl ⟨kI_4, cI_4, kJ_4, by omega, ⟨p9 + 1, w4, bI_4, by omega, (by have hN8 := hN9; first | exact hN8 | (rw [show (1 : Int) - ng = 1 by omega] at hN8; exact hN8) | (rw [show (1 : Int) - ng = 0 by omega] at hN8; exact hN8))⟩⟩
  exact hl_2 _ 0 Ia Ja rfl ⟨Ch_rf, hQ, (Kp_rf (a := 49) (b := 73)), by omega, ⟨a, hE, hB, rfl, hNa⟩⟩
