set_option maxHeartbeats 4000000 in
set_option maxRecDepth 20000 in
theorem c9_X11_image (l0 : Launch) {Ia Ja : aI1} {Ra : aR1} {Sa : aS1} (hL : LY Ra Sa) (hQ : RX Ia) {a : Int} (ha0 : -2147483648 ≤ a) (ha1 : a < 2147483648)  : CT l0 2 0 0 mX11_image [kR (some 49), kI a] Ia Ja Ra Sa (cI (fun x I' J' => (Ch [50, 52, 53] [0, 1] Ia I' ∧ Kp 49 73 Ja J' ∧ RX I' ∧ (¬ (0 ≤ a ∧ a < 2) → x = -1 ∧ I' 53 = Ia 53 ∧ I' 52 = Ia 52) ∧ ((0 ≤ a ∧ a < 2) → x = 0 ∧ I' 53 = up1 (Ia 53) a.toNat 1 ∧ (∀ j : Nat, j < 5117 → I' 52 (5117 * a.toNat + j) = Ia 51 j) ∧ (∀ b : Nat, (b < 5117 * a.toNat ∨ 5117 * a.toNat + 5117 ≤ b) → I' 52 b = Ia 52 b))) ∧ RGQ9 x Ia I' Ja J') Ra Sa) := by
  refine ct_in pn_X11 (Nat.le_of_ble_eq_true rfl) (fun X hX hT hIn => ?_)
  have hX : aK l0 X cX11_image 3 RX11 (some .int) 2 0 0 := hX
  change WW X 0 [some (kR (some 49)), some (kI a), none] [] Ia Ja Ra Sa 0 0
  have qIa := RX_o hQ
  refine ww_iload_n hX (pc := 0) dX11_image_0 rfl ?_
  refine ww_iconst hX (pc := 1) (x := 0) dX11_image_1 rfl ?_
  refine ww_iconst hX (pc := 2) (x := 1) dX11_image_2 rfl ?_
  refine sI3 hX (pc := 3) sX11_101 (c_X11_lies l0 (by omega) (by omega) (by omega) (by omega) (by omega) (by omega)) (by decide) (Nat.le_refl 0) (Nat.le_refl 0) (Nat.le_of_ble_eq_true rfl) dX11_image_3 (fun x_3 I_3 J_3 h_3 => ?_)
  obtain ⟨rfl, rfl, h_3⟩ := h_3
  refine ww_if_ne hX (pc := 6) (tgt := 15) dX11_image_6 (by decide) (fun h_6 => ?_) (fun h_6 => ?_)
  · simp only [w32_mod] at h_6
    have k_3 := h_3.2.mp (by omega)
    clear h_3
    refine ww_iconst hX (pc := 15) (x := 0) dX11_image_15 rfl ?_
    refine ww_istore_n hX (pc := 16) (lv' := [some (kR (some 49)), some (kI a), some (kI 0)]) dX11_image_16 (by decide) rfl rfl ?_
    have hl_17 : ∀ (n_17 : Nat) (i : Int) (I17 : aI1), (5117 - i).toNat = n_17 → (BK9 Ia I17 ∧ TK9 Ia I17 Ja Ja ∧ (Ch [50, 52, 53] [0, 1] Ia I17 ∧ (0 ≤ i ∧ i ≤ 5117) ∧ I17 = imgR Ia a i)) → WW X 17 [some (kR (some 49)), some (kI a), some (kI i)] [] I17 Ja Ra Sa 0 0 := by
      intro n_17
      induction n_17 using Nat.strongRecOn with
      | ind n_17 ih_17 =>
        intro i I17 hm_17 hv_17
        have hq_17 := Sh0_i hm_17
        clear hm_17
        obtain ⟨bkl17, tkl17, hv_17⟩ := hv_17
        obtain ⟨kI17, hv, eI17⟩ := hv_17
        refine ww_iload_n hX (pc := 17) dX11_image_17 rfl ?_
        refine ww_sipush hX (pc := 18) (x := 5117) dX11_image_18 (by decide) ?_
        refine ww_icmp_ge hX (pc := 21) (tgt := 48) dX11_image_21 (by decide) (fun h_21 => ?_) (fun h_21 => ?_)
        · simp only [w32_mod] at h_21
          refine ww_aload_n hX (pc := 48) dX11_image_48 rfl ?_
          refine ww_getR hX (pc := 49) fX11_26 (by decide) (xs_49 hL) (xr_49_5 hL) dX11_image_49 ?_
          refine ww_iload_n hX (pc := 52) dX11_image_52 rfl ?_
          refine ww_iconst hX (pc := 53) (x := 1) dX11_image_53 rfl ?_
          refine ww_zast hX (pc := 54) (xs_53 hL) (by decide) (by omega) (by omega) (by decide) dX11_image_54 ?_
          refine ww_nmH (fun I_54 eI_54 => ?_)
          have kI_54 : Ch [50, 52, 53] [0, 1] Ia I_54 := by rw [eI_54]; exact Ch_r kI17 (by decide) (by decide)
          have bkI_54 : BK9 Ia I_54 := by rw [eI_54]; exact BK9_up bkl17 (by decide)
          have tkI_54 : TK9 Ia I_54 Ja Ja := by rw [eI_54]; exact TK9_up tkl17 (by decide)
          have cI_54 : RX I_54 := by rw [eI_54, eI17, show i = 5117 by omega]; exact RX_img hQ (by omega) (by omega)
          refine ww_aload_n hX (pc := 55) dX11_image_55 rfl ?_
          refine ww_iconst hX (pc := 56) (x := 0) dX11_image_56 rfl ?_
          refine vI1 hX (pc := 57) sX11_109 (xs_49 hL) (n9_X11_good l0 hL cI_54) (by decide) (Nat.le_refl 0) (Nat.le_refl 0) (Nat.le_of_ble_eq_true rfl) dX11_image_57 (fun x_57 I_57 J_57 h_57 => ?_)
          obtain ⟨h_57, qxI_57⟩ := h_57
          have kJ_57 : Kp 49 73 Ja J_57 := Kp_tr (Kp_rf (a := 49) (b := 73)) h_57.2.1
          have kI_57 : Ch [50, 52, 53] [0, 1] Ia I_57 := Ch_tr kI_54 (Ch_wd h_57.1 (by decide) (by decide))
          have cI_57 : RX I_57 := h_57.2.2.1
          have qI_57 := RX_o cI_57
          refine rI hX (pc := 60) hT (Nat.le_refl 0) (Nat.le_refl 0) dX11_image_60 ?_
          exact ⟨⟨kI_57, kJ_57, cI_57, (fun h9 => absurd (by omega) h9), (fun _ => ⟨h_57.2.2.2, (by rw [h_57.1.1 53 (by decide) (by decide), eI_54, up2_row, eI17]; unfold imgR; rw [upR_n _ _ (by decide)]), (fun j hj => by rw [h_57.1.1 52 (by decide) (by decide), eI_54, up2_off _ _ _ (by decide), eI17, show i = 5117 by omega]; exact imgR_at (by omega) hj), (fun b hb => by rw [h_57.1.1 52 (by decide) (by decide), eI_54, up2_off _ _ _ (by decide), eI17, show i = 5117 by omega]; exact imgR_of (by omega) hb)⟩)⟩, ⟨(fun h9 => absurd h9 (by have := h_57.2.2.2; omega)), (fun _ => GQ9_tr bkI_54 qxI_57)⟩⟩
        · simp only [w32_mod] at h_21
          refine ww_aload_n hX (pc := 24) dX11_image_24 rfl ?_
          refine ww_getR hX (pc := 25) fX11_23 (by decide) (xs_49 hL) (xr_49_4 hL) dX11_image_25 ?_
          refine ww_sipush hX (pc := 28) (x := 5117) dX11_image_28 (by decide) ?_
          refine ww_iload_n hX (pc := 31) dX11_image_31 rfl ?_
          refine ww_imul hX (pc := 32) dX11_image_32 ?_
          refine ww_iload_n hX (pc := 33) dX11_image_33 rfl ?_
          refine ww_iadd hX (pc := 34) dX11_image_34 ?_
          refine ww_aload_n hX (pc := 35) dX11_image_35 rfl ?_
          refine ww_getR hX (pc := 36) fX11_20 (by decide) (xs_49 hL) (xr_49_3 hL) dX11_image_36 ?_
          refine ww_iload_n hX (pc := 39) dX11_image_39 rfl ?_
          refine ww_iald hX (pc := 40) (xs_51 hL) (by decide) (by omega) (by omega) dX11_image_40 ?_
          refine ww_iast hX (pc := 41) (xs_52 hL) (by decide) (by omega) (by omega) dX11_image_41 ?_
          refine ww_nmH (fun I_41 eI_41 => ?_)
          have kI_41 : Ch [50, 52, 53] [0, 1] Ia I_41 := by rw [eI_41]; exact Ch_r kI17 (by decide) (by decide)
          have bkI_41 : BK9 Ia I_41 := by rw [eI_41]; exact BK9_up bkl17 (by decide)
          have tkI_41 : TK9 Ia I_41 Ja Ja := by rw [eI_41]; exact TK9_up tkl17 (by decide)
          refine ww_iinc hX (pc := 42) (lv' := [some (kR (some 49)), some (kI a), some (kI (i + 1))]) dX11_image_42 rfl (by decide) rfl rfl ?_
          refine ww_goto hX (pc := 45) (tgt := 17) dX11_image_45 (by decide) ?_
          exact ih_17 _ (by have hm9 := Sh0_e hq_17; omega) (i + 1) I_41 rfl ⟨bkI_41, tkI_41, ⟨kI_41, ⟨by omega, by omega⟩, by rw [eI_41, eI17]; exact imgR_s _ (by omega) (by omega)⟩⟩
    exact hl_17 _ 0 Ia rfl ⟨BK9_rf, TK9_rf, ⟨Ch_rf, ⟨by omega, by omega⟩, imgR_0 _ _⟩⟩
  · simp only [w32_mod] at h_6
    refine ww_aload_n hX (pc := 9) dX11_image_9 rfl ?_
    refine ww_iconst hX (pc := 10) (x := (-1)) dX11_image_10 rfl ?_
    refine vI1 hX (pc := 11) sX11_105 (xs_49 hL) (n9_X11_refuses l0 hL hQ (by omega) (by omega)) (by decide) (Nat.le_refl 0) (Nat.le_refl 0) (Nat.le_of_ble_eq_true rfl) dX11_image_11 (fun x_11 I_11 J_11 h_11 => ?_)
    obtain ⟨h_11, qxI_11⟩ := h_11
    have kJ_11 : Kp 49 73 Ja J_11 := Kp_tr (Kp_rf (a := 49) (b := 73)) h_11.2.1
    have kI_11 : Ch [50, 52, 53] [0, 1] Ia I_11 := Ch_tr Ch_rf (Ch_wd h_11.1 (by decide) (by decide))
    have cI_11 : RX I_11 := h_11.2.2.1
    have qI_11 := RX_o cI_11
    refine rI hX (pc := 14) hT (Nat.le_refl 0) (Nat.le_refl 0) dX11_image_14 ?_
    exact ⟨⟨kI_11, kJ_11, cI_11, (fun _ => ⟨h_11.2.2.2, h_11.1.1 53 (by decide) (by decide), h_11.1.1 52 (by decide) (by decide)⟩), (fun h9 => absurd h9 (by omega))⟩, ⟨(fun _ => RQ9_tr BK9_rf TK9_rf qxI_11), (fun h9 => absurd h9 (by have := h_11.2.2.2; omega))⟩⟩
