set_option maxHeartbeats 4000000 in
set_option maxRecDepth 20000 in
theorem c9_X11_back (l0 : Launch) {Ia Ja : aI1} {Ra : aR1} {Sa : aS1} (hL : LY Ra Sa) (hQ : RX Ia) {a : Int} (ha0 : -2147483648 ≤ a) (ha1 : a < 2147483648)  : CT l0 2 0 0 mX11_back [kR (some 49), kI a] Ia Ja Ra Sa (cI (fun x I' J' => (Ch [50, 51] [0, 1] Ia I' ∧ Kp 49 73 Ja J' ∧ RX I' ∧ (¬ (0 ≤ a ∧ a < 2) → x = -1 ∧ I' 51 = Ia 51) ∧ ((0 ≤ a ∧ a < 2) → (Ia 53 a.toNat = 0 → x = -2 ∧ I' 51 = Ia 51) ∧ (¬ Ia 53 a.toNat = 0 → x = 0 ∧ ∀ j : Nat, j < 5117 → I' 51 j = Ia 52 (5117 * a.toNat + j)))) ∧ RGQ9 x Ia I' Ja J') Ra Sa) := by
  refine ct_in pn_X11 (Nat.le_of_ble_eq_true rfl) (fun X hX hT hIn => ?_)
  have hX : aK l0 X cX11_back 3 RX11 (some .int) 2 0 0 := hX
  change WW X 0 [some (kR (some 49)), some (kI a), none] [] Ia Ja Ra Sa 0 0
  have qIa := RX_o hQ
  refine ww_iload_n hX (pc := 0) dX11_back_0 rfl ?_
  refine ww_iconst hX (pc := 1) (x := 0) dX11_back_1 rfl ?_
  refine ww_iconst hX (pc := 2) (x := 1) dX11_back_2 rfl ?_
  refine sI3 hX (pc := 3) sX11_101 (c_X11_lies l0 (by omega) (by omega) (by omega) (by omega) (by omega) (by omega)) (by decide) (Nat.le_refl 0) (Nat.le_refl 0) (Nat.le_of_ble_eq_true rfl) dX11_back_3 (fun x_3 I_3 J_3 h_3 => ?_)
  obtain ⟨rfl, rfl, h_3⟩ := h_3
  refine ww_if_ne hX (pc := 6) (tgt := 15) dX11_back_6 (by decide) (fun h_6 => ?_) (fun h_6 => ?_)
  · simp only [w32_mod] at h_6
    have k_3 := h_3.2.mp (by omega)
    clear h_3
    refine ww_aload_n hX (pc := 15) dX11_back_15 rfl ?_
    refine ww_getR hX (pc := 16) fX11_26 (by decide) (xs_49 hL) (xr_49_5 hL) dX11_back_16 ?_
    refine ww_iload_n hX (pc := 19) dX11_back_19 rfl ?_
    have h53 : Ia 53 a.toNat = 0 ∨ Ia 53 a.toNat = 1 := (hQ.2.1 a.toNat (by omega)).imp id And.left
    refine ww_zald hX (pc := 20) (xs_53 hL) (by decide) (by omega) (by omega) dX11_back_20 ?_
    refine ww_if_ne hX (pc := 21) (tgt := 31) dX11_back_21 (by decide) (fun h_21 => ?_) (fun h_21 => ?_)
    · simp only [w32_mod] at h_21
      refine ww_iconst hX (pc := 31) (x := 0) dX11_back_31 rfl ?_
      refine ww_istore_n hX (pc := 32) (lv' := [some (kR (some 49)), some (kI a), some (kI 0)]) dX11_back_32 (by decide) rfl rfl ?_
      have hl_33 : ∀ (n_33 : Nat) (i : Int) (I33 : aI1), (5117 - i).toNat = n_33 → (BK9 Ia I33 ∧ TK9 Ia I33 Ja Ja ∧ (Ch [50, 51] [0, 1] Ia I33 ∧ (0 ≤ i ∧ i ≤ 5117) ∧ I33 = backR Ia a i)) → WW X 33 [some (kR (some 49)), some (kI a), some (kI i)] [] I33 Ja Ra Sa 0 0 := by
        intro n_33
        induction n_33 using Nat.strongRecOn with
        | ind n_33 ih_33 =>
          intro i I33 hm_33 hv_33
          have hq_33 := Sh0_i hm_33
          clear hm_33
          obtain ⟨bkl33, tkl33, hv_33⟩ := hv_33
          obtain ⟨kI33, hv, eI33⟩ := hv_33
          refine ww_iload_n hX (pc := 33) dX11_back_33 rfl ?_
          refine ww_sipush hX (pc := 34) (x := 5117) dX11_back_34 (by decide) ?_
          refine ww_icmp_ge hX (pc := 37) (tgt := 64) dX11_back_37 (by decide) (fun h_37 => ?_) (fun h_37 => ?_)
          · simp only [w32_mod] at h_37
            have cI33 : RX I33 := by rw [eI33, show i = 5117 by omega]; exact RX_back hQ (by omega) (by omega) (by omega)
            refine ww_aload_n hX (pc := 64) dX11_back_64 rfl ?_
            refine ww_iconst hX (pc := 65) (x := 0) dX11_back_65 rfl ?_
            refine vI1 hX (pc := 66) sX11_109 (xs_49 hL) (n9_X11_good l0 hL cI33) (by decide) (Nat.le_refl 0) (Nat.le_refl 0) (Nat.le_of_ble_eq_true rfl) dX11_back_66 (fun x_66 I_66 J_66 h_66 => ?_)
            obtain ⟨h_66, qxI_66⟩ := h_66
            have kJ_66 : Kp 49 73 Ja J_66 := Kp_tr (Kp_rf (a := 49) (b := 73)) h_66.2.1
            have kI_66 : Ch [50, 51] [0, 1] Ia I_66 := Ch_tr kI33 (Ch_wd h_66.1 (by decide) (by decide))
            have cI_66 : RX I_66 := h_66.2.2.1
            have qI_66 := RX_o cI_66
            refine rI hX (pc := 69) hT (Nat.le_refl 0) (Nat.le_refl 0) dX11_back_69 ?_
            exact ⟨⟨kI_66, kJ_66, cI_66, (fun h9 => absurd (by omega) h9), (fun _ => ⟨fun h9 => absurd h9 (by omega), fun _ => ⟨h_66.2.2.2, fun j hj => by rw [h_66.1.1 51 (by decide) (by decide), eI33, show i = 5117 by omega]; exact backR_at (by omega) hj⟩⟩)⟩, ⟨(fun h9 => absurd h9 (by have := h_66.2.2.2; omega)), (fun _ => GQ9_tr bkl33 qxI_66)⟩⟩
          · simp only [w32_mod] at h_37
            refine ww_aload_n hX (pc := 40) dX11_back_40 rfl ?_
            refine ww_getR hX (pc := 41) fX11_20 (by decide) (xs_49 hL) (xr_49_3 hL) dX11_back_41 ?_
            refine ww_iload_n hX (pc := 44) dX11_back_44 rfl ?_
            refine ww_aload_n hX (pc := 45) dX11_back_45 rfl ?_
            refine ww_getR hX (pc := 46) fX11_23 (by decide) (xs_49 hL) (xr_49_4 hL) dX11_back_46 ?_
            refine ww_sipush hX (pc := 49) (x := 5117) dX11_back_49 (by decide) ?_
            refine ww_iload_n hX (pc := 52) dX11_back_52 rfl ?_
            refine ww_imul hX (pc := 53) dX11_back_53 ?_
            refine ww_iload_n hX (pc := 54) dX11_back_54 rfl ?_
            refine ww_iadd hX (pc := 55) dX11_back_55 ?_
            refine ww_iald hX (pc := 56) (xs_52 hL) (by decide) (by omega) (by omega) dX11_back_56 ?_
            refine ww_iast hX (pc := 57) (xs_51 hL) (by decide) (by omega) (by omega) dX11_back_57 ?_
            refine ww_nmH (fun I_57 eI_57 => ?_)
            have kI_57 : Ch [50, 51] [0, 1] Ia I_57 := by rw [eI_57]; exact Ch_r kI33 (by decide) (by decide)
            have bkI_57 : BK9 Ia I_57 := by rw [eI_57]; exact BK9_up bkl33 (by decide)
            have tkI_57 : TK9 Ia I_57 Ja Ja := by rw [eI_57]; exact TK9_up tkl33 (by decide)
            refine ww_iinc hX (pc := 58) (lv' := [some (kR (some 49)), some (kI a), some (kI (i + 1))]) dX11_back_58 rfl (by decide) rfl rfl ?_
            refine ww_goto hX (pc := 61) (tgt := 33) dX11_back_61 (by decide) ?_
            exact ih_33 _ (by have hm9 := Sh0_e hq_33; omega) (i + 1) I_57 rfl ⟨bkI_57, tkI_57, ⟨kI_57, ⟨by omega, by omega⟩, by rw [eI_57, eI33]; exact backR_s _ (by omega)⟩⟩
      exact hl_33 _ 0 Ia rfl ⟨BK9_rf, TK9_rf, ⟨Ch_rf, ⟨by omega, by omega⟩, backR_0 _ _⟩⟩
    · simp only [w32_mod] at h_21
      refine ww_aload_n hX (pc := 24) dX11_back_24 rfl ?_
      refine ww_bipush hX (pc := 25) (x := (-2)) dX11_back_25 (by decide) ?_
      refine vI1 hX (pc := 27) sX11_105 (xs_49 hL) (n9_X11_refuses l0 hL hQ (by omega) (by omega)) (by decide) (Nat.le_refl 0) (Nat.le_refl 0) (Nat.le_of_ble_eq_true rfl) dX11_back_27 (fun x_27 I_27 J_27 h_27 => ?_)
      obtain ⟨h_27, qxI_27⟩ := h_27
      have kJ_27 : Kp 49 73 Ja J_27 := Kp_tr (Kp_rf (a := 49) (b := 73)) h_27.2.1
      have kI_27 : Ch [50, 51] [0, 1] Ia I_27 := Ch_tr Ch_rf (Ch_wd h_27.1 (by decide) (by decide))
      have cI_27 : RX I_27 := h_27.2.2.1
      have qI_27 := RX_o cI_27
      refine rI hX (pc := 30) hT (Nat.le_refl 0) (Nat.le_refl 0) dX11_back_30 ?_
      exact ⟨⟨kI_27, kJ_27, cI_27, (fun h9 => absurd (by omega) h9), (fun _ => ⟨fun _ => ⟨h_27.2.2.2, h_27.1.1 51 (by decide) (by decide)⟩, fun h9 => absurd (by omega) h9⟩)⟩, ⟨(fun _ => RQ9_tr BK9_rf TK9_rf qxI_27), (fun h9 => absurd h9 (by have := h_27.2.2.2; omega))⟩⟩
  · simp only [w32_mod] at h_6
    refine ww_aload_n hX (pc := 9) dX11_back_9 rfl ?_
    refine ww_iconst hX (pc := 10) (x := (-1)) dX11_back_10 rfl ?_
    refine vI1 hX (pc := 11) sX11_105 (xs_49 hL) (n9_X11_refuses l0 hL hQ (by omega) (by omega)) (by decide) (Nat.le_refl 0) (Nat.le_refl 0) (Nat.le_of_ble_eq_true rfl) dX11_back_11 (fun x_11 I_11 J_11 h_11 => ?_)
    obtain ⟨h_11, qxI_11⟩ := h_11
    have kJ_11 : Kp 49 73 Ja J_11 := Kp_tr (Kp_rf (a := 49) (b := 73)) h_11.2.1
    have kI_11 : Ch [50, 51] [0, 1] Ia I_11 := Ch_tr Ch_rf (Ch_wd h_11.1 (by decide) (by decide))
    have cI_11 : RX I_11 := h_11.2.2.1
    have qI_11 := RX_o cI_11
    refine rI hX (pc := 14) hT (Nat.le_refl 0) (Nat.le_refl 0) dX11_back_14 ?_
    exact ⟨⟨kI_11, kJ_11, cI_11, (fun _ => ⟨h_11.2.2.2, h_11.1.1 51 (by decide) (by decide)⟩), (fun h9 => absurd h9 (by omega))⟩, ⟨(fun _ => RQ9_tr BK9_rf TK9_rf qxI_11), (fun h9 => absurd h9 (by have := h_11.2.2.2; omega))⟩⟩
