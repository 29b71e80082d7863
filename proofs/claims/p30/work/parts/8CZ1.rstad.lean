set_option maxHeartbeats 4000000 in
set_option maxRecDepth 20000 in
theorem c9_X11_lamps (l0 : Launch) {Ia Ja : aI1} {Ra : aR1} {Sa : aS1} (hL : LY Ra Sa) (hQ : RX Ia) {a : Int} (ha0 : -2147483648 ≤ a) (ha1 : a < 2147483648)  : CT l0 1 0 0 mX11_lamps [kR (some 49), kI a] Ia Ja Ra Sa (cI (fun x I' J' => (Ch [50, 51] [0, 1] Ia I' ∧ Kp 49 73 Ja J' ∧ RX I' ∧ (¬ (1 ≤ a ∧ a ≤ 8) → x = -1 ∧ I' 51 = Ia 51) ∧ ((1 ≤ a ∧ a ≤ 8) → x = Ia 51 304 ∧ I' 51 304 = a ∧ I' 51 306 = 0 ∧ I' 51 307 = 0 ∧ I' 51 308 = 0 ∧ I' 51 309 = 0 ∧ (∀ j, j < 8 → I' 51 (256 + j) = 1) ∧ (∀ s, s < 256 → I' 51 s = -1) ∧ (∀ j : Nat, 264 ≤ j → j ≠ 304 → j ≠ 306 → j ≠ 307 → j ≠ 308 → j ≠ 309 → I' 51 j = Ia 51 j))) ∧ RGQ9 x Ia I' Ja J') Ra Sa) := by
  refine ct_in pn_X11 (Nat.le_of_ble_eq_true rfl) (fun X hX hT hIn => ?_)
  have hX : aK l0 X cX11_lamps 4 RX11 (some .int) 1 0 0 := hX
  change WW X 0 [some (kR (some 49)), some (kI a), none, none] [] Ia Ja Ra Sa 0 0
  have qIa := RX_o hQ
  refine ww_iload_n hX (pc := 0) dX11_lamps_0 rfl ?_
  refine ww_iconst hX (pc := 1) (x := 1) dX11_lamps_1 rfl ?_
  refine ww_bipush hX (pc := 2) (x := 8) dX11_lamps_2 (by decide) ?_
  refine sI3 hX (pc := 4) sX11_101 (c_X11_lies l0 (by omega) (by omega) (by omega) (by omega) (by omega) (by omega)) (by decide) (Nat.le_refl 0) (Nat.le_refl 0) (Nat.le_of_ble_eq_true rfl) dX11_lamps_4 (fun x_4 I_4 J_4 h_4 => ?_)
  obtain ⟨rfl, rfl, h_4⟩ := h_4
  refine ww_if_ne hX (pc := 7) (tgt := 16) dX11_lamps_7 (by decide) (fun h_7 => ?_) (fun h_7 => ?_)
  · simp only [w32_mod] at h_7
    have k_4 := h_4.2.mp (by omega)
    clear h_4
    refine ww_aload_n hX (pc := 16) dX11_lamps_16 rfl ?_
    refine ww_getR hX (pc := 17) fX11_20 (by decide) (xs_49 hL) (xr_49_3 hL) dX11_lamps_17 ?_
    refine ww_sipush hX (pc := 20) (x := 304) dX11_lamps_20 (by decide) ?_
    refine ww_iald hX (pc := 23) (xs_51 hL) (by decide) (by omega) (by omega) dX11_lamps_23 ?_
    refine ww_toI (b := Ia 51 304) rfl ?_
    refine ww_nmI (fun v_24 hv_24 => ?_)
    refine ww_istore_n hX (pc := 24) (lv' := [some (kR (some 49)), some (kI a), some (kI v_24), none]) dX11_lamps_24 (by decide) rfl rfl ?_
    refine ww_aload_n hX (pc := 25) dX11_lamps_25 rfl ?_
    refine ww_getR hX (pc := 26) fX11_20 (by decide) (xs_49 hL) (xr_49_3 hL) dX11_lamps_26 ?_
    refine ww_sipush hX (pc := 29) (x := 304) dX11_lamps_29 (by decide) ?_
    refine ww_iload_n hX (pc := 32) dX11_lamps_32 rfl ?_
    refine ww_iast hX (pc := 33) (xs_51 hL) (by decide) (by omega) (by omega) dX11_lamps_33 ?_
    refine ww_nmH (fun I_33 eI_33 => ?_)
    have kI_33 : Ch [50, 51] [0, 1] Ia I_33 := by rw [eI_33]; exact Ch_r Ch_rf (by decide) (by decide)
    have cI_33 : RX I_33 := by rw [eI_33]; exact RX_304 hQ (by omega) (by omega)
    have qI_33 := RX_o cI_33
    have r305_I_33 : I_33 51 305 = Ia 51 305 := by rw [eI_33, up2_n _ _ (Or.inr (by decide))]
    have g33 : I_33 51 = up1 (Ia 51) 304 a := by rw [eI_33, up2_row]; rfl
    have bkI_33 : BK9 Ia I_33 := by rw [eI_33]; exact BK9_up BK9_rf (by decide)
    have tkI_33 : TK9 Ia I_33 Ja Ja := by rw [eI_33]; exact TK9_up TK9_rf (by decide)
    refine ww_aload_n hX (pc := 34) dX11_lamps_34 rfl ?_
    refine ww_getR hX (pc := 35) fX11_20 (by decide) (xs_49 hL) (xr_49_3 hL) dX11_lamps_35 ?_
    refine ww_sipush hX (pc := 38) (x := 306) dX11_lamps_38 (by decide) ?_
    refine ww_iconst hX (pc := 41) (x := 0) dX11_lamps_41 rfl ?_
    refine ww_iast hX (pc := 42) (xs_51 hL) (by decide) (by omega) (by omega) dX11_lamps_42 ?_
    refine ww_nmH (fun I_42 eI_42 => ?_)
    have kI_42 : Ch [50, 51] [0, 1] Ia I_42 := by rw [eI_42]; exact Ch_r kI_33 (by decide) (by decide)
    have cI_42 : RX I_42 := by rw [eI_42]; exact RX_lo cI_33 (by decide)
    have qI_42 := RX_o cI_42
    have r304_I_42 : I_42 51 304 = I_33 51 304 := by rw [eI_42, up2_n _ _ (Or.inr (by decide))]
    have r305_I_42 : I_42 51 305 = I_33 51 305 := by rw [eI_42, up2_n _ _ (Or.inr (by decide))]
    have rf_I_42 : FU (I_42 51 304) = FU (I_33 51 304) := by rw [r304_I_42]
    have g42 : I_42 51 = up1 (up1 (Ia 51) 304 a) 306 0 := by rw [eI_42, up2_row, g33]; rfl
    have bkI_42 : BK9 Ia I_42 := by rw [eI_42]; exact BK9_up bkI_33 (by decide)
    have tkI_42 : TK9 Ia I_42 Ja Ja := by rw [eI_42]; exact TK9_up tkI_33 (by decide)
    refine ww_iconst hX (pc := 43) (x := 0) dX11_lamps_43 rfl ?_
    refine ww_istore_n hX (pc := 44) (lv' := [some (kR (some 49)), some (kI a), some (kI v_24), some (kI 0)]) dX11_lamps_44 (by decide) rfl rfl ?_
    have hl_45 : ∀ (n_45 : Nat) (i : Int) (I45 : aI1) (J45 : aI1), (8 - i).toNat = n_45 → (BK9 Ia I45 ∧ TK9 Ia I45 Ja J45 ∧ (Ch [50, 51] [0, 1] Ia I45 ∧ RX I45 ∧ Kp 49 73 Ja J45 ∧ I45 51 304 = I_42 51 304 ∧ I45 51 305 = I_42 51 305 ∧ (0 ≤ i ∧ i ≤ 8) ∧ (∀ j : Nat, I45 51 j = if 256 ≤ (j : Int) ∧ (j : Int) < 256 + i then 1 else up1 (up1 (Ia 51) 304 a) 306 0 j))) → WW X 45 [some (kR (some 49)), some (kI a), some (kI v_24), some (kI i)] [] I45 J45 Ra Sa 0 0 := by
      intro n_45
      induction n_45 using Nat.strongRecOn with
      | ind n_45 ih_45 =>
        intro i I45 J45 hm_45 hv_45
        have hq_45 := Sh0_i hm_45
        clear hm_45
        obtain ⟨bkl45, tkl45, hv_45⟩ := hv_45
        obtain ⟨kI45, cI45, kJ45, r304_I45, r305_I45, hv, hoj⟩ := hv_45
        have qI45 := RX_o cI45
        have rf_I45 : FU (I45 51 304) = FU (I_42 51 304) := by rw [r304_I45]
        refine ww_iload_n hX (pc := 45) dX11_lamps_45 rfl ?_
        refine ww_bipush hX (pc := 46) (x := 8) dX11_lamps_46 (by decide) ?_
        refine ww_icmp_ge hX (pc := 48) (tgt := 68) dX11_lamps_48 (by decide) (fun h_48 => ?_) (fun h_48 => ?_)
        · simp only [w32_mod] at h_48
          refine ww_aload_n hX (pc := 68) dX11_lamps_68 rfl ?_
          refine vV0 hX (pc := 69) sX11_98 (xs_49 hL) (c9_X11_empties l0 hL cI45 ) (by decide) (Nat.le_refl 0) (Nat.le_refl 0) (Nat.le_of_ble_eq_true rfl) dX11_lamps_69 (fun I_69 J_69 h_69 => ?_)
          obtain ⟨h_69, qxI_69⟩ := h_69
          have kJ_69 : Kp 49 73 Ja J_69 := Kp_tr kJ45 h_69.2.1
          have kI_69 : Ch [50, 51] [0, 1] Ia I_69 := Ch_tr kI45 (Ch_wd h_69.1 (by decide) (by decide))
          have cI_69 : RX I_69 := h_69.2.2.1
          have qI_69 := RX_o cI_69
          have xv69 := h_69.2.2.2
          have bkI_69 : BK9 Ia I_69 := BK9_tr bkl45 qxI_69.1
          have tkI_69 : TK9 Ia I_69 Ja J_69 := TK9_tr tkl45 qxI_69.2
          refine ww_aload_n hX (pc := 72) dX11_lamps_72 rfl ?_
          refine ww_iload_n hX (pc := 73) dX11_lamps_73 rfl ?_
          refine vI1 hX (pc := 74) sX11_109 (xs_49 hL) (n9_X11_good l0 hL cI_69) (by decide) (Nat.le_refl 0) (Nat.le_refl 0) (Nat.le_of_ble_eq_true rfl) dX11_lamps_74 (fun x_74 I_74 J_74 h_74 => ?_)
          obtain ⟨h_74, qxI_74⟩ := h_74
          have kJ_74 : Kp 49 73 Ja J_74 := Kp_tr kJ_69 h_74.2.1
          have kI_74 : Ch [50, 51] [0, 1] Ia I_74 := Ch_tr kI_69 (Ch_wd h_74.1 (by decide) (by decide))
          have cI_74 : RX I_74 := h_74.2.2.1
          have qI_74 := RX_o cI_74
          have r304_I_74 : I_74 51 304 = I_69 51 304 := by rw [h_74.1.1 51 (by decide) (by decide)]
          have r305_I_74 : I_74 51 305 = I_69 51 305 := by rw [h_74.1.1 51 (by decide) (by decide)]
          have rf_I_74 : FU (I_74 51 304) = FU (I_69 51 304) := by rw [r304_I_74]
          have xv74 := h_74.2.2.2
          refine rI hX (pc := 77) hT (Nat.le_refl 0) (Nat.le_refl 0) dX11_lamps_77 ?_
          exact ⟨⟨kI_74, kJ_74, cI_74, (fun h9 => absurd (by omega) h9), (fun _ => (by
                have y9 : I_74 51 = EMr (I45 51) := (h_74.1.1 51 (by decide) (by decide)).trans xv69
                rw [y9]
                refine ⟨by rw [xv74, hv_24], ?_, ?_, EMr_z (by decide), EMr_z (by decide), EMr_z (by decide), fun j hj => ?_, fun s hs => EMr_c hs, fun j h1 h2 h3 h4 h5 h6 => ?_⟩
                · rw [EMr_o (by decide) (by decide), hoj 304, if_neg (by omega), up1_n _ _ (by decide), up1_s]
                · rw [EMr_o (by decide) (by decide), hoj 306, if_neg (by omega), up1_s]
                · rw [EMr_o (by omega) (by omega), hoj (256 + j), if_pos (by omega)]
                · rw [EMr_o (by omega) (by omega), hoj j, if_neg (by omega), up1_n _ _ h3, up1_n _ _ h2]))⟩, ⟨(fun h9 => absurd h9 (by have := h_74.2.2.2; omega)), (fun _ => GQ9_tr bkI_69 qxI_74)⟩⟩
        · simp only [w32_mod] at h_48
          refine ww_aload_n hX (pc := 51) dX11_lamps_51 rfl ?_
          refine ww_getR hX (pc := 52) fX11_20 (by decide) (xs_49 hL) (xr_49_3 hL) dX11_lamps_52 ?_
          refine ww_sipush hX (pc := 55) (x := 256) dX11_lamps_55 (by decide) ?_
          refine ww_iload_n hX (pc := 58) dX11_lamps_58 rfl ?_
          refine ww_iadd hX (pc := 59) dX11_lamps_59 ?_
          refine ww_iconst hX (pc := 60) (x := 1) dX11_lamps_60 rfl ?_
          refine ww_iast hX (pc := 61) (xs_51 hL) (by decide) (by omega) (by omega) dX11_lamps_61 ?_
          refine ww_nmH (fun I_61 eI_61 => ?_)
          have kI_61 : Ch [50, 51] [0, 1] Ia I_61 := by rw [eI_61]; exact Ch_r kI45 (by decide) (by decide)
          have cI_61 : RX I_61 := by rw [eI_61]; exact RX_lo cI45 (by omega)
          have qI_61 := RX_o cI_61
          have r304_I_61 : I_61 51 304 = I45 51 304 := by rw [eI_61, up2_n _ _ (Or.inr (by omega))]
          have r305_I_61 : I_61 51 305 = I45 51 305 := by rw [eI_61, up2_n _ _ (Or.inr (by omega))]
          have rf_I_61 : FU (I_61 51 304) = FU (I45 51 304) := by rw [r304_I_61]
          have t61 : ∀ j : Nat, I_61 51 j = if 256 ≤ (j : Int) ∧ (j : Int) < 256 + (i + 1) then 1 else up1 (up1 (Ia 51) 304 a) 306 0 j := fun j => by
            rw [eI_61, up2_row]
            by_cases e9 : j = (256 + i).toNat
            · rw [e9, up1_s, if_pos (by omega)]
            · rw [up1_n _ _ e9, hoj j]
              by_cases e8 : 256 ≤ (j : Int) ∧ (j : Int) < 256 + i
              · rw [if_pos e8, if_pos (by omega)]
              · rw [if_neg e8, if_neg (by omega)]
          have bkI_61 : BK9 Ia I_61 := by rw [eI_61]; exact BK9_up bkl45 (by decide)
          have tkI_61 : TK9 Ia I_61 Ja J45 := by rw [eI_61]; exact TK9_up tkl45 (by decide)
          refine ww_iinc hX (pc := 62) (lv' := [some (kR (some 49)), some (kI a), some (kI v_24), some (kI (i + 1))]) dX11_lamps_62 rfl (by decide) rfl rfl ?_
          refine ww_goto hX (pc := 65) (tgt := 45) dX11_lamps_65 (by decide) ?_
          exact ih_45 _ (by have hm9 := Sh0_e hq_45; omega) (i + 1) I_61 J45 rfl ⟨bkI_61, tkI_61, ⟨kI_61, cI_61, kJ45, by omega, by omega, ⟨by omega, by omega⟩, t61⟩⟩
    exact hl_45 _ 0 I_42 Ja rfl ⟨bkI_42, tkI_42, ⟨kI_42, cI_42, (Kp_rf (a := 49) (b := 73)), rfl, rfl, ⟨by omega, by omega⟩, fun j => by rw [if_neg (by omega), g42]⟩⟩
  · simp only [w32_mod] at h_7
    refine ww_aload_n hX (pc := 10) dX11_lamps_10 rfl ?_
    refine ww_iconst hX (pc := 11) (x := (-1)) dX11_lamps_11 rfl ?_
    refine vI1 hX (pc := 12) sX11_105 (xs_49 hL) (n9_X11_refuses l0 hL hQ (by omega) (by omega)) (by decide) (Nat.le_refl 0) (Nat.le_refl 0) (Nat.le_of_ble_eq_true rfl) dX11_lamps_12 (fun x_12 I_12 J_12 h_12 => ?_)
    obtain ⟨h_12, qxI_12⟩ := h_12
    have kJ_12 : Kp 49 73 Ja J_12 := Kp_tr (Kp_rf (a := 49) (b := 73)) h_12.2.1
    have kI_12 : Ch [50, 51] [0, 1] Ia I_12 := Ch_tr Ch_rf (Ch_wd h_12.1 (by decide) (by decide))
    have cI_12 : RX I_12 := h_12.2.2.1
    have qI_12 := RX_o cI_12
    have r304_I_12 : I_12 51 304 = Ia 51 304 := by rw [h_12.1.1 51 (by decide) (by decide)]
    have r305_I_12 : I_12 51 305 = Ia 51 305 := by rw [h_12.1.1 51 (by decide) (by decide)]
    have rf_I_12 : FU (I_12 51 304) = FU (Ia 51 304) := by rw [r304_I_12]
    have xv12 := h_12.2.2.2
    refine rI hX (pc := 15) hT (Nat.le_refl 0) (Nat.le_refl 0) dX11_lamps_15 ?_
    exact ⟨⟨kI_12, kJ_12, cI_12, (fun _ => ⟨xv12, h_12.1.1 51 (by decide) (by decide)⟩), (fun h9 => absurd h9 (by omega))⟩, ⟨(fun _ => RQ9_tr BK9_rf TK9_rf qxI_12), (fun h9 => absurd h9 (by have := h_12.2.2.2; omega))⟩⟩
set_option maxHeartbeats 4000000 in
set_option maxRecDepth 20000 in
theorem c9_X11_news (l0 : Launch) {Ia Ja : aI1} {Ra : aR1} {Sa : aS1} (hL : LY Ra Sa) (hQ : RX Ia) {a : Int} (ha0 : -2147483648 ≤ a) (ha1 : a < 2147483648)  : CT l0 1 0 0 mX11_news [kR (some 49), kI a] Ia Ja Ra Sa (cI (fun x I' J' => (Ch [50, 51] [0, 1] Ia I' ∧ Kp 49 73 Ja J' ∧ RX I' ∧ (¬ (2 ≤ a ∧ a ≤ 8) → x = -1 ∧ I' 51 = Ia 51) ∧ ((2 ≤ a ∧ a ≤ 8) → x = Ia 51 305 ∧ I' 51 = EMr (up1 (Ia 51) 305 a))) ∧ RGQ9 x Ia I' Ja J') Ra Sa) := by
  refine ct_in pn_X11 (Nat.le_of_ble_eq_true rfl) (fun X hX hT hIn => ?_)
  have hX : aK l0 X cX11_news 3 RX11 (some .int) 1 0 0 := hX
  change WW X 0 [some (kR (some 49)), some (kI a), none] [] Ia Ja Ra Sa 0 0
  have qIa := RX_o hQ
  refine ww_iload_n hX (pc := 0) dX11_news_0 rfl ?_
  refine ww_iconst hX (pc := 1) (x := 2) dX11_news_1 rfl ?_
  refine ww_bipush hX (pc := 2) (x := 8) dX11_news_2 (by decide) ?_
  refine sI3 hX (pc := 4) sX11_101 (c_X11_lies l0 (by omega) (by omega) (by omega) (by omega) (by omega) (by omega)) (by decide) (Nat.le_refl 0) (Nat.le_refl 0) (Nat.le_of_ble_eq_true rfl) dX11_news_4 (fun x_4 I_4 J_4 h_4 => ?_)
  obtain ⟨rfl, rfl, h_4⟩ := h_4
  refine ww_if_ne hX (pc := 7) (tgt := 16) dX11_news_7 (by decide) (fun h_7 => ?_) (fun h_7 => ?_)
  · simp only [w32_mod] at h_7
    have k_4 := h_4.2.mp (by omega)
    clear h_4
    refine ww_aload_n hX (pc := 16) dX11_news_16 rfl ?_
    refine ww_getR hX (pc := 17) fX11_20 (by decide) (xs_49 hL) (xr_49_3 hL) dX11_news_17 ?_
    refine ww_sipush hX (pc := 20) (x := 305) dX11_news_20 (by decide) ?_
    refine ww_iald hX (pc := 23) (xs_51 hL) (by decide) (by omega) (by omega) dX11_news_23 ?_
    refine ww_toI (b := Ia 51 305) rfl ?_
    refine ww_nmI (fun v_24 hv_24 => ?_)
    refine ww_istore_n hX (pc := 24) (lv' := [some (kR (some 49)), some (kI a), some (kI v_24)]) dX11_news_24 (by decide) rfl rfl ?_
    refine ww_aload_n hX (pc := 25) dX11_news_25 rfl ?_
    refine ww_getR hX (pc := 26) fX11_20 (by decide) (xs_49 hL) (xr_49_3 hL) dX11_news_26 ?_
    refine ww_sipush hX (pc := 29) (x := 305) dX11_news_29 (by decide) ?_
    refine ww_iload_n hX (pc := 32) dX11_news_32 rfl ?_
    refine ww_iast hX (pc := 33) (xs_51 hL) (by decide) (by omega) (by omega) dX11_news_33 ?_
    refine ww_nmH (fun I_33 eI_33 => ?_)
    have kI_33 : Ch [50, 51] [0, 1] Ia I_33 := by rw [eI_33]; exact Ch_r Ch_rf (by decide) (by decide)
    have cI_33 : RX I_33 := by rw [eI_33]; exact RX_305 hQ (by omega) (by omega)
    have qI_33 := RX_o cI_33
    have r304_I_33 : I_33 51 304 = Ia 51 304 := by rw [eI_33, up2_n _ _ (Or.inr (by decide))]
    have rf_I_33 : FU (I_33 51 304) = FU (Ia 51 304) := by rw [r304_I_33]
    have g33 : I_33 51 = up1 (Ia 51) 305 a := by rw [eI_33, up2_row]; rfl
    have bkI_33 : BK9 Ia I_33 := by rw [eI_33]; exact BK9_up BK9_rf (by decide)
    have tkI_33 : TK9 Ia I_33 Ja Ja := by rw [eI_33]; exact TK9_up TK9_rf (by decide)
    refine ww_aload_n hX (pc := 34) dX11_news_34 rfl ?_
    refine vV0 hX (pc := 35) sX11_98 (xs_49 hL) (c9_X11_empties l0 hL cI_33 ) (by decide) (Nat.le_refl 0) (Nat.le_refl 0) (Nat.le_of_ble_eq_true rfl) dX11_news_35 (fun I_35 J_35 h_35 => ?_)
    obtain ⟨h_35, qxI_35⟩ := h_35
    have kJ_35 : Kp 49 73 Ja J_35 := Kp_tr (Kp_rf (a := 49) (b := 73)) h_35.2.1
    have kI_35 : Ch [50, 51] [0, 1] Ia I_35 := Ch_tr kI_33 (Ch_wd h_35.1 (by decide) (by decide))
    have cI_35 : RX I_35 := h_35.2.2.1
    have qI_35 := RX_o cI_35
    have xv35 := h_35.2.2.2
    have bkI_35 : BK9 Ia I_35 := BK9_tr bkI_33 qxI_35.1
    have tkI_35 : TK9 Ia I_35 Ja J_35 := TK9_tr tkI_33 qxI_35.2
    refine ww_aload_n hX (pc := 38) dX11_news_38 rfl ?_
    refine ww_iload_n hX (pc := 39) dX11_news_39 rfl ?_
    refine vI1 hX (pc := 40) sX11_109 (xs_49 hL) (n9_X11_good l0 hL cI_35) (by decide) (Nat.le_refl 0) (Nat.le_refl 0) (Nat.le_of_ble_eq_true rfl) dX11_news_40 (fun x_40 I_40 J_40 h_40 => ?_)
    obtain ⟨h_40, qxI_40⟩ := h_40
    have kJ_40 : Kp 49 73 Ja J_40 := Kp_tr kJ_35 h_40.2.1
    have kI_40 : Ch [50, 51] [0, 1] Ia I_40 := Ch_tr kI_35 (Ch_wd h_40.1 (by decide) (by decide))
    have cI_40 : RX I_40 := h_40.2.2.1
    have qI_40 := RX_o cI_40
    have r304_I_40 : I_40 51 304 = I_35 51 304 := by rw [h_40.1.1 51 (by decide) (by decide)]
    have r305_I_40 : I_40 51 305 = I_35 51 305 := by rw [h_40.1.1 51 (by decide) (by decide)]
    have rf_I_40 : FU (I_40 51 304) = FU (I_35 51 304) := by rw [r304_I_40]
    have xv40 := h_40.2.2.2
    refine rI hX (pc := 43) hT (Nat.le_refl 0) (Nat.le_refl 0) dX11_news_43 ?_
    exact ⟨⟨kI_40, kJ_40, cI_40, (fun h9 => absurd (by omega) h9), (fun _ => ⟨by rw [xv40, hv_24], by rw [h_40.1.1 51 (by decide) (by decide), xv35, g33]⟩)⟩, ⟨(fun h9 => absurd h9 (by have := h_40.2.2.2; omega)), (fun _ => GQ9_tr bkI_35 qxI_40)⟩⟩
  · simp only [w32_mod] at h_7
    refine ww_aload_n hX (pc := 10) dX11_news_10 rfl ?_
    refine ww_iconst hX (pc := 11) (x := (-1)) dX11_news_11 rfl ?_
    refine vI1 hX (pc := 12) sX11_105 (xs_49 hL) (n9_X11_refuses l0 hL hQ (by omega) (by omega)) (by decide) (Nat.le_refl 0) (Nat.le_refl 0) (Nat.le_of_ble_eq_true rfl) dX11_news_12 (fun x_12 I_12 J_12 h_12 => ?_)
    obtain ⟨h_12, qxI_12⟩ := h_12
    have kJ_12 : Kp 49 73 Ja J_12 := Kp_tr (Kp_rf (a := 49) (b := 73)) h_12.2.1
    have kI_12 : Ch [50, 51] [0, 1] Ia I_12 := Ch_tr Ch_rf (Ch_wd h_12.1 (by decide) (by decide))
    have cI_12 : RX I_12 := h_12.2.2.1
    have qI_12 := RX_o cI_12
    have r304_I_12 : I_12 51 304 = Ia 51 304 := by rw [h_12.1.1 51 (by decide) (by decide)]
    have r305_I_12 : I_12 51 305 = Ia 51 305 := by rw [h_12.1.1 51 (by decide) (by decide)]
    have rf_I_12 : FU (I_12 51 304) = FU (Ia 51 304) := by rw [r304_I_12]
    have xv12 := h_12.2.2.2
    refine rI hX (pc := 15) hT (Nat.le_refl 0) (Nat.le_refl 0) dX11_news_15 ?_
    exact ⟨⟨kI_12, kJ_12, cI_12, (fun _ => ⟨xv12, h_12.1.1 51 (by decide) (by decide)⟩), (fun h9 => absurd h9 (by omega))⟩, ⟨(fun _ => RQ9_tr BK9_rf TK9_rf qxI_12), (fun h9 => absurd h9 (by have := h_12.2.2.2; omega))⟩⟩
