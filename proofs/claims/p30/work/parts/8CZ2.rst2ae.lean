set_option maxHeartbeats 4000000 in
set_option maxRecDepth 20000 in
theorem c9_X11_hurts (l0 : Launch) {Ia Ja : aI1} {Ra : aR1} {Sa : aS1} (hL : LY Ra Sa) (hQ : RX Ia) {a : Int} (ha0 : -2147483648 ≤ a) (ha1 : a < 2147483648) (hcr : ∀ t : Nat, (t : Int) ≤ FU (Ia 51 304) → -1 ≤ Ia 51 t ∧ Ia 51 t ≤ 7)  : CT l0 3 0 0 mX11_hurts [kR (some 49), kI a] Ia Ja Ra Sa (cI (fun x I' J' => (Ch [61] [25] Ia I' ∧ Kp 49 73 Ja J' ∧ RX I' ∧ ((0 ≤ a ∧ a < Ia 51 304) → ∃ L, zLV (Ia 51) (i_or (Ia 51 306) (i_shl 1 a)) (FU (Ia 51 304) + 1) (Ia 51 305) (-1) L ∧ x = L 0) ∧ (¬ (0 ≤ a ∧ a < Ia 51 304) → x = -1)) ∧ QK9 Ia I' Ja J') Ra Sa) := by
  refine ct_in pn_X11 (Nat.le_of_ble_eq_true rfl) (fun X hX hT hIn => ?_)
  have hX : aK l0 X cX11_hurts 3 RX11 (some .int) 3 0 0 := hX
  change WW X 0 [some (kR (some 49)), some (kI a), none] [] Ia Ja Ra Sa 0 0
  have qIa := RX_o hQ
  refine ww_aload_n hX (pc := 0) dX11_hurts_0 rfl ?_
  refine ww_iload_n hX (pc := 1) dX11_hurts_1 rfl ?_
  refine vI1 hX (pc := 2) sX11_116 (xs_49 hL) (c_X11_isLamp l0 hL hQ (by omega) (by omega)) (by decide) (Nat.le_refl 0) (Nat.le_refl 0) (Nat.le_of_ble_eq_true rfl) dX11_hurts_2 (fun x_2 I_2 J_2 h_2 => ?_)
  obtain ⟨rfl, rfl, h_2⟩ := h_2
  refine ww_if_ne hX (pc := 5) (tgt := 10) dX11_hurts_5 (by decide) (fun h_5 => ?_) (fun h_5 => ?_)
  · simp only [w32_mod] at h_5
    have k_2 := h_2.2.mp (by omega)
    clear h_2
    refine ww_aload_n hX (pc := 10) dX11_hurts_10 rfl ?_
    refine ww_aload_n hX (pc := 11) dX11_hurts_11 rfl ?_
    refine ww_getR hX (pc := 12) fX11_20 (by decide) (xs_49 hL) (xr_49_3 hL) dX11_hurts_12 ?_
    refine ww_sipush hX (pc := 15) (x := 306) dX11_hurts_15 (by decide) ?_
    refine ww_iald hX (pc := 18) (xs_51 hL) (by decide) (by omega) (by omega) dX11_hurts_18 ?_
    refine ww_toI (b := Ia 51 306) rfl ?_
    refine ww_iconst hX (pc := 19) (x := 1) dX11_hurts_19 rfl ?_
    refine ww_iload_n hX (pc := 20) dX11_hurts_20 rfl ?_
    refine ww_ishl hX (pc := 21) dX11_hurts_21 ?_
    refine ww_ior hX (pc := 22) dX11_hurts_22 ?_
    refine vV1 hX (pc := 23) sX11_285 (xs_49 hL) (c5_X11_lasts0 l0 hL hQ hcr) (by decide) (Nat.le_refl 0) (Nat.le_refl 0) (Nat.le_of_ble_eq_true rfl) dX11_hurts_23 (fun I_23 J_23 h_23 => ?_)
    have kJ_23 : Kp 49 73 Ja J_23 := Kp_tr (Kp_rf (a := 49) (b := 73)) h_23.2.1
    have kI_23 : Ch [61] [25] Ia I_23 := Ch_tr Ch_rf (Ch_wd h_23.1 (by decide) (by decide))
    have cI_23 : RX I_23 := h_23.2.2.1
    have qI_23 := RX_o cI_23
    have r304_I_23 : I_23 51 304 = Ia 51 304 := by rw [h_23.1.1 51 (by decide) (by decide)]
    have r305_I_23 : I_23 51 305 = Ia 51 305 := by rw [h_23.1.1 51 (by decide) (by decide)]
    have rf_I_23 : FU (I_23 51 304) = FU (Ia 51 304) := by rw [r304_I_23]
    have bkI_23 : BK9 Ia I_23 := BK9_ch BK9_rf h_23.1 (by decide) (by decide)
    refine ww_aload_n hX (pc := 26) dX11_hurts_26 rfl ?_
    refine ww_getR hX (pc := 27) fX11_55 (by decide) (xs_49 hL) (xr_49_23 hL) dX11_hurts_27 ?_
    refine ww_iconst hX (pc := 30) (x := 0) dX11_hurts_30 rfl ?_
    refine ww_iald hX (pc := 31) (xs_61 hL) (by decide) (by omega) (by omega) dX11_hurts_31 ?_
    refine ww_toI (b := I_23 61 0) rfl ?_
    refine ww_nmI (fun v_32 hv_32 => ?_)
    refine ww_istore_n hX (pc := 32) (lv' := [some (kR (some 49)), some (kI a), some (kI v_32)]) dX11_hurts_32 (by decide) rfl rfl ?_
    refine ww_aload_n hX (pc := 33) dX11_hurts_33 rfl ?_
    refine ww_iconst hX (pc := 34) (x := (-1)) dX11_hurts_34 rfl ?_
    refine ww_putI hX (pc := 35) (fun h9 => absurd h9 (by decide)) gX11_62 rfl (xs_49 hL) dX11_hurts_35 ?_
    refine ww_nmH (fun I_35 eI_35 => ?_)
    have kI_35 : Ch [61] [25] Ia I_35 := by rw [eI_35]; exact Ch_f kI_23 (by decide)
    have cI_35 : RX I_35 := by rw [eI_35]; exact RX_f cI_23 (by decide)
    have qI_35 := RX_o cI_35
    have r304_I_35 : I_35 51 304 = I_23 51 304 := by rw [eI_35, up2_off _ _ _ (by decide)]
    have r305_I_35 : I_35 51 305 = I_23 51 305 := by rw [eI_35, up2_off _ _ _ (by decide)]
    have rf_I_35 : FU (I_35 51 304) = FU (I_23 51 304) := by rw [r304_I_35]
    have bkI_35 : BK9 Ia I_35 := by rw [eI_35]; exact BK9_m bkI_23
    have tkI_35 : TK9 Ia I_35 Ja J_23 := Or.inl (by rw [eI_35, up2_s])
    refine ww_iload_n hX (pc := 38) dX11_hurts_38 rfl ?_
    refine rI hX (pc := 39) hT (Nat.le_refl 0) (Nat.le_refl 0) dX11_hurts_39 ?_
    exact ⟨⟨kI_35, kJ_23, cI_35, (fun _ => ⟨_, h_23.2.2.2.2, hv_32⟩), (fun h9 => absurd (by omega) h9)⟩, bkI_35, tkI_35⟩
  · simp only [w32_mod] at h_5
    refine ww_iconst hX (pc := 8) (x := (-1)) dX11_hurts_8 rfl ?_
    refine rI hX (pc := 9) hT (Nat.le_refl 0) (Nat.le_refl 0) dX11_hurts_9 ?_
    exact ⟨⟨Ch_rf, (Kp_rf (a := 49) (b := 73)), hQ, (fun h9 => absurd h9 (by omega)), (fun _ => rfl)⟩, BK9_rf, TK9_rf⟩
set_option maxHeartbeats 4000000 in
set_option maxRecDepth 20000 in
theorem c9_X11_spy (l0 : Launch) {Ia Ja : aI1} {Ra : aR1} {Sa : aS1} (hL : LY Ra Sa) (hQ : RX Ia) {a : Int} (ha0 : -2147483648 ≤ a) (ha1 : a < 2147483648) (hcr : ∀ t : Nat, (t : Int) ≤ FU (Ia 51 304) → -1 ≤ Ia 51 t ∧ Ia 51 t ≤ 7)  : CT l0 2 0 0 mX11_spy [kR (some 49), kI a] Ia Ja Ra Sa (cI (fun x I' J' => (Ch [63] [] Ia I' ∧ Kp 49 73 Ja J' ∧ RX I' ∧ True) ∧ QK9 Ia I' Ja J') Ra Sa) := by
  refine ct_in pn_X11 (Nat.le_of_ble_eq_true rfl) (fun X hX hT hIn => ?_)
  have hX : aK l0 X cX11_spy 4 RX11 (some .int) 2 0 0 := hX
  change WW X 0 [some (kR (some 49)), some (kI a), none, none] [] Ia Ja Ra Sa 0 0
  have qIa := RX_o hQ
  refine ww_iload_n hX (pc := 0) dX11_spy_0 rfl ?_
  refine ww_iconst hX (pc := 1) (x := 0) dX11_spy_1 rfl ?_
  refine ww_bipush hX (pc := 2) (x := 8) dX11_spy_2 (by decide) ?_
  refine sI3 hX (pc := 4) sX11_101 (c_X11_lies l0 (by omega) (by omega) (by omega) (by omega) (by omega) (by omega)) (by decide) (Nat.le_refl 0) (Nat.le_refl 0) (Nat.le_of_ble_eq_true rfl) dX11_spy_4 (fun x_4 I_4 J_4 h_4 => ?_)
  obtain ⟨rfl, rfl, h_4⟩ := h_4
  refine ww_if_ne hX (pc := 7) (tgt := 12) dX11_spy_7 (by decide) (fun h_7 => ?_) (fun h_7 => ?_)
  · simp only [w32_mod] at h_7
    have k_4 := h_4.2.mp (by omega)
    clear h_4
    refine ww_aload_n hX (pc := 12) dX11_spy_12 rfl ?_
    refine vV0 hX (pc := 13) sX11_315 (xs_49 hL) (c9_X11_reaches l0 hL hQ hcr) (by decide) (Nat.le_refl 0) (Nat.le_refl 0) (Nat.le_of_ble_eq_true rfl) dX11_spy_13 (fun I_13 J_13 h_13 => ?_)
    obtain ⟨h_13, qxI_13⟩ := h_13
    have kJ_13 : Kp 49 73 Ja J_13 := Kp_tr (Kp_rf (a := 49) (b := 73)) h_13.2.1
    have kI_13 : Ch [63] [] Ia I_13 := Ch_tr Ch_rf (Ch_wd h_13.1 (by decide) (by decide))
    have cI_13 : RX I_13 := h_13.2.2.1
    have qI_13 := RX_o cI_13
    have r304_I_13 : I_13 51 304 = Ia 51 304 := by rw [h_13.1.1 51 (by decide) (by decide)]
    have r305_I_13 : I_13 51 305 = Ia 51 305 := by rw [h_13.1.1 51 (by decide) (by decide)]
    have rf_I_13 : FU (I_13 51 304) = FU (Ia 51 304) := by rw [r304_I_13]
    have bkI_13 : BK9 Ia I_13 := BK9_tr BK9_rf qxI_13.1
    have tkI_13 : TK9 Ia I_13 Ja J_13 := TK9_tr TK9_rf qxI_13.2
    refine ww_iconst hX (pc := 16) (x := 0) dX11_spy_16 rfl ?_
    refine ww_istore_n hX (pc := 17) (lv' := [some (kR (some 49)), some (kI a), some (kI 0), none]) dX11_spy_17 (by decide) rfl rfl ?_
    refine ww_iconst hX (pc := 18) (x := 0) dX11_spy_18 rfl ?_
    refine ww_istore_n hX (pc := 19) (lv' := [some (kR (some 49)), some (kI a), some (kI 0), some (kI 0)]) dX11_spy_19 (by decide) rfl rfl ?_
    have hl_20 : ∀ (n_20 : Nat) (n : Int) (t : Int), (256 - t).toNat = n_20 → ((0 ≤ t ∧ t ≤ 256)) → WW X 20 [some (kR (some 49)), some (kI a), some (kI n), some (kI t)] [] I_13 J_13 Ra Sa 0 0 := by
      intro n_20
      induction n_20 using Nat.strongRecOn with
      | ind n_20 ih_20 =>
        intro n t hm_20 hv_20
        have hq_20 := Sh0_i hm_20
        clear hm_20
        have hv := hv_20
        refine ww_iload_n hX (pc := 20) dX11_spy_20 rfl ?_
        refine ww_aload_n hX (pc := 21) dX11_spy_21 rfl ?_
        refine vI0 hX (pc := 22) sX11_112 (xs_49 hL) (c_X11_states l0 hL cI_13 ) (by decide) (Nat.le_refl 0) (Nat.le_refl 0) (Nat.le_of_ble_eq_true rfl) dX11_spy_22 (fun x_22 I_22 J_22 h_22 => ?_)
        obtain ⟨rfl, rfl, h_22⟩ := h_22
        refine ww_icmp_ge hX (pc := 25) (tgt := 70) dX11_spy_25 (by decide) (fun h_25 => ?_) (fun h_25 => ?_)
        · simp only [w32_mod] at h_25
          refine ww_iload_n hX (pc := 70) dX11_spy_70 rfl ?_
          refine rI hX (pc := 71) hT (Nat.le_refl 0) (Nat.le_refl 0) dX11_spy_71 ?_
          exact ⟨⟨kI_13, kJ_13, cI_13, trivial⟩, bkI_13, tkI_13⟩
        · simp only [w32_mod] at h_25
          refine ww_aload_n hX (pc := 28) dX11_spy_28 rfl ?_
          refine ww_getR hX (pc := 29) fX11_65 (by decide) (xs_49 hL) (xr_49_26 hL) dX11_spy_29 ?_
          refine ww_iload_n hX (pc := 32) dX11_spy_32 rfl ?_
          refine ww_zald hX (pc := 33) (xs_63 hL) (by decide) (by omega) (by omega) dX11_spy_33 ?_
          refine ww_if_eq hX (pc := 34) (tgt := 64) dX11_spy_34 (by decide) (fun h_34 => ?_) (fun h_34 => ?_)
          · simp only [w32_mod] at h_34
            refine ww_iinc hX (pc := 64) (lv' := [some (kR (some 49)), some (kI a), some (kI n), some (kI (t + 1))]) dX11_spy_64 rfl (by decide) rfl rfl ?_
            refine ww_goto hX (pc := 67) (tgt := 20) dX11_spy_67 (by decide) ?_
            exact ih_20 _ (by have hm9 := Sh0_e hq_20; omega) n (t + 1) rfl (by omega)
          · simp only [w32_mod] at h_34
            refine ww_aload_n hX (pc := 37) dX11_spy_37 rfl ?_
            refine ww_iload_n hX (pc := 38) dX11_spy_38 rfl ?_
            refine vI1 hX (pc := 39) sX11_126 (xs_49 hL) (c_X11_readOf l0 hL cI_13 (by omega) (by omega)) (by decide) (Nat.le_refl 0) (Nat.le_refl 0) (Nat.le_of_ble_eq_true rfl) dX11_spy_39 (fun x_39 I_39 J_39 h_39 => ?_)
            obtain ⟨rfl, rfl, h_39⟩ := h_39
            refine ww_iconst hX (pc := 42) (x := (-1)) dX11_spy_42 rfl ?_
            refine ww_icmp_eq hX (pc := 43) (tgt := 64) dX11_spy_43 (by decide) (fun h_43 => ?_) (fun h_43 => ?_)
            · simp only [w32_mod] at h_43
              refine ww_iinc hX (pc := 64) (lv' := [some (kR (some 49)), some (kI a), some (kI n), some (kI (t + 1))]) dX11_spy_64 rfl (by decide) rfl rfl ?_
              refine ww_goto hX (pc := 67) (tgt := 20) dX11_spy_67 (by decide) ?_
              exact ih_20 _ (by have hm9 := Sh0_e hq_20; omega) n (t + 1) rfl (by omega)
            · simp only [w32_mod] at h_43
              refine ww_iload_n hX (pc := 46) dX11_spy_46 rfl ?_
              refine sI1 hX (pc := 47) sX11_259 (c_X11_ones l0 ) (by decide) (Nat.le_refl 0) (Nat.le_refl 0) (Nat.le_of_ble_eq_true rfl) dX11_spy_47 (fun x_47 I_47 J_47 h_47 => ?_)
              obtain ⟨rfl, rfl, h_47⟩ := h_47
              refine ww_iload_n hX (pc := 50) dX11_spy_50 rfl ?_
              refine ww_icmp_ne hX (pc := 51) (tgt := 64) dX11_spy_51 (by decide) (fun h_51 => ?_) (fun h_51 => ?_)
              · simp only [w32_mod] at h_51
                refine ww_iinc hX (pc := 64) (lv' := [some (kR (some 49)), some (kI a), some (kI n), some (kI (t + 1))]) dX11_spy_64 rfl (by decide) rfl rfl ?_
                refine ww_goto hX (pc := 67) (tgt := 20) dX11_spy_67 (by decide) ?_
                exact ih_20 _ (by have hm9 := Sh0_e hq_20; omega) n (t + 1) rfl (by omega)
              · simp only [w32_mod] at h_51
                refine ww_iload_n hX (pc := 54) dX11_spy_54 rfl ?_
                refine ww_iconst hX (pc := 55) (x := 1) dX11_spy_55 rfl ?_
                refine ww_aload_n hX (pc := 56) dX11_spy_56 rfl ?_
                refine ww_iload_n hX (pc := 57) dX11_spy_57 rfl ?_
                refine vI1 hX (pc := 58) sX11_126 (xs_49 hL) (c_X11_readOf l0 hL cI_13 (by omega) (by omega)) (by decide) (Nat.le_refl 0) (Nat.le_refl 0) (Nat.le_of_ble_eq_true rfl) dX11_spy_58 (fun x_58 I_58 J_58 h_58 => ?_)
                obtain ⟨rfl, rfl, h_58⟩ := h_58
                refine ww_ishl hX (pc := 61) dX11_spy_61 ?_
                refine ww_ior hX (pc := 62) dX11_spy_62 ?_
                refine ww_nmI (fun v_63 hv_63 => ?_)
                refine ww_istore_n hX (pc := 63) (lv' := [some (kR (some 49)), some (kI a), some (kI v_63), some (kI t)]) dX11_spy_63 (by decide) rfl rfl ?_
                refine ww_iinc hX (pc := 64) (lv' := [some (kR (some 49)), some (kI a), some (kI v_63), some (kI (t + 1))]) dX11_spy_64 rfl (by decide) rfl rfl ?_
                refine ww_goto hX (pc := 67) (tgt := 20) dX11_spy_67 (by decide) ?_
                exact ih_20 _ (by have hm9 := Sh0_e hq_20; omega) v_63 (t + 1) rfl (by omega)
    exact hl_20 _ 0 0 rfl (by omega)
  · simp only [w32_mod] at h_7
    refine ww_iconst hX (pc := 10) (x := (-1)) dX11_spy_10 rfl ?_
    refine rI hX (pc := 11) hT (Nat.le_refl 0) (Nat.le_refl 0) dX11_spy_11 ?_
    exact ⟨⟨Ch_rf, (Kp_rf (a := 49) (b := 73)), hQ, trivial⟩, BK9_rf, TK9_rf⟩
