set_option maxHeartbeats 4000000 in
set_option maxRecDepth 20000 in
theorem c9_X11_codes (l0 : Launch) {Ia Ja : aI1} {Ra : aR1} {Sa : aS1} (hL : LY Ra Sa) (hQ : RX Ia) {a b c : Int} (ha0 : -2147483648 ≤ a) (ha1 : a < 2147483648) (hb0 : -2147483648 ≤ b) (hb1 : b < 2147483648) (hc0 : -2147483648 ≤ c) (hc1 : c < 2147483648)  : CT l0 4 0 0 mX11_codes [kR (some 49), kI a, kI b, kI c] Ia Ja Ra Sa (cI (fun x I' J' => (Ch [51, 61, 65, 66] [25, 31] Ia I' ∧ Kp 49 73 Ja J' ∧ RX I' ∧ (¬ (1 ≤ a ∧ a ≤ 3 ∧ 2 ≤ b ∧ b ≤ 4 ∧ 0 ≤ c ∧ c ≤ 8) → x = -1) ∧ ((1 ≤ a ∧ a ≤ 3 ∧ 2 ≤ b ∧ b ≤ 4 ∧ 0 ≤ c ∧ c ≤ 8) → x = TBX a b c) ∧ I' 51 = Ia 51) ∧ QK9 Ia I' Ja J') Ra Sa) := by
  refine ct_in pn_X11 (Nat.le_of_ble_eq_true rfl) (fun X hX hT hIn => ?_)
  have hX : aK l0 X cX11_codes 4 RX11 (some .int) 4 0 0 := hX
  change WW X 0 [some (kR (some 49)), some (kI a), some (kI b), some (kI c)] [] Ia Ja Ra Sa 0 0
  have qIa := RX_o hQ
  refine ww_iload_n hX (pc := 0) dX11_codes_0 rfl ?_
  refine ww_iload_n hX (pc := 1) dX11_codes_1 rfl ?_
  refine ww_iload_n hX (pc := 2) dX11_codes_2 rfl ?_
  refine sI3 hX (pc := 3) sX11_327 (c_X11_areCodes l0 (by omega) (by omega) (by omega) (by omega) (by omega) (by omega)) (by decide) (Nat.le_refl 0) (Nat.le_refl 0) (Nat.le_of_ble_eq_true rfl) dX11_codes_3 (fun x_3 I_3 J_3 h_3 => ?_)
  obtain ⟨rfl, rfl, h_3⟩ := h_3
  refine ww_if_ne hX (pc := 6) (tgt := 11) dX11_codes_6 (by decide) (fun h_6 => ?_) (fun h_6 => ?_)
  · simp only [w32_mod] at h_6
    have k_3 := h_3.2.mp (by omega)
    clear h_3
    refine ww_aload_n hX (pc := 11) dX11_codes_11 rfl ?_
    refine ww_iload_n hX (pc := 12) dX11_codes_12 rfl ?_
    refine ww_iload_n hX (pc := 13) dX11_codes_13 rfl ?_
    refine ww_iload_n hX (pc := 14) dX11_codes_14 rfl ?_
    refine vV3 hX (pc := 15) sX11_330 (xs_49 hL) (c9_X11_codes0 l0 hL hQ (by omega) (by omega) (by omega) (by omega) (by omega) (by omega)) (by decide) (Nat.le_refl 0) (Nat.le_refl 0) (Nat.le_of_ble_eq_true rfl) dX11_codes_15 (fun I_15 J_15 h_15 => ?_)
    obtain ⟨h_15, qxI_15⟩ := h_15
    have kJ_15 : Kp 49 73 Ja J_15 := Kp_tr (Kp_rf (a := 49) (b := 73)) h_15.2.1
    have kI_15 : Ch [51, 61, 65, 66] [25, 31] Ia I_15 := Ch_tr Ch_rf (Ch_wd h_15.1 (by decide) (by decide))
    have cI_15 : RX I_15 := h_15.2.2.1
    have qI_15 := RX_o cI_15
    have xv15 := h_15.2.2.2
    have ht15 : I_15 49 31 = TBX a b c := by
      rw [h_15.2.2.2.2.2.2.1, FU_2 (by omega) (by omega)]
      exact codes_eq (by omega) (by omega) (by omega) (by omega) (by omega)
    have y51_I_15 : I_15 51 = Ia 51 := h_15.2.2.2.2.2.2.2.1
    have bkI_15 : BK9 Ia I_15 := BK9_tr BK9_rf qxI_15.1
    have tkI_15 : TK9 Ia I_15 Ja J_15 := TK9_tr TK9_rf qxI_15.2
    refine ww_aload_n hX (pc := 18) dX11_codes_18 rfl ?_
    refine ww_getI hX (pc := 19) fX11_324 (by decide) (xs_49 hL) dX11_codes_19 ?_
    refine rI hX (pc := 22) hT (Nat.le_refl 0) (Nat.le_refl 0) dX11_codes_22 ?_
    exact ⟨⟨kI_15, kJ_15, cI_15, by omega, by omega, y51_I_15⟩, bkI_15, tkI_15⟩
  · simp only [w32_mod] at h_6
    refine ww_iconst hX (pc := 9) (x := (-1)) dX11_codes_9 rfl ?_
    refine rI hX (pc := 10) hT (Nat.le_refl 0) (Nat.le_refl 0) dX11_codes_10 ?_
    exact ⟨⟨Ch_rf, (Kp_rf (a := 49) (b := 73)), hQ, by omega, by omega, rfl⟩, BK9_rf, TK9_rf⟩
set_option maxHeartbeats 4000000 in
set_option maxRecDepth 20000 in
theorem c9_X11_make (l0 : Launch) {Ia Ja : aI1} {Ra : aR1} {Sa : aS1} (hL : LY Ra Sa) (hQ : RX Ia) {a b c : Int} (ha0 : -2147483648 ≤ a) (ha1 : a < 2147483648) (hb0 : -2147483648 ≤ b) (hb1 : b < 2147483648) (hc0 : -2147483648 ≤ c) (hc1 : c < 2147483648)  : CT l0 4 0 0 mX11_make [kR (some 49), kI a, kI b, kI c] Ia Ja Ra Sa (cI (fun x I' J' => (Ch [50, 51, 61, 65, 66] [0, 1, 25, 31] Ia I' ∧ Kp 49 73 Ja J' ∧ RX I' ∧ (¬ (1 ≤ a ∧ a ≤ 3 ∧ 2 ≤ b ∧ b ≤ 4 ∧ 0 ≤ c ∧ c ≤ 8) → x = -1 ∧ I' 51 = Ia 51) ∧ ((1 ≤ a ∧ a ≤ 3 ∧ 2 ≤ b ∧ b ≤ 4 ∧ 0 ≤ c ∧ c ≤ 8) → ¬ (a = Ia 51 304 ∧ b = Ia 51 305 ∧ ¬ TBX a b c = 0) → x = -3 ∧ I' 51 = Ia 51) ∧ ((1 ≤ a ∧ a ≤ 3 ∧ 2 ≤ b ∧ b ≤ 4 ∧ 0 ≤ c ∧ c ≤ 8) → (a = Ia 51 304 ∧ b = Ia 51 305 ∧ ¬ TBX a b c = 0) → x = 0 ∧ ∃ c0, cN b.toNat (FU a + 1).toNat c.toNat c0 = 0 ∧ c.toNat ≤ DL b.toNat (dgs b.toNat (FU a + 1).toNat c0) ∧ ∀ j : Nat, I' 51 j = if (j : Int) < FU a + 1 then ((gd (dgs b.toNat (FU a + 1).toNat c0) j : Nat) : Int) else Ia 51 j)) ∧ RGQ9 x Ia I' Ja J') Ra Sa) := by
  refine ct_in pn_X11 (Nat.le_of_ble_eq_true rfl) (fun X hX hT hIn => ?_)
  have hX : aK l0 X cX11_make 5 RX11 (some .int) 4 0 0 := hX
  change WW X 0 [some (kR (some 49)), some (kI a), some (kI b), some (kI c), none] [] Ia Ja Ra Sa 0 0
  have qIa := RX_o hQ
  refine ww_iload_n hX (pc := 0) dX11_make_0 rfl ?_
  refine ww_iload_n hX (pc := 1) dX11_make_1 rfl ?_
  refine ww_iload_n hX (pc := 2) dX11_make_2 rfl ?_
  refine sI3 hX (pc := 3) sX11_327 (c_X11_areCodes l0 (by omega) (by omega) (by omega) (by omega) (by omega) (by omega)) (by decide) (Nat.le_refl 0) (Nat.le_refl 0) (Nat.le_of_ble_eq_true rfl) dX11_make_3 (fun x_3 I_3 J_3 h_3 => ?_)
  obtain ⟨rfl, rfl, h_3⟩ := h_3
  refine ww_if_ne hX (pc := 6) (tgt := 15) dX11_make_6 (by decide) (fun h_6 => ?_) (fun h_6 => ?_)
  · simp only [w32_mod] at h_6
    have k_3 := h_3.2.mp (by omega)
    clear h_3
    refine ww_iload_n hX (pc := 15) dX11_make_15 rfl ?_
    refine ww_aload_n hX (pc := 16) dX11_make_16 rfl ?_
    refine ww_getR hX (pc := 17) fX11_20 (by decide) (xs_49 hL) (xr_49_3 hL) dX11_make_17 ?_
    refine ww_sipush hX (pc := 20) (x := 304) dX11_make_20 (by decide) ?_
    refine ww_iald hX (pc := 23) (xs_51 hL) (by decide) (by omega) (by omega) dX11_make_23 ?_
    refine ww_toI (b := Ia 51 304) rfl ?_
    refine ww_icmp_ne hX (pc := 24) (tgt := 39) dX11_make_24 (by decide) (fun h_24 => ?_) (fun h_24 => ?_)
    · simp only [w32_mod] at h_24
      refine ww_aload_n hX (pc := 39) dX11_make_39 rfl ?_
      refine ww_bipush hX (pc := 40) (x := (-3)) dX11_make_40 (by decide) ?_
      refine vI1 hX (pc := 42) sX11_105 (xs_49 hL) (n9_X11_refuses l0 hL hQ (by omega) (by omega)) (by decide) (Nat.le_refl 0) (Nat.le_refl 0) (Nat.le_of_ble_eq_true rfl) dX11_make_42 (fun x_42 I_42 J_42 h_42 => ?_)
      obtain ⟨h_42, qxI_42⟩ := h_42
      have kJ_42 : Kp 49 73 Ja J_42 := Kp_tr (Kp_rf (a := 49) (b := 73)) h_42.2.1
      have kI_42 : Ch [50, 51, 61, 65, 66] [0, 1, 25, 31] Ia I_42 := Ch_tr Ch_rf (Ch_wd h_42.1 (by decide) (by decide))
      have cI_42 : RX I_42 := h_42.2.2.1
      have qI_42 := RX_o cI_42
      have r304_I_42 : I_42 51 304 = Ia 51 304 := by rw [h_42.1.1 51 (by decide) (by decide)]
      have r305_I_42 : I_42 51 305 = Ia 51 305 := by rw [h_42.1.1 51 (by decide) (by decide)]
      have r309_I_42 : I_42 51 309 = Ia 51 309 := by rw [h_42.1.1 51 (by decide) (by decide)]
      have rf_I_42 : FU (I_42 51 304) = FU (Ia 51 304) := by rw [r304_I_42]
      have xv42 := h_42.2.2.2
      have y51_I_42_ : I_42 51 = Ia 51 := h_42.1.1 51 (by decide) (by decide)
      have y51_I_42 : I_42 51 = Ia 51 := h_42.1.1 51 (by decide) (by decide)
      have y65_I_42 : I_42 65 = Ia 65 := h_42.1.1 65 (by decide) (by decide)
      have y66_I_42 : I_42 66 = Ia 66 := h_42.1.1 66 (by decide) (by decide)
      refine rI hX (pc := 45) hT (Nat.le_refl 0) (Nat.le_refl 0) dX11_make_45 ?_
      exact ⟨⟨kI_42, kJ_42, cI_42, (fun _ => ⟨by omega, y51_I_42_⟩), (fun _ _ => ⟨by omega, y51_I_42_⟩), (fun h9 h8 => absurd h8 (by omega))⟩, ⟨(fun _ => RQ9_tr BK9_rf TK9_rf qxI_42), (fun h9 => absurd h9 (by have := h_42.2.2.2; omega))⟩⟩
    · simp only [w32_mod] at h_24
      refine ww_iload_n hX (pc := 27) dX11_make_27 rfl ?_
      refine ww_aload_n hX (pc := 28) dX11_make_28 rfl ?_
      refine ww_getR hX (pc := 29) fX11_20 (by decide) (xs_49 hL) (xr_49_3 hL) dX11_make_29 ?_
      refine ww_sipush hX (pc := 32) (x := 305) dX11_make_32 (by decide) ?_
      refine ww_iald hX (pc := 35) (xs_51 hL) (by decide) (by omega) (by omega) dX11_make_35 ?_
      refine ww_toI (b := Ia 51 305) rfl ?_
      refine ww_icmp_eq hX (pc := 36) (tgt := 46) dX11_make_36 (by decide) (fun h_36 => ?_) (fun h_36 => ?_)
      · simp only [w32_mod] at h_36
        refine ww_aload_n hX (pc := 46) dX11_make_46 rfl ?_
        refine ww_iload_n hX (pc := 47) dX11_make_47 rfl ?_
        refine ww_iload_n hX (pc := 48) dX11_make_48 rfl ?_
        refine ww_iload_n hX (pc := 49) dX11_make_49 rfl ?_
        refine vV3 hX (pc := 50) sX11_330 (xs_49 hL) (c9_X11_codes0 l0 hL hQ (by omega) (by omega) (by omega) (by omega) (by omega) (by omega)) (by decide) (Nat.le_refl 0) (Nat.le_refl 0) (Nat.le_of_ble_eq_true rfl) dX11_make_50 (fun I_50 J_50 h_50 => ?_)
        obtain ⟨h_50, qxI_50⟩ := h_50
        have kJ_50 : Kp 49 73 Ja J_50 := Kp_tr (Kp_rf (a := 49) (b := 73)) h_50.2.1
        have kI_50 : Ch [50, 51, 61, 65, 66] [0, 1, 25, 31] Ia I_50 := Ch_tr Ch_rf (Ch_wd h_50.1 (by decide) (by decide))
        have cI_50 : RX I_50 := h_50.2.2.1
        have qI_50 := RX_o cI_50
        have xv50 := h_50.2.2.2
        have hf7 : FU (I_50 51 304) ≤ 7 := FU_3 (by omega) (by omega)
        have hfn : FU (I_50 51 304) = FU a := congrArg FU (by omega)
        have ht50 : I_50 49 31 = TBX a b c := by
          rw [h_50.2.2.2.2.2.2.1, FU_2 (by omega) (by omega)]
          exact codes_eq (by omega) (by omega) (by omega) (by omega) (by omega)
        have hr50 := TBX_r a b c
        have y51_I_50 : I_50 51 = Ia 51 := h_50.2.2.2.2.2.2.2.1
        have bkI_50 : BK9 Ia I_50 := BK9_tr BK9_rf qxI_50.1
        have tkI_50 : TK9 Ia I_50 Ja J_50 := TK9_tr TK9_rf qxI_50.2
        refine ww_aload_n hX (pc := 53) dX11_make_53 rfl ?_
        refine ww_getI hX (pc := 54) fX11_324 (by decide) (xs_49 hL) dX11_make_54 ?_
        refine ww_if_ne hX (pc := 57) (tgt := 67) dX11_make_57 (by decide) (fun h_57 => ?_) (fun h_57 => ?_)
        · simp only [w32_mod] at h_57
          refine ww_iconst hX (pc := 67) (x := 0) dX11_make_67 rfl ?_
          refine ww_istore hX (pc := 68) (lv' := [some (kR (some 49)), some (kI a), some (kI b), some (kI c), some (kI 0)]) dX11_make_68 (by decide) rfl rfl ?_
          have hl_70 : ∀ (n_70 : Nat) (i : Int) (I70 : aI1) (J70 : aI1), (8 - i).toNat = n_70 → (BK9 Ia I70 ∧ TK9 Ia I70 Ja J70 ∧ (Ch [50, 51, 61, 65, 66] [0, 1, 25, 31] Ia I70 ∧ RX I70 ∧ Kp 49 73 Ja J70 ∧ I70 51 304 = I_50 51 304 ∧ I70 51 305 = I_50 51 305 ∧ I70 51 309 = I_50 51 309 ∧ (0 ≤ i ∧ i ≤ FU a + 1) ∧ I70 66 = I_50 66 ∧ (∀ s : Nat, I70 51 s = if (s : Int) < i then I_50 66 s else Ia 51 s))) → WW X 70 [some (kR (some 49)), some (kI a), some (kI b), some (kI c), some (kI i)] [] I70 J70 Ra Sa 0 0 := by
            intro n_70
            induction n_70 using Nat.strongRecOn with
            | ind n_70 ih_70 =>
              intro i I70 J70 hm_70 hv_70
              have hq_70 := Sh0_i hm_70
              clear hm_70
              obtain ⟨bkl70, tkl70, hv_70⟩ := hv_70
              obtain ⟨kI70, cI70, kJ70, r304_I70, r305_I70, r309_I70, hv, e66_70, e51_70⟩ := hv_70
              have qI70 := RX_o cI70
              have rf_I70 : FU (I70 51 304) = FU (I_50 51 304) := by rw [r304_I70]
              refine ww_iload hX (pc := 70) dX11_make_70 rfl ?_
              refine ww_aload_n hX (pc := 72) dX11_make_72 rfl ?_
              refine vI0 hX (pc := 73) sX11_112 (xs_49 hL) (c_X11_states l0 hL cI70 ) (by decide) (Nat.le_refl 0) (Nat.le_refl 0) (Nat.le_of_ble_eq_true rfl) dX11_make_73 (fun x_73 I_73 J_73 h_73 => ?_)
              obtain ⟨rfl, rfl, h_73⟩ := h_73
              refine ww_icmp_ge hX (pc := 76) (tgt := 101) dX11_make_76 (by decide) (fun h_76 => ?_) (fun h_76 => ?_)
              · simp only [w32_mod] at h_76
                refine ww_aload_n hX (pc := 101) dX11_make_101 rfl ?_
                refine ww_iconst hX (pc := 102) (x := 0) dX11_make_102 rfl ?_
                refine vI1 hX (pc := 103) sX11_109 (xs_49 hL) (n9_X11_good l0 hL cI70) (by decide) (Nat.le_refl 0) (Nat.le_refl 0) (Nat.le_of_ble_eq_true rfl) dX11_make_103 (fun x_103 I_103 J_103 h_103 => ?_)
                obtain ⟨h_103, qxI_103⟩ := h_103
                have kJ_103 : Kp 49 73 Ja J_103 := Kp_tr kJ70 h_103.2.1
                have kI_103 : Ch [50, 51, 61, 65, 66] [0, 1, 25, 31] Ia I_103 := Ch_tr kI70 (Ch_wd h_103.1 (by decide) (by decide))
                have cI_103 : RX I_103 := h_103.2.2.1
                have qI_103 := RX_o cI_103
                have r304_I_103 : I_103 51 304 = I70 51 304 := by rw [h_103.1.1 51 (by decide) (by decide)]
                have r305_I_103 : I_103 51 305 = I70 51 305 := by rw [h_103.1.1 51 (by decide) (by decide)]
                have r309_I_103 : I_103 51 309 = I70 51 309 := by rw [h_103.1.1 51 (by decide) (by decide)]
                have rf_I_103 : FU (I_103 51 304) = FU (I70 51 304) := by rw [r304_I_103]
                have xv103 := h_103.2.2.2
                have y51_I_103 : I_103 51 = I70 51 := h_103.1.1 51 (by decide) (by decide)
                have y65_I_103 : I_103 65 = I70 65 := h_103.1.1 65 (by decide) (by decide)
                have y66_I_103 : I_103 66 = I70 66 := h_103.1.1 66 (by decide) (by decide)
                refine rI hX (pc := 106) hT (Nat.le_refl 0) (Nat.le_refl 0) dX11_make_106 ?_
                exact ⟨⟨kI_103, kJ_103, cI_103, (fun h9 => absurd (by omega) h9), (fun _ h8 => absurd (by omega) h8), (fun _ _ => ⟨by omega, (by
                    obtain ⟨c0, f1, f2, f3⟩ := h_50.2.2.2.2.2.2.2.2 (by omega)
                    refine ⟨c0, f1, f2, fun j => ?_⟩
                    rw [y51_I_103, e51_70 j]
                    by_cases g : (j : Int) < i
                    · rw [if_pos g, if_pos (by omega)]
                      exact f3 j (by omega)
                    · rw [if_neg g, if_neg (by omega)])⟩)⟩, ⟨(fun h9 => absurd h9 (by have := h_103.2.2.2; omega)), (fun _ => GQ9_tr bkl70 qxI_103)⟩⟩
              · simp only [w32_mod] at h_76
                refine ww_aload_n hX (pc := 79) dX11_make_79 rfl ?_
                refine ww_getR hX (pc := 80) fX11_20 (by decide) (xs_49 hL) (xr_49_3 hL) dX11_make_80 ?_
                refine ww_iconst hX (pc := 83) (x := 0) dX11_make_83 rfl ?_
                refine ww_iload hX (pc := 84) dX11_make_84 rfl ?_
                refine ww_iadd hX (pc := 86) dX11_make_86 ?_
                refine ww_aload_n hX (pc := 87) dX11_make_87 rfl ?_
                refine ww_getR hX (pc := 88) fX11_74 (by decide) (xs_49 hL) (xr_49_30 hL) dX11_make_88 ?_
                refine ww_iload hX (pc := 91) dX11_make_91 rfl ?_
                refine ww_iald hX (pc := 93) (xs_66 hL) (by decide) (by omega) (by omega) dX11_make_93 ?_
                refine ww_iast hX (pc := 94) (xs_51 hL) (by decide) (by omega) (by omega) dX11_make_94 ?_
                refine ww_nmH (fun I_94 eI_94 => ?_)
                have kI_94 : Ch [50, 51, 61, 65, 66] [0, 1, 25, 31] Ia I_94 := by rw [eI_94]; exact Ch_r kI70 (by decide) (by decide)
                have cI_94 : RX I_94 := by rw [eI_94]; exact RX_lo cI70 (by omega)
                have qI_94 := RX_o cI_94
                have r304_I_94 : I_94 51 304 = I70 51 304 := by rw [eI_94, up2_n _ _ (Or.inr (by omega))]
                have r305_I_94 : I_94 51 305 = I70 51 305 := by rw [eI_94, up2_n _ _ (Or.inr (by omega))]
                have r309_I_94 : I_94 51 309 = I70 51 309 := by rw [eI_94, up2_n _ _ (Or.inr (by omega))]
                have rf_I_94 : FU (I_94 51 304) = FU (I70 51 304) := by rw [r304_I_94]
                have y65_I_94 : I_94 65 = I70 65 := by rw [eI_94, up2_off _ _ _ (by decide)]
                have y66_I_94 : I_94 66 = I70 66 := by rw [eI_94, up2_off _ _ _ (by decide)]
                have bkI_94 : BK9 Ia I_94 := by rw [eI_94]; exact BK9_up bkl70 (by decide)
                have tkI_94 : TK9 Ia I_94 Ja J70 := by rw [eI_94]; exact TK9_up tkl70 (by decide)
                refine ww_iinc hX (pc := 95) (lv' := [some (kR (some 49)), some (kI a), some (kI b), some (kI c), some (kI (i + 1))]) dX11_make_95 rfl (by decide) rfl rfl ?_
                refine ww_goto hX (pc := 98) (tgt := 70) dX11_make_98 (by decide) ?_
                exact ih_70 _ (by have hm9 := Sh0_e hq_70; omega) (i + 1) I_94 J70 rfl ⟨bkI_94, tkI_94, ⟨kI_94, cI_94, kJ70, by omega, by omega, by omega, by omega, (by rw [y66_I_94, e66_70]), (fun s => by
    rw [eI_94]
    by_cases g : s = (0 + i).toNat
    · subst g
      rw [if_pos (by omega)]
      refine (up2_s ..).trans ?_
      rw [e66_70, show (0 + i).toNat = i.toNat by omega]
    · rw [up2_n _ _ (Or.inr g), e51_70 s]
      by_cases g2 : (s : Int) < i
      · rw [if_pos g2, if_pos (by omega)]
      · rw [if_neg g2, if_neg (by omega)])⟩⟩
          exact hl_70 _ 0 I_50 J_50 rfl ⟨bkI_50, tkI_50, ⟨kI_50, cI_50, kJ_50, rfl, rfl, rfl, by omega, rfl, (fun s => by rw [if_neg (by omega), y51_I_50])⟩⟩
        · simp only [w32_mod] at h_57
          refine ww_aload_n hX (pc := 60) dX11_make_60 rfl ?_
          refine ww_bipush hX (pc := 61) (x := (-3)) dX11_make_61 (by decide) ?_
          refine vI1 hX (pc := 63) sX11_105 (xs_49 hL) (n9_X11_refuses l0 hL cI_50 (by omega) (by omega)) (by decide) (Nat.le_refl 0) (Nat.le_refl 0) (Nat.le_of_ble_eq_true rfl) dX11_make_63 (fun x_63 I_63 J_63 h_63 => ?_)
          obtain ⟨h_63, qxI_63⟩ := h_63
          have kJ_63 : Kp 49 73 Ja J_63 := Kp_tr kJ_50 h_63.2.1
          have kI_63 : Ch [50, 51, 61, 65, 66] [0, 1, 25, 31] Ia I_63 := Ch_tr kI_50 (Ch_wd h_63.1 (by decide) (by decide))
          have cI_63 : RX I_63 := h_63.2.2.1
          have qI_63 := RX_o cI_63
          have r304_I_63 : I_63 51 304 = I_50 51 304 := by rw [h_63.1.1 51 (by decide) (by decide)]
          have r305_I_63 : I_63 51 305 = I_50 51 305 := by rw [h_63.1.1 51 (by decide) (by decide)]
          have r309_I_63 : I_63 51 309 = I_50 51 309 := by rw [h_63.1.1 51 (by decide) (by decide)]
          have rf_I_63 : FU (I_63 51 304) = FU (I_50 51 304) := by rw [r304_I_63]
          have xv63 := h_63.2.2.2
          have y51_I_63_ : I_63 51 = Ia 51 := (h_63.1.1 51 (by decide) (by decide)).trans y51_I_50
          have y51_I_63 : I_63 51 = I_50 51 := h_63.1.1 51 (by decide) (by decide)
          have y65_I_63 : I_63 65 = I_50 65 := h_63.1.1 65 (by decide) (by decide)
          have y66_I_63 : I_63 66 = I_50 66 := h_63.1.1 66 (by decide) (by decide)
          refine rI hX (pc := 66) hT (Nat.le_refl 0) (Nat.le_refl 0) dX11_make_66 ?_
          exact ⟨⟨kI_63, kJ_63, cI_63, (fun _ => ⟨by omega, y51_I_63_⟩), (fun _ _ => ⟨by omega, y51_I_63_⟩), (fun h9 h8 => absurd h8 (by omega))⟩, ⟨(fun _ => RQ9_tr bkI_50 tkI_50 qxI_63), (fun h9 => absurd h9 (by have := h_63.2.2.2; omega))⟩⟩
      · simp only [w32_mod] at h_36
        refine ww_aload_n hX (pc := 39) dX11_make_39 rfl ?_
        refine ww_bipush hX (pc := 40) (x := (-3)) dX11_make_40 (by decide) ?_
        refine vI1 hX (pc := 42) sX11_105 (xs_49 hL) (n9_X11_refuses l0 hL hQ (by omega) (by omega)) (by decide) (Nat.le_refl 0) (Nat.le_refl 0) (Nat.le_of_ble_eq_true rfl) dX11_make_42 (fun x_42 I_42 J_42 h_42 => ?_)
        obtain ⟨h_42, qxI_42⟩ := h_42
        have kJ_42 : Kp 49 73 Ja J_42 := Kp_tr (Kp_rf (a := 49) (b := 73)) h_42.2.1
        have kI_42 : Ch [50, 51, 61, 65, 66] [0, 1, 25, 31] Ia I_42 := Ch_tr Ch_rf (Ch_wd h_42.1 (by decide) (by decide))
        have cI_42 : RX I_42 := h_42.2.2.1
        have qI_42 := RX_o cI_42
        have r304_I_42 : I_42 51 304 = Ia 51 304 := by rw [h_42.1.1 51 (by decide) (by decide)]
        have r305_I_42 : I_42 51 305 = Ia 51 305 := by rw [h_42.1.1 51 (by decide) (by decide)]
        have r309_I_42 : I_42 51 309 = Ia 51 309 := by rw [h_42.1.1 51 (by decide) (by decide)]
        have rf_I_42 : FU (I_42 51 304) = FU (Ia 51 304) := by rw [r304_I_42]
        have xv42 := h_42.2.2.2
        have y51_I_42_ : I_42 51 = Ia 51 := h_42.1.1 51 (by decide) (by decide)
        have y51_I_42 : I_42 51 = Ia 51 := h_42.1.1 51 (by decide) (by decide)
        have y65_I_42 : I_42 65 = Ia 65 := h_42.1.1 65 (by decide) (by decide)
        have y66_I_42 : I_42 66 = Ia 66 := h_42.1.1 66 (by decide) (by decide)
        refine rI hX (pc := 45) hT (Nat.le_refl 0) (Nat.le_refl 0) dX11_make_45 ?_
        exact ⟨⟨kI_42, kJ_42, cI_42, (fun _ => ⟨by omega, y51_I_42_⟩), (fun _ _ => ⟨by omega, y51_I_42_⟩), (fun h9 h8 => absurd h8 (by omega))⟩, ⟨(fun _ => RQ9_tr BK9_rf TK9_rf qxI_42), (fun h9 => absurd h9 (by have := h_42.2.2.2; omega))⟩⟩
  · simp only [w32_mod] at h_6
    refine ww_aload_n hX (pc := 9) dX11_make_9 rfl ?_
    refine ww_iconst hX (pc := 10) (x := (-1)) dX11_make_10 rfl ?_
    refine vI1 hX (pc := 11) sX11_105 (xs_49 hL) (n9_X11_refuses l0 hL hQ (by omega) (by omega)) (by decide) (Nat.le_refl 0) (Nat.le_refl 0) (Nat.le_of_ble_eq_true rfl) dX11_make_11 (fun x_11 I_11 J_11 h_11 => ?_)
    obtain ⟨h_11, qxI_11⟩ := h_11
    have kJ_11 : Kp 49 73 Ja J_11 := Kp_tr (Kp_rf (a := 49) (b := 73)) h_11.2.1
    have kI_11 : Ch [50, 51, 61, 65, 66] [0, 1, 25, 31] Ia I_11 := Ch_tr Ch_rf (Ch_wd h_11.1 (by decide) (by decide))
    have cI_11 : RX I_11 := h_11.2.2.1
    have qI_11 := RX_o cI_11
    have r304_I_11 : I_11 51 304 = Ia 51 304 := by rw [h_11.1.1 51 (by decide) (by decide)]
    have r305_I_11 : I_11 51 305 = Ia 51 305 := by rw [h_11.1.1 51 (by decide) (by decide)]
    have r309_I_11 : I_11 51 309 = Ia 51 309 := by rw [h_11.1.1 51 (by decide) (by decide)]
    have rf_I_11 : FU (I_11 51 304) = FU (Ia 51 304) := by rw [r304_I_11]
    have xv11 := h_11.2.2.2
    have y51_I_11_ : I_11 51 = Ia 51 := h_11.1.1 51 (by decide) (by decide)
    have y51_I_11 : I_11 51 = Ia 51 := h_11.1.1 51 (by decide) (by decide)
    have y65_I_11 : I_11 65 = Ia 65 := h_11.1.1 65 (by decide) (by decide)
    have y66_I_11 : I_11 66 = Ia 66 := h_11.1.1 66 (by decide) (by decide)
    refine rI hX (pc := 14) hT (Nat.le_refl 0) (Nat.le_refl 0) dX11_make_14 ?_
    exact ⟨⟨kI_11, kJ_11, cI_11, (fun _ => ⟨by omega, y51_I_11_⟩), (fun _ _ => ⟨by omega, y51_I_11_⟩), (fun h9 h8 => absurd h8 (by omega))⟩, ⟨(fun _ => RQ9_tr BK9_rf TK9_rf qxI_11), (fun h9 => absurd h9 (by have := h_11.2.2.2; omega))⟩⟩
