theorem i_rem_v {a b : Int} (ha : 0 ≤ a) (ha2 : a < 2147483648) (hb : 0 < b) (hb2 : b < 2147483648) : i_rem a b = a % b := by
  have e1 : (Int32.ofInt a).toInt = a := w32_id (by omega) (by omega)
  have e2 : (Int32.ofInt b).toInt = b := w32_id (by omega) (by omega)
  have h1 : 0 ≤ a / b := Int.ediv_nonneg ha (by omega)
  have h2 : a / b ≤ a := Int.ediv_le_self b ha
  have h3 : a / b * b = a - a % b := by have := Int.mul_ediv_add_emod a b; rw [Int.mul_comm] at this; omega
  have h4 := Int.emod_nonneg a (show b ≠ 0 by omega)
  have h5 := Int.emod_lt_of_pos a hb
  unfold i_rem
  rw [Int32.toInt_sub, Int32.toInt_mul, Int32.toInt_div, e1, e2, Int.tdiv_eq_ediv_of_nonneg ha]
  rw [show (a / b).bmod (2 ^ 32) = a / b from Int.bmod_eq_of_le (by omega) (by omega), h3]
  rw [show (a - a % b).bmod (2 ^ 32) = a - a % b from Int.bmod_eq_of_le (by omega) (by omega)]
  rw [show a - (a - a % b) = a % b by omega]
  exact Int.bmod_eq_of_le (by omega) (by omega)
theorem i_div_v {a b : Int} (ha : 0 ≤ a) (ha2 : a < 2147483648) (hb : 0 < b) (hb2 : b < 2147483648) : i_div a b = a / b := by
  have e1 : (Int32.ofInt a).toInt = a := w32_id (by omega) (by omega)
  have e2 : (Int32.ofInt b).toInt = b := w32_id (by omega) (by omega)
  have h1 : 0 ≤ a / b := Int.ediv_nonneg ha (by omega)
  have h2 : a / b ≤ a := Int.ediv_le_self b ha
  unfold i_div
  rw [Int32.toInt_div, e1, e2, Int.tdiv_eq_ediv_of_nonneg ha]
  exact Int.bmod_eq_of_le (by omega) (by omega)
theorem FU_3 {n : Int} (h0 : 1 ≤ n) (h1 : n ≤ 3) : FU n ≤ 7 := by
  unfold FU
  rcases (show n = 1 ∨ n = 2 ∨ n = 3 by omega) with rfl | rfl | rfl <;> decide
set_option maxHeartbeats 4000000 in
set_option maxRecDepth 20000 in
theorem c_X11_empties (l0 : Launch) {Ia Ja : aI1} {Ra : aR1} {Sa : aS1} (hL : LY Ra Sa) (hQ : RX Ia)  : CT l0 0 0 0 mX11_empties [kR (some 49)] Ia Ja Ra Sa (cV (fun I' J' => Ch [51] [] Ia I' ∧ Kp 49 73 Ja J' ∧ RX I' ∧ I' 51 304 = Ia 51 304 ∧ I' 51 305 = Ia 51 305) Ra Sa) := by
  refine ct_in pn_X11 (Nat.le_of_ble_eq_true rfl) (fun X hX hT hIn => ?_)
  have hX : aK l0 X cX11_empties 2 RX11 none 0 0 0 := hX
  change WW X 0 [some (kR (some 49)), none] [] Ia Ja Ra Sa 0 0
  have qIa := RX_o hQ
  refine ww_iconst hX (pc := 0) (x := 0) dX11_empties_0 rfl ?_
  refine ww_istore_n hX (pc := 1) (lv' := [some (kR (some 49)), some (kI 0)]) dX11_empties_1 (by decide) rfl rfl ?_
  have hl_2 : ∀ (n_2 : Nat) (i : Int) (I2 : aI1) (J2 : aI1), (256 - i).toNat = n_2 → (Ch [51] [] Ia I2 ∧ RX I2 ∧ Kp 49 73 Ja J2 ∧ I2 51 304 = Ia 51 304 ∧ I2 51 305 = Ia 51 305 ∧ (0 ≤ i ∧ i ≤ 256)) → WW X 2 [some (kR (some 49)), some (kI i)] [] I2 J2 Ra Sa 0 0 := by
    intro n_2
    induction n_2 using Nat.strongRecOn with
    | ind n_2 ih_2 =>
      intro i I2 J2 hm_2 hv_2
      obtain ⟨kI2, cI2, kJ2, r304_I2, r305_I2, hv⟩ := hv_2
      have qI2 := RX_o cI2
      have rf_I2 : FU (I2 51 304) = FU (Ia 51 304) := by rw [r304_I2]
      refine ww_iload_n hX (pc := 2) dX11_empties_2 rfl ?_
      refine ww_sipush hX (pc := 3) (x := 256) dX11_empties_3 (by decide) ?_
      refine ww_icmp_ge hX (pc := 6) (tgt := 24) dX11_empties_6 (by decide) (fun h_6 => ?_) (fun h_6 => ?_)
      · simp only [w32_mod] at h_6
        refine ww_aload_n hX (pc := 24) dX11_empties_24 rfl ?_
        refine ww_getR hX (pc := 25) fX11_20 (by decide) (xs_49 hL) (xr_49_3 hL) dX11_empties_25 ?_
        refine ww_sipush hX (pc := 28) (x := 307) dX11_empties_28 (by decide) ?_
        refine ww_iconst hX (pc := 31) (x := 0) dX11_empties_31 rfl ?_
        refine ww_iast hX (pc := 32) (xs_51 hL) (by decide) (by omega) (by omega) dX11_empties_32 ?_
        refine ww_nmH (fun I_32 eI_32 => ?_)
        have kI_32 : Ch [51] [] Ia I_32 := by rw [eI_32]; exact Ch_r kI2 (by decide) (by decide)
        have cI_32 : RX I_32 := by rw [eI_32]; exact RX_307 cI2 (by omega) (by omega)
        have qI_32 := RX_o cI_32
        have r304_I_32 : I_32 51 304 = I2 51 304 := by rw [eI_32, up2_n _ _ (Or.inr (by decide))]
        have r305_I_32 : I_32 51 305 = I2 51 305 := by rw [eI_32, up2_n _ _ (Or.inr (by decide))]
        have rf_I_32 : FU (I_32 51 304) = FU (I2 51 304) := by rw [r304_I_32]
        refine ww_aload_n hX (pc := 33) dX11_empties_33 rfl ?_
        refine ww_getR hX (pc := 34) fX11_20 (by decide) (xs_49 hL) (xr_49_3 hL) dX11_empties_34 ?_
        refine ww_sipush hX (pc := 37) (x := 308) dX11_empties_37 (by decide) ?_
        refine ww_iconst hX (pc := 40) (x := 0) dX11_empties_40 rfl ?_
        refine ww_iast hX (pc := 41) (xs_51 hL) (by decide) (by omega) (by omega) dX11_empties_41 ?_
        refine ww_nmH (fun I_41 eI_41 => ?_)
        have kI_41 : Ch [51] [] Ia I_41 := by rw [eI_41]; exact Ch_r kI_32 (by decide) (by decide)
        have cI_41 : RX I_41 := by rw [eI_41]; exact RX_308 cI_32 (by omega) (by omega)
        have qI_41 := RX_o cI_41
        have r304_I_41 : I_41 51 304 = I_32 51 304 := by rw [eI_41, up2_n _ _ (Or.inr (by decide))]
        have r305_I_41 : I_41 51 305 = I_32 51 305 := by rw [eI_41, up2_n _ _ (Or.inr (by decide))]
        have rf_I_41 : FU (I_41 51 304) = FU (I_32 51 304) := by rw [r304_I_41]
        refine ww_aload_n hX (pc := 42) dX11_empties_42 rfl ?_
        refine ww_getR hX (pc := 43) fX11_20 (by decide) (xs_49 hL) (xr_49_3 hL) dX11_empties_43 ?_
        refine ww_sipush hX (pc := 46) (x := 309) dX11_empties_46 (by decide) ?_
        refine ww_iconst hX (pc := 49) (x := 0) dX11_empties_49 rfl ?_
        refine ww_iast hX (pc := 50) (xs_51 hL) (by decide) (by omega) (by omega) dX11_empties_50 ?_
        refine ww_nmH (fun I_50 eI_50 => ?_)
        have kI_50 : Ch [51] [] Ia I_50 := by rw [eI_50]; exact Ch_r kI_41 (by decide) (by decide)
        have cI_50 : RX I_50 := by rw [eI_50]; exact RX_309 cI_41 (by omega) (by omega)
        have qI_50 := RX_o cI_50
        have r304_I_50 : I_50 51 304 = I_41 51 304 := by rw [eI_50, up2_n _ _ (Or.inr (by decide))]
        have r305_I_50 : I_50 51 305 = I_41 51 305 := by rw [eI_50, up2_n _ _ (Or.inr (by decide))]
        have rf_I_50 : FU (I_50 51 304) = FU (I_41 51 304) := by rw [r304_I_50]
        refine rV hX (pc := 51) hT (Nat.le_refl 0) (Nat.le_refl 0) dX11_empties_51 ?_
        exact ⟨kI_50, kJ2, cI_50, by omega, by omega⟩
      · simp only [w32_mod] at h_6
        refine ww_aload_n hX (pc := 9) dX11_empties_9 rfl ?_
        refine ww_getR hX (pc := 10) fX11_20 (by decide) (xs_49 hL) (xr_49_3 hL) dX11_empties_10 ?_
        refine ww_iconst hX (pc := 13) (x := 0) dX11_empties_13 rfl ?_
        refine ww_iload_n hX (pc := 14) dX11_empties_14 rfl ?_
        refine ww_iadd hX (pc := 15) dX11_empties_15 ?_
        refine ww_iconst hX (pc := 16) (x := (-1)) dX11_empties_16 rfl ?_
        refine ww_iast hX (pc := 17) (xs_51 hL) (by decide) (by omega) (by omega) dX11_empties_17 ?_
        refine ww_nmH (fun I_17 eI_17 => ?_)
        have kI_17 : Ch [51] [] Ia I_17 := by rw [eI_17]; exact Ch_r kI2 (by decide) (by decide)
        have cI_17 : RX I_17 := by rw [eI_17]; exact RX_lo cI2 (by omega)
        have qI_17 := RX_o cI_17
        have r304_I_17 : I_17 51 304 = I2 51 304 := by rw [eI_17, up2_n _ _ (Or.inr (by omega))]
        have r305_I_17 : I_17 51 305 = I2 51 305 := by rw [eI_17, up2_n _ _ (Or.inr (by omega))]
        have rf_I_17 : FU (I_17 51 304) = FU (I2 51 304) := by rw [r304_I_17]
        refine ww_iinc hX (pc := 18) (lv' := [some (kR (some 49)), some (kI (i + 1))]) dX11_empties_18 rfl (by decide) rfl rfl ?_
        refine ww_goto hX (pc := 21) (tgt := 2) dX11_empties_21 (by decide) ?_
        exact ih_2 _ (by omega) (i + 1) I_17 J2 rfl ⟨kI_17, cI_17, kJ2, by omega, by omega, by omega⟩
  exact hl_2 _ 0 Ia Ja rfl ⟨Ch_rf, hQ, (Kp_rf (a := 49) (b := 73)), rfl, rfl, by omega⟩
set_option maxHeartbeats 4000000 in
set_option maxRecDepth 20000 in
theorem c_X11_lamps (l0 : Launch) {Ia Ja : aI1} {Ra : aR1} {Sa : aS1} (hL : LY Ra Sa) (hQ : RX Ia) {a : Int} (ha0 : -2147483648 ≤ a) (ha1 : a < 2147483648)  : CT l0 1 0 0 mX11_lamps [kR (some 49), kI a] Ia Ja Ra Sa (cI (fun x I' J' => Ch [50, 51] [0, 1] Ia I' ∧ Kp 49 73 Ja J' ∧ RX I' ∧ True) Ra Sa) := by
  refine ct_in pn_X11 (Nat.le_of_ble_eq_true rfl) (fun X hX hT hIn => ?_)
  have hX : aK l0 X cX11_lamps 4 RX11 (some .int) 1 0 0 := hX
  change WW X 0 [some (kR (some 49)), some (kI a), none, none] [] Ia Ja Ra Sa 0 0
  have qIa := RX_o hQ
  refine ww_iload_n hX (pc := 0) dX11_lamps_0 rfl ?_
  refine ww_iconst hX (pc := 1) (x := 1) dX11_lamps_1 rfl ?_
  refine ww_bipush hX (pc := 2) (x := 8) dX11_lamps_2 (by decide) ?_
  refine sI3 hX (pc := 4) sX11_101 (c_X11_lies l0 (by omega) (by omega) (by omega) (by omega) (by omega) (by omega)) (by decide) (Nat.le_refl 0) (Nat.le_refl 0) (Nat.le_of_ble_eq_true rfl) dX11_lamps_4 (fun x_4 I_4 J_4 h_4 => ?_)
  obtain ⟨rfl, rfl, h_4⟩ := h_4
  refine ww_if_ne hX (pc := 7) (tgt := 16) dX11_lamps_7 (by decide) (fun h_7 => ?_) (fun h_7 => ?_)
  · simp only [w32_mod] at h_7
    refine ww_aload_n hX (pc := 16) dX11_lamps_16 rfl ?_
    refine ww_getR hX (pc := 17) fX11_20 (by decide) (xs_49 hL) (xr_49_3 hL) dX11_lamps_17 ?_
    refine ww_sipush hX (pc := 20) (x := 304) dX11_lamps_20 (by decide) ?_
    refine ww_iald hX (pc := 23) (xs_51 hL) (by decide) (by omega) (by omega) dX11_lamps_23 ?_
    refine ww_toI (b := Ia 51 304) rfl ?_
    refine ww_nmI (fun v_24 hv_24 => ?_)
    refine ww_istore_n hX (pc := 24) (lv' := [some (kR (some 49)), some (kI a), some (kI v_24), none]) dX11_lamps_24 (by decide) rfl rfl ?_
    refine ww_aload_n hX (pc := 25) dX11_lamps_25 rfl ?_
    refine ww_getR hX (pc := 26) fX11_20 (by decide) (xs_49 hL) (xr_49_3 hL) dX11_lamps_26 ?_
    refine ww_sipush hX (pc := 29) (x := 304) dX11_lamps_29 (by decide) ?_
    refine ww_iload_n hX (pc := 32) dX11_lamps_32 rfl ?_
    refine ww_iast hX (pc := 33) (xs_51 hL) (by decide) (by omega) (by omega) dX11_lamps_33 ?_
    refine ww_nmH (fun I_33 eI_33 => ?_)
    have kI_33 : Ch [50, 51] [0, 1] Ia I_33 := by rw [eI_33]; exact Ch_r Ch_rf (by decide) (by decide)
    have cI_33 : RX I_33 := by rw [eI_33]; exact RX_304 hQ (by omega) (by omega)
    have qI_33 := RX_o cI_33
    have r305_I_33 : I_33 51 305 = Ia 51 305 := by rw [eI_33, up2_n _ _ (Or.inr (by decide))]
    have n304 : I_33 51 304 = a := by rw [eI_33]; exact up2_s _ _ _ _
    refine ww_aload_n hX (pc := 34) dX11_lamps_34 rfl ?_
    refine ww_getR hX (pc := 35) fX11_20 (by decide) (xs_49 hL) (xr_49_3 hL) dX11_lamps_35 ?_
    refine ww_sipush hX (pc := 38) (x := 306) dX11_lamps_38 (by decide) ?_
    refine ww_iconst hX (pc := 41) (x := 0) dX11_lamps_41 rfl ?_
    refine ww_iast hX (pc := 42) (xs_51 hL) (by decide) (by omega) (by omega) dX11_lamps_42 ?_
    refine ww_nmH (fun I_42 eI_42 => ?_)
    have kI_42 : Ch [50, 51] [0, 1] Ia I_42 := by rw [eI_42]; exact Ch_r kI_33 (by decide) (by decide)
    have cI_42 : RX I_42 := by rw [eI_42]; exact RX_lo cI_33 (by decide)
    have qI_42 := RX_o cI_42
    have r305_I_42 : I_42 51 305 = I_33 51 305 := by rw [eI_42, up2_n _ _ (Or.inr (by decide))]
    refine ww_iconst hX (pc := 43) (x := 0) dX11_lamps_43 rfl ?_
    refine ww_istore_n hX (pc := 44) (lv' := [some (kR (some 49)), some (kI a), some (kI v_24), some (kI 0)]) dX11_lamps_44 (by decide) rfl rfl ?_
    have hl_45 : ∀ (n_45 : Nat) (i : Int) (I45 : aI1) (J45 : aI1), (8 - i).toNat = n_45 → (Ch [50, 51] [0, 1] Ia I45 ∧ RX I45 ∧ Kp 49 73 Ja J45 ∧ I45 51 305 = I_42 51 305 ∧ (0 ≤ i ∧ i ≤ 8)) → WW X 45 [some (kR (some 49)), some (kI a), some (kI v_24), some (kI i)] [] I45 J45 Ra Sa 0 0 := by
      intro n_45
      induction n_45 using Nat.strongRecOn with
      | ind n_45 ih_45 =>
        intro i I45 J45 hm_45 hv_45
        obtain ⟨kI45, cI45, kJ45, r305_I45, hv⟩ := hv_45
        have qI45 := RX_o cI45
        refine ww_iload_n hX (pc := 45) dX11_lamps_45 rfl ?_
        refine ww_bipush hX (pc := 46) (x := 8) dX11_lamps_46 (by decide) ?_
        refine ww_icmp_ge hX (pc := 48) (tgt := 68) dX11_lamps_48 (by decide) (fun h_48 => ?_) (fun h_48 => ?_)
        · simp only [w32_mod] at h_48
          refine ww_aload_n hX (pc := 68) dX11_lamps_68 rfl ?_
          refine vV0 hX (pc := 69) sX11_98 (xs_49 hL) (c_X11_empties l0 hL cI45 ) (by decide) (Nat.le_refl 0) (Nat.le_refl 0) (Nat.le_of_ble_eq_true rfl) dX11_lamps_69 (fun I_69 J_69 h_69 => ?_)
          have kJ_69 : Kp 49 73 Ja J_69 := Kp_tr kJ45 h_69.2.1
          have kI_69 : Ch [50, 51] [0, 1] Ia I_69 := Ch_tr kI45 (Ch_wd h_69.1 (by decide) (by decide))
          have cI_69 : RX I_69 := h_69.2.2.1
          have qI_69 := RX_o cI_69
          refine ww_aload_n hX (pc := 72) dX11_lamps_72 rfl ?_
          refine ww_iload_n hX (pc := 73) dX11_lamps_73 rfl ?_
          refine vI1 hX (pc := 74) sX11_109 (xs_49 hL) (c_X11_good l0 hL cI_69 ) (by decide) (Nat.le_refl 0) (Nat.le_refl 0) (Nat.le_of_ble_eq_true rfl) dX11_lamps_74 (fun x_74 I_74 J_74 h_74 => ?_)
          have kJ_74 : Kp 49 73 Ja J_74 := Kp_tr kJ_69 h_74.2.1
          have kI_74 : Ch [50, 51] [0, 1] Ia I_74 := Ch_tr kI_69 (Ch_wd h_74.1 (by decide) (by decide))
          have cI_74 : RX I_74 := h_74.2.2.1
          have qI_74 := RX_o cI_74
          have r305_I_74 : I_74 51 305 = I_69 51 305 := by rw [h_74.1.1 51 (by decide) (by decide)]
          refine rI hX (pc := 77) hT (Nat.le_refl 0) (Nat.le_refl 0) dX11_lamps_77 ?_
          exact ⟨kI_74, kJ_74, cI_74, trivial⟩
        · simp only [w32_mod] at h_48
          refine ww_aload_n hX (pc := 51) dX11_lamps_51 rfl ?_
          refine ww_getR hX (pc := 52) fX11_20 (by decide) (xs_49 hL) (xr_49_3 hL) dX11_lamps_52 ?_
          refine ww_sipush hX (pc := 55) (x := 256) dX11_lamps_55 (by decide) ?_
          refine ww_iload_n hX (pc := 58) dX11_lamps_58 rfl ?_
          refine ww_iadd hX (pc := 59) dX11_lamps_59 ?_
          refine ww_iconst hX (pc := 60) (x := 1) dX11_lamps_60 rfl ?_
          refine ww_iast hX (pc := 61) (xs_51 hL) (by decide) (by omega) (by omega) dX11_lamps_61 ?_
          refine ww_nmH (fun I_61 eI_61 => ?_)
          have kI_61 : Ch [50, 51] [0, 1] Ia I_61 := by rw [eI_61]; exact Ch_r kI45 (by decide) (by decide)
          have cI_61 : RX I_61 := by rw [eI_61]; exact RX_lo cI45 (by omega)
          have qI_61 := RX_o cI_61
          have r305_I_61 : I_61 51 305 = I45 51 305 := by rw [eI_61, up2_n _ _ (Or.inr (by omega))]
          refine ww_iinc hX (pc := 62) (lv' := [some (kR (some 49)), some (kI a), some (kI v_24), some (kI (i + 1))]) dX11_lamps_62 rfl (by decide) rfl rfl ?_
          refine ww_goto hX (pc := 65) (tgt := 45) dX11_lamps_65 (by decide) ?_
          exact ih_45 _ (by omega) (i + 1) I_61 J45 rfl ⟨kI_61, cI_61, kJ45, by omega, by omega⟩
    exact hl_45 _ 0 I_42 Ja rfl ⟨kI_42, cI_42, (Kp_rf (a := 49) (b := 73)), rfl, by omega⟩
  · simp only [w32_mod] at h_7
    refine ww_aload_n hX (pc := 10) dX11_lamps_10 rfl ?_
    refine ww_iconst hX (pc := 11) (x := (-1)) dX11_lamps_11 rfl ?_
    refine vI1 hX (pc := 12) sX11_105 (xs_49 hL) (c_X11_refuses l0 hL hQ (by omega) (by omega)) (by decide) (Nat.le_refl 0) (Nat.le_refl 0) (Nat.le_of_ble_eq_true rfl) dX11_lamps_12 (fun x_12 I_12 J_12 h_12 => ?_)
    have kJ_12 : Kp 49 73 Ja J_12 := Kp_tr (Kp_rf (a := 49) (b := 73)) h_12.2.1
    have kI_12 : Ch [50, 51] [0, 1] Ia I_12 := Ch_tr Ch_rf (Ch_wd h_12.1 (by decide) (by decide))
    have cI_12 : RX I_12 := h_12.2.2.1
    have qI_12 := RX_o cI_12
    have r305_I_12 : I_12 51 305 = Ia 51 305 := by rw [h_12.1.1 51 (by decide) (by decide)]
    refine rI hX (pc := 15) hT (Nat.le_refl 0) (Nat.le_refl 0) dX11_lamps_15 ?_
    exact ⟨kI_12, kJ_12, cI_12, trivial⟩
set_option maxHeartbeats 4000000 in
set_option maxRecDepth 20000 in
theorem c_X11_news (l0 : Launch) {Ia Ja : aI1} {Ra : aR1} {Sa : aS1} (hL : LY Ra Sa) (hQ : RX Ia) {a : Int} (ha0 : -2147483648 ≤ a) (ha1 : a < 2147483648)  : CT l0 1 0 0 mX11_news [kR (some 49), kI a] Ia Ja Ra Sa (cI (fun x I' J' => Ch [50, 51] [0, 1] Ia I' ∧ Kp 49 73 Ja J' ∧ RX I' ∧ True) Ra Sa) := by
  refine ct_in pn_X11 (Nat.le_of_ble_eq_true rfl) (fun X hX hT hIn => ?_)
  have hX : aK l0 X cX11_news 3 RX11 (some .int) 1 0 0 := hX
  change WW X 0 [some (kR (some 49)), some (kI a), none] [] Ia Ja Ra Sa 0 0
  have qIa := RX_o hQ
  refine ww_iload_n hX (pc := 0) dX11_news_0 rfl ?_
  refine ww_iconst hX (pc := 1) (x := 2) dX11_news_1 rfl ?_
  refine ww_bipush hX (pc := 2) (x := 8) dX11_news_2 (by decide) ?_
  refine sI3 hX (pc := 4) sX11_101 (c_X11_lies l0 (by omega) (by omega) (by omega) (by omega) (by omega) (by omega)) (by decide) (Nat.le_refl 0) (Nat.le_refl 0) (Nat.le_of_ble_eq_true rfl) dX11_news_4 (fun x_4 I_4 J_4 h_4 => ?_)
  obtain ⟨rfl, rfl, h_4⟩ := h_4
  refine ww_if_ne hX (pc := 7) (tgt := 16) dX11_news_7 (by decide) (fun h_7 => ?_) (fun h_7 => ?_)
  · simp only [w32_mod] at h_7
    refine ww_aload_n hX (pc := 16) dX11_news_16 rfl ?_
    refine ww_getR hX (pc := 17) fX11_20 (by decide) (xs_49 hL) (xr_49_3 hL) dX11_news_17 ?_
    refine ww_sipush hX (pc := 20) (x := 305) dX11_news_20 (by decide) ?_
    refine ww_iald hX (pc := 23) (xs_51 hL) (by decide) (by omega) (by omega) dX11_news_23 ?_
    refine ww_toI (b := Ia 51 305) rfl ?_
    refine ww_nmI (fun v_24 hv_24 => ?_)
    refine ww_istore_n hX (pc := 24) (lv' := [some (kR (some 49)), some (kI a), some (kI v_24)]) dX11_news_24 (by decide) rfl rfl ?_
    refine ww_aload_n hX (pc := 25) dX11_news_25 rfl ?_
    refine ww_getR hX (pc := 26) fX11_20 (by decide) (xs_49 hL) (xr_49_3 hL) dX11_news_26 ?_
    refine ww_sipush hX (pc := 29) (x := 305) dX11_news_29 (by decide) ?_
    refine ww_iload_n hX (pc := 32) dX11_news_32 rfl ?_
    refine ww_iast hX (pc := 33) (xs_51 hL) (by decide) (by omega) (by omega) dX11_news_33 ?_
    refine ww_nmH (fun I_33 eI_33 => ?_)
    have kI_33 : Ch [50, 51] [0, 1] Ia I_33 := by rw [eI_33]; exact Ch_r Ch_rf (by decide) (by decide)
    have cI_33 : RX I_33 := by rw [eI_33]; exact RX_305 hQ (by omega) (by omega)
    have qI_33 := RX_o cI_33
    have r304_I_33 : I_33 51 304 = Ia 51 304 := by rw [eI_33, up2_n _ _ (Or.inr (by decide))]
    have rf_I_33 : FU (I_33 51 304) = FU (Ia 51 304) := by rw [r304_I_33]
    refine ww_aload_n hX (pc := 34) dX11_news_34 rfl ?_
    refine vV0 hX (pc := 35) sX11_98 (xs_49 hL) (c_X11_empties l0 hL cI_33 ) (by decide) (Nat.le_refl 0) (Nat.le_refl 0) (Nat.le_of_ble_eq_true rfl) dX11_news_35 (fun I_35 J_35 h_35 => ?_)
    have kJ_35 : Kp 49 73 Ja J_35 := Kp_tr (Kp_rf (a := 49) (b := 73)) h_35.2.1
    have kI_35 : Ch [50, 51] [0, 1] Ia I_35 := Ch_tr kI_33 (Ch_wd h_35.1 (by decide) (by decide))
    have cI_35 : RX I_35 := h_35.2.2.1
    have qI_35 := RX_o cI_35
    refine ww_aload_n hX (pc := 38) dX11_news_38 rfl ?_
    refine ww_iload_n hX (pc := 39) dX11_news_39 rfl ?_
    refine vI1 hX (pc := 40) sX11_109 (xs_49 hL) (c_X11_good l0 hL cI_35 ) (by decide) (Nat.le_refl 0) (Nat.le_refl 0) (Nat.le_of_ble_eq_true rfl) dX11_news_40 (fun x_40 I_40 J_40 h_40 => ?_)
    have kJ_40 : Kp 49 73 Ja J_40 := Kp_tr kJ_35 h_40.2.1
    have kI_40 : Ch [50, 51] [0, 1] Ia I_40 := Ch_tr kI_35 (Ch_wd h_40.1 (by decide) (by decide))
    have cI_40 : RX I_40 := h_40.2.2.1
    have qI_40 := RX_o cI_40
    have r304_I_40 : I_40 51 304 = I_35 51 304 := by rw [h_40.1.1 51 (by decide) (by decide)]
    have r305_I_40 : I_40 51 305 = I_35 51 305 := by rw [h_40.1.1 51 (by decide) (by decide)]
    have rf_I_40 : FU (I_40 51 304) = FU (I_35 51 304) := by rw [r304_I_40]
    refine rI hX (pc := 43) hT (Nat.le_refl 0) (Nat.le_refl 0) dX11_news_43 ?_
    exact ⟨kI_40, kJ_40, cI_40, trivial⟩
  · simp only [w32_mod] at h_7
    refine ww_aload_n hX (pc := 10) dX11_news_10 rfl ?_
    refine ww_iconst hX (pc := 11) (x := (-1)) dX11_news_11 rfl ?_
    refine vI1 hX (pc := 12) sX11_105 (xs_49 hL) (c_X11_refuses l0 hL hQ (by omega) (by omega)) (by decide) (Nat.le_refl 0) (Nat.le_refl 0) (Nat.le_of_ble_eq_true rfl) dX11_news_12 (fun x_12 I_12 J_12 h_12 => ?_)
    have kJ_12 : Kp 49 73 Ja J_12 := Kp_tr (Kp_rf (a := 49) (b := 73)) h_12.2.1
    have kI_12 : Ch [50, 51] [0, 1] Ia I_12 := Ch_tr Ch_rf (Ch_wd h_12.1 (by decide) (by decide))
    have cI_12 : RX I_12 := h_12.2.2.1
    have qI_12 := RX_o cI_12
    have r304_I_12 : I_12 51 304 = Ia 51 304 := by rw [h_12.1.1 51 (by decide) (by decide)]
    have r305_I_12 : I_12 51 305 = Ia 51 305 := by rw [h_12.1.1 51 (by decide) (by decide)]
    have rf_I_12 : FU (I_12 51 304) = FU (Ia 51 304) := by rw [r304_I_12]
    refine rI hX (pc := 15) hT (Nat.le_refl 0) (Nat.le_refl 0) dX11_news_15 ?_
    exact ⟨kI_12, kJ_12, cI_12, trivial⟩
set_option maxHeartbeats 4000000 in
set_option maxRecDepth 20000 in
theorem c_X11_oil (l0 : Launch) {Ia Ja : aI1} {Ra : aR1} {Sa : aS1} (hL : LY Ra Sa) (hQ : RX Ia) {a b : Int} (ha0 : -2147483648 ≤ a) (ha1 : a < 2147483648) (hb0 : -2147483648 ≤ b) (hb1 : b < 2147483648)  : CT l0 2 0 0 mX11_oil [kR (some 49), kI a, kI b] Ia Ja Ra Sa (cI (fun x I' J' => Ch [50, 51] [0, 1] Ia I' ∧ Kp 49 73 Ja J' ∧ RX I' ∧ True) Ra Sa) := by
  refine ct_in pn_X11 (Nat.le_of_ble_eq_true rfl) (fun X hX hT hIn => ?_)
  have hX : aK l0 X cX11_oil 4 RX11 (some .int) 2 0 0 := hX
  change WW X 0 [some (kR (some 49)), some (kI a), some (kI b), none] [] Ia Ja Ra Sa 0 0
  have qIa := RX_o hQ
  refine ww_aload_n hX (pc := 0) dX11_oil_0 rfl ?_
  refine ww_iload_n hX (pc := 1) dX11_oil_1 rfl ?_
  refine vI1 hX (pc := 2) sX11_116 (xs_49 hL) (c_X11_isLamp l0 hL hQ (by omega) (by omega)) (by decide) (Nat.le_refl 0) (Nat.le_refl 0) (Nat.le_of_ble_eq_true rfl) dX11_oil_2 (fun x_2 I_2 J_2 h_2 => ?_)
  obtain ⟨rfl, rfl, h_2⟩ := h_2
  refine ww_if_eq hX (pc := 5) (tgt := 18) dX11_oil_5 (by decide) (fun h_5 => ?_) (fun h_5 => ?_)
  · simp only [w32_mod] at h_5
    refine ww_aload_n hX (pc := 18) dX11_oil_18 rfl ?_
    refine ww_iconst hX (pc := 19) (x := (-1)) dX11_oil_19 rfl ?_
    refine vI1 hX (pc := 20) sX11_105 (xs_49 hL) (c_X11_refuses l0 hL hQ (by omega) (by omega)) (by decide) (Nat.le_refl 0) (Nat.le_refl 0) (Nat.le_of_ble_eq_true rfl) dX11_oil_20 (fun x_20 I_20 J_20 h_20 => ?_)
    have kJ_20 : Kp 49 73 Ja J_20 := Kp_tr (Kp_rf (a := 49) (b := 73)) h_20.2.1
    have kI_20 : Ch [50, 51] [0, 1] Ia I_20 := Ch_tr Ch_rf (Ch_wd h_20.1 (by decide) (by decide))
    have cI_20 : RX I_20 := h_20.2.2.1
    have qI_20 := RX_o cI_20
    have r304_I_20 : I_20 51 304 = Ia 51 304 := by rw [h_20.1.1 51 (by decide) (by decide)]
    have r305_I_20 : I_20 51 305 = Ia 51 305 := by rw [h_20.1.1 51 (by decide) (by decide)]
    have rf_I_20 : FU (I_20 51 304) = FU (Ia 51 304) := by rw [r304_I_20]
    refine rI hX (pc := 23) hT (Nat.le_refl 0) (Nat.le_refl 0) dX11_oil_23 ?_
    exact ⟨kI_20, kJ_20, cI_20, trivial⟩
  · simp only [w32_mod] at h_5
    refine ww_iload_n hX (pc := 8) dX11_oil_8 rfl ?_
    refine ww_iconst hX (pc := 9) (x := 0) dX11_oil_9 rfl ?_
    refine ww_bipush hX (pc := 10) (x := 99) dX11_oil_10 (by decide) ?_
    refine sI3 hX (pc := 12) sX11_101 (c_X11_lies l0 (by omega) (by omega) (by omega) (by omega) (by omega) (by omega)) (by decide) (Nat.le_refl 0) (Nat.le_refl 0) (Nat.le_of_ble_eq_true rfl) dX11_oil_12 (fun x_12 I_12 J_12 h_12 => ?_)
    obtain ⟨rfl, rfl, h_12⟩ := h_12
    refine ww_if_ne hX (pc := 15) (tgt := 24) dX11_oil_15 (by decide) (fun h_15 => ?_) (fun h_15 => ?_)
    · simp only [w32_mod] at h_15
      refine ww_aload_n hX (pc := 24) dX11_oil_24 rfl ?_
      refine ww_getR hX (pc := 25) fX11_20 (by decide) (xs_49 hL) (xr_49_3 hL) dX11_oil_25 ?_
      refine ww_sipush hX (pc := 28) (x := 256) dX11_oil_28 (by decide) ?_
      refine ww_iload_n hX (pc := 31) dX11_oil_31 rfl ?_
      refine ww_iadd hX (pc := 32) dX11_oil_32 ?_
      refine ww_iald hX (pc := 33) (xs_51 hL) (by decide) (by omega) (by omega) dX11_oil_33 ?_
      refine ww_nmI (fun v_34 hv_34 => ?_)
      refine ww_istore_n hX (pc := 34) (lv' := [some (kR (some 49)), some (kI a), some (kI b), some (kI v_34)]) dX11_oil_34 (by decide) rfl rfl ?_
      refine ww_aload_n hX (pc := 35) dX11_oil_35 rfl ?_
      refine ww_getR hX (pc := 36) fX11_20 (by decide) (xs_49 hL) (xr_49_3 hL) dX11_oil_36 ?_
      refine ww_sipush hX (pc := 39) (x := 256) dX11_oil_39 (by decide) ?_
      refine ww_iload_n hX (pc := 42) dX11_oil_42 rfl ?_
      refine ww_iadd hX (pc := 43) dX11_oil_43 ?_
      refine ww_iload_n hX (pc := 44) dX11_oil_44 rfl ?_
      refine ww_iast hX (pc := 45) (xs_51 hL) (by decide) (by omega) (by omega) dX11_oil_45 ?_
      refine ww_nmH (fun I_45 eI_45 => ?_)
      have kI_45 : Ch [50, 51] [0, 1] Ia I_45 := by rw [eI_45]; exact Ch_r Ch_rf (by decide) (by decide)
      have cI_45 : RX I_45 := by rw [eI_45]; exact RX_lo hQ (by omega)
      have qI_45 := RX_o cI_45
      have r304_I_45 : I_45 51 304 = Ia 51 304 := by rw [eI_45, up2_n _ _ (Or.inr (by omega))]
      have r305_I_45 : I_45 51 305 = Ia 51 305 := by rw [eI_45, up2_n _ _ (Or.inr (by omega))]
      have rf_I_45 : FU (I_45 51 304) = FU (Ia 51 304) := by rw [r304_I_45]
      refine ww_aload_n hX (pc := 46) dX11_oil_46 rfl ?_
      refine ww_iload_n hX (pc := 47) dX11_oil_47 rfl ?_
      refine vI1 hX (pc := 48) sX11_109 (xs_49 hL) (c_X11_good l0 hL cI_45 ) (by decide) (Nat.le_refl 0) (Nat.le_refl 0) (Nat.le_of_ble_eq_true rfl) dX11_oil_48 (fun x_48 I_48 J_48 h_48 => ?_)
      have kJ_48 : Kp 49 73 Ja J_48 := Kp_tr (Kp_rf (a := 49) (b := 73)) h_48.2.1
      have kI_48 : Ch [50, 51] [0, 1] Ia I_48 := Ch_tr kI_45 (Ch_wd h_48.1 (by decide) (by decide))
      have cI_48 : RX I_48 := h_48.2.2.1
      have qI_48 := RX_o cI_48
      have r304_I_48 : I_48 51 304 = I_45 51 304 := by rw [h_48.1.1 51 (by decide) (by decide)]
      have r305_I_48 : I_48 51 305 = I_45 51 305 := by rw [h_48.1.1 51 (by decide) (by decide)]
      have rf_I_48 : FU (I_48 51 304) = FU (I_45 51 304) := by rw [r304_I_48]
      refine rI hX (pc := 51) hT (Nat.le_refl 0) (Nat.le_refl 0) dX11_oil_51 ?_
      exact ⟨kI_48, kJ_48, cI_48, trivial⟩
    · simp only [w32_mod] at h_15
      refine ww_aload_n hX (pc := 18) dX11_oil_18 rfl ?_
      refine ww_iconst hX (pc := 19) (x := (-1)) dX11_oil_19 rfl ?_
      refine vI1 hX (pc := 20) sX11_105 (xs_49 hL) (c_X11_refuses l0 hL hQ (by omega) (by omega)) (by decide) (Nat.le_refl 0) (Nat.le_refl 0) (Nat.le_of_ble_eq_true rfl) dX11_oil_20 (fun x_20 I_20 J_20 h_20 => ?_)
      have kJ_20 : Kp 49 73 Ja J_20 := Kp_tr (Kp_rf (a := 49) (b := 73)) h_20.2.1
      have kI_20 : Ch [50, 51] [0, 1] Ia I_20 := Ch_tr Ch_rf (Ch_wd h_20.1 (by decide) (by decide))
      have cI_20 : RX I_20 := h_20.2.2.1
      have qI_20 := RX_o cI_20
      have r304_I_20 : I_20 51 304 = Ia 51 304 := by rw [h_20.1.1 51 (by decide) (by decide)]
      have r305_I_20 : I_20 51 305 = Ia 51 305 := by rw [h_20.1.1 51 (by decide) (by decide)]
      have rf_I_20 : FU (I_20 51 304) = FU (Ia 51 304) := by rw [r304_I_20]
      refine rI hX (pc := 23) hT (Nat.le_refl 0) (Nat.le_refl 0) dX11_oil_23 ?_
      exact ⟨kI_20, kJ_20, cI_20, trivial⟩
set_option maxHeartbeats 4000000 in
set_option maxRecDepth 20000 in
theorem c_X11_broken (l0 : Launch) {Ia Ja : aI1} {Ra : aR1} {Sa : aS1} (hL : LY Ra Sa) (hQ : RX Ia) {a b : Int} (ha0 : -2147483648 ≤ a) (ha1 : a < 2147483648) (hb0 : -2147483648 ≤ b) (hb1 : b < 2147483648)  : CT l0 2 0 0 mX11_broken [kR (some 49), kI a, kI b] Ia Ja Ra Sa (cI (fun x I' J' => Ch [50, 51] [0, 1] Ia I' ∧ Kp 49 73 Ja J' ∧ RX I' ∧ True) Ra Sa) := by
  refine ct_in pn_X11 (Nat.le_of_ble_eq_true rfl) (fun X hX hT hIn => ?_)
  have hX : aK l0 X cX11_broken 4 RX11 (some .int) 2 0 0 := hX
  change WW X 0 [some (kR (some 49)), some (kI a), some (kI b), none] [] Ia Ja Ra Sa 0 0
  have qIa := RX_o hQ
  refine ww_aload_n hX (pc := 0) dX11_broken_0 rfl ?_
  refine ww_iload_n hX (pc := 1) dX11_broken_1 rfl ?_
  refine vI1 hX (pc := 2) sX11_116 (xs_49 hL) (c_X11_isLamp l0 hL hQ (by omega) (by omega)) (by decide) (Nat.le_refl 0) (Nat.le_refl 0) (Nat.le_of_ble_eq_true rfl) dX11_broken_2 (fun x_2 I_2 J_2 h_2 => ?_)
  obtain ⟨rfl, rfl, h_2⟩ := h_2
  refine ww_if_eq hX (pc := 5) (tgt := 17) dX11_broken_5 (by decide) (fun h_5 => ?_) (fun h_5 => ?_)
  · simp only [w32_mod] at h_5
    refine ww_aload_n hX (pc := 17) dX11_broken_17 rfl ?_
    refine ww_iconst hX (pc := 18) (x := (-1)) dX11_broken_18 rfl ?_
    refine vI1 hX (pc := 19) sX11_105 (xs_49 hL) (c_X11_refuses l0 hL hQ (by omega) (by omega)) (by decide) (Nat.le_refl 0) (Nat.le_refl 0) (Nat.le_of_ble_eq_true rfl) dX11_broken_19 (fun x_19 I_19 J_19 h_19 => ?_)
    have kJ_19 : Kp 49 73 Ja J_19 := Kp_tr (Kp_rf (a := 49) (b := 73)) h_19.2.1
    have kI_19 : Ch [50, 51] [0, 1] Ia I_19 := Ch_tr Ch_rf (Ch_wd h_19.1 (by decide) (by decide))
    have cI_19 : RX I_19 := h_19.2.2.1
    have qI_19 := RX_o cI_19
    have r304_I_19 : I_19 51 304 = Ia 51 304 := by rw [h_19.1.1 51 (by decide) (by decide)]
    have r305_I_19 : I_19 51 305 = Ia 51 305 := by rw [h_19.1.1 51 (by decide) (by decide)]
    have rf_I_19 : FU (I_19 51 304) = FU (Ia 51 304) := by rw [r304_I_19]
    refine rI hX (pc := 22) hT (Nat.le_refl 0) (Nat.le_refl 0) dX11_broken_22 ?_
    exact ⟨kI_19, kJ_19, cI_19, trivial⟩
  · simp only [w32_mod] at h_5
    refine ww_iload_n hX (pc := 8) dX11_broken_8 rfl ?_
    refine ww_iconst hX (pc := 9) (x := 0) dX11_broken_9 rfl ?_
    refine ww_iconst hX (pc := 10) (x := 1) dX11_broken_10 rfl ?_
    refine sI3 hX (pc := 11) sX11_101 (c_X11_lies l0 (by omega) (by omega) (by omega) (by omega) (by omega) (by omega)) (by decide) (Nat.le_refl 0) (Nat.le_refl 0) (Nat.le_of_ble_eq_true rfl) dX11_broken_11 (fun x_11 I_11 J_11 h_11 => ?_)
    obtain ⟨rfl, rfl, h_11⟩ := h_11
    refine ww_if_ne hX (pc := 14) (tgt := 23) dX11_broken_14 (by decide) (fun h_14 => ?_) (fun h_14 => ?_)
    · simp only [w32_mod] at h_14
      refine ww_aload_n hX (pc := 23) dX11_broken_23 rfl ?_
      refine ww_getR hX (pc := 24) fX11_20 (by decide) (xs_49 hL) (xr_49_3 hL) dX11_broken_24 ?_
      refine ww_sipush hX (pc := 27) (x := 306) dX11_broken_27 (by decide) ?_
      refine ww_iald hX (pc := 30) (xs_51 hL) (by decide) (by omega) (by omega) dX11_broken_30 ?_
      refine ww_toI (b := Ia 51 306) rfl ?_
      refine ww_iload_n hX (pc := 31) dX11_broken_31 rfl ?_
      refine ww_ishr hX (pc := 32) dX11_broken_32 ?_
      refine ww_iconst hX (pc := 33) (x := 1) dX11_broken_33 rfl ?_
      refine ww_iand hX (pc := 34) dX11_broken_34 ?_
      refine ww_nmI (fun v_35 hv_35 => ?_)
      refine ww_istore_n hX (pc := 35) (lv' := [some (kR (some 49)), some (kI a), some (kI b), some (kI v_35)]) dX11_broken_35 (by decide) rfl rfl ?_
      refine ww_aload_n hX (pc := 36) dX11_broken_36 rfl ?_
      refine ww_getR hX (pc := 37) fX11_20 (by decide) (xs_49 hL) (xr_49_3 hL) dX11_broken_37 ?_
      refine ww_sipush hX (pc := 40) (x := 306) dX11_broken_40 (by decide) ?_
      refine ww_aload_n hX (pc := 43) dX11_broken_43 rfl ?_
      refine ww_getR hX (pc := 44) fX11_20 (by decide) (xs_49 hL) (xr_49_3 hL) dX11_broken_44 ?_
      refine ww_sipush hX (pc := 47) (x := 306) dX11_broken_47 (by decide) ?_
      refine ww_iald hX (pc := 50) (xs_51 hL) (by decide) (by omega) (by omega) dX11_broken_50 ?_
      refine ww_toI (b := Ia 51 306) rfl ?_
      refine ww_iconst hX (pc := 51) (x := 1) dX11_broken_51 rfl ?_
      refine ww_iload_n hX (pc := 52) dX11_broken_52 rfl ?_
      refine ww_ishl hX (pc := 53) dX11_broken_53 ?_
      refine ww_iconst hX (pc := 54) (x := (-1)) dX11_broken_54 rfl ?_
      refine ww_ixor hX (pc := 55) dX11_broken_55 ?_
      refine ww_iand hX (pc := 56) dX11_broken_56 ?_
      refine ww_iload_n hX (pc := 57) dX11_broken_57 rfl ?_
      refine ww_iload_n hX (pc := 58) dX11_broken_58 rfl ?_
      refine ww_ishl hX (pc := 59) dX11_broken_59 ?_
      refine ww_ior hX (pc := 60) dX11_broken_60 ?_
      refine ww_iast hX (pc := 61) (xs_51 hL) (by decide) (by omega) (by omega) dX11_broken_61 ?_
      refine ww_nmH (fun I_61 eI_61 => ?_)
      have kI_61 : Ch [50, 51] [0, 1] Ia I_61 := by rw [eI_61]; exact Ch_r Ch_rf (by decide) (by decide)
      have cI_61 : RX I_61 := by rw [eI_61]; exact RX_lo hQ (by decide)
      have qI_61 := RX_o cI_61
      have r304_I_61 : I_61 51 304 = Ia 51 304 := by rw [eI_61, up2_n _ _ (Or.inr (by decide))]
      have r305_I_61 : I_61 51 305 = Ia 51 305 := by rw [eI_61, up2_n _ _ (Or.inr (by decide))]
      have rf_I_61 : FU (I_61 51 304) = FU (Ia 51 304) := by rw [r304_I_61]
      refine ww_aload_n hX (pc := 62) dX11_broken_62 rfl ?_
      refine ww_iload_n hX (pc := 63) dX11_broken_63 rfl ?_
      refine vI1 hX (pc := 64) sX11_109 (xs_49 hL) (c_X11_good l0 hL cI_61 ) (by decide) (Nat.le_refl 0) (Nat.le_refl 0) (Nat.le_of_ble_eq_true rfl) dX11_broken_64 (fun x_64 I_64 J_64 h_64 => ?_)
      have kJ_64 : Kp 49 73 Ja J_64 := Kp_tr (Kp_rf (a := 49) (b := 73)) h_64.2.1
      have kI_64 : Ch [50, 51] [0, 1] Ia I_64 := Ch_tr kI_61 (Ch_wd h_64.1 (by decide) (by decide))
      have cI_64 : RX I_64 := h_64.2.2.1
      have qI_64 := RX_o cI_64
      have r304_I_64 : I_64 51 304 = I_61 51 304 := by rw [h_64.1.1 51 (by decide) (by decide)]
      have r305_I_64 : I_64 51 305 = I_61 51 305 := by rw [h_64.1.1 51 (by decide) (by decide)]
      have rf_I_64 : FU (I_64 51 304) = FU (I_61 51 304) := by rw [r304_I_64]
      refine rI hX (pc := 67) hT (Nat.le_refl 0) (Nat.le_refl 0) dX11_broken_67 ?_
      exact ⟨kI_64, kJ_64, cI_64, trivial⟩
    · simp only [w32_mod] at h_14
      refine ww_aload_n hX (pc := 17) dX11_broken_17 rfl ?_
      refine ww_iconst hX (pc := 18) (x := (-1)) dX11_broken_18 rfl ?_
      refine vI1 hX (pc := 19) sX11_105 (xs_49 hL) (c_X11_refuses l0 hL hQ (by omega) (by omega)) (by decide) (Nat.le_refl 0) (Nat.le_refl 0) (Nat.le_of_ble_eq_true rfl) dX11_broken_19 (fun x_19 I_19 J_19 h_19 => ?_)
      have kJ_19 : Kp 49 73 Ja J_19 := Kp_tr (Kp_rf (a := 49) (b := 73)) h_19.2.1
      have kI_19 : Ch [50, 51] [0, 1] Ia I_19 := Ch_tr Ch_rf (Ch_wd h_19.1 (by decide) (by decide))
      have cI_19 : RX I_19 := h_19.2.2.1
      have qI_19 := RX_o cI_19
      have r304_I_19 : I_19 51 304 = Ia 51 304 := by rw [h_19.1.1 51 (by decide) (by decide)]
      have r305_I_19 : I_19 51 305 = Ia 51 305 := by rw [h_19.1.1 51 (by decide) (by decide)]
      have rf_I_19 : FU (I_19 51 304) = FU (Ia 51 304) := by rw [r304_I_19]
      refine rI hX (pc := 22) hT (Nat.le_refl 0) (Nat.le_refl 0) dX11_broken_22 ?_
      exact ⟨kI_19, kJ_19, cI_19, trivial⟩
set_option maxHeartbeats 4000000 in
set_option maxRecDepth 20000 in
theorem c_X11_read (l0 : Launch) {Ia Ja : aI1} {Ra : aR1} {Sa : aS1} (hL : LY Ra Sa) (hQ : RX Ia) {a b : Int} (ha0 : -2147483648 ≤ a) (ha1 : a < 2147483648) (hb0 : -2147483648 ≤ b) (hb1 : b < 2147483648)  : CT l0 2 0 0 mX11_read [kR (some 49), kI a, kI b] Ia Ja Ra Sa (cI (fun x I' J' => Ch [50, 51] [0, 1] Ia I' ∧ Kp 49 73 Ja J' ∧ RX I' ∧ True) Ra Sa) := by
  refine ct_in pn_X11 (Nat.le_of_ble_eq_true rfl) (fun X hX hT hIn => ?_)
  have hX : aK l0 X cX11_read 4 RX11 (some .int) 2 0 0 := hX
  change WW X 0 [some (kR (some 49)), some (kI a), some (kI b), none] [] Ia Ja Ra Sa 0 0
  have qIa := RX_o hQ
  refine ww_aload_n hX (pc := 0) dX11_read_0 rfl ?_
  refine ww_iload_n hX (pc := 1) dX11_read_1 rfl ?_
  refine vI1 hX (pc := 2) sX11_120 (xs_49 hL) (c_X11_isState l0 hL hQ (by omega) (by omega)) (by decide) (Nat.le_refl 0) (Nat.le_refl 0) (Nat.le_of_ble_eq_true rfl) dX11_read_2 (fun x_2 I_2 J_2 h_2 => ?_)
  obtain ⟨rfl, rfl, h_2⟩ := h_2
  refine ww_if_eq hX (pc := 5) (tgt := 21) dX11_read_5 (by decide) (fun h_5 => ?_) (fun h_5 => ?_)
  · simp only [w32_mod] at h_5
    refine ww_aload_n hX (pc := 21) dX11_read_21 rfl ?_
    refine ww_iconst hX (pc := 22) (x := (-1)) dX11_read_22 rfl ?_
    refine vI1 hX (pc := 23) sX11_105 (xs_49 hL) (c_X11_refuses l0 hL hQ (by omega) (by omega)) (by decide) (Nat.le_refl 0) (Nat.le_refl 0) (Nat.le_of_ble_eq_true rfl) dX11_read_23 (fun x_23 I_23 J_23 h_23 => ?_)
    have kJ_23 : Kp 49 73 Ja J_23 := Kp_tr (Kp_rf (a := 49) (b := 73)) h_23.2.1
    have kI_23 : Ch [50, 51] [0, 1] Ia I_23 := Ch_tr Ch_rf (Ch_wd h_23.1 (by decide) (by decide))
    have cI_23 : RX I_23 := h_23.2.2.1
    have qI_23 := RX_o cI_23
    have r304_I_23 : I_23 51 304 = Ia 51 304 := by rw [h_23.1.1 51 (by decide) (by decide)]
    have r305_I_23 : I_23 51 305 = Ia 51 305 := by rw [h_23.1.1 51 (by decide) (by decide)]
    have rf_I_23 : FU (I_23 51 304) = FU (Ia 51 304) := by rw [r304_I_23]
    refine rI hX (pc := 26) hT (Nat.le_refl 0) (Nat.le_refl 0) dX11_read_26 ?_
    exact ⟨kI_23, kJ_23, cI_23, trivial⟩
  · simp only [w32_mod] at h_5
    refine ww_iload_n hX (pc := 8) dX11_read_8 rfl ?_
    refine ww_iconst hX (pc := 9) (x := (-1)) dX11_read_9 rfl ?_
    refine ww_icmp_eq hX (pc := 10) (tgt := 27) dX11_read_10 (by decide) (fun h_10 => ?_) (fun h_10 => ?_)
    · simp only [w32_mod] at h_10
      refine ww_aload_n hX (pc := 27) dX11_read_27 rfl ?_
      refine ww_iload_n hX (pc := 28) dX11_read_28 rfl ?_
      refine vI1 hX (pc := 29) sX11_126 (xs_49 hL) (c_X11_readOf l0 hL hQ (by omega) (by omega)) (by decide) (Nat.le_refl 0) (Nat.le_refl 0) (Nat.le_of_ble_eq_true rfl) dX11_read_29 (fun x_29 I_29 J_29 h_29 => ?_)
      obtain ⟨rfl, rfl, h_29⟩ := h_29
      refine ww_istore_n hX (pc := 32) (lv' := [some (kR (some 49)), some (kI a), some (kI b), some (kI x_29)]) dX11_read_32 (by decide) rfl rfl ?_
      refine ww_aload_n hX (pc := 33) dX11_read_33 rfl ?_
      refine ww_getR hX (pc := 34) fX11_20 (by decide) (xs_49 hL) (xr_49_3 hL) dX11_read_34 ?_
      refine ww_iconst hX (pc := 37) (x := 0) dX11_read_37 rfl ?_
      refine ww_iload_n hX (pc := 38) dX11_read_38 rfl ?_
      refine ww_iadd hX (pc := 39) dX11_read_39 ?_
      refine ww_iload_n hX (pc := 40) dX11_read_40 rfl ?_
      refine ww_iast hX (pc := 41) (xs_51 hL) (by decide) (by omega) (by omega) dX11_read_41 ?_
      refine ww_nmH (fun I_41 eI_41 => ?_)
      have kI_41 : Ch [50, 51] [0, 1] Ia I_41 := by rw [eI_41]; exact Ch_r Ch_rf (by decide) (by decide)
      have cI_41 : RX I_41 := by rw [eI_41]; exact RX_lo hQ (by omega)
      have qI_41 := RX_o cI_41
      have r304_I_41 : I_41 51 304 = Ia 51 304 := by rw [eI_41, up2_n _ _ (Or.inr (by omega))]
      have r305_I_41 : I_41 51 305 = Ia 51 305 := by rw [eI_41, up2_n _ _ (Or.inr (by omega))]
      have rf_I_41 : FU (I_41 51 304) = FU (Ia 51 304) := by rw [r304_I_41]
      refine ww_aload_n hX (pc := 42) dX11_read_42 rfl ?_
      refine ww_iload_n hX (pc := 43) dX11_read_43 rfl ?_
      refine vI1 hX (pc := 44) sX11_109 (xs_49 hL) (c_X11_good l0 hL cI_41 ) (by decide) (Nat.le_refl 0) (Nat.le_refl 0) (Nat.le_of_ble_eq_true rfl) dX11_read_44 (fun x_44 I_44 J_44 h_44 => ?_)
      have kJ_44 : Kp 49 73 Ja J_44 := Kp_tr (Kp_rf (a := 49) (b := 73)) h_44.2.1
      have kI_44 : Ch [50, 51] [0, 1] Ia I_44 := Ch_tr kI_41 (Ch_wd h_44.1 (by decide) (by decide))
      have cI_44 : RX I_44 := h_44.2.2.1
      have qI_44 := RX_o cI_44
      have r304_I_44 : I_44 51 304 = I_41 51 304 := by rw [h_44.1.1 51 (by decide) (by decide)]
      have r305_I_44 : I_44 51 305 = I_41 51 305 := by rw [h_44.1.1 51 (by decide) (by decide)]
      have rf_I_44 : FU (I_44 51 304) = FU (I_41 51 304) := by rw [r304_I_44]
      refine rI hX (pc := 47) hT (Nat.le_refl 0) (Nat.le_refl 0) dX11_read_47 ?_
      exact ⟨kI_44, kJ_44, cI_44, trivial⟩
    · simp only [w32_mod] at h_10
      refine ww_aload_n hX (pc := 13) dX11_read_13 rfl ?_
      refine ww_iload_n hX (pc := 14) dX11_read_14 rfl ?_
      refine vI1 hX (pc := 15) sX11_123 (xs_49 hL) (c_X11_isNews l0 hL hQ (by omega) (by omega)) (by decide) (Nat.le_refl 0) (Nat.le_refl 0) (Nat.le_of_ble_eq_true rfl) dX11_read_15 (fun x_15 I_15 J_15 h_15 => ?_)
      obtain ⟨rfl, rfl, h_15⟩ := h_15
      refine ww_if_ne hX (pc := 18) (tgt := 27) dX11_read_18 (by decide) (fun h_18 => ?_) (fun h_18 => ?_)
      · simp only [w32_mod] at h_18
        refine ww_aload_n hX (pc := 27) dX11_read_27 rfl ?_
        refine ww_iload_n hX (pc := 28) dX11_read_28 rfl ?_
        refine vI1 hX (pc := 29) sX11_126 (xs_49 hL) (c_X11_readOf l0 hL hQ (by omega) (by omega)) (by decide) (Nat.le_refl 0) (Nat.le_refl 0) (Nat.le_of_ble_eq_true rfl) dX11_read_29 (fun x_29 I_29 J_29 h_29 => ?_)
        obtain ⟨rfl, rfl, h_29⟩ := h_29
        refine ww_istore_n hX (pc := 32) (lv' := [some (kR (some 49)), some (kI a), some (kI b), some (kI x_29)]) dX11_read_32 (by decide) rfl rfl ?_
        refine ww_aload_n hX (pc := 33) dX11_read_33 rfl ?_
        refine ww_getR hX (pc := 34) fX11_20 (by decide) (xs_49 hL) (xr_49_3 hL) dX11_read_34 ?_
        refine ww_iconst hX (pc := 37) (x := 0) dX11_read_37 rfl ?_
        refine ww_iload_n hX (pc := 38) dX11_read_38 rfl ?_
        refine ww_iadd hX (pc := 39) dX11_read_39 ?_
        refine ww_iload_n hX (pc := 40) dX11_read_40 rfl ?_
        refine ww_iast hX (pc := 41) (xs_51 hL) (by decide) (by omega) (by omega) dX11_read_41 ?_
        refine ww_nmH (fun I_41 eI_41 => ?_)
        have kI_41 : Ch [50, 51] [0, 1] Ia I_41 := by rw [eI_41]; exact Ch_r Ch_rf (by decide) (by decide)
        have cI_41 : RX I_41 := by rw [eI_41]; exact RX_lo hQ (by omega)
        have qI_41 := RX_o cI_41
        have r304_I_41 : I_41 51 304 = Ia 51 304 := by rw [eI_41, up2_n _ _ (Or.inr (by omega))]
        have r305_I_41 : I_41 51 305 = Ia 51 305 := by rw [eI_41, up2_n _ _ (Or.inr (by omega))]
        have rf_I_41 : FU (I_41 51 304) = FU (Ia 51 304) := by rw [r304_I_41]
        refine ww_aload_n hX (pc := 42) dX11_read_42 rfl ?_
        refine ww_iload_n hX (pc := 43) dX11_read_43 rfl ?_
        refine vI1 hX (pc := 44) sX11_109 (xs_49 hL) (c_X11_good l0 hL cI_41 ) (by decide) (Nat.le_refl 0) (Nat.le_refl 0) (Nat.le_of_ble_eq_true rfl) dX11_read_44 (fun x_44 I_44 J_44 h_44 => ?_)
        have kJ_44 : Kp 49 73 Ja J_44 := Kp_tr (Kp_rf (a := 49) (b := 73)) h_44.2.1
        have kI_44 : Ch [50, 51] [0, 1] Ia I_44 := Ch_tr kI_41 (Ch_wd h_44.1 (by decide) (by decide))
        have cI_44 : RX I_44 := h_44.2.2.1
        have qI_44 := RX_o cI_44
        have r304_I_44 : I_44 51 304 = I_41 51 304 := by rw [h_44.1.1 51 (by decide) (by decide)]
        have r305_I_44 : I_44 51 305 = I_41 51 305 := by rw [h_44.1.1 51 (by decide) (by decide)]
        have rf_I_44 : FU (I_44 51 304) = FU (I_41 51 304) := by rw [r304_I_44]
        refine rI hX (pc := 47) hT (Nat.le_refl 0) (Nat.le_refl 0) dX11_read_47 ?_
        exact ⟨kI_44, kJ_44, cI_44, trivial⟩
      · simp only [w32_mod] at h_18
        refine ww_aload_n hX (pc := 21) dX11_read_21 rfl ?_
        refine ww_iconst hX (pc := 22) (x := (-1)) dX11_read_22 rfl ?_
        refine vI1 hX (pc := 23) sX11_105 (xs_49 hL) (c_X11_refuses l0 hL hQ (by omega) (by omega)) (by decide) (Nat.le_refl 0) (Nat.le_refl 0) (Nat.le_of_ble_eq_true rfl) dX11_read_23 (fun x_23 I_23 J_23 h_23 => ?_)
        have kJ_23 : Kp 49 73 Ja J_23 := Kp_tr (Kp_rf (a := 49) (b := 73)) h_23.2.1
        have kI_23 : Ch [50, 51] [0, 1] Ia I_23 := Ch_tr Ch_rf (Ch_wd h_23.1 (by decide) (by decide))
        have cI_23 : RX I_23 := h_23.2.2.1
        have qI_23 := RX_o cI_23
        have r304_I_23 : I_23 51 304 = Ia 51 304 := by rw [h_23.1.1 51 (by decide) (by decide)]
        have r305_I_23 : I_23 51 305 = Ia 51 305 := by rw [h_23.1.1 51 (by decide) (by decide)]
        have rf_I_23 : FU (I_23 51 304) = FU (Ia 51 304) := by rw [r304_I_23]
        refine rI hX (pc := 26) hT (Nat.le_refl 0) (Nat.le_refl 0) dX11_read_26 ?_
        exact ⟨kI_23, kJ_23, cI_23, trivial⟩
set_option maxHeartbeats 4000000 in
set_option maxRecDepth 20000 in
theorem c_X11_row (l0 : Launch) {Ia Ja : aI1} {Ra : aR1} {Sa : aS1} (hL : LY Ra Sa) (hQ : RX Ia)  : CT l0 2 0 0 mX11_row [kR (some 49)] Ia Ja Ra Sa (cI (fun x I' J' => Ch [50, 51] [0, 1, 6, 10] Ia I' ∧ Kp 49 73 Ja J' ∧ RX I' ∧ True) Ra Sa) := by
  refine ct_in pn_X11 (Nat.le_of_ble_eq_true rfl) (fun X hX hT hIn => ?_)
  have hX : aK l0 X cX11_row 3 RX11 (some .int) 2 0 0 := hX
  change WW X 0 [some (kR (some 49)), none, none] [] Ia Ja Ra Sa 0 0
  have qIa := RX_o hQ
  refine ww_aload_n hX (pc := 0) dX11_row_0 rfl ?_
  refine ww_getI hX (pc := 1) fX11_129 (by decide) (xs_49 hL) dX11_row_1 ?_
  refine ww_nmI (fun v_4 hv_4 => ?_)
  refine ww_istore_n hX (pc := 4) (lv' := [some (kR (some 49)), some (kI v_4), none]) dX11_row_4 (by decide) rfl rfl ?_
  refine ww_aload_n hX (pc := 5) dX11_row_5 rfl ?_
  refine ww_iconst hX (pc := 6) (x := 0) dX11_row_6 rfl ?_
  refine ww_putI hX (pc := 7) (fun h9 => absurd h9 (by decide)) gX11_129 rfl (xs_49 hL) dX11_row_7 ?_
  refine ww_nmH (fun I_7 eI_7 => ?_)
  have kI_7 : Ch [50, 51] [0, 1, 6, 10] Ia I_7 := by rw [eI_7]; exact Ch_f Ch_rf (by decide)
  have cI_7 : RX I_7 := by rw [eI_7]; exact RX_10 hQ (by omega) (by omega)
  have qI_7 := RX_o cI_7
  have r304_I_7 : I_7 51 304 = Ia 51 304 := by rw [eI_7, up2_off _ _ _ (by decide)]
  have r305_I_7 : I_7 51 305 = Ia 51 305 := by rw [eI_7, up2_off _ _ _ (by decide)]
  have rf_I_7 : FU (I_7 51 304) = FU (Ia 51 304) := by rw [r304_I_7]
  refine ww_iload_n hX (pc := 10) dX11_row_10 rfl ?_
  refine ww_if_ne hX (pc := 11) (tgt := 21) dX11_row_11 (by decide) (fun h_11 => ?_) (fun h_11 => ?_)
  · simp only [w32_mod] at h_11
    refine ww_iconst hX (pc := 21) (x := 0) dX11_row_21 rfl ?_
    refine ww_istore_n hX (pc := 22) (lv' := [some (kR (some 49)), some (kI v_4), some (kI 0)]) dX11_row_22 (by decide) rfl rfl ?_
    have hl_23 : ∀ (n_23 : Nat) (i : Int) (I23 : aI1) (J23 : aI1), (256 - i).toNat = n_23 → (Ch [50, 51] [0, 1, 6, 10] Ia I23 ∧ RX I23 ∧ Kp 49 73 Ja J23 ∧ I23 51 304 = I_7 51 304 ∧ I23 51 305 = I_7 51 305 ∧ (0 ≤ i ∧ i ≤ 256)) → WW X 23 [some (kR (some 49)), some (kI v_4), some (kI i)] [] I23 J23 Ra Sa 0 0 := by
      intro n_23
      induction n_23 using Nat.strongRecOn with
      | ind n_23 ih_23 =>
        intro i I23 J23 hm_23 hv_23
        obtain ⟨kI23, cI23, kJ23, r304_I23, r305_I23, hv⟩ := hv_23
        have qI23 := RX_o cI23
        have rf_I23 : FU (I23 51 304) = FU (I_7 51 304) := by rw [r304_I23]
        refine ww_iload_n hX (pc := 23) dX11_row_23 rfl ?_
        refine ww_aload_n hX (pc := 24) dX11_row_24 rfl ?_
        refine vI0 hX (pc := 25) sX11_112 (xs_49 hL) (c_X11_states l0 hL cI23 ) (by decide) (Nat.le_refl 0) (Nat.le_refl 0) (Nat.le_of_ble_eq_true rfl) dX11_row_25 (fun x_25 I_25 J_25 h_25 => ?_)
        obtain ⟨rfl, rfl, h_25⟩ := h_25
        refine ww_icmp_ge hX (pc := 28) (tgt := 73) dX11_row_28 (by decide) (fun h_28 => ?_) (fun h_28 => ?_)
        · simp only [w32_mod] at h_28
          refine ww_aload_n hX (pc := 73) dX11_row_73 rfl ?_
          refine ww_iconst hX (pc := 74) (x := 0) dX11_row_74 rfl ?_
          refine ww_iload_n hX (pc := 75) dX11_row_75 rfl ?_
          refine ww_aload_n hX (pc := 76) dX11_row_76 rfl ?_
          refine vI0 hX (pc := 77) sX11_112 (xs_49 hL) (c_X11_states l0 hL cI23 ) (by decide) (Nat.le_refl 0) (Nat.le_refl 0) (Nat.le_of_ble_eq_true rfl) dX11_row_77 (fun x_77 I_77 J_77 h_77 => ?_)
          obtain ⟨rfl, rfl, h_77⟩ := h_77
          refine ww_isub hX (pc := 80) dX11_row_80 ?_
          refine sI2 hX (pc := 81) sX11_132 (c_X11_greater l0 (by omega) (by omega) (by omega) (by omega)) (by decide) (Nat.le_refl 0) (Nat.le_refl 0) (Nat.le_of_ble_eq_true rfl) dX11_row_81 (fun x_81 I_81 J_81 h_81 => ?_)
          obtain ⟨rfl, rfl, h_81⟩ := h_81
          refine ww_putI hX (pc := 84) (fun h9 => absurd h9 (by decide)) gX11_136 rfl (xs_49 hL) dX11_row_84 ?_
          refine ww_nmH (fun I_84 eI_84 => ?_)
          have kI_84 : Ch [50, 51] [0, 1, 6, 10] Ia I_84 := by rw [eI_84]; exact Ch_f kI23 (by decide)
          have cI_84 : RX I_84 := by rw [eI_84]; exact RX_f cI23 (by decide)
          have qI_84 := RX_o cI_84
          have r304_I_84 : I_84 51 304 = I23 51 304 := by rw [eI_84, up2_off _ _ _ (by decide)]
          have r305_I_84 : I_84 51 305 = I23 51 305 := by rw [eI_84, up2_off _ _ _ (by decide)]
          have rf_I_84 : FU (I_84 51 304) = FU (I23 51 304) := by rw [r304_I_84]
          refine ww_aload_n hX (pc := 87) dX11_row_87 rfl ?_
          refine ww_aload_n hX (pc := 88) dX11_row_88 rfl ?_
          refine vI0 hX (pc := 89) sX11_139 (xs_49 hL) (c_X11_readMany l0 hL cI_84 ) (by decide) (Nat.le_refl 0) (Nat.le_refl 0) (Nat.le_of_ble_eq_true rfl) dX11_row_89 (fun x_89 I_89 J_89 h_89 => ?_)
          obtain ⟨rfl, rfl, h_89⟩ := h_89
          refine vI1 hX (pc := 92) sX11_109 (xs_49 hL) (c_X11_good l0 hL cI_84 ) (by decide) (Nat.le_refl 0) (Nat.le_refl 0) (Nat.le_of_ble_eq_true rfl) dX11_row_92 (fun x_92 I_92 J_92 h_92 => ?_)
          have kJ_92 : Kp 49 73 Ja J_92 := Kp_tr kJ23 h_92.2.1
          have kI_92 : Ch [50, 51] [0, 1, 6, 10] Ia I_92 := Ch_tr kI_84 (Ch_wd h_92.1 (by decide) (by decide))
          have cI_92 : RX I_92 := h_92.2.2.1
          have qI_92 := RX_o cI_92
          have r304_I_92 : I_92 51 304 = I_84 51 304 := by rw [h_92.1.1 51 (by decide) (by decide)]
          have r305_I_92 : I_92 51 305 = I_84 51 305 := by rw [h_92.1.1 51 (by decide) (by decide)]
          have rf_I_92 : FU (I_92 51 304) = FU (I_84 51 304) := by rw [r304_I_92]
          refine rI hX (pc := 95) hT (Nat.le_refl 0) (Nat.le_refl 0) dX11_row_95 ?_
          exact ⟨kI_92, kJ_92, cI_92, trivial⟩
        · simp only [w32_mod] at h_28
          refine ww_aload_n hX (pc := 31) dX11_row_31 rfl ?_
          refine ww_getR hX (pc := 32) fX11_20 (by decide) (xs_49 hL) (xr_49_3 hL) dX11_row_32 ?_
          refine ww_iconst hX (pc := 35) (x := 0) dX11_row_35 rfl ?_
          refine ww_iload_n hX (pc := 36) dX11_row_36 rfl ?_
          refine ww_iadd hX (pc := 37) dX11_row_37 ?_
          refine ww_iload_n hX (pc := 38) dX11_row_38 rfl ?_
          refine ww_iload_n hX (pc := 39) dX11_row_39 rfl ?_
          refine ww_icmp_ge hX (pc := 40) (tgt := 65) dX11_row_40 (by decide) (fun h_40 => ?_) (fun h_40 => ?_)
          · simp only [w32_mod] at h_40
            refine ww_iconst hX (pc := 65) (x := (-1)) dX11_row_65 rfl ?_
            refine ww_iast hX (pc := 66) (xs_51 hL) (by decide) (by omega) (by omega) dX11_row_66 ?_
            refine ww_nmH (fun I_66 eI_66 => ?_)
            have kI_66 : Ch [50, 51] [0, 1, 6, 10] Ia I_66 := by rw [eI_66]; exact Ch_r kI23 (by decide) (by decide)
            have cI_66 : RX I_66 := by rw [eI_66]; exact RX_lo cI23 (by omega)
            have qI_66 := RX_o cI_66
            have r304_I_66 : I_66 51 304 = I23 51 304 := by rw [eI_66, up2_n _ _ (Or.inr (by omega))]
            have r305_I_66 : I_66 51 305 = I23 51 305 := by rw [eI_66, up2_n _ _ (Or.inr (by omega))]
            have rf_I_66 : FU (I_66 51 304) = FU (I23 51 304) := by rw [r304_I_66]
            refine ww_iinc hX (pc := 67) (lv' := [some (kR (some 49)), some (kI v_4), some (kI (i + 1))]) dX11_row_67 rfl (by decide) rfl rfl ?_
            refine ww_goto hX (pc := 70) (tgt := 23) dX11_row_70 (by decide) ?_
            exact ih_23 _ (by omega) (i + 1) I_66 J23 rfl ⟨kI_66, cI_66, kJ23, by omega, by omega, by omega⟩
          · simp only [w32_mod] at h_40
            refine ww_aload_n hX (pc := 43) dX11_row_43 rfl ?_
            refine ww_aload_n hX (pc := 44) dX11_row_44 rfl ?_
            refine ww_getR hX (pc := 45) fX11_34 (by decide) (xs_49 hL) (xr_49_8 hL) dX11_row_45 ?_
            refine ww_iload_n hX (pc := 48) dX11_row_48 rfl ?_
            refine ww_bald hX (pc := 49) (xs_55 hL) (by decide) (by omega) (by omega) dX11_row_49 ?_
            refine ww_wI ?_
            have hwr50 := w32_r (I23 55 i.toNat)
            refine vI1 hX (pc := 50) sX11_123 (xs_49 hL) (c_X11_isNews l0 hL cI23 (by omega) (by omega)) (by decide) (Nat.le_refl 0) (Nat.le_refl 0) (Nat.le_of_ble_eq_true rfl) dX11_row_50 (fun x_50 I_50 J_50 h_50 => ?_)
            obtain ⟨rfl, rfl, h_50⟩ := h_50
            refine ww_if_eq hX (pc := 53) (tgt := 65) dX11_row_53 (by decide) (fun h_53 => ?_) (fun h_53 => ?_)
            · simp only [w32_mod] at h_53
              refine ww_iconst hX (pc := 65) (x := (-1)) dX11_row_65 rfl ?_
              refine ww_iast hX (pc := 66) (xs_51 hL) (by decide) (by omega) (by omega) dX11_row_66 ?_
              refine ww_nmH (fun I_66 eI_66 => ?_)
              have kI_66 : Ch [50, 51] [0, 1, 6, 10] Ia I_66 := by rw [eI_66]; exact Ch_r kI23 (by decide) (by decide)
              have cI_66 : RX I_66 := by rw [eI_66]; exact RX_lo cI23 (by omega)
              have qI_66 := RX_o cI_66
              have r304_I_66 : I_66 51 304 = I23 51 304 := by rw [eI_66, up2_n _ _ (Or.inr (by omega))]
              have r305_I_66 : I_66 51 305 = I23 51 305 := by rw [eI_66, up2_n _ _ (Or.inr (by omega))]
              have rf_I_66 : FU (I_66 51 304) = FU (I23 51 304) := by rw [r304_I_66]
              refine ww_iinc hX (pc := 67) (lv' := [some (kR (some 49)), some (kI v_4), some (kI (i + 1))]) dX11_row_67 rfl (by decide) rfl rfl ?_
              refine ww_goto hX (pc := 70) (tgt := 23) dX11_row_70 (by decide) ?_
              exact ih_23 _ (by omega) (i + 1) I_66 J23 rfl ⟨kI_66, cI_66, kJ23, by omega, by omega, by omega⟩
            · simp only [w32_mod] at h_53
              refine ww_aload_n hX (pc := 56) dX11_row_56 rfl ?_
              refine ww_getR hX (pc := 57) fX11_34 (by decide) (xs_49 hL) (xr_49_8 hL) dX11_row_57 ?_
              refine ww_iload_n hX (pc := 60) dX11_row_60 rfl ?_
              refine ww_bald hX (pc := 61) (xs_55 hL) (by decide) (by omega) (by omega) dX11_row_61 ?_
              refine ww_goto hX (pc := 62) (tgt := 66) dX11_row_62 (by decide) ?_
              refine ww_iast hX (pc := 66) (xs_51 hL) (by decide) (by omega) (by omega) dX11_row_66 ?_
              refine ww_nmH (fun I_66 eI_66 => ?_)
              have kI_66 : Ch [50, 51] [0, 1, 6, 10] Ia I_66 := by rw [eI_66]; exact Ch_r kI23 (by decide) (by decide)
              have cI_66 : RX I_66 := by rw [eI_66]; exact RX_lo cI23 (by omega)
              have qI_66 := RX_o cI_66
              have r304_I_66 : I_66 51 304 = I23 51 304 := by rw [eI_66, up2_n _ _ (Or.inr (by omega))]
              have r305_I_66 : I_66 51 305 = I23 51 305 := by rw [eI_66, up2_n _ _ (Or.inr (by omega))]
              have rf_I_66 : FU (I_66 51 304) = FU (I23 51 304) := by rw [r304_I_66]
              refine ww_iinc hX (pc := 67) (lv' := [some (kR (some 49)), some (kI v_4), some (kI (i + 1))]) dX11_row_67 rfl (by decide) rfl rfl ?_
              refine ww_goto hX (pc := 70) (tgt := 23) dX11_row_70 (by decide) ?_
              exact ih_23 _ (by omega) (i + 1) I_66 J23 rfl ⟨kI_66, cI_66, kJ23, by omega, by omega, by omega⟩
    exact hl_23 _ 0 I_7 Ja rfl ⟨kI_7, cI_7, (Kp_rf (a := 49) (b := 73)), rfl, rfl, by omega⟩
  · simp only [w32_mod] at h_11
    refine ww_aload_n hX (pc := 14) dX11_row_14 rfl ?_
    refine ww_bipush hX (pc := 15) (x := (-6)) dX11_row_15 (by decide) ?_
    refine vI1 hX (pc := 17) sX11_105 (xs_49 hL) (c_X11_refuses l0 hL cI_7 (by omega) (by omega)) (by decide) (Nat.le_refl 0) (Nat.le_refl 0) (Nat.le_of_ble_eq_true rfl) dX11_row_17 (fun x_17 I_17 J_17 h_17 => ?_)
    have kJ_17 : Kp 49 73 Ja J_17 := Kp_tr (Kp_rf (a := 49) (b := 73)) h_17.2.1
    have kI_17 : Ch [50, 51] [0, 1, 6, 10] Ia I_17 := Ch_tr kI_7 (Ch_wd h_17.1 (by decide) (by decide))
    have cI_17 : RX I_17 := h_17.2.2.1
    have qI_17 := RX_o cI_17
    have r304_I_17 : I_17 51 304 = I_7 51 304 := by rw [h_17.1.1 51 (by decide) (by decide)]
    have r305_I_17 : I_17 51 305 = I_7 51 305 := by rw [h_17.1.1 51 (by decide) (by decide)]
    have rf_I_17 : FU (I_17 51 304) = FU (I_7 51 304) := by rw [r304_I_17]
    refine rI hX (pc := 20) hT (Nat.le_refl 0) (Nat.le_refl 0) dX11_row_20 ?_
    exact ⟨kI_17, kJ_17, cI_17, trivial⟩
set_option maxHeartbeats 4000000 in
set_option maxRecDepth 20000 in
theorem c_X11_end (l0 : Launch) {Ia Ja : aI1} {Ra : aR1} {Sa : aS1} (hL : LY Ra Sa) (hQ : RX Ia) {a : Int} (ha0 : -2147483648 ≤ a) (ha1 : a < 2147483648)  : CT l0 1 0 0 mX11_end [kR (some 49), kI a] Ia Ja Ra Sa (cI (fun x I' J' => Ch [] [10] Ia I' ∧ Kp 49 73 Ja J' ∧ RX I' ∧ True) Ra Sa) := by
  refine ct_in pn_X11 (Nat.le_of_ble_eq_true rfl) (fun X hX hT hIn => ?_)
  have hX : aK l0 X cX11_end 2 RX11 (some .int) 1 0 0 := hX
  change WW X 0 [some (kR (some 49)), some (kI a)] [] Ia Ja Ra Sa 0 0
  have qIa := RX_o hQ
  refine ww_iload_n hX (pc := 0) dX11_end_0 rfl ?_
  refine ww_iconst hX (pc := 1) (x := 0) dX11_end_1 rfl ?_
  refine ww_aload_n hX (pc := 2) dX11_end_2 rfl ?_
  refine ww_getI hX (pc := 3) fX11_129 (by decide) (xs_49 hL) dX11_end_3 ?_
  refine sI3 hX (pc := 6) sX11_101 (c_X11_lies l0 (by omega) (by omega) (by omega) (by omega) (by omega) (by omega)) (by decide) (Nat.le_refl 0) (Nat.le_refl 0) (Nat.le_of_ble_eq_true rfl) dX11_end_6 (fun x_6 I_6 J_6 h_6 => ?_)
  obtain ⟨rfl, rfl, h_6⟩ := h_6
  refine ww_if_ne hX (pc := 9) (tgt := 14) dX11_end_9 (by decide) (fun h_9 => ?_) (fun h_9 => ?_)
  · simp only [w32_mod] at h_9
    refine ww_aload_n hX (pc := 14) dX11_end_14 rfl ?_
    refine ww_iload_n hX (pc := 15) dX11_end_15 rfl ?_
    refine ww_putI hX (pc := 16) (fun h9 => absurd h9 (by decide)) gX11_129 rfl (xs_49 hL) dX11_end_16 ?_
    refine ww_nmH (fun I_16 eI_16 => ?_)
    have kI_16 : Ch [] [10] Ia I_16 := by rw [eI_16]; exact Ch_f Ch_rf (by decide)
    have cI_16 : RX I_16 := by rw [eI_16]; exact RX_10 hQ (by omega) (by omega)
    have qI_16 := RX_o cI_16
    have r304_I_16 : I_16 51 304 = Ia 51 304 := by rw [eI_16, up2_off _ _ _ (by decide)]
    have r305_I_16 : I_16 51 305 = Ia 51 305 := by rw [eI_16, up2_off _ _ _ (by decide)]
    have rf_I_16 : FU (I_16 51 304) = FU (Ia 51 304) := by rw [r304_I_16]
    refine ww_iload_n hX (pc := 19) dX11_end_19 rfl ?_
    refine rI hX (pc := 20) hT (Nat.le_refl 0) (Nat.le_refl 0) dX11_end_20 ?_
    exact ⟨kI_16, (Kp_rf (a := 49) (b := 73)), cI_16, trivial⟩
  · simp only [w32_mod] at h_9
    refine ww_iconst hX (pc := 12) (x := (-1)) dX11_end_12 rfl ?_
    refine rI hX (pc := 13) hT (Nat.le_refl 0) (Nat.le_refl 0) dX11_end_13 ?_
    exact ⟨Ch_rf, (Kp_rf (a := 49) (b := 73)), hQ, trivial⟩
set_option maxHeartbeats 4000000 in
set_option maxRecDepth 20000 in
theorem c_X11_feed (l0 : Launch) {Ia Ja : aI1} {Ra : aR1} {Sa : aS1} (hL : LY Ra Sa) (hQ : RX Ia) {a b c e g : Int}  : CT l0 0 0 0 mX11_feed [kR (some 49), kI a, kI b, kI c, kI e, kI g] Ia Ja Ra Sa (cI (fun x I' J' => Ch [55, 56] [10] Ia I' ∧ Kp 49 73 Ja J' ∧ RX I' ∧ True) Ra Sa) := by
  refine ct_in pn_X11 (Nat.le_of_ble_eq_true rfl) (fun X hX hT hIn => ?_)
  have hX : aK l0 X cX11_feed 7 RX11 (some .int) 0 0 0 := hX
  change WW X 0 [some (kR (some 49)), some (kI a), some (kI b), some (kI c), some (kI e), some (kI g), none] [] Ia Ja Ra Sa 0 0
  have qIa := RX_o hQ
  refine ww_aload_n hX (pc := 0) dX11_feed_0 rfl ?_
  refine ww_getI hX (pc := 1) fX11_129 (by decide) (xs_49 hL) dX11_feed_1 ?_
  refine ww_bipush hX (pc := 4) (x := 20) dX11_feed_4 (by decide) ?_
  refine ww_iadd hX (pc := 6) dX11_feed_6 ?_
  refine ww_sipush hX (pc := 7) (x := 400) dX11_feed_7 (by decide) ?_
  refine ww_icmp_le hX (pc := 10) (tgt := 15) dX11_feed_10 (by decide) (fun h_10 => ?_) (fun h_10 => ?_)
  · simp only [w32_mod] at h_10
    refine ww_aload_n hX (pc := 15) dX11_feed_15 rfl ?_
    refine ww_getR hX (pc := 16) fX11_37 (by decide) (xs_49 hL) (xr_49_9 hL) dX11_feed_16 ?_
    refine ww_iconst hX (pc := 19) (x := 0) dX11_feed_19 rfl ?_
    refine ww_iload_n hX (pc := 20) dX11_feed_20 rfl ?_
    refine ww_iast hX (pc := 21) (xs_56 hL) (by decide) (by omega) (by omega) dX11_feed_21 ?_
    refine ww_nmH (fun I_21 eI_21 => ?_)
    have kI_21 : Ch [55, 56] [10] Ia I_21 := by rw [eI_21]; exact Ch_r Ch_rf (by decide) (by decide)
    have cI_21 : RX I_21 := by rw [eI_21]; exact RX_r hQ (by decide)
    have qI_21 := RX_o cI_21
    have f10_I_21 : I_21 49 10 = Ia 49 10 := by rw [eI_21, up2_off _ _ _ (by decide)]
    refine ww_aload_n hX (pc := 22) dX11_feed_22 rfl ?_
    refine ww_getR hX (pc := 23) fX11_37 (by decide) (xs_49 hL) (xr_49_9 hL) dX11_feed_23 ?_
    refine ww_iconst hX (pc := 26) (x := 1) dX11_feed_26 rfl ?_
    refine ww_iload_n hX (pc := 27) dX11_feed_27 rfl ?_
    refine ww_iast hX (pc := 28) (xs_56 hL) (by decide) (by omega) (by omega) dX11_feed_28 ?_
    refine ww_nmH (fun I_28 eI_28 => ?_)
    have kI_28 : Ch [55, 56] [10] Ia I_28 := by rw [eI_28]; exact Ch_r kI_21 (by decide) (by decide)
    have cI_28 : RX I_28 := by rw [eI_28]; exact RX_r cI_21 (by decide)
    have qI_28 := RX_o cI_28
    have f10_I_28 : I_28 49 10 = I_21 49 10 := by rw [eI_28, up2_off _ _ _ (by decide)]
    refine ww_aload_n hX (pc := 29) dX11_feed_29 rfl ?_
    refine ww_getR hX (pc := 30) fX11_37 (by decide) (xs_49 hL) (xr_49_9 hL) dX11_feed_30 ?_
    refine ww_iconst hX (pc := 33) (x := 2) dX11_feed_33 rfl ?_
    refine ww_iload_n hX (pc := 34) dX11_feed_34 rfl ?_
    refine ww_iast hX (pc := 35) (xs_56 hL) (by decide) (by omega) (by omega) dX11_feed_35 ?_
    refine ww_nmH (fun I_35 eI_35 => ?_)
    have kI_35 : Ch [55, 56] [10] Ia I_35 := by rw [eI_35]; exact Ch_r kI_28 (by decide) (by decide)
    have cI_35 : RX I_35 := by rw [eI_35]; exact RX_r cI_28 (by decide)
    have qI_35 := RX_o cI_35
    have f10_I_35 : I_35 49 10 = I_28 49 10 := by rw [eI_35, up2_off _ _ _ (by decide)]
    refine ww_aload_n hX (pc := 36) dX11_feed_36 rfl ?_
    refine ww_getR hX (pc := 37) fX11_37 (by decide) (xs_49 hL) (xr_49_9 hL) dX11_feed_37 ?_
    refine ww_iconst hX (pc := 40) (x := 3) dX11_feed_40 rfl ?_
    refine ww_iload hX (pc := 41) dX11_feed_41 rfl ?_
    refine ww_iast hX (pc := 43) (xs_56 hL) (by decide) (by omega) (by omega) dX11_feed_43 ?_
    refine ww_nmH (fun I_43 eI_43 => ?_)
    have kI_43 : Ch [55, 56] [10] Ia I_43 := by rw [eI_43]; exact Ch_r kI_35 (by decide) (by decide)
    have cI_43 : RX I_43 := by rw [eI_43]; exact RX_r cI_35 (by decide)
    have qI_43 := RX_o cI_43
    have f10_I_43 : I_43 49 10 = I_35 49 10 := by rw [eI_43, up2_off _ _ _ (by decide)]
    refine ww_aload_n hX (pc := 44) dX11_feed_44 rfl ?_
    refine ww_getR hX (pc := 45) fX11_37 (by decide) (xs_49 hL) (xr_49_9 hL) dX11_feed_45 ?_
    refine ww_iconst hX (pc := 48) (x := 4) dX11_feed_48 rfl ?_
    refine ww_iload hX (pc := 49) dX11_feed_49 rfl ?_
    refine ww_iast hX (pc := 51) (xs_56 hL) (by decide) (by omega) (by omega) dX11_feed_51 ?_
    refine ww_nmH (fun I_51 eI_51 => ?_)
    have kI_51 : Ch [55, 56] [10] Ia I_51 := by rw [eI_51]; exact Ch_r kI_43 (by decide) (by decide)
    have cI_51 : RX I_51 := by rw [eI_51]; exact RX_r cI_43 (by decide)
    have qI_51 := RX_o cI_51
    have f10_I_51 : I_51 49 10 = I_43 49 10 := by rw [eI_51, up2_off _ _ _ (by decide)]
    refine ww_iconst hX (pc := 52) (x := 0) dX11_feed_52 rfl ?_
    refine ww_istore hX (pc := 53) (lv' := [some (kR (some 49)), some (kI a), some (kI b), some (kI c), some (kI e), some (kI g), some (kI 0)]) dX11_feed_53 (by decide) rfl rfl ?_
    have hl_55 : ∀ (n_55 : Nat) (i : Int) (I55 : aI1) (J55 : aI1), (20 - i).toNat = n_55 → (Ch [55, 56] [10] Ia I55 ∧ RX I55 ∧ Kp 49 73 Ja J55 ∧ I55 49 10 = I_51 49 10 ∧ (0 ≤ i ∧ i ≤ 20)) → WW X 55 [some (kR (some 49)), some (kI a), some (kI b), some (kI c), some (kI e), some (kI g), some (kI i)] [] I55 J55 Ra Sa 0 0 := by
      intro n_55
      induction n_55 using Nat.strongRecOn with
      | ind n_55 ih_55 =>
        intro i I55 J55 hm_55 hv_55
        obtain ⟨kI55, cI55, kJ55, f10_I55, hv⟩ := hv_55
        have qI55 := RX_o cI55
        refine ww_iload hX (pc := 55) dX11_feed_55 rfl ?_
        refine ww_bipush hX (pc := 57) (x := 20) dX11_feed_57 (by decide) ?_
        refine ww_icmp_ge hX (pc := 59) (tgt := 101) dX11_feed_59 (by decide) (fun h_59 => ?_) (fun h_59 => ?_)
        · simp only [w32_mod] at h_59
          refine ww_aload_n hX (pc := 101) dX11_feed_101 rfl ?_
          refine ww_dupR hX (pc := 102) dX11_feed_102 ?_
          refine ww_getI hX (pc := 103) fX11_129 (by decide) (xs_49 hL) dX11_feed_103 ?_
          refine ww_bipush hX (pc := 106) (x := 20) dX11_feed_106 (by decide) ?_
          refine ww_iadd hX (pc := 108) dX11_feed_108 ?_
          refine ww_putI hX (pc := 109) (fun h9 => absurd h9 (by decide)) gX11_129 rfl (xs_49 hL) dX11_feed_109 ?_
          refine ww_nmH (fun I_109 eI_109 => ?_)
          have kI_109 : Ch [55, 56] [10] Ia I_109 := by rw [eI_109]; exact Ch_f kI55 (by decide)
          have cI_109 : RX I_109 := by rw [eI_109]; exact RX_10 cI55 (by omega) (by omega)
          have qI_109 := RX_o cI_109
          refine ww_aload_n hX (pc := 112) dX11_feed_112 rfl ?_
          refine ww_getI hX (pc := 113) fX11_129 (by decide) (xs_49 hL) dX11_feed_113 ?_
          refine rI hX (pc := 116) hT (Nat.le_refl 0) (Nat.le_refl 0) dX11_feed_116 ?_
          exact ⟨kI_109, kJ55, cI_109, trivial⟩
        · simp only [w32_mod] at h_59
          refine ww_aload_n hX (pc := 62) dX11_feed_62 rfl ?_
          refine ww_getR hX (pc := 63) fX11_34 (by decide) (xs_49 hL) (xr_49_8 hL) dX11_feed_63 ?_
          refine ww_aload_n hX (pc := 66) dX11_feed_66 rfl ?_
          refine ww_getI hX (pc := 67) fX11_129 (by decide) (xs_49 hL) dX11_feed_67 ?_
          refine ww_iload hX (pc := 70) dX11_feed_70 rfl ?_
          refine ww_iadd hX (pc := 72) dX11_feed_72 ?_
          refine ww_aload_n hX (pc := 73) dX11_feed_73 rfl ?_
          refine ww_getR hX (pc := 74) fX11_37 (by decide) (xs_49 hL) (xr_49_9 hL) dX11_feed_74 ?_
          refine ww_iload hX (pc := 77) dX11_feed_77 rfl ?_
          refine ww_iconst hX (pc := 79) (x := 4) dX11_feed_79 rfl ?_
          refine ww_idiv hX (pc := 80) dX11_feed_80 (by decide) ?_
          have hd4 : i_div i 4 = i / 4 := i_div_v (by omega) (by omega) (by decide) (by decide)
          refine ww_iald hX (pc := 81) (xs_56 hL) (by decide) (by omega) (by omega) dX11_feed_81 ?_
          refine ww_bipush hX (pc := 82) (x := 24) dX11_feed_82 (by decide) ?_
          refine ww_bipush hX (pc := 84) (x := 8) dX11_feed_84 (by decide) ?_
          refine ww_iload hX (pc := 86) dX11_feed_86 rfl ?_
          refine ww_iconst hX (pc := 88) (x := 4) dX11_feed_88 rfl ?_
          refine ww_irem hX (pc := 89) dX11_feed_89 (by decide) ?_
          refine ww_imul hX (pc := 90) dX11_feed_90 ?_
          refine ww_isub hX (pc := 91) dX11_feed_91 ?_
          refine ww_ishr hX (pc := 92) dX11_feed_92 ?_
          refine ww_i2b hX (pc := 93) dX11_feed_93 ?_
          refine ww_bast hX (pc := 94) (xs_55 hL) (by decide) (by omega) (by omega) dX11_feed_94 ?_
          refine ww_nmH (fun I_94 eI_94 => ?_)
          have kI_94 : Ch [55, 56] [10] Ia I_94 := by rw [eI_94]; exact Ch_r kI55 (by decide) (by decide)
          have cI_94 : RX I_94 := by rw [eI_94]; exact RX_r cI55 (by decide)
          have qI_94 := RX_o cI_94
          have f10_I_94 : I_94 49 10 = I55 49 10 := by rw [eI_94, up2_off _ _ _ (by decide)]
          refine ww_iinc hX (pc := 95) (lv' := [some (kR (some 49)), some (kI a), some (kI b), some (kI c), some (kI e), some (kI g), some (kI (i + 1))]) dX11_feed_95 rfl (by decide) rfl rfl ?_
          refine ww_goto hX (pc := 98) (tgt := 55) dX11_feed_98 (by decide) ?_
          exact ih_55 _ (by omega) (i + 1) I_94 J55 rfl ⟨kI_94, cI_94, kJ55, by omega, by omega⟩
    exact hl_55 _ 0 I_51 Ja rfl ⟨kI_51, cI_51, (Kp_rf (a := 49) (b := 73)), rfl, by omega⟩
  · simp only [w32_mod] at h_10
    refine ww_iconst hX (pc := 13) (x := (-1)) dX11_feed_13 rfl ?_
    refine rI hX (pc := 14) hT (Nat.le_refl 0) (Nat.le_refl 0) dX11_feed_14 ?_
    exact ⟨Ch_rf, (Kp_rf (a := 49) (b := 73)), hQ, trivial⟩
set_option maxHeartbeats 4000000 in
set_option maxRecDepth 20000 in
theorem c_X11_trail (l0 : Launch) {Ia Ja : aI1} {Ra : aR1} {Sa : aS1} (hL : LY Ra Sa) (hQ : RX Ia)  : CT l0 1 0 0 mX11_trail [kR (some 49)] Ia Ja Ra Sa (cI (fun x I' J' => Ch [50, 67] [0, 1, 10, 33] Ia I' ∧ Kp 49 73 Ja J' ∧ RX I' ∧ True) Ra Sa) := by
  refine ct_in pn_X11 (Nat.le_of_ble_eq_true rfl) (fun X hX hT hIn => ?_)
  have hX : aK l0 X cX11_trail 3 RX11 (some .int) 1 0 0 := hX
  change WW X 0 [some (kR (some 49)), none, none] [] Ia Ja Ra Sa 0 0
  have qIa := RX_o hQ
  refine ww_aload_n hX (pc := 0) dX11_trail_0 rfl ?_
  refine ww_getI hX (pc := 1) fX11_129 (by decide) (xs_49 hL) dX11_trail_1 ?_
  refine ww_nmI (fun v_4 hv_4 => ?_)
  refine ww_istore_n hX (pc := 4) (lv' := [some (kR (some 49)), some (kI v_4), none]) dX11_trail_4 (by decide) rfl rfl ?_
  refine ww_aload_n hX (pc := 5) dX11_trail_5 rfl ?_
  refine ww_iconst hX (pc := 6) (x := 0) dX11_trail_6 rfl ?_
  refine ww_putI hX (pc := 7) (fun h9 => absurd h9 (by decide)) gX11_129 rfl (xs_49 hL) dX11_trail_7 ?_
  refine ww_nmH (fun I_7 eI_7 => ?_)
  have kI_7 : Ch [50, 67] [0, 1, 10, 33] Ia I_7 := by rw [eI_7]; exact Ch_f Ch_rf (by decide)
  have cI_7 : RX I_7 := by rw [eI_7]; exact RX_10 hQ (by omega) (by omega)
  have qI_7 := RX_o cI_7
  have r304_I_7 : I_7 51 304 = Ia 51 304 := by rw [eI_7, up2_off _ _ _ (by decide)]
  have r305_I_7 : I_7 51 305 = Ia 51 305 := by rw [eI_7, up2_off _ _ _ (by decide)]
  have rf_I_7 : FU (I_7 51 304) = FU (Ia 51 304) := by rw [r304_I_7]
  refine ww_iload_n hX (pc := 10) dX11_trail_10 rfl ?_
  refine ww_if_ne hX (pc := 11) (tgt := 21) dX11_trail_11 (by decide) (fun h_11 => ?_) (fun h_11 => ?_)
  · simp only [w32_mod] at h_11
    refine ww_aload_n hX (pc := 21) dX11_trail_21 rfl ?_
    refine ww_iload_n hX (pc := 22) dX11_trail_22 rfl ?_
    refine ww_bipush hX (pc := 23) (x := 30) dX11_trail_23 (by decide) ?_
    refine ww_icmp_ge hX (pc := 25) (tgt := 32) dX11_trail_25 (by decide) (fun h_25 => ?_) (fun h_25 => ?_)
    · simp only [w32_mod] at h_25
      refine ww_bipush hX (pc := 32) (x := 30) dX11_trail_32 (by decide) ?_
      refine ww_putI hX (pc := 34) (fun h9 => absurd h9 (by decide)) gX11_334 rfl (xs_49 hL) dX11_trail_34 ?_
      refine ww_nmH (fun I_34 eI_34 => ?_)
      have kI_34 : Ch [50, 67] [0, 1, 10, 33] Ia I_34 := by rw [eI_34]; exact Ch_f kI_7 (by decide)
      have cI_34 : RX I_34 := by rw [eI_34]; exact RX_33 cI_7 (by omega) (by omega)
      have qI_34 := RX_o cI_34
      have r304_I_34 : I_34 51 304 = I_7 51 304 := by rw [eI_34, up2_off _ _ _ (by decide)]
      have r305_I_34 : I_34 51 305 = I_7 51 305 := by rw [eI_34, up2_off _ _ _ (by decide)]
      have rf_I_34 : FU (I_34 51 304) = FU (I_7 51 304) := by rw [r304_I_34]
      refine ww_iconst hX (pc := 37) (x := 0) dX11_trail_37 rfl ?_
      refine ww_istore_n hX (pc := 38) (lv' := [some (kR (some 49)), some (kI v_4), some (kI 0)]) dX11_trail_38 (by decide) rfl rfl ?_
      have hl_39 : ∀ (n_39 : Nat) (i : Int) (I39 : aI1) (J39 : aI1), (30 - i).toNat = n_39 → (Ch [50, 67] [0, 1, 10, 33] Ia I39 ∧ RX I39 ∧ Kp 49 73 Ja J39 ∧ I39 51 304 = I_34 51 304 ∧ I39 51 305 = I_34 51 305 ∧ (0 ≤ i ∧ i ≤ 30)) → WW X 39 [some (kR (some 49)), some (kI v_4), some (kI i)] [] I39 J39 Ra Sa 0 0 := by
        intro n_39
        induction n_39 using Nat.strongRecOn with
        | ind n_39 ih_39 =>
          intro i I39 J39 hm_39 hv_39
          obtain ⟨kI39, cI39, kJ39, r304_I39, r305_I39, hv⟩ := hv_39
          have qI39 := RX_o cI39
          have rf_I39 : FU (I39 51 304) = FU (I_34 51 304) := by rw [r304_I39]
          refine ww_iload_n hX (pc := 39) dX11_trail_39 rfl ?_
          refine ww_aload_n hX (pc := 40) dX11_trail_40 rfl ?_
          refine ww_getI hX (pc := 41) fX11_334 (by decide) (xs_49 hL) dX11_trail_41 ?_
          refine ww_icmp_ge hX (pc := 44) (tgt := 69) dX11_trail_44 (by decide) (fun h_44 => ?_) (fun h_44 => ?_)
          · simp only [w32_mod] at h_44
            refine ww_aload_n hX (pc := 69) dX11_trail_69 rfl ?_
            refine ww_aload_n hX (pc := 70) dX11_trail_70 rfl ?_
            refine ww_getI hX (pc := 71) fX11_334 (by decide) (xs_49 hL) dX11_trail_71 ?_
            refine vI1 hX (pc := 74) sX11_109 (xs_49 hL) (c_X11_good l0 hL cI39 ) (by decide) (Nat.le_refl 0) (Nat.le_refl 0) (Nat.le_of_ble_eq_true rfl) dX11_trail_74 (fun x_74 I_74 J_74 h_74 => ?_)
            have kJ_74 : Kp 49 73 Ja J_74 := Kp_tr kJ39 h_74.2.1
            have kI_74 : Ch [50, 67] [0, 1, 10, 33] Ia I_74 := Ch_tr kI39 (Ch_wd h_74.1 (by decide) (by decide))
            have cI_74 : RX I_74 := h_74.2.2.1
            have qI_74 := RX_o cI_74
            have r304_I_74 : I_74 51 304 = I39 51 304 := by rw [h_74.1.1 51 (by decide) (by decide)]
            have r305_I_74 : I_74 51 305 = I39 51 305 := by rw [h_74.1.1 51 (by decide) (by decide)]
            have rf_I_74 : FU (I_74 51 304) = FU (I39 51 304) := by rw [r304_I_74]
            refine rI hX (pc := 77) hT (Nat.le_refl 0) (Nat.le_refl 0) dX11_trail_77 ?_
            exact ⟨kI_74, kJ_74, cI_74, trivial⟩
          · simp only [w32_mod] at h_44
            refine ww_aload_n hX (pc := 47) dX11_trail_47 rfl ?_
            refine ww_getR hX (pc := 48) fX11_77 (by decide) (xs_49 hL) (xr_49_32 hL) dX11_trail_48 ?_
            refine ww_iload_n hX (pc := 51) dX11_trail_51 rfl ?_
            refine ww_aload_n hX (pc := 52) dX11_trail_52 rfl ?_
            refine ww_getR hX (pc := 53) fX11_34 (by decide) (xs_49 hL) (xr_49_8 hL) dX11_trail_53 ?_
            refine ww_iload_n hX (pc := 56) dX11_trail_56 rfl ?_
            refine ww_bald hX (pc := 57) (xs_55 hL) (by decide) (by omega) (by omega) dX11_trail_57 ?_
            refine ww_sipush hX (pc := 58) (x := 255) dX11_trail_58 (by decide) ?_
            refine ww_iand hX (pc := 61) dX11_trail_61 ?_
            refine ww_iast hX (pc := 62) (xs_67 hL) (by decide) (by omega) (by omega) dX11_trail_62 ?_
            refine ww_nmH (fun I_62 eI_62 => ?_)
            have kI_62 : Ch [50, 67] [0, 1, 10, 33] Ia I_62 := by rw [eI_62]; exact Ch_r kI39 (by decide) (by decide)
            have cI_62 : RX I_62 := by rw [eI_62]; exact RX_r cI39 (by decide)
            have qI_62 := RX_o cI_62
            have r304_I_62 : I_62 51 304 = I39 51 304 := by rw [eI_62, up2_off _ _ _ (by decide)]
            have r305_I_62 : I_62 51 305 = I39 51 305 := by rw [eI_62, up2_off _ _ _ (by decide)]
            have rf_I_62 : FU (I_62 51 304) = FU (I39 51 304) := by rw [r304_I_62]
            refine ww_iinc hX (pc := 63) (lv' := [some (kR (some 49)), some (kI v_4), some (kI (i + 1))]) dX11_trail_63 rfl (by decide) rfl rfl ?_
            refine ww_goto hX (pc := 66) (tgt := 39) dX11_trail_66 (by decide) ?_
            exact ih_39 _ (by omega) (i + 1) I_62 J39 rfl ⟨kI_62, cI_62, kJ39, by omega, by omega, by omega⟩
      exact hl_39 _ 0 I_34 Ja rfl ⟨kI_34, cI_34, (Kp_rf (a := 49) (b := 73)), rfl, rfl, by omega⟩
    · simp only [w32_mod] at h_25
      refine ww_iload_n hX (pc := 28) dX11_trail_28 rfl ?_
      refine ww_goto hX (pc := 29) (tgt := 34) dX11_trail_29 (by decide) ?_
      refine ww_putI hX (pc := 34) (fun h9 => absurd h9 (by decide)) gX11_334 rfl (xs_49 hL) dX11_trail_34 ?_
      refine ww_nmH (fun I_34 eI_34 => ?_)
      have kI_34 : Ch [50, 67] [0, 1, 10, 33] Ia I_34 := by rw [eI_34]; exact Ch_f kI_7 (by decide)
      have cI_34 : RX I_34 := by rw [eI_34]; exact RX_33 cI_7 (by omega) (by omega)
      have qI_34 := RX_o cI_34
      have r304_I_34 : I_34 51 304 = I_7 51 304 := by rw [eI_34, up2_off _ _ _ (by decide)]
      have r305_I_34 : I_34 51 305 = I_7 51 305 := by rw [eI_34, up2_off _ _ _ (by decide)]
      have rf_I_34 : FU (I_34 51 304) = FU (I_7 51 304) := by rw [r304_I_34]
      refine ww_iconst hX (pc := 37) (x := 0) dX11_trail_37 rfl ?_
      refine ww_istore_n hX (pc := 38) (lv' := [some (kR (some 49)), some (kI v_4), some (kI 0)]) dX11_trail_38 (by decide) rfl rfl ?_
      have hl_39 : ∀ (n_39 : Nat) (i : Int) (I39 : aI1) (J39 : aI1), (30 - i).toNat = n_39 → (Ch [50, 67] [0, 1, 10, 33] Ia I39 ∧ RX I39 ∧ Kp 49 73 Ja J39 ∧ I39 51 304 = I_34 51 304 ∧ I39 51 305 = I_34 51 305 ∧ (0 ≤ i ∧ i ≤ 30)) → WW X 39 [some (kR (some 49)), some (kI v_4), some (kI i)] [] I39 J39 Ra Sa 0 0 := by
        intro n_39
        induction n_39 using Nat.strongRecOn with
        | ind n_39 ih_39 =>
          intro i I39 J39 hm_39 hv_39
          obtain ⟨kI39, cI39, kJ39, r304_I39, r305_I39, hv⟩ := hv_39
          have qI39 := RX_o cI39
          have rf_I39 : FU (I39 51 304) = FU (I_34 51 304) := by rw [r304_I39]
          refine ww_iload_n hX (pc := 39) dX11_trail_39 rfl ?_
          refine ww_aload_n hX (pc := 40) dX11_trail_40 rfl ?_
          refine ww_getI hX (pc := 41) fX11_334 (by decide) (xs_49 hL) dX11_trail_41 ?_
          refine ww_icmp_ge hX (pc := 44) (tgt := 69) dX11_trail_44 (by decide) (fun h_44 => ?_) (fun h_44 => ?_)
          · simp only [w32_mod] at h_44
            refine ww_aload_n hX (pc := 69) dX11_trail_69 rfl ?_
            refine ww_aload_n hX (pc := 70) dX11_trail_70 rfl ?_
            refine ww_getI hX (pc := 71) fX11_334 (by decide) (xs_49 hL) dX11_trail_71 ?_
            refine vI1 hX (pc := 74) sX11_109 (xs_49 hL) (c_X11_good l0 hL cI39 ) (by decide) (Nat.le_refl 0) (Nat.le_refl 0) (Nat.le_of_ble_eq_true rfl) dX11_trail_74 (fun x_74 I_74 J_74 h_74 => ?_)
            have kJ_74 : Kp 49 73 Ja J_74 := Kp_tr kJ39 h_74.2.1
            have kI_74 : Ch [50, 67] [0, 1, 10, 33] Ia I_74 := Ch_tr kI39 (Ch_wd h_74.1 (by decide) (by decide))
            have cI_74 : RX I_74 := h_74.2.2.1
            have qI_74 := RX_o cI_74
            have r304_I_74 : I_74 51 304 = I39 51 304 := by rw [h_74.1.1 51 (by decide) (by decide)]
            have r305_I_74 : I_74 51 305 = I39 51 305 := by rw [h_74.1.1 51 (by decide) (by decide)]
            have rf_I_74 : FU (I_74 51 304) = FU (I39 51 304) := by rw [r304_I_74]
            refine rI hX (pc := 77) hT (Nat.le_refl 0) (Nat.le_refl 0) dX11_trail_77 ?_
            exact ⟨kI_74, kJ_74, cI_74, trivial⟩
          · simp only [w32_mod] at h_44
            refine ww_aload_n hX (pc := 47) dX11_trail_47 rfl ?_
            refine ww_getR hX (pc := 48) fX11_77 (by decide) (xs_49 hL) (xr_49_32 hL) dX11_trail_48 ?_
            refine ww_iload_n hX (pc := 51) dX11_trail_51 rfl ?_
            refine ww_aload_n hX (pc := 52) dX11_trail_52 rfl ?_
            refine ww_getR hX (pc := 53) fX11_34 (by decide) (xs_49 hL) (xr_49_8 hL) dX11_trail_53 ?_
            refine ww_iload_n hX (pc := 56) dX11_trail_56 rfl ?_
            refine ww_bald hX (pc := 57) (xs_55 hL) (by decide) (by omega) (by omega) dX11_trail_57 ?_
            refine ww_sipush hX (pc := 58) (x := 255) dX11_trail_58 (by decide) ?_
            refine ww_iand hX (pc := 61) dX11_trail_61 ?_
            refine ww_iast hX (pc := 62) (xs_67 hL) (by decide) (by omega) (by omega) dX11_trail_62 ?_
            refine ww_nmH (fun I_62 eI_62 => ?_)
            have kI_62 : Ch [50, 67] [0, 1, 10, 33] Ia I_62 := by rw [eI_62]; exact Ch_r kI39 (by decide) (by decide)
            have cI_62 : RX I_62 := by rw [eI_62]; exact RX_r cI39 (by decide)
            have qI_62 := RX_o cI_62
            have r304_I_62 : I_62 51 304 = I39 51 304 := by rw [eI_62, up2_off _ _ _ (by decide)]
            have r305_I_62 : I_62 51 305 = I39 51 305 := by rw [eI_62, up2_off _ _ _ (by decide)]
            have rf_I_62 : FU (I_62 51 304) = FU (I39 51 304) := by rw [r304_I_62]
            refine ww_iinc hX (pc := 63) (lv' := [some (kR (some 49)), some (kI v_4), some (kI (i + 1))]) dX11_trail_63 rfl (by decide) rfl rfl ?_
            refine ww_goto hX (pc := 66) (tgt := 39) dX11_trail_66 (by decide) ?_
            exact ih_39 _ (by omega) (i + 1) I_62 J39 rfl ⟨kI_62, cI_62, kJ39, by omega, by omega, by omega⟩
      exact hl_39 _ 0 I_34 Ja rfl ⟨kI_34, cI_34, (Kp_rf (a := 49) (b := 73)), rfl, rfl, by omega⟩
  · simp only [w32_mod] at h_11
    refine ww_aload_n hX (pc := 14) dX11_trail_14 rfl ?_
    refine ww_bipush hX (pc := 15) (x := (-6)) dX11_trail_15 (by decide) ?_
    refine vI1 hX (pc := 17) sX11_105 (xs_49 hL) (c_X11_refuses l0 hL cI_7 (by omega) (by omega)) (by decide) (Nat.le_refl 0) (Nat.le_refl 0) (Nat.le_of_ble_eq_true rfl) dX11_trail_17 (fun x_17 I_17 J_17 h_17 => ?_)
    have kJ_17 : Kp 49 73 Ja J_17 := Kp_tr (Kp_rf (a := 49) (b := 73)) h_17.2.1
    have kI_17 : Ch [50, 67] [0, 1, 10, 33] Ia I_17 := Ch_tr kI_7 (Ch_wd h_17.1 (by decide) (by decide))
    have cI_17 : RX I_17 := h_17.2.2.1
    have qI_17 := RX_o cI_17
    have r304_I_17 : I_17 51 304 = I_7 51 304 := by rw [h_17.1.1 51 (by decide) (by decide)]
    have r305_I_17 : I_17 51 305 = I_7 51 305 := by rw [h_17.1.1 51 (by decide) (by decide)]
    have rf_I_17 : FU (I_17 51 304) = FU (I_7 51 304) := by rw [r304_I_17]
    refine rI hX (pc := 20) hT (Nat.le_refl 0) (Nat.le_refl 0) dX11_trail_20 ?_
    exact ⟨kI_17, kJ_17, cI_17, trivial⟩
set_option maxHeartbeats 4000000 in
set_option maxRecDepth 20000 in
theorem c_X11_dawn (l0 : Launch) {Ia Ja : aI1} {Ra : aR1} {Sa : aS1} (hL : LY Ra Sa) (hQ : RX Ia)  : CT l0 1 0 0 mX11_dawn [kR (some 49)] Ia Ja Ra Sa (cI (fun x I' J' => Ch [51] [1] Ia I' ∧ Kp 49 73 Ja J' ∧ RX I' ∧ True) Ra Sa) := by
  refine ct_in pn_X11 (Nat.le_of_ble_eq_true rfl) (fun X hX hT hIn => ?_)
  have hX : aK l0 X cX11_dawn 2 RX11 (some .int) 1 0 0 := hX
  change WW X 0 [some (kR (some 49)), none] [] Ia Ja Ra Sa 0 0
  have qIa := RX_o hQ
  refine ww_aload_n hX (pc := 0) dX11_dawn_0 rfl ?_
  refine ww_getR hX (pc := 1) fX11_20 (by decide) (xs_49 hL) (xr_49_3 hL) dX11_dawn_1 ?_
  refine ww_sipush hX (pc := 4) (x := 307) dX11_dawn_4 (by decide) ?_
  refine ww_iald hX (pc := 7) (xs_51 hL) (by decide) (by omega) (by omega) dX11_dawn_7 ?_
  refine ww_toI (b := Ia 51 307) rfl ?_
  refine sI1 hX (pc := 8) sX11_259 (c_X11_ones l0 ) (by decide) (Nat.le_refl 0) (Nat.le_refl 0) (Nat.le_of_ble_eq_true rfl) dX11_dawn_8 (fun x_8 I_8 J_8 h_8 => ?_)
  obtain ⟨rfl, rfl, h_8⟩ := h_8
  refine ww_istore_n hX (pc := 11) (lv' := [some (kR (some 49)), some (kI x_8)]) dX11_dawn_11 (by decide) rfl rfl ?_
  refine ww_aload_n hX (pc := 12) dX11_dawn_12 rfl ?_
  refine ww_getR hX (pc := 13) fX11_20 (by decide) (xs_49 hL) (xr_49_3 hL) dX11_dawn_13 ?_
  refine ww_sipush hX (pc := 16) (x := 307) dX11_dawn_16 (by decide) ?_
  refine ww_iconst hX (pc := 19) (x := 0) dX11_dawn_19 rfl ?_
  refine ww_iast hX (pc := 20) (xs_51 hL) (by decide) (by omega) (by omega) dX11_dawn_20 ?_
  refine ww_nmH (fun I_20 eI_20 => ?_)
  have kI_20 : Ch [51] [1] Ia I_20 := by rw [eI_20]; exact Ch_r Ch_rf (by decide) (by decide)
  have cI_20 : RX I_20 := by rw [eI_20]; exact RX_307 hQ (by omega) (by omega)
  have qI_20 := RX_o cI_20
  have r304_I_20 : I_20 51 304 = Ia 51 304 := by rw [eI_20, up2_n _ _ (Or.inr (by decide))]
  have r305_I_20 : I_20 51 305 = Ia 51 305 := by rw [eI_20, up2_n _ _ (Or.inr (by decide))]
  have rf_I_20 : FU (I_20 51 304) = FU (Ia 51 304) := by rw [r304_I_20]
  refine ww_aload_n hX (pc := 21) dX11_dawn_21 rfl ?_
  refine ww_getR hX (pc := 22) fX11_20 (by decide) (xs_49 hL) (xr_49_3 hL) dX11_dawn_22 ?_
  refine ww_sipush hX (pc := 25) (x := 308) dX11_dawn_25 (by decide) ?_
  refine ww_iconst hX (pc := 28) (x := 0) dX11_dawn_28 rfl ?_
  refine ww_iast hX (pc := 29) (xs_51 hL) (by decide) (by omega) (by omega) dX11_dawn_29 ?_
  refine ww_nmH (fun I_29 eI_29 => ?_)
  have kI_29 : Ch [51] [1] Ia I_29 := by rw [eI_29]; exact Ch_r kI_20 (by decide) (by decide)
  have cI_29 : RX I_29 := by rw [eI_29]; exact RX_308 cI_20 (by omega) (by omega)
  have qI_29 := RX_o cI_29
  have r304_I_29 : I_29 51 304 = I_20 51 304 := by rw [eI_29, up2_n _ _ (Or.inr (by decide))]
  have r305_I_29 : I_29 51 305 = I_20 51 305 := by rw [eI_29, up2_n _ _ (Or.inr (by decide))]
  have rf_I_29 : FU (I_29 51 304) = FU (I_20 51 304) := by rw [r304_I_29]
  refine ww_aload_n hX (pc := 30) dX11_dawn_30 rfl ?_
  refine ww_dupR hX (pc := 31) dX11_dawn_31 ?_
  refine ww_getI hX (pc := 32) fX11_11 (by decide) (xs_49 hL) dX11_dawn_32 ?_
  refine ww_iconst hX (pc := 35) (x := 1) dX11_dawn_35 rfl ?_
  refine ww_iadd hX (pc := 36) dX11_dawn_36 ?_
  refine ww_putI hX (pc := 37) (fun h9 => absurd h9 (by decide)) gX11_11 rfl (xs_49 hL) dX11_dawn_37 ?_
  refine ww_nmH (fun I_37 eI_37 => ?_)
  have kI_37 : Ch [51] [1] Ia I_37 := by rw [eI_37]; exact Ch_f kI_29 (by decide)
  have cI_37 : RX I_37 := by rw [eI_37]; exact RX_f cI_29 (by decide)
  have qI_37 := RX_o cI_37
  have r304_I_37 : I_37 51 304 = I_29 51 304 := by rw [eI_37, up2_off _ _ _ (by decide)]
  have r305_I_37 : I_37 51 305 = I_29 51 305 := by rw [eI_37, up2_off _ _ _ (by decide)]
  have rf_I_37 : FU (I_37 51 304) = FU (I_29 51 304) := by rw [r304_I_37]
  refine ww_iload_n hX (pc := 40) dX11_dawn_40 rfl ?_
  refine rI hX (pc := 41) hT (Nat.le_refl 0) (Nat.le_refl 0) dX11_dawn_41 ?_
  exact ⟨kI_37, (Kp_rf (a := 49) (b := 73)), cI_37, trivial⟩
set_option maxHeartbeats 4000000 in
set_option maxRecDepth 20000 in
theorem c_X11_unwant (l0 : Launch) {Ia Ja : aI1} {Ra : aR1} {Sa : aS1} (hL : LY Ra Sa) (hQ : RX Ia)  : CT l0 0 0 0 mX11_unwant [kR (some 49)] Ia Ja Ra Sa (cI (fun x I' J' => Ch [51] [1] Ia I' ∧ Kp 49 73 Ja J' ∧ RX I' ∧ True) Ra Sa) := by
  refine ct_in pn_X11 (Nat.le_of_ble_eq_true rfl) (fun X hX hT hIn => ?_)
  have hX : aK l0 X cX11_unwant 2 RX11 (some .int) 0 0 0 := hX
  change WW X 0 [some (kR (some 49)), none] [] Ia Ja Ra Sa 0 0
  have qIa := RX_o hQ
  refine ww_aload_n hX (pc := 0) dX11_unwant_0 rfl ?_
  refine ww_getR hX (pc := 1) fX11_20 (by decide) (xs_49 hL) (xr_49_3 hL) dX11_unwant_1 ?_
  refine ww_sipush hX (pc := 4) (x := 309) dX11_unwant_4 (by decide) ?_
  refine ww_iald hX (pc := 7) (xs_51 hL) (by decide) (by omega) (by omega) dX11_unwant_7 ?_
  refine ww_toI (b := Ia 51 309) rfl ?_
  refine ww_nmI (fun v_8 hv_8 => ?_)
  refine ww_istore_n hX (pc := 8) (lv' := [some (kR (some 49)), some (kI v_8)]) dX11_unwant_8 (by decide) rfl rfl ?_
  refine ww_aload_n hX (pc := 9) dX11_unwant_9 rfl ?_
  refine ww_getR hX (pc := 10) fX11_20 (by decide) (xs_49 hL) (xr_49_3 hL) dX11_unwant_10 ?_
  refine ww_sipush hX (pc := 13) (x := 309) dX11_unwant_13 (by decide) ?_
  refine ww_iconst hX (pc := 16) (x := 0) dX11_unwant_16 rfl ?_
  refine ww_iast hX (pc := 17) (xs_51 hL) (by decide) (by omega) (by omega) dX11_unwant_17 ?_
  refine ww_nmH (fun I_17 eI_17 => ?_)
  have kI_17 : Ch [51] [1] Ia I_17 := by rw [eI_17]; exact Ch_r Ch_rf (by decide) (by decide)
  have cI_17 : RX I_17 := by rw [eI_17]; exact RX_309 hQ (by omega) (by omega)
  have qI_17 := RX_o cI_17
  have r304_I_17 : I_17 51 304 = Ia 51 304 := by rw [eI_17, up2_n _ _ (Or.inr (by decide))]
  have r305_I_17 : I_17 51 305 = Ia 51 305 := by rw [eI_17, up2_n _ _ (Or.inr (by decide))]
  have rf_I_17 : FU (I_17 51 304) = FU (Ia 51 304) := by rw [r304_I_17]
  refine ww_aload_n hX (pc := 18) dX11_unwant_18 rfl ?_
  refine ww_dupR hX (pc := 19) dX11_unwant_19 ?_
  refine ww_getI hX (pc := 20) fX11_11 (by decide) (xs_49 hL) dX11_unwant_20 ?_
  refine ww_iconst hX (pc := 23) (x := 1) dX11_unwant_23 rfl ?_
  refine ww_iadd hX (pc := 24) dX11_unwant_24 ?_
  refine ww_putI hX (pc := 25) (fun h9 => absurd h9 (by decide)) gX11_11 rfl (xs_49 hL) dX11_unwant_25 ?_
  refine ww_nmH (fun I_25 eI_25 => ?_)
  have kI_25 : Ch [51] [1] Ia I_25 := by rw [eI_25]; exact Ch_f kI_17 (by decide)
  have cI_25 : RX I_25 := by rw [eI_25]; exact RX_f cI_17 (by decide)
  have qI_25 := RX_o cI_25
  have r304_I_25 : I_25 51 304 = I_17 51 304 := by rw [eI_25, up2_off _ _ _ (by decide)]
  have r305_I_25 : I_25 51 305 = I_17 51 305 := by rw [eI_25, up2_off _ _ _ (by decide)]
  have rf_I_25 : FU (I_25 51 304) = FU (I_17 51 304) := by rw [r304_I_25]
  refine ww_iload_n hX (pc := 28) dX11_unwant_28 rfl ?_
  refine rI hX (pc := 29) hT (Nat.le_refl 0) (Nat.le_refl 0) dX11_unwant_29 ?_
  exact ⟨kI_25, (Kp_rf (a := 49) (b := 73)), cI_25, trivial⟩
set_option maxHeartbeats 4000000 in
set_option maxRecDepth 20000 in
theorem c_X11_want (l0 : Launch) {Ia Ja : aI1} {Ra : aR1} {Sa : aS1} (hL : LY Ra Sa) (hQ : RX Ia) {a : Int} (ha0 : -2147483648 ≤ a) (ha1 : a < 2147483648)  : CT l0 2 0 0 mX11_want [kR (some 49), kI a] Ia Ja Ra Sa (cI (fun x I' J' => Ch [50, 51] [0, 1] Ia I' ∧ Kp 49 73 Ja J' ∧ RX I' ∧ True) Ra Sa) := by
  refine ct_in pn_X11 (Nat.le_of_ble_eq_true rfl) (fun X hX hT hIn => ?_)
  have hX : aK l0 X cX11_want 2 RX11 (some .int) 2 0 0 := hX
  change WW X 0 [some (kR (some 49)), some (kI a)] [] Ia Ja Ra Sa 0 0
  have qIa := RX_o hQ
  refine ww_aload_n hX (pc := 0) dX11_want_0 rfl ?_
  refine ww_iload_n hX (pc := 1) dX11_want_1 rfl ?_
  refine vI1 hX (pc := 2) sX11_123 (xs_49 hL) (c_X11_isNews l0 hL hQ (by omega) (by omega)) (by decide) (Nat.le_refl 0) (Nat.le_refl 0) (Nat.le_of_ble_eq_true rfl) dX11_want_2 (fun x_2 I_2 J_2 h_2 => ?_)
  obtain ⟨rfl, rfl, h_2⟩ := h_2
  refine ww_if_ne hX (pc := 5) (tgt := 14) dX11_want_5 (by decide) (fun h_5 => ?_) (fun h_5 => ?_)
  · simp only [w32_mod] at h_5
    refine ww_aload_n hX (pc := 14) dX11_want_14 rfl ?_
    refine ww_getR hX (pc := 15) fX11_20 (by decide) (xs_49 hL) (xr_49_3 hL) dX11_want_15 ?_
    refine ww_sipush hX (pc := 18) (x := 309) dX11_want_18 (by decide) ?_
    refine ww_iald hX (pc := 21) (xs_51 hL) (by decide) (by omega) (by omega) dX11_want_21 ?_
    refine ww_toI (b := Ia 51 309) rfl ?_
    refine ww_bipush hX (pc := 22) (x := 16) dX11_want_22 (by decide) ?_
    refine ww_icmp_ne hX (pc := 24) (tgt := 34) dX11_want_24 (by decide) (fun h_24 => ?_) (fun h_24 => ?_)
    · simp only [w32_mod] at h_24
      refine ww_aload_n hX (pc := 34) dX11_want_34 rfl ?_
      refine ww_getR hX (pc := 35) fX11_20 (by decide) (xs_49 hL) (xr_49_3 hL) dX11_want_35 ?_
      refine ww_sipush hX (pc := 38) (x := 288) dX11_want_38 (by decide) ?_
      refine ww_aload_n hX (pc := 41) dX11_want_41 rfl ?_
      refine ww_getR hX (pc := 42) fX11_20 (by decide) (xs_49 hL) (xr_49_3 hL) dX11_want_42 ?_
      refine ww_sipush hX (pc := 45) (x := 309) dX11_want_45 (by decide) ?_
      refine ww_iald hX (pc := 48) (xs_51 hL) (by decide) (by omega) (by omega) dX11_want_48 ?_
      refine ww_toI (b := Ia 51 309) rfl ?_
      refine ww_iadd hX (pc := 49) dX11_want_49 ?_
      refine ww_iload_n hX (pc := 50) dX11_want_50 rfl ?_
      refine ww_iast hX (pc := 51) (xs_51 hL) (by decide) (by omega) (by omega) dX11_want_51 ?_
      refine ww_nmH (fun I_51 eI_51 => ?_)
      have kI_51 : Ch [50, 51] [0, 1] Ia I_51 := by rw [eI_51]; exact Ch_r Ch_rf (by decide) (by decide)
      have cI_51 : RX I_51 := by rw [eI_51]; exact RX_lo hQ (by omega)
      have qI_51 := RX_o cI_51
      have r304_I_51 : I_51 51 304 = Ia 51 304 := by rw [eI_51, up2_n _ _ (Or.inr (by omega))]
      have r305_I_51 : I_51 51 305 = Ia 51 305 := by rw [eI_51, up2_n _ _ (Or.inr (by omega))]
      have r309_I_51 : I_51 51 309 = Ia 51 309 := by rw [eI_51, up2_n _ _ (Or.inr (by omega))]
      have rf_I_51 : FU (I_51 51 304) = FU (Ia 51 304) := by rw [r304_I_51]
      refine ww_aload_n hX (pc := 52) dX11_want_52 rfl ?_
      refine ww_getR hX (pc := 53) fX11_20 (by decide) (xs_49 hL) (xr_49_3 hL) dX11_want_53 ?_
      refine ww_sipush hX (pc := 56) (x := 309) dX11_want_56 (by decide) ?_
      refine ww_dup2 hX (pc := 59) dX11_want_59 ?_
      refine ww_iald hX (pc := 60) (xs_51 hL) (by decide) (by omega) (by omega) dX11_want_60 ?_
      refine ww_toI (b := I_51 51 309) rfl ?_
      refine ww_iconst hX (pc := 61) (x := 1) dX11_want_61 rfl ?_
      refine ww_iadd hX (pc := 62) dX11_want_62 ?_
      refine ww_iast hX (pc := 63) (xs_51 hL) (by decide) (by omega) (by omega) dX11_want_63 ?_
      refine ww_nmH (fun I_63 eI_63 => ?_)
      have kI_63 : Ch [50, 51] [0, 1] Ia I_63 := by rw [eI_63]; exact Ch_r kI_51 (by decide) (by decide)
      have cI_63 : RX I_63 := by rw [eI_63]; exact RX_309 cI_51 (by omega) (by omega)
      have qI_63 := RX_o cI_63
      have r304_I_63 : I_63 51 304 = I_51 51 304 := by rw [eI_63, up2_n _ _ (Or.inr (by decide))]
      have r305_I_63 : I_63 51 305 = I_51 51 305 := by rw [eI_63, up2_n _ _ (Or.inr (by decide))]
      have rf_I_63 : FU (I_63 51 304) = FU (I_51 51 304) := by rw [r304_I_63]
      refine ww_aload_n hX (pc := 64) dX11_want_64 rfl ?_
      refine ww_aload_n hX (pc := 65) dX11_want_65 rfl ?_
      refine ww_getR hX (pc := 66) fX11_20 (by decide) (xs_49 hL) (xr_49_3 hL) dX11_want_66 ?_
      refine ww_sipush hX (pc := 69) (x := 309) dX11_want_69 (by decide) ?_
      refine ww_iald hX (pc := 72) (xs_51 hL) (by decide) (by omega) (by omega) dX11_want_72 ?_
      refine ww_toI (b := I_63 51 309) rfl ?_
      refine vI1 hX (pc := 73) sX11_109 (xs_49 hL) (c_X11_good l0 hL cI_63 ) (by decide) (Nat.le_refl 0) (Nat.le_refl 0) (Nat.le_of_ble_eq_true rfl) dX11_want_73 (fun x_73 I_73 J_73 h_73 => ?_)
      have kJ_73 : Kp 49 73 Ja J_73 := Kp_tr (Kp_rf (a := 49) (b := 73)) h_73.2.1
      have kI_73 : Ch [50, 51] [0, 1] Ia I_73 := Ch_tr kI_63 (Ch_wd h_73.1 (by decide) (by decide))
      have cI_73 : RX I_73 := h_73.2.2.1
      have qI_73 := RX_o cI_73
      have r304_I_73 : I_73 51 304 = I_63 51 304 := by rw [h_73.1.1 51 (by decide) (by decide)]
      have r305_I_73 : I_73 51 305 = I_63 51 305 := by rw [h_73.1.1 51 (by decide) (by decide)]
      have r309_I_73 : I_73 51 309 = I_63 51 309 := by rw [h_73.1.1 51 (by decide) (by decide)]
      have rf_I_73 : FU (I_73 51 304) = FU (I_63 51 304) := by rw [r304_I_73]
      refine rI hX (pc := 76) hT (Nat.le_refl 0) (Nat.le_refl 0) dX11_want_76 ?_
      exact ⟨kI_73, kJ_73, cI_73, trivial⟩
    · simp only [w32_mod] at h_24
      refine ww_aload_n hX (pc := 27) dX11_want_27 rfl ?_
      refine ww_bipush hX (pc := 28) (x := (-5)) dX11_want_28 (by decide) ?_
      refine vI1 hX (pc := 30) sX11_105 (xs_49 hL) (c_X11_refuses l0 hL hQ (by omega) (by omega)) (by decide) (Nat.le_refl 0) (Nat.le_refl 0) (Nat.le_of_ble_eq_true rfl) dX11_want_30 (fun x_30 I_30 J_30 h_30 => ?_)
      have kJ_30 : Kp 49 73 Ja J_30 := Kp_tr (Kp_rf (a := 49) (b := 73)) h_30.2.1
      have kI_30 : Ch [50, 51] [0, 1] Ia I_30 := Ch_tr Ch_rf (Ch_wd h_30.1 (by decide) (by decide))
      have cI_30 : RX I_30 := h_30.2.2.1
      have qI_30 := RX_o cI_30
      have r304_I_30 : I_30 51 304 = Ia 51 304 := by rw [h_30.1.1 51 (by decide) (by decide)]
      have r305_I_30 : I_30 51 305 = Ia 51 305 := by rw [h_30.1.1 51 (by decide) (by decide)]
      have r309_I_30 : I_30 51 309 = Ia 51 309 := by rw [h_30.1.1 51 (by decide) (by decide)]
      have rf_I_30 : FU (I_30 51 304) = FU (Ia 51 304) := by rw [r304_I_30]
      refine rI hX (pc := 33) hT (Nat.le_refl 0) (Nat.le_refl 0) dX11_want_33 ?_
      exact ⟨kI_30, kJ_30, cI_30, trivial⟩
  · simp only [w32_mod] at h_5
    refine ww_aload_n hX (pc := 8) dX11_want_8 rfl ?_
    refine ww_iconst hX (pc := 9) (x := (-1)) dX11_want_9 rfl ?_
    refine vI1 hX (pc := 10) sX11_105 (xs_49 hL) (c_X11_refuses l0 hL hQ (by omega) (by omega)) (by decide) (Nat.le_refl 0) (Nat.le_refl 0) (Nat.le_of_ble_eq_true rfl) dX11_want_10 (fun x_10 I_10 J_10 h_10 => ?_)
    have kJ_10 : Kp 49 73 Ja J_10 := Kp_tr (Kp_rf (a := 49) (b := 73)) h_10.2.1
    have kI_10 : Ch [50, 51] [0, 1] Ia I_10 := Ch_tr Ch_rf (Ch_wd h_10.1 (by decide) (by decide))
    have cI_10 : RX I_10 := h_10.2.2.1
    have qI_10 := RX_o cI_10
    have r304_I_10 : I_10 51 304 = Ia 51 304 := by rw [h_10.1.1 51 (by decide) (by decide)]
    have r305_I_10 : I_10 51 305 = Ia 51 305 := by rw [h_10.1.1 51 (by decide) (by decide)]
    have r309_I_10 : I_10 51 309 = Ia 51 309 := by rw [h_10.1.1 51 (by decide) (by decide)]
    have rf_I_10 : FU (I_10 51 304) = FU (Ia 51 304) := by rw [r304_I_10]
    refine rI hX (pc := 13) hT (Nat.le_refl 0) (Nat.le_refl 0) dX11_want_13 ?_
    exact ⟨kI_10, kJ_10, cI_10, trivial⟩
set_option maxHeartbeats 4000000 in
set_option maxRecDepth 20000 in
theorem c_X11_send (l0 : Launch) {Ia Ja : aI1} {Ra : aR1} {Sa : aS1} (hL : LY Ra Sa) (hQ : RX Ia) {a b : Int} (ha0 : -2147483648 ≤ a) (ha1 : a < 2147483648) (hb0 : -2147483648 ≤ b) (hb1 : b < 2147483648)  : CT l0 5 0 0 mX11_send [kR (some 49), kI a, kI b] Ia Ja Ra Sa (cI (fun x I' J' => Ch [50, 51, 61] [0, 1, 25] Ia I' ∧ Kp 49 73 Ja J' ∧ RX I' ∧ True) Ra Sa) := by
  refine ct_in pn_X11 (Nat.le_of_ble_eq_true rfl) (fun X hX hT hIn => ?_)
  have hX : aK l0 X cX11_send 5 RX11 (some .int) 5 0 0 := hX
  change WW X 0 [some (kR (some 49)), some (kI a), some (kI b), none, none] [] Ia Ja Ra Sa 0 0
  have qIa := RX_o hQ
  refine ww_aload_n hX (pc := 0) dX11_send_0 rfl ?_
  refine ww_iload_n hX (pc := 1) dX11_send_1 rfl ?_
  refine vI1 hX (pc := 2) sX11_123 (xs_49 hL) (c_X11_isNews l0 hL hQ (by omega) (by omega)) (by decide) (Nat.le_refl 0) (Nat.le_refl 0) (Nat.le_of_ble_eq_true rfl) dX11_send_2 (fun x_2 I_2 J_2 h_2 => ?_)
  obtain ⟨rfl, rfl, h_2⟩ := h_2
  refine ww_if_eq hX (pc := 5) (tgt := 15) dX11_send_5 (by decide) (fun h_5 => ?_) (fun h_5 => ?_)
  · simp only [w32_mod] at h_5
    refine ww_aload_n hX (pc := 15) dX11_send_15 rfl ?_
    refine ww_iconst hX (pc := 16) (x := (-1)) dX11_send_16 rfl ?_
    refine vI1 hX (pc := 17) sX11_105 (xs_49 hL) (c_X11_refuses l0 hL hQ (by omega) (by omega)) (by decide) (Nat.le_refl 0) (Nat.le_refl 0) (Nat.le_of_ble_eq_true rfl) dX11_send_17 (fun x_17 I_17 J_17 h_17 => ?_)
    have kJ_17 : Kp 49 73 Ja J_17 := Kp_tr (Kp_rf (a := 49) (b := 73)) h_17.2.1
    have kI_17 : Ch [50, 51, 61] [0, 1, 25] Ia I_17 := Ch_tr Ch_rf (Ch_wd h_17.1 (by decide) (by decide))
    have cI_17 : RX I_17 := h_17.2.2.1
    have qI_17 := RX_o cI_17
    have r304_I_17 : I_17 51 304 = Ia 51 304 := by rw [h_17.1.1 51 (by decide) (by decide)]
    have r305_I_17 : I_17 51 305 = Ia 51 305 := by rw [h_17.1.1 51 (by decide) (by decide)]
    have r307_I_17 : I_17 51 307 = Ia 51 307 := by rw [h_17.1.1 51 (by decide) (by decide)]
    have r308_I_17 : I_17 51 308 = Ia 51 308 := by rw [h_17.1.1 51 (by decide) (by decide)]
    have rf_I_17 : FU (I_17 51 304) = FU (Ia 51 304) := by rw [r304_I_17]
    refine rI hX (pc := 20) hT (Nat.le_refl 0) (Nat.le_refl 0) dX11_send_20 ?_
    exact ⟨kI_17, kJ_17, cI_17, trivial⟩
  · simp only [w32_mod] at h_5
    refine ww_iload_n hX (pc := 8) dX11_send_8 rfl ?_
    refine sI1 hX (pc := 9) sX11_308 (c_X11_isManner l0 (by omega) (by omega)) (by decide) (Nat.le_refl 0) (Nat.le_refl 0) (Nat.le_of_ble_eq_true rfl) dX11_send_9 (fun x_9 I_9 J_9 h_9 => ?_)
    obtain ⟨rfl, rfl, h_9⟩ := h_9
    refine ww_if_ne hX (pc := 12) (tgt := 21) dX11_send_12 (by decide) (fun h_12 => ?_) (fun h_12 => ?_)
    · simp only [w32_mod] at h_12
      refine ww_aload_n hX (pc := 21) dX11_send_21 rfl ?_
      refine vV0 hX (pc := 22) sX11_294 (xs_49 hL) (c_X11_looks l0 hL hQ ) (by decide) (Nat.le_refl 0) (Nat.le_refl 0) (Nat.le_of_ble_eq_true rfl) dX11_send_22 (fun I_22 J_22 h_22 => ?_)
      have kJ_22 : Kp 49 73 Ja J_22 := Kp_tr (Kp_rf (a := 49) (b := 73)) h_22.2.1
      have kI_22 : Ch [50, 51, 61] [0, 1, 25] Ia I_22 := Ch_tr Ch_rf (Ch_wd h_22.1 (by decide) (by decide))
      have cI_22 : RX I_22 := h_22.2.2.1
      have qI_22 := RX_o cI_22
      have r304_I_22 : I_22 51 304 = Ia 51 304 := by rw [h_22.1.1 51 (by decide) (by decide)]
      have r305_I_22 : I_22 51 305 = Ia 51 305 := by rw [h_22.1.1 51 (by decide) (by decide)]
      have r307_I_22 : I_22 51 307 = Ia 51 307 := by rw [h_22.1.1 51 (by decide) (by decide)]
      have r308_I_22 : I_22 51 308 = Ia 51 308 := by rw [h_22.1.1 51 (by decide) (by decide)]
      have rf_I_22 : FU (I_22 51 304) = FU (Ia 51 304) := by rw [r304_I_22]
      refine ww_aload_n hX (pc := 25) dX11_send_25 rfl ?_
      refine ww_aload_n hX (pc := 26) dX11_send_26 rfl ?_
      refine ww_getR hX (pc := 27) fX11_20 (by decide) (xs_49 hL) (xr_49_3 hL) dX11_send_27 ?_
      refine ww_sipush hX (pc := 30) (x := 307) dX11_send_30 (by decide) ?_
      refine ww_iald hX (pc := 33) (xs_51 hL) (by decide) (by omega) (by omega) dX11_send_33 ?_
      refine ww_toI (b := I_22 51 307) rfl ?_
      refine ww_iload_n hX (pc := 34) dX11_send_34 rfl ?_
      refine ww_iload_n hX (pc := 35) dX11_send_35 rfl ?_
      refine vI3 hX (pc := 36) sX11_311 (xs_49 hL) (c_X11_nextOf l0 hL cI_22 (by omega) (by omega)) (by decide) (Nat.le_refl 0) (Nat.le_refl 0) (Nat.le_of_ble_eq_true rfl) dX11_send_36 (fun x_36 I_36 J_36 h_36 => ?_)
      obtain ⟨rfl, rfl, h_36⟩ := h_36
      refine ww_istore_n hX (pc := 39) (lv' := [some (kR (some 49)), some (kI a), some (kI b), some (kI x_36), none]) dX11_send_39 (by decide) rfl rfl ?_
      refine ww_iload_n hX (pc := 40) dX11_send_40 rfl ?_
      refine ww_iconst hX (pc := 41) (x := (-1)) dX11_send_41 rfl ?_
      refine ww_icmp_ne hX (pc := 42) (tgt := 52) dX11_send_42 (by decide) (fun h_42 => ?_) (fun h_42 => ?_)
      · simp only [w32_mod] at h_42
        refine ww_aload_n hX (pc := 52) dX11_send_52 rfl ?_
        refine ww_getR hX (pc := 53) fX11_20 (by decide) (xs_49 hL) (xr_49_3 hL) dX11_send_53 ?_
        refine ww_sipush hX (pc := 56) (x := 308) dX11_send_56 (by decide) ?_
        refine ww_iald hX (pc := 59) (xs_51 hL) (by decide) (by omega) (by omega) dX11_send_59 ?_
        refine ww_toI (b := I_22 51 308) rfl ?_
        refine ww_bipush hX (pc := 60) (x := 24) dX11_send_60 (by decide) ?_
        refine ww_icmp_ne hX (pc := 62) (tgt := 72) dX11_send_62 (by decide) (fun h_62 => ?_) (fun h_62 => ?_)
        · simp only [w32_mod] at h_62
          refine ww_iload_n hX (pc := 72) dX11_send_72 rfl ?_
          refine sI1 hX (pc := 73) sX11_259 (c_X11_ones l0 ) (by decide) (Nat.le_refl 0) (Nat.le_refl 0) (Nat.le_of_ble_eq_true rfl) dX11_send_73 (fun x_73 I_73 J_73 h_73 => ?_)
          obtain ⟨rfl, rfl, h_73⟩ := h_73
          refine ww_aload_n hX (pc := 76) dX11_send_76 rfl ?_
          refine ww_getR hX (pc := 77) fX11_20 (by decide) (xs_49 hL) (xr_49_3 hL) dX11_send_77 ?_
          refine ww_sipush hX (pc := 80) (x := 307) dX11_send_80 (by decide) ?_
          refine ww_iald hX (pc := 83) (xs_51 hL) (by decide) (by omega) (by omega) dX11_send_83 ?_
          refine ww_toI (b := I_22 51 307) rfl ?_
          refine sI1 hX (pc := 84) sX11_259 (c_X11_ones l0 ) (by decide) (Nat.le_refl 0) (Nat.le_refl 0) (Nat.le_of_ble_eq_true rfl) dX11_send_84 (fun x_84 I_84 J_84 h_84 => ?_)
          obtain ⟨rfl, rfl, h_84⟩ := h_84
          refine ww_isub hX (pc := 87) dX11_send_87 ?_
          refine ww_nmI (fun v_88 hv_88 => ?_)
          refine ww_istore hX (pc := 88) (lv' := [some (kR (some 49)), some (kI a), some (kI b), some (kI x_36), some (kI v_88)]) dX11_send_88 (by decide) rfl rfl ?_
          refine ww_aload_n hX (pc := 90) dX11_send_90 rfl ?_
          refine ww_getR hX (pc := 91) fX11_20 (by decide) (xs_49 hL) (xr_49_3 hL) dX11_send_91 ?_
          refine ww_sipush hX (pc := 94) (x := 307) dX11_send_94 (by decide) ?_
          refine ww_iload_n hX (pc := 97) dX11_send_97 rfl ?_
          refine ww_iast hX (pc := 98) (xs_51 hL) (by decide) (by omega) (by omega) dX11_send_98 ?_
          refine ww_nmH (fun I_98 eI_98 => ?_)
          have kI_98 : Ch [50, 51, 61] [0, 1, 25] Ia I_98 := by rw [eI_98]; exact Ch_r kI_22 (by decide) (by decide)
          have cI_98 : RX I_98 := by rw [eI_98]; exact RX_307 cI_22 (by omega) (by omega)
          have qI_98 := RX_o cI_98
          have r304_I_98 : I_98 51 304 = I_22 51 304 := by rw [eI_98, up2_n _ _ (Or.inr (by decide))]
          have r305_I_98 : I_98 51 305 = I_22 51 305 := by rw [eI_98, up2_n _ _ (Or.inr (by decide))]
          have r308_I_98 : I_98 51 308 = I_22 51 308 := by rw [eI_98, up2_n _ _ (Or.inr (by decide))]
          have rf_I_98 : FU (I_98 51 304) = FU (I_22 51 304) := by rw [r304_I_98]
          refine ww_aload_n hX (pc := 99) dX11_send_99 rfl ?_
          refine ww_getR hX (pc := 100) fX11_20 (by decide) (xs_49 hL) (xr_49_3 hL) dX11_send_100 ?_
          refine ww_sipush hX (pc := 103) (x := 264) dX11_send_103 (by decide) ?_
          refine ww_aload_n hX (pc := 106) dX11_send_106 rfl ?_
          refine ww_getR hX (pc := 107) fX11_20 (by decide) (xs_49 hL) (xr_49_3 hL) dX11_send_107 ?_
          refine ww_sipush hX (pc := 110) (x := 308) dX11_send_110 (by decide) ?_
          refine ww_iald hX (pc := 113) (xs_51 hL) (by decide) (by omega) (by omega) dX11_send_113 ?_
          refine ww_toI (b := I_98 51 308) rfl ?_
          refine ww_iadd hX (pc := 114) dX11_send_114 ?_
          refine ww_iload_n hX (pc := 115) dX11_send_115 rfl ?_
          refine ww_iast hX (pc := 116) (xs_51 hL) (by decide) (by omega) (by omega) dX11_send_116 ?_
          refine ww_nmH (fun I_116 eI_116 => ?_)
          have kI_116 : Ch [50, 51, 61] [0, 1, 25] Ia I_116 := by rw [eI_116]; exact Ch_r kI_98 (by decide) (by decide)
          have cI_116 : RX I_116 := by rw [eI_116]; exact RX_lo cI_98 (by omega)
          have qI_116 := RX_o cI_116
          have r304_I_116 : I_116 51 304 = I_98 51 304 := by rw [eI_116, up2_n _ _ (Or.inr (by omega))]
          have r305_I_116 : I_116 51 305 = I_98 51 305 := by rw [eI_116, up2_n _ _ (Or.inr (by omega))]
          have r307_I_116 : I_116 51 307 = I_98 51 307 := by rw [eI_116, up2_n _ _ (Or.inr (by omega))]
          have r308_I_116 : I_116 51 308 = I_98 51 308 := by rw [eI_116, up2_n _ _ (Or.inr (by omega))]
          have rf_I_116 : FU (I_116 51 304) = FU (I_98 51 304) := by rw [r304_I_116]
          refine ww_aload_n hX (pc := 117) dX11_send_117 rfl ?_
          refine ww_getR hX (pc := 118) fX11_20 (by decide) (xs_49 hL) (xr_49_3 hL) dX11_send_118 ?_
          refine ww_sipush hX (pc := 121) (x := 308) dX11_send_121 (by decide) ?_
          refine ww_dup2 hX (pc := 124) dX11_send_124 ?_
          refine ww_iald hX (pc := 125) (xs_51 hL) (by decide) (by omega) (by omega) dX11_send_125 ?_
          refine ww_toI (b := I_116 51 308) rfl ?_
          refine ww_iconst hX (pc := 126) (x := 1) dX11_send_126 rfl ?_
          refine ww_iadd hX (pc := 127) dX11_send_127 ?_
          refine ww_iast hX (pc := 128) (xs_51 hL) (by decide) (by omega) (by omega) dX11_send_128 ?_
          refine ww_nmH (fun I_128 eI_128 => ?_)
          have kI_128 : Ch [50, 51, 61] [0, 1, 25] Ia I_128 := by rw [eI_128]; exact Ch_r kI_116 (by decide) (by decide)
          have cI_128 : RX I_128 := by rw [eI_128]; exact RX_308 cI_116 (by omega) (by omega)
          have qI_128 := RX_o cI_128
          have r304_I_128 : I_128 51 304 = I_116 51 304 := by rw [eI_128, up2_n _ _ (Or.inr (by decide))]
          have r305_I_128 : I_128 51 305 = I_116 51 305 := by rw [eI_128, up2_n _ _ (Or.inr (by decide))]
          have r307_I_128 : I_128 51 307 = I_116 51 307 := by rw [eI_128, up2_n _ _ (Or.inr (by decide))]
          have rf_I_128 : FU (I_128 51 304) = FU (I_116 51 304) := by rw [r304_I_128]
          refine ww_aload_n hX (pc := 129) dX11_send_129 rfl ?_
          refine ww_iload hX (pc := 130) dX11_send_130 rfl ?_
          refine vI1 hX (pc := 132) sX11_109 (xs_49 hL) (c_X11_good l0 hL cI_128 ) (by decide) (Nat.le_refl 0) (Nat.le_refl 0) (Nat.le_of_ble_eq_true rfl) dX11_send_132 (fun x_132 I_132 J_132 h_132 => ?_)
          have kJ_132 : Kp 49 73 Ja J_132 := Kp_tr kJ_22 h_132.2.1
          have kI_132 : Ch [50, 51, 61] [0, 1, 25] Ia I_132 := Ch_tr kI_128 (Ch_wd h_132.1 (by decide) (by decide))
          have cI_132 : RX I_132 := h_132.2.2.1
          have qI_132 := RX_o cI_132
          have r304_I_132 : I_132 51 304 = I_128 51 304 := by rw [h_132.1.1 51 (by decide) (by decide)]
          have r305_I_132 : I_132 51 305 = I_128 51 305 := by rw [h_132.1.1 51 (by decide) (by decide)]
          have r307_I_132 : I_132 51 307 = I_128 51 307 := by rw [h_132.1.1 51 (by decide) (by decide)]
          have r308_I_132 : I_132 51 308 = I_128 51 308 := by rw [h_132.1.1 51 (by decide) (by decide)]
          have rf_I_132 : FU (I_132 51 304) = FU (I_128 51 304) := by rw [r304_I_132]
          refine rI hX (pc := 135) hT (Nat.le_refl 0) (Nat.le_refl 0) dX11_send_135 ?_
          exact ⟨kI_132, kJ_132, cI_132, trivial⟩
        · simp only [w32_mod] at h_62
          refine ww_aload_n hX (pc := 65) dX11_send_65 rfl ?_
          refine ww_bipush hX (pc := 66) (x := (-5)) dX11_send_66 (by decide) ?_
          refine vI1 hX (pc := 68) sX11_105 (xs_49 hL) (c_X11_refuses l0 hL cI_22 (by omega) (by omega)) (by decide) (Nat.le_refl 0) (Nat.le_refl 0) (Nat.le_of_ble_eq_true rfl) dX11_send_68 (fun x_68 I_68 J_68 h_68 => ?_)
          have kJ_68 : Kp 49 73 Ja J_68 := Kp_tr kJ_22 h_68.2.1
          have kI_68 : Ch [50, 51, 61] [0, 1, 25] Ia I_68 := Ch_tr kI_22 (Ch_wd h_68.1 (by decide) (by decide))
          have cI_68 : RX I_68 := h_68.2.2.1
          have qI_68 := RX_o cI_68
          have r304_I_68 : I_68 51 304 = I_22 51 304 := by rw [h_68.1.1 51 (by decide) (by decide)]
          have r305_I_68 : I_68 51 305 = I_22 51 305 := by rw [h_68.1.1 51 (by decide) (by decide)]
          have r307_I_68 : I_68 51 307 = I_22 51 307 := by rw [h_68.1.1 51 (by decide) (by decide)]
          have r308_I_68 : I_68 51 308 = I_22 51 308 := by rw [h_68.1.1 51 (by decide) (by decide)]
          have rf_I_68 : FU (I_68 51 304) = FU (I_22 51 304) := by rw [r304_I_68]
          refine rI hX (pc := 71) hT (Nat.le_refl 0) (Nat.le_refl 0) dX11_send_71 ?_
          exact ⟨kI_68, kJ_68, cI_68, trivial⟩
      · simp only [w32_mod] at h_42
        refine ww_aload_n hX (pc := 45) dX11_send_45 rfl ?_
        refine ww_bipush hX (pc := 46) (x := (-3)) dX11_send_46 (by decide) ?_
        refine vI1 hX (pc := 48) sX11_105 (xs_49 hL) (c_X11_refuses l0 hL cI_22 (by omega) (by omega)) (by decide) (Nat.le_refl 0) (Nat.le_refl 0) (Nat.le_of_ble_eq_true rfl) dX11_send_48 (fun x_48 I_48 J_48 h_48 => ?_)
        have kJ_48 : Kp 49 73 Ja J_48 := Kp_tr kJ_22 h_48.2.1
        have kI_48 : Ch [50, 51, 61] [0, 1, 25] Ia I_48 := Ch_tr kI_22 (Ch_wd h_48.1 (by decide) (by decide))
        have cI_48 : RX I_48 := h_48.2.2.1
        have qI_48 := RX_o cI_48
        have r304_I_48 : I_48 51 304 = I_22 51 304 := by rw [h_48.1.1 51 (by decide) (by decide)]
        have r305_I_48 : I_48 51 305 = I_22 51 305 := by rw [h_48.1.1 51 (by decide) (by decide)]
        have r307_I_48 : I_48 51 307 = I_22 51 307 := by rw [h_48.1.1 51 (by decide) (by decide)]
        have r308_I_48 : I_48 51 308 = I_22 51 308 := by rw [h_48.1.1 51 (by decide) (by decide)]
        have rf_I_48 : FU (I_48 51 304) = FU (I_22 51 304) := by rw [r304_I_48]
        refine rI hX (pc := 51) hT (Nat.le_refl 0) (Nat.le_refl 0) dX11_send_51 ?_
        exact ⟨kI_48, kJ_48, cI_48, trivial⟩
    · simp only [w32_mod] at h_12
      refine ww_aload_n hX (pc := 15) dX11_send_15 rfl ?_
      refine ww_iconst hX (pc := 16) (x := (-1)) dX11_send_16 rfl ?_
      refine vI1 hX (pc := 17) sX11_105 (xs_49 hL) (c_X11_refuses l0 hL hQ (by omega) (by omega)) (by decide) (Nat.le_refl 0) (Nat.le_refl 0) (Nat.le_of_ble_eq_true rfl) dX11_send_17 (fun x_17 I_17 J_17 h_17 => ?_)
      have kJ_17 : Kp 49 73 Ja J_17 := Kp_tr (Kp_rf (a := 49) (b := 73)) h_17.2.1
      have kI_17 : Ch [50, 51, 61] [0, 1, 25] Ia I_17 := Ch_tr Ch_rf (Ch_wd h_17.1 (by decide) (by decide))
      have cI_17 : RX I_17 := h_17.2.2.1
      have qI_17 := RX_o cI_17
      have r304_I_17 : I_17 51 304 = Ia 51 304 := by rw [h_17.1.1 51 (by decide) (by decide)]
      have r305_I_17 : I_17 51 305 = Ia 51 305 := by rw [h_17.1.1 51 (by decide) (by decide)]
      have r307_I_17 : I_17 51 307 = Ia 51 307 := by rw [h_17.1.1 51 (by decide) (by decide)]
      have r308_I_17 : I_17 51 308 = Ia 51 308 := by rw [h_17.1.1 51 (by decide) (by decide)]
      have rf_I_17 : FU (I_17 51 304) = FU (Ia 51 304) := by rw [r304_I_17]
      refine rI hX (pc := 20) hT (Nat.le_refl 0) (Nat.le_refl 0) dX11_send_20 ?_
      exact ⟨kI_17, kJ_17, cI_17, trivial⟩
