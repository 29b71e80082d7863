set_option maxHeartbeats 4000000 in
set_option maxRecDepth 20000 in
theorem c_X10_maybe (l0 : Launch) {Ia Ja : aI1} {Ra : aR1} {Sa : aS1} (hL : LY Ra Sa) (hC : CX Ia) {a b : Int} (ha0 : -2147483648 ≤ a) (ha1 : a < 2147483648) (hb0 : -2147483648 ≤ b) (hb1 : b < 2147483648)  : CT l0 10 0 0 mX10_maybe [kR (some 0), kI a, kI b] Ia Ja Ra Sa (cI (fun x I' J' => Kp 0 49 Ia I' ∧ Kp 0 49 Ja J' ∧ CX I') Ra Sa) := by
  refine ct_in pn_X10 (Nat.le_of_ble_eq_true rfl) (fun X hX hT hIn => ?_)
  have hX : aK l0 X cX10_maybe 6 RX10 (some .int) 10 0 0 := hX
  change WW X 0 [some (kR (some 0)), some (kI a), some (kI b), none, none, none] [] Ia Ja Ra Sa 0 0
  have hI := hC.1
  have hq := XI_o hI
  refine ww_aload_n hX (pc := 0) dX10_maybe_0 rfl ?_
  refine ww_getR hX (pc := 1) fX10_10 (by decide) (xs_0 hL) (xr_0_0 hL) dX10_maybe_1 ?_
  refine ww_iload_n hX (pc := 4) dX10_maybe_4 rfl ?_
  refine vI1 hX (pc := 5) sX10_131 (xs_1 hL) (c_X1_isState l0 hL hC.1 (by omega)) (by decide) (Nat.le_refl 0) (Nat.le_refl 0) (Nat.le_of_ble_eq_true rfl) dX10_maybe_5 (fun x_5 I_5 J_5 h_5 => ?_)
  obtain ⟨rfl, rfl, h_5⟩ := h_5
  refine ww_if_eq hX (pc := 8) (tgt := 21) dX10_maybe_8 (by decide) (fun h_8 => ?_) (fun h_8 => ?_)
  · simp only [w32_mod] at h_8
    refine ww_iconst hX (pc := 21) (x := (-1)) dX10_maybe_21 rfl ?_
    refine rI hX (pc := 22) hT (Nat.le_refl 0) (Nat.le_refl 0) dX10_maybe_22 ?_
    exact ⟨(Kp_rf (a := 0) (b := 49)), (Kp_rf (a := 0) (b := 49)), hC⟩
  · simp only [w32_mod] at h_8
    refine ww_iload_n hX (pc := 11) dX10_maybe_11 rfl ?_
    refine ww_if_lt hX (pc := 12) (tgt := 21) dX10_maybe_12 (by decide) (fun h_12 => ?_) (fun h_12 => ?_)
    · simp only [w32_mod] at h_12
      refine ww_iconst hX (pc := 21) (x := (-1)) dX10_maybe_21 rfl ?_
      refine rI hX (pc := 22) hT (Nat.le_refl 0) (Nat.le_refl 0) dX10_maybe_22 ?_
      exact ⟨(Kp_rf (a := 0) (b := 49)), (Kp_rf (a := 0) (b := 49)), hC⟩
    · simp only [w32_mod] at h_12
      refine ww_iload_n hX (pc := 15) dX10_maybe_15 rfl ?_
      refine ww_bipush hX (pc := 16) (x := 8) dX10_maybe_16 (by decide) ?_
      refine ww_icmp_le hX (pc := 18) (tgt := 23) dX10_maybe_18 (by decide) (fun h_18 => ?_) (fun h_18 => ?_)
      · simp only [w32_mod] at h_18
        refine ww_iconst hX (pc := 23) (x := 0) dX10_maybe_23 rfl ?_
        refine ww_istore_n hX (pc := 24) (lv' := [some (kR (some 0)), some (kI a), some (kI b), some (kI 0), none, none]) dX10_maybe_24 (by decide) rfl rfl ?_
        refine ww_aload_n hX (pc := 25) dX10_maybe_25 rfl ?_
        refine ww_getR hX (pc := 26) fX10_10 (by decide) (xs_0 hL) (xr_0_0 hL) dX10_maybe_26 ?_
        refine vI0 hX (pc := 29) sX10_151 (xs_1 hL) (c_X1_full l0 hL hC.1) (by decide) (Nat.le_refl 0) (Nat.le_refl 0) (Nat.le_of_ble_eq_true rfl) dX10_maybe_29 (fun x_29 I_29 J_29 h_29 => ?_)
        obtain ⟨rfl, rfl, h_29⟩ := h_29
        refine ww_istore hX (pc := 32) (lv' := [some (kR (some 0)), some (kI a), some (kI b), some (kI 0), some (kI x_29), none]) dX10_maybe_32 (by decide) rfl rfl ?_
        refine ww_iload_n hX (pc := 34) dX10_maybe_34 rfl ?_
        refine ww_istore hX (pc := 35) (lv' := [some (kR (some 0)), some (kI a), some (kI b), some (kI 0), some (kI x_29), some (kI a)]) dX10_maybe_35 (by decide) rfl rfl ?_
        have hl_37 : ∀ (n_37 : Nat) (g : Int) (to : Int), (x_29 + 1 - to).toNat = n_37 → (0 ≤ to ∧ to < 2147483648) → WW X 37 [some (kR (some 0)), some (kI a), some (kI b), some (kI g), some (kI x_29), some (kI to)] [] Ia Ja Ra Sa 0 0 := by
          intro n_37
          induction n_37 using Nat.strongRecOn with
          | ind n_37 ih_37 =>
            intro g to hm_37 hv_37
            obtain ⟨hto0, hto1⟩ := hv_37
            refine ww_iload hX (pc := 37) dX10_maybe_37 rfl ?_
            refine ww_iload hX (pc := 39) dX10_maybe_39 rfl ?_
            refine ww_icmp_gt hX (pc := 41) (tgt := 78) dX10_maybe_41 (by decide) (fun h_41 => ?_) (fun h_41 => ?_)
            · simp only [w32_mod] at h_41
              refine ww_iload_n hX (pc := 78) dX10_maybe_78 rfl ?_
              refine rI hX (pc := 79) hT (Nat.le_refl 0) (Nat.le_refl 0) dX10_maybe_79 ?_
              exact ⟨(Kp_rf (a := 0) (b := 49)), (Kp_rf (a := 0) (b := 49)), hC⟩
            · simp only [w32_mod] at h_41
              refine ww_iload hX (pc := 44) dX10_maybe_44 rfl ?_
              refine ww_iload_n hX (pc := 46) dX10_maybe_46 rfl ?_
              refine ww_ixor hX (pc := 47) dX10_maybe_47 ?_
              refine sI1 hX (pc := 48) sX10_242 (c_J6_bitCount_0f7a4 l0) (by decide) (Nat.le_refl 0) (Nat.le_refl 0) (Nat.le_of_ble_eq_true rfl) dX10_maybe_48 (fun x_48 I_48 J_48 h_48 => ?_)
              obtain ⟨rfl, rfl, h_48⟩ := h_48
              refine ww_iload_n hX (pc := 51) dX10_maybe_51 rfl ?_
              refine ww_icmp_gt hX (pc := 52) (tgt := 67) dX10_maybe_52 (by decide) (fun h_52 => ?_) (fun h_52 => ?_)
              · simp only [w32_mod] at h_52
                refine ww_iload hX (pc := 67) dX10_maybe_67 rfl ?_
                refine ww_iconst hX (pc := 69) (x := 1) dX10_maybe_69 rfl ?_
                refine ww_iadd hX (pc := 70) dX10_maybe_70 ?_
                refine ww_iload_n hX (pc := 71) dX10_maybe_71 rfl ?_
                refine ww_ior hX (pc := 72) dX10_maybe_72 ?_
                refine ww_nmI (fun v_73 hv_73 => ?_)
                refine ww_istore hX (pc := 73) (lv' := [some (kR (some 0)), some (kI a), some (kI b), some (kI g), some (kI x_29), some (kI v_73)]) dX10_maybe_73 (by decide) rfl rfl ?_
                refine ww_goto hX (pc := 75) (tgt := 37) dX10_maybe_75 (by decide) ?_
                have hor := i_or_ge (a := to + 1) (b := a) (by omega) (by omega) (by omega) (by omega)
                exact ih_37 _ (by omega) g v_73 rfl ⟨by omega, by omega⟩
              · simp only [w32_mod] at h_52
                refine ww_iload_n hX (pc := 55) dX10_maybe_55 rfl ?_
                refine ww_aload_n hX (pc := 56) dX10_maybe_56 rfl ?_
                refine ww_getR hX (pc := 57) fX10_10 (by decide) (xs_0 hL) (xr_0_0 hL) dX10_maybe_57 ?_
                refine ww_iload hX (pc := 60) dX10_maybe_60 rfl ?_
                refine vI1 hX (pc := 62) sX10_269 (xs_1 hL) (c_X1_newsBit l0 hL hC.1 (by omega) (by omega)) (by decide) (Nat.le_refl 0) (Nat.le_refl 0) (Nat.le_of_ble_eq_true rfl) dX10_maybe_62 (fun x_62 I_62 J_62 h_62 => ?_)
                obtain ⟨rfl, rfl, h_62⟩ := h_62
                refine ww_ior hX (pc := 65) dX10_maybe_65 ?_
                refine ww_nmI (fun v_66 hv_66 => ?_)
                refine ww_istore_n hX (pc := 66) (lv' := [some (kR (some 0)), some (kI a), some (kI b), some (kI v_66), some (kI x_29), some (kI to)]) dX10_maybe_66 (by decide) rfl rfl ?_
                refine ww_iload hX (pc := 67) dX10_maybe_67 rfl ?_
                refine ww_iconst hX (pc := 69) (x := 1) dX10_maybe_69 rfl ?_
                refine ww_iadd hX (pc := 70) dX10_maybe_70 ?_
                refine ww_iload_n hX (pc := 71) dX10_maybe_71 rfl ?_
                refine ww_ior hX (pc := 72) dX10_maybe_72 ?_
                refine ww_nmI (fun v_73 hv_73 => ?_)
                refine ww_istore hX (pc := 73) (lv' := [some (kR (some 0)), some (kI a), some (kI b), some (kI v_66), some (kI x_29), some (kI v_73)]) dX10_maybe_73 (by decide) rfl rfl ?_
                refine ww_goto hX (pc := 75) (tgt := 37) dX10_maybe_75 (by decide) ?_
                have hor := i_or_ge (a := to + 1) (b := a) (by omega) (by omega) (by omega) (by omega)
                exact ih_37 _ (by omega) v_66 v_73 rfl ⟨by omega, by omega⟩
        exact hl_37 _ 0 a rfl ⟨by omega, by omega⟩
      · simp only [w32_mod] at h_18
        refine ww_iconst hX (pc := 21) (x := (-1)) dX10_maybe_21 rfl ?_
        refine rI hX (pc := 22) hT (Nat.le_refl 0) (Nat.le_refl 0) dX10_maybe_22 ?_
        exact ⟨(Kp_rf (a := 0) (b := 49)), (Kp_rf (a := 0) (b := 49)), hC⟩
theorem l_rem_v {a b : Int} (ha : 0 ≤ a) (ha2 : a < 4611686018427387904) (hb : 0 < b) (hb2 : b < 4611686018427387904) : l_rem a b = a % b := by
  have e1 : (Int64.ofInt a).toInt = a := Int64.toInt_ofInt_of_le (by omega) (by omega)
  have e2 : (Int64.ofInt b).toInt = b := Int64.toInt_ofInt_of_le (by omega) (by omega)
  have h1 : 0 ≤ a / b := Int.ediv_nonneg ha (by omega)
  have h2 : a / b ≤ a := Int.ediv_le_self b ha
  have h3 : a / b * b = a - a % b := by have := Int.mul_ediv_add_emod a b; rw [Int.mul_comm] at this; omega
  have h4 := Int.emod_nonneg a (show b ≠ 0 by omega)
  have h5 := Int.emod_lt_of_pos a hb
  unfold l_rem
  rw [Int64.toInt_sub, Int64.toInt_mul, Int64.toInt_div, e1, e2, Int.tdiv_eq_ediv_of_nonneg ha]
  rw [show (a / b).bmod (2 ^ 64) = a / b from Int.bmod_eq_of_le (by omega) (by omega), h3]
  rw [show (a - a % b).bmod (2 ^ 64) = a - a % b from Int.bmod_eq_of_le (by omega) (by omega)]
  rw [show a - (a - a % b) = a % b by omega]
  exact Int.bmod_eq_of_le (by omega) (by omega)
set_option maxHeartbeats 4000000 in
set_option maxRecDepth 20000 in
theorem c_X10_drawNight (l0 : Launch) {Ia Ja : aI1} {Ra : aR1} {Sa : aS1} (hL : LY Ra Sa) (hC : CX Ia) {a b c : Int} (ha0 : 0 ≤ a) (ha1 : a ≤ 2147483647) (hb0 : 0 ≤ b) (hb1 : b ≤ 24)  : CT l0 10 0 0 mX10_drawNight [kR (some 0), kI a, kI b, kI c] Ia Ja Ra Sa (cV (fun I' J' => Kp 0 49 Ia I' ∧ Kp 0 49 Ja J' ∧ CX I') Ra Sa) := by
  refine ct_in pn_X10 (Nat.le_of_ble_eq_true rfl) (fun X hX hT hIn => ?_)
  have hX : aK l0 X cX10_drawNight 10 RX10 none 10 0 0 := hX
  change WW X 0 [some (kR (some 0)), some (kI a), some (kI b), some (kI c), none, none, none, none, none, none] [] Ia Ja Ra Sa 0 0
  have hI := hC.1
  have hq := XI_o hI
  refine ww_aload_n hX (pc := 0) dX10_drawNight_0 rfl ?_
  refine ww_getR hX (pc := 1) fX10_48 (by decide) (xs_0 hL) (xr_0_5 hL) dX10_drawNight_1 ?_
  refine ww_iload_n hX (pc := 4) dX10_drawNight_4 rfl ?_
  refine vV1 hX (pc := 5) sX10_191 (xs_18 hL) (c_X4_prepare l0 hL hC.1) (by decide) (Nat.le_refl 0) (Nat.le_refl 0) (Nat.le_of_ble_eq_true rfl) dX10_drawNight_5 (fun I_5 J_5 h_5 => ?_)
  have kI_5 : Kp 0 49 Ia I_5 := Kp_tr (Kp_rf (a := 0) (b := 49)) (Kp_wd h_5.1 (by decide) (by decide))
  have kJ_5 : Kp 0 49 Ja J_5 := Kp_tr (Kp_rf (a := 0) (b := 49)) (Kp_wd h_5.2.1 (by decide) (by decide))
  have cI_5 : CX I_5 := CX_kp hC h_5.1 (by decide) (by decide)
  have qI_5 := XI_o cI_5.1
  have r5_I_5 : I_5 1 5 = Ia 1 5 := by rw [h_5.1 1 (by decide)]
  have r6_I_5 : I_5 1 6 = Ia 1 6 := by rw [h_5.1 1 (by decide)]
  have r8_I_5 : I_5 1 8 = Ia 1 8 := by rw [h_5.1 1 (by decide)]
  have r9_I_5 : I_5 1 9 = Ia 1 9 := by rw [h_5.1 1 (by decide)]
  have r10_I_5 : I_5 1 10 = Ia 1 10 := by rw [h_5.1 1 (by decide)]
  have r11_I_5 : I_5 1 11 = Ia 1 11 := by rw [h_5.1 1 (by decide)]
  have rf_I_5 : FU (I_5 1 5) = FU (Ia 1 5) := by rw [r5_I_5]
  refine ww_iload_n hX (pc := 8) dX10_drawNight_8 rfl ?_
  refine ww_i2l hX (pc := 9) dX10_drawNight_9 ?_
  refine ww_toL (b := a) (w32_id (by omega) (by omega)) ?_
  refine ww_nmL (fun v_10 hv_10 => ?_)
  refine ww_lstore hX (pc := 10) (lv' := [some (kR (some 0)), some (kI a), some (kI b), some (kI c), some (kL v_10), none, none, none, none, none]) dX10_drawNight_10 (by decide) rfl rfl ?_
  refine ww_iconst hX (pc := 12) (x := 0) dX10_drawNight_12 rfl ?_
  refine ww_istore hX (pc := 13) (lv' := [some (kR (some 0)), some (kI a), some (kI b), some (kI c), some (kL v_10), none, some (kI 0), none, none, none]) dX10_drawNight_13 (by decide) rfl rfl ?_
  refine ww_aload_n hX (pc := 15) dX10_drawNight_15 rfl ?_
  refine ww_iconst hX (pc := 16) (x := 0) dX10_drawNight_16 rfl ?_
  refine ww_putI hX (pc := 17) (fun h9 => absurd h9 (by decide)) gX10_298 rfl (xs_0 hL) dX10_drawNight_17 ?_
  refine ww_nmH (fun I_17 eI_17 => ?_)
  have kI_17 : Kp 0 49 Ia I_17 := by rw [eI_17]; exact Kp_up kI_5 _ _ (by decide)
  have cI_17 : CX I_17 := by rw [eI_17]; exact CX_x cI_5 (XI_0_13 cI_5.1 (by omega) (by omega)) (by decide)
  have qI_17 := XI_o cI_17.1
  have r5_I_17 : I_17 1 5 = I_5 1 5 := by rw [eI_17, up2_off _ _ _ (by decide)]
  have r6_I_17 : I_17 1 6 = I_5 1 6 := by rw [eI_17, up2_off _ _ _ (by decide)]
  have r8_I_17 : I_17 1 8 = I_5 1 8 := by rw [eI_17, up2_off _ _ _ (by decide)]
  have r9_I_17 : I_17 1 9 = I_5 1 9 := by rw [eI_17, up2_off _ _ _ (by decide)]
  have r10_I_17 : I_17 1 10 = I_5 1 10 := by rw [eI_17, up2_off _ _ _ (by decide)]
  have r11_I_17 : I_17 1 11 = I_5 1 11 := by rw [eI_17, up2_off _ _ _ (by decide)]
  have rf_I_17 : FU (I_17 1 5) = FU (I_5 1 5) := by rw [r5_I_17]
  refine ww_aload_n hX (pc := 20) dX10_drawNight_20 rfl ?_
  refine ww_iconst hX (pc := 21) (x := (-1)) dX10_drawNight_21 rfl ?_
  refine ww_putI hX (pc := 22) (fun h9 => absurd h9 (by decide)) gX10_85 rfl (xs_0 hL) dX10_drawNight_22 ?_
  refine ww_nmH (fun I_22 eI_22 => ?_)
  have kI_22 : Kp 0 49 Ia I_22 := by rw [eI_22]; exact Kp_up kI_17 _ _ (by decide)
  have cI_22 : CX I_22 := by rw [eI_22]; exact CX_x cI_17 (XI_0 cI_17.1 (by decide)) (by decide)
  have qI_22 := XI_o cI_22.1
  have r5_I_22 : I_22 1 5 = I_17 1 5 := by rw [eI_22, up2_off _ _ _ (by decide)]
  have r6_I_22 : I_22 1 6 = I_17 1 6 := by rw [eI_22, up2_off _ _ _ (by decide)]
  have r8_I_22 : I_22 1 8 = I_17 1 8 := by rw [eI_22, up2_off _ _ _ (by decide)]
  have r9_I_22 : I_22 1 9 = I_17 1 9 := by rw [eI_22, up2_off _ _ _ (by decide)]
  have r10_I_22 : I_22 1 10 = I_17 1 10 := by rw [eI_22, up2_off _ _ _ (by decide)]
  have r11_I_22 : I_22 1 11 = I_17 1 11 := by rw [eI_22, up2_off _ _ _ (by decide)]
  have rf_I_22 : FU (I_22 1 5) = FU (I_17 1 5) := by rw [r5_I_22]
  refine ww_iconst hX (pc := 25) (x := 0) dX10_drawNight_25 rfl ?_
  refine ww_istore hX (pc := 26) (lv' := [some (kR (some 0)), some (kI a), some (kI b), some (kI c), some (kL v_10), none, some (kI 0), some (kI 0), none, none]) dX10_drawNight_26 (by decide) rfl rfl ?_
  have hl_28 : ∀ (n_28 : Nat) (rr : Int) (sn : Int) (i : Int) (I2 : aI1) (J2 : aI1), (b - i).toNat = n_28 → (Kp 0 49 Ia I2 ∧ Kp 0 49 Ja J2 ∧ CX I2 ∧ (I2 1 5 = I_22 1 5 ∧ I2 1 6 = I_22 1 6) ∧ ((0 ≤ i ∧ i ≤ b) ∧ (0 ≤ sn ∧ sn ≤ FU (I2 1 5)) ∧ (0 ≤ rr ∧ rr ≤ 2147483647))) → WW X 28 [some (kR (some 0)), some (kI a), some (kI b), some (kI c), some (kL rr), none, some (kI sn), some (kI i), none, none] [] I2 J2 Ra Sa 0 0 := by
    intro n_28
    induction n_28 using Nat.strongRecOn with
    | ind n_28 ih_28 =>
      intro rr sn i I2 J2 hm_28 hv_28
      obtain ⟨kI2, kJ2, cI2, hI20, ⟨hi, hsn, hrr⟩⟩ := hv_28
      have qI2 := XI_o cI2.1
      have rfI2 := congrArg FU hI20.1
      refine ww_iload hX (pc := 28) dX10_drawNight_28 rfl ?_
      refine ww_iload_n hX (pc := 30) dX10_drawNight_30 rfl ?_
      refine ww_icmp_ge hX (pc := 31) (tgt := 132) dX10_drawNight_31 (by decide) (fun h_31 => ?_) (fun h_31 => ?_)
      · simp only [w32_mod] at h_31
        refine rV hX (pc := 132) hT (Nat.le_refl 0) (Nat.le_refl 0) dX10_drawNight_132 ?_
        exact ⟨kI2, kJ2, cI2⟩
      · simp only [w32_mod] at h_31
        refine ww_aload_n hX (pc := 34) dX10_drawNight_34 rfl ?_
        refine ww_getI hX (pc := 35) fX10_85 (by decide) (xs_0 hL) dX10_drawNight_35 ?_
        refine ww_iconst hX (pc := 38) (x := (-1)) dX10_drawNight_38 rfl ?_
        refine ww_icmp_ne hX (pc := 39) (tgt := 132) dX10_drawNight_39 (by decide) (fun h_39 => ?_) (fun h_39 => ?_)
        · simp only [w32_mod] at h_39
          refine rV hX (pc := 132) hT (Nat.le_refl 0) (Nat.le_refl 0) dX10_drawNight_132 ?_
          exact ⟨kI2, kJ2, cI2⟩
        · simp only [w32_mod] at h_39
          refine ww_lload hX (pc := 42) dX10_drawNight_42 rfl ?_
          refine ww_ldc2 hX (pc := 44) (x := 1103) dX10_drawNight_44 tb_1054 ?_
          refine ww_lmul hX (pc := 47) dX10_drawNight_47 ?_
          refine ww_ldc2 hX (pc := 48) (x := 12345) dX10_drawNight_48 tb_1055 ?_
          refine ww_ladd hX (pc := 51) dX10_drawNight_51 ?_
          refine ww_ldc2 hX (pc := 52) (x := 1000003) dX10_drawNight_52 tb_1056 ?_
          refine ww_lrem hX (pc := 55) dX10_drawNight_55 (by decide) ?_
          refine ww_toL (b := (rr * 1103 + 12345) % 1000003) (l_rem_v (by omega) (by omega) (by decide) (by decide)) ?_
          refine ww_nmL (fun v_56 hv_56 => ?_)
          refine ww_lstore hX (pc := 56) (lv' := [some (kR (some 0)), some (kI a), some (kI b), some (kI c), some (kL v_56), none, some (kI sn), some (kI i), none, none]) dX10_drawNight_56 (by decide) rfl rfl ?_
          refine ww_lload hX (pc := 58) dX10_drawNight_58 rfl ?_
          refine ww_iconst hX (pc := 60) (x := 1) dX10_drawNight_60 rfl ?_
          refine ww_aload_n hX (pc := 61) dX10_drawNight_61 rfl ?_
          refine ww_getR hX (pc := 62) fX10_10 (by decide) (xs_0 hL) (xr_0_0 hL) dX10_drawNight_62 ?_
          refine ww_getI hX (pc := 65) fX10_117 (by decide) (xs_1 hL) dX10_drawNight_65 ?_
          refine ww_mmax hX (pc := 68) tb_459 tb_460 tb_13 tb_461 (by decide) (Nat.le_refl 0) (Nat.le_refl 0) (Nat.le_of_ble_eq_true rfl) dX10_drawNight_68 ?_
          refine ww_toI (b := max 1 (I2 1 6)) (by rw [i_max_r (by decide) (by decide) (by omega) (by omega)]) ?_
          refine ww_i2l hX (pc := 71) dX10_drawNight_71 ?_
          refine ww_lrem hX (pc := 72) dX10_drawNight_72 (by rw [w32_id (by omega) (by omega)]; unfold w64; rw [Int64.toInt_ofInt_of_le (by omega) (by omega)]; omega) ?_
          refine ww_toL (b := v_56 % max 1 (I2 1 6)) (by rw [w32_id (by omega) (by omega)]; exact l_rem_v (by omega) (by omega) (by omega) (by omega)) ?_
          have htl0 := Int.emod_nonneg v_56 (show max 1 (I2 1 6) ≠ 0 by omega)
          have htl1 := Int.emod_lt_of_pos v_56 (show 0 < max 1 (I2 1 6) by omega)
          refine ww_l2i hX (pc := 73) dX10_drawNight_73 ?_
          refine ww_nmI (fun v_74 hv_74 => ?_)
          refine ww_istore hX (pc := 74) (lv' := [some (kR (some 0)), some (kI a), some (kI b), some (kI c), some (kL v_56), none, some (kI sn), some (kI i), some (kI v_74), none]) dX10_drawNight_74 (by decide) rfl rfl ?_
          refine ww_aload_n hX (pc := 76) dX10_drawNight_76 rfl ?_
          refine ww_getR hX (pc := 77) fX10_48 (by decide) (xs_0 hL) (xr_0_5 hL) dX10_drawNight_77 ?_
          refine ww_iload hX (pc := 80) dX10_drawNight_80 rfl ?_
          refine ww_iload hX (pc := 82) dX10_drawNight_82 rfl ?_
          refine ww_iload_n hX (pc := 84) dX10_drawNight_84 rfl ?_
          refine vI3 hX (pc := 85) sX10_194 (xs_18 hL) (c_X4_choose l0 hL cI2.1 (by omega) (by omega) (by omega) (by omega)) (by decide) (Nat.le_refl 0) (Nat.le_refl 0) (Nat.le_of_ble_eq_true rfl) dX10_drawNight_85 (fun x_85 I_85 J_85 h_85 => ?_)
          have kI_85 : Kp 0 49 Ia I_85 := Kp_tr kI2 (Kp_wd h_85.1 (by decide) (by decide))
          have kJ_85 : Kp 0 49 Ja J_85 := Kp_tr kJ2 (Kp_wd h_85.2.1 (by decide) (by decide))
          have cI_85 : CX I_85 := CX_kp cI2 h_85.1 (by decide) (by decide)
          have qI_85 := XI_o cI_85.1
          have r5_I_85 : I_85 1 5 = I2 1 5 := by rw [h_85.1 1 (by decide)]
          have r6_I_85 : I_85 1 6 = I2 1 6 := by rw [h_85.1 1 (by decide)]
          have r8_I_85 : I_85 1 8 = I2 1 8 := by rw [h_85.1 1 (by decide)]
          have r9_I_85 : I_85 1 9 = I2 1 9 := by rw [h_85.1 1 (by decide)]
          have r10_I_85 : I_85 1 10 = I2 1 10 := by rw [h_85.1 1 (by decide)]
          have r11_I_85 : I_85 1 11 = I2 1 11 := by rw [h_85.1 1 (by decide)]
          have rf_I_85 : FU (I_85 1 5) = FU (I2 1 5) := by rw [r5_I_85]
          refine ww_istore hX (pc := 88) (lv' := [some (kR (some 0)), some (kI a), some (kI b), some (kI c), some (kL v_56), none, some (kI sn), some (kI i), some (kI v_74), some (kI x_85)]) dX10_drawNight_88 (by decide) rfl rfl ?_
          refine ww_iload hX (pc := 90) dX10_drawNight_90 rfl ?_
          refine ww_iconst hX (pc := 92) (x := (-1)) dX10_drawNight_92 rfl ?_
          refine ww_icmp_ne hX (pc := 93) (tgt := 105) dX10_drawNight_93 (by decide) (fun h_93 => ?_) (fun h_93 => ?_)
          · simp only [w32_mod] at h_93
            refine ww_aload_n hX (pc := 105) dX10_drawNight_105 rfl ?_
            refine ww_getR hX (pc := 106) fX10_79 (by decide) (xs_0 hL) (xr_0_10 hL) dX10_drawNight_106 ?_
            refine ww_iload hX (pc := 109) dX10_drawNight_109 rfl ?_
            refine ww_iload hX (pc := 111) dX10_drawNight_111 rfl ?_
            refine ww_iast hX (pc := 113) (xs_47 hL) (by decide) (by omega) (by omega) dX10_drawNight_113 ?_
            refine ww_nmH (fun I_113 eI_113 => ?_)
            have kI_113 : Kp 0 49 Ia I_113 := by rw [eI_113]; exact Kp_up kI_85 _ _ (by decide)
            have cI_113 : CX I_113 := by rw [eI_113]; exact CX_up cI_85 (by decide)
            have qI_113 := XI_o cI_113.1
            have r5_I_113 : I_113 1 5 = I_85 1 5 := by rw [eI_113, up2_off _ _ _ (by decide)]
            have r6_I_113 : I_113 1 6 = I_85 1 6 := by rw [eI_113, up2_off _ _ _ (by decide)]
            have r8_I_113 : I_113 1 8 = I_85 1 8 := by rw [eI_113, up2_off _ _ _ (by decide)]
            have r9_I_113 : I_113 1 9 = I_85 1 9 := by rw [eI_113, up2_off _ _ _ (by decide)]
            have r10_I_113 : I_113 1 10 = I_85 1 10 := by rw [eI_113, up2_off _ _ _ (by decide)]
            have r11_I_113 : I_113 1 11 = I_85 1 11 := by rw [eI_113, up2_off _ _ _ (by decide)]
            have rf_I_113 : FU (I_113 1 5) = FU (I_85 1 5) := by rw [r5_I_113]
            refine ww_aload_n hX (pc := 114) dX10_drawNight_114 rfl ?_
            refine ww_iload hX (pc := 115) dX10_drawNight_115 rfl ?_
            refine ww_iconst hX (pc := 117) (x := 1) dX10_drawNight_117 rfl ?_
            refine ww_iadd hX (pc := 118) dX10_drawNight_118 ?_
            refine ww_putI hX (pc := 119) (fun h9 => absurd h9 (by decide)) gX10_298 rfl (xs_0 hL) dX10_drawNight_119 ?_
            refine ww_nmH (fun I_119 eI_119 => ?_)
            have kI_119 : Kp 0 49 Ia I_119 := by rw [eI_119]; exact Kp_up kI_113 _ _ (by decide)
            have cI_119 : CX I_119 := by rw [eI_119]; exact CX_x cI_113 (XI_0_13 cI_113.1 (by omega) (by omega)) (by decide)
            have qI_119 := XI_o cI_119.1
            have r5_I_119 : I_119 1 5 = I_113 1 5 := by rw [eI_119, up2_off _ _ _ (by decide)]
            have r6_I_119 : I_119 1 6 = I_113 1 6 := by rw [eI_119, up2_off _ _ _ (by decide)]
            have r8_I_119 : I_119 1 8 = I_113 1 8 := by rw [eI_119, up2_off _ _ _ (by decide)]
            have r9_I_119 : I_119 1 9 = I_113 1 9 := by rw [eI_119, up2_off _ _ _ (by decide)]
            have r10_I_119 : I_119 1 10 = I_113 1 10 := by rw [eI_119, up2_off _ _ _ (by decide)]
            have r11_I_119 : I_119 1 11 = I_113 1 11 := by rw [eI_119, up2_off _ _ _ (by decide)]
            have rf_I_119 : FU (I_119 1 5) = FU (I_113 1 5) := by rw [r5_I_119]
            refine ww_iload hX (pc := 122) dX10_drawNight_122 rfl ?_
            refine ww_istore hX (pc := 124) (lv' := [some (kR (some 0)), some (kI a), some (kI b), some (kI c), some (kL v_56), none, some (kI x_85), some (kI i), some (kI v_74), some (kI x_85)]) dX10_drawNight_124 (by decide) rfl rfl ?_
            refine ww_iinc hX (pc := 126) (lv' := [some (kR (some 0)), some (kI a), some (kI b), some (kI c), some (kL v_56), none, some (kI x_85), some (kI (i + 1)), some (kI v_74), some (kI x_85)]) dX10_drawNight_126 rfl (by decide) rfl rfl ?_
            refine ww_goto hX (pc := 129) (tgt := 28) dX10_drawNight_129 (by decide) ?_
            refine ww_sub [some (kR (some 0)), some (kI a), some (kI b), some (kI c), some (kL v_56), none, some (kI x_85), some (kI (i + 1)), none, none] (aLe_s (aLe_s (aLe_s (aLe_s (aLe_s (aLe_n (aLe_s (aLe_s (aLe_n (aLe_n aLe_0)))))))))) ?_
            exact ih_28 _ (by omega) v_56 x_85 (i + 1) I_119 J_85 rfl ⟨kI_119, kJ_85, cI_119, ⟨by omega, by omega⟩, ⟨⟨by omega, by omega⟩, ⟨by omega, by omega⟩, ⟨by omega, by omega⟩⟩⟩
          · simp only [w32_mod] at h_93
            refine ww_aload_n hX (pc := 96) dX10_drawNight_96 rfl ?_
            refine ww_iload hX (pc := 97) dX10_drawNight_97 rfl ?_
            refine ww_putI hX (pc := 99) (fun h9 => absurd h9 (by decide)) gX10_85 rfl (xs_0 hL) dX10_drawNight_99 ?_
            refine ww_nmH (fun I_99 eI_99 => ?_)
            have kI_99 : Kp 0 49 Ia I_99 := by rw [eI_99]; exact Kp_up kI_85 _ _ (by decide)
            have cI_99 : CX I_99 := by rw [eI_99]; exact CX_x cI_85 (XI_0 cI_85.1 (by decide)) (by decide)
            have qI_99 := XI_o cI_99.1
            have r5_I_99 : I_99 1 5 = I_85 1 5 := by rw [eI_99, up2_off _ _ _ (by decide)]
            have r6_I_99 : I_99 1 6 = I_85 1 6 := by rw [eI_99, up2_off _ _ _ (by decide)]
            have r8_I_99 : I_99 1 8 = I_85 1 8 := by rw [eI_99, up2_off _ _ _ (by decide)]
            have r9_I_99 : I_99 1 9 = I_85 1 9 := by rw [eI_99, up2_off _ _ _ (by decide)]
            have r10_I_99 : I_99 1 10 = I_85 1 10 := by rw [eI_99, up2_off _ _ _ (by decide)]
            have r11_I_99 : I_99 1 11 = I_85 1 11 := by rw [eI_99, up2_off _ _ _ (by decide)]
            have rf_I_99 : FU (I_99 1 5) = FU (I_85 1 5) := by rw [r5_I_99]
            refine ww_goto hX (pc := 102) (tgt := 126) dX10_drawNight_102 (by decide) ?_
            refine ww_iinc hX (pc := 126) (lv' := [some (kR (some 0)), some (kI a), some (kI b), some (kI c), some (kL v_56), none, some (kI sn), some (kI (i + 1)), some (kI v_74), some (kI x_85)]) dX10_drawNight_126 rfl (by decide) rfl rfl ?_
            refine ww_goto hX (pc := 129) (tgt := 28) dX10_drawNight_129 (by decide) ?_
            refine ww_sub [some (kR (some 0)), some (kI a), some (kI b), some (kI c), some (kL v_56), none, some (kI sn), some (kI (i + 1)), none, none] (aLe_s (aLe_s (aLe_s (aLe_s (aLe_s (aLe_n (aLe_s (aLe_s (aLe_n (aLe_n aLe_0)))))))))) ?_
            exact ih_28 _ (by omega) v_56 sn (i + 1) I_99 J_85 rfl ⟨kI_99, kJ_85, cI_99, ⟨by omega, by omega⟩, ⟨⟨by omega, by omega⟩, ⟨by omega, by omega⟩, ⟨by omega, by omega⟩⟩⟩
  exact hl_28 _ v_10 0 0 I_22 J_5 rfl ⟨kI_22, kJ_5, cI_22, ⟨by omega, by omega⟩, ⟨⟨by omega, by omega⟩, ⟨by omega, by omega⟩, ⟨by omega, by omega⟩⟩⟩
set_option maxHeartbeats 4000000 in
set_option maxRecDepth 20000 in
theorem c_X10_night (l0 : Launch) {Ia Ja : aI1} {Ra : aR1} {Sa : aS1} (hL : LY Ra Sa) (hC : CX Ia) {a b c : Int} (ha0 : -2147483648 ≤ a) (ha1 : a < 2147483648) (hb0 : -2147483648 ≤ b) (hb1 : b < 2147483648) (hc0 : -2147483648 ≤ c) (hc1 : c < 2147483648)  : CT l0 12 0 0 mX10_night [kR (some 0), kI a, kI b, kI c] Ia Ja Ra Sa (cI (fun x I' J' => Kp 0 49 Ia I' ∧ Kp 0 49 Ja J' ∧ CX I') Ra Sa) := by
  refine ct_in pn_X10 (Nat.le_of_ble_eq_true rfl) (fun X hX hT hIn => ?_)
  have hX : aK l0 X cX10_night 4 RX10 (some .int) 12 0 0 := hX
  change WW X 0 [some (kR (some 0)), some (kI a), some (kI b), some (kI c)] [] Ia Ja Ra Sa 0 0
  have hI := hC.1
  have hq := XI_o hI
  refine ww_iload_n hX (pc := 0) dX10_night_0 rfl ?_
  refine ww_if_lt hX (pc := 1) (tgt := 28) dX10_night_1 (by decide) (fun h_1 => ?_) (fun h_1 => ?_)
  · simp only [w32_mod] at h_1
    refine ww_aload_n hX (pc := 28) dX10_night_28 rfl ?_
    refine ww_iconst hX (pc := 29) (x := (-1)) dX10_night_29 rfl ?_
    refine vI1 hX (pc := 30) sX10_89 (xs_0 hL) (c_X10_refuse l0 hL hC (by omega) (by omega)) (by decide) (Nat.le_refl 0) (Nat.le_refl 0) (Nat.le_of_ble_eq_true rfl) dX10_night_30 (fun x_30 I_30 J_30 h_30 => ?_)
    have kI_30 : Kp 0 49 Ia I_30 := Kp_tr (Kp_rf (a := 0) (b := 49)) (Kp_wd h_30.1 (by decide) (by decide))
    have kJ_30 : Kp 0 49 Ja J_30 := Kp_tr (Kp_rf (a := 0) (b := 49)) (Kp_wd h_30.2.1 (by decide) (by decide))
    have cI_30 : CX I_30 := h_30.2.2.1
    have qI_30 := XI_o cI_30.1
    refine rI hX (pc := 33) hT (Nat.le_refl 0) (Nat.le_refl 0) dX10_night_33 ?_
    exact ⟨kI_30, kJ_30, cI_30⟩
  · simp only [w32_mod] at h_1
    refine ww_iload_n hX (pc := 4) dX10_night_4 rfl ?_
    refine ww_ldcw hX (pc := 5) (x := 1000000) dX10_night_5 tb_1049 ?_
    refine ww_icmp_gt hX (pc := 8) (tgt := 28) dX10_night_8 (by decide) (fun h_8 => ?_) (fun h_8 => ?_)
    · simp only [w32_mod] at h_8
      refine ww_aload_n hX (pc := 28) dX10_night_28 rfl ?_
      refine ww_iconst hX (pc := 29) (x := (-1)) dX10_night_29 rfl ?_
      refine vI1 hX (pc := 30) sX10_89 (xs_0 hL) (c_X10_refuse l0 hL hC (by omega) (by omega)) (by decide) (Nat.le_refl 0) (Nat.le_refl 0) (Nat.le_of_ble_eq_true rfl) dX10_night_30 (fun x_30 I_30 J_30 h_30 => ?_)
      have kI_30 : Kp 0 49 Ia I_30 := Kp_tr (Kp_rf (a := 0) (b := 49)) (Kp_wd h_30.1 (by decide) (by decide))
      have kJ_30 : Kp 0 49 Ja J_30 := Kp_tr (Kp_rf (a := 0) (b := 49)) (Kp_wd h_30.2.1 (by decide) (by decide))
      have cI_30 : CX I_30 := h_30.2.2.1
      have qI_30 := XI_o cI_30.1
      refine rI hX (pc := 33) hT (Nat.le_refl 0) (Nat.le_refl 0) dX10_night_33 ?_
      exact ⟨kI_30, kJ_30, cI_30⟩
    · simp only [w32_mod] at h_8
      refine ww_iload_n hX (pc := 11) dX10_night_11 rfl ?_
      refine ww_if_lt hX (pc := 12) (tgt := 28) dX10_night_12 (by decide) (fun h_12 => ?_) (fun h_12 => ?_)
      · simp only [w32_mod] at h_12
        refine ww_aload_n hX (pc := 28) dX10_night_28 rfl ?_
        refine ww_iconst hX (pc := 29) (x := (-1)) dX10_night_29 rfl ?_
        refine vI1 hX (pc := 30) sX10_89 (xs_0 hL) (c_X10_refuse l0 hL hC (by omega) (by omega)) (by decide) (Nat.le_refl 0) (Nat.le_refl 0) (Nat.le_of_ble_eq_true rfl) dX10_night_30 (fun x_30 I_30 J_30 h_30 => ?_)
        have kI_30 : Kp 0 49 Ia I_30 := Kp_tr (Kp_rf (a := 0) (b := 49)) (Kp_wd h_30.1 (by decide) (by decide))
        have kJ_30 : Kp 0 49 Ja J_30 := Kp_tr (Kp_rf (a := 0) (b := 49)) (Kp_wd h_30.2.1 (by decide) (by decide))
        have cI_30 : CX I_30 := h_30.2.2.1
        have qI_30 := XI_o cI_30.1
        refine rI hX (pc := 33) hT (Nat.le_refl 0) (Nat.le_refl 0) dX10_night_33 ?_
        exact ⟨kI_30, kJ_30, cI_30⟩
      · simp only [w32_mod] at h_12
        refine ww_iload_n hX (pc := 15) dX10_night_15 rfl ?_
        refine ww_bipush hX (pc := 16) (x := 24) dX10_night_16 (by decide) ?_
        refine ww_icmp_gt hX (pc := 18) (tgt := 28) dX10_night_18 (by decide) (fun h_18 => ?_) (fun h_18 => ?_)
        · simp only [w32_mod] at h_18
          refine ww_aload_n hX (pc := 28) dX10_night_28 rfl ?_
          refine ww_iconst hX (pc := 29) (x := (-1)) dX10_night_29 rfl ?_
          refine vI1 hX (pc := 30) sX10_89 (xs_0 hL) (c_X10_refuse l0 hL hC (by omega) (by omega)) (by decide) (Nat.le_refl 0) (Nat.le_refl 0) (Nat.le_of_ble_eq_true rfl) dX10_night_30 (fun x_30 I_30 J_30 h_30 => ?_)
          have kI_30 : Kp 0 49 Ia I_30 := Kp_tr (Kp_rf (a := 0) (b := 49)) (Kp_wd h_30.1 (by decide) (by decide))
          have kJ_30 : Kp 0 49 Ja J_30 := Kp_tr (Kp_rf (a := 0) (b := 49)) (Kp_wd h_30.2.1 (by decide) (by decide))
          have cI_30 : CX I_30 := h_30.2.2.1
          have qI_30 := XI_o cI_30.1
          refine rI hX (pc := 33) hT (Nat.le_refl 0) (Nat.le_refl 0) dX10_night_33 ?_
          exact ⟨kI_30, kJ_30, cI_30⟩
        · simp only [w32_mod] at h_18
          refine ww_iload_n hX (pc := 21) dX10_night_21 rfl ?_
          refine sI1 hX (pc := 22) sX10_188 (c_X10_isManner l0 (by omega) (by omega)) (by decide) (Nat.le_refl 0) (Nat.le_refl 0) (Nat.le_of_ble_eq_true rfl) dX10_night_22 (fun x_22 I_22 J_22 h_22 => ?_)
          obtain ⟨rfl, rfl, h_22⟩ := h_22
          refine ww_if_ne hX (pc := 25) (tgt := 34) dX10_night_25 (by decide) (fun h_25 => ?_) (fun h_25 => ?_)
          · simp only [w32_mod] at h_25
            refine ww_aload_n hX (pc := 34) dX10_night_34 rfl ?_
            refine ww_iload_n hX (pc := 35) dX10_night_35 rfl ?_
            refine ww_iload_n hX (pc := 36) dX10_night_36 rfl ?_
            refine ww_iload_n hX (pc := 37) dX10_night_37 rfl ?_
            refine vV3 hX (pc := 38) sX10_294 (xs_0 hL) (c_X10_drawNight l0 hL hC (by omega) (by omega) (by omega) (by omega)) (by decide) (Nat.le_refl 0) (Nat.le_refl 0) (Nat.le_of_ble_eq_true rfl) dX10_night_38 (fun I_38 J_38 h_38 => ?_)
            have kI_38 : Kp 0 49 Ia I_38 := Kp_tr (Kp_rf (a := 0) (b := 49)) (Kp_wd h_38.1 (by decide) (by decide))
            have kJ_38 : Kp 0 49 Ja J_38 := Kp_tr (Kp_rf (a := 0) (b := 49)) (Kp_wd h_38.2.1 (by decide) (by decide))
            have cI_38 : CX I_38 := h_38.2.2
            have qI_38 := XI_o cI_38.1
            refine ww_aload_n hX (pc := 41) dX10_night_41 rfl ?_
            refine ww_aload_n hX (pc := 42) dX10_night_42 rfl ?_
            refine ww_getI hX (pc := 43) fX10_298 (by decide) (xs_0 hL) dX10_night_43 ?_
            refine vI1 hX (pc := 46) sX10_114 (xs_0 hL) (c_X10_accept l0 hL cI_38) (by decide) (Nat.le_refl 0) (Nat.le_refl 0) (Nat.le_of_ble_eq_true rfl) dX10_night_46 (fun x_46 I_46 J_46 h_46 => ?_)
            have kI_46 : Kp 0 49 Ia I_46 := Kp_tr kI_38 (Kp_wd h_46.1 (by decide) (by decide))
            have kJ_46 : Kp 0 49 Ja J_46 := Kp_tr kJ_38 (Kp_wd h_46.2.1 (by decide) (by decide))
            have cI_46 : CX I_46 := h_46.2.2.1
            have qI_46 := XI_o cI_46.1
            refine rI hX (pc := 49) hT (Nat.le_refl 0) (Nat.le_refl 0) dX10_night_49 ?_
            exact ⟨kI_46, kJ_46, cI_46⟩
          · simp only [w32_mod] at h_25
            refine ww_aload_n hX (pc := 28) dX10_night_28 rfl ?_
            refine ww_iconst hX (pc := 29) (x := (-1)) dX10_night_29 rfl ?_
            refine vI1 hX (pc := 30) sX10_89 (xs_0 hL) (c_X10_refuse l0 hL hC (by omega) (by omega)) (by decide) (Nat.le_refl 0) (Nat.le_refl 0) (Nat.le_of_ble_eq_true rfl) dX10_night_30 (fun x_30 I_30 J_30 h_30 => ?_)
            have kI_30 : Kp 0 49 Ia I_30 := Kp_tr (Kp_rf (a := 0) (b := 49)) (Kp_wd h_30.1 (by decide) (by decide))
            have kJ_30 : Kp 0 49 Ja J_30 := Kp_tr (Kp_rf (a := 0) (b := 49)) (Kp_wd h_30.2.1 (by decide) (by decide))
            have cI_30 : CX I_30 := h_30.2.2.1
            have qI_30 := XI_o cI_30.1
            refine rI hX (pc := 33) hT (Nat.le_refl 0) (Nat.le_refl 0) dX10_night_33 ?_
            exact ⟨kI_30, kJ_30, cI_30⟩
