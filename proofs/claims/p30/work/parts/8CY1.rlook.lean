set_option maxHeartbeats 4000000 in
set_option maxRecDepth 20000 in
theorem c8_X11_burnt (l0 : Launch) {Ia Ja : aI1} {Ra : aR1} {Sa : aS1} (hL : LY Ra Sa) (hQ : RX Ia)  : CT l0 1 0 0 mX11_burnt [kR (some 49)] Ia Ja Ra Sa (cI (fun x I' J' => Ia = I' ∧ Ja = J' ∧ x = oilF (Ia 51) (Ia 51 307) (Ia 51 304).toNat) Ra Sa) := by
  refine ct_in pn_X11 (Nat.le_of_ble_eq_true rfl) (fun X hX hT hIn => ?_)
  have hX : aK l0 X cX11_burnt 1 RX11 (some .int) 1 0 0 := hX
  change WW X 0 [some (kR (some 49))] [] Ia Ja Ra Sa 0 0
  have qIa := RX_o hQ
  refine ww_aload_n hX (pc := 0) dX11_burnt_0 rfl ?_
  refine ww_aload_n hX (pc := 1) dX11_burnt_1 rfl ?_
  refine ww_getR hX (pc := 2) fX11_20 (by decide) (xs_49 hL) (xr_49_3 hL) dX11_burnt_2 ?_
  refine ww_sipush hX (pc := 5) (x := 307) dX11_burnt_5 (by decide) ?_
  refine ww_iald hX (pc := 8) (xs_51 hL) (by decide) (by omega) (by omega) dX11_burnt_8 ?_
  refine ww_toI (b := Ia 51 307) rfl ?_
  refine vI1 hX (pc := 9) sX11_301 (xs_49 hL) (c_X11_oilOf l0 hL hQ ) (by decide) (Nat.le_refl 0) (Nat.le_refl 0) (Nat.le_of_ble_eq_true rfl) dX11_burnt_9 (fun x_9 I_9 J_9 h_9 => ?_)
  obtain ⟨rfl, rfl, h_9⟩ := h_9
  refine rI hX (pc := 12) hT (Nat.le_refl 0) (Nat.le_refl 0) dX11_burnt_12 ?_
  exact ⟨rfl, rfl, h_9⟩
set_option maxHeartbeats 4000000 in
set_option maxRecDepth 20000 in
theorem c8_X11_log (l0 : Launch) {Ia Ja : aI1} {Ra : aR1} {Sa : aS1} (hL : LY Ra Sa) (hQ : RX Ia) {a : Int} (ha0 : -2147483648 ≤ a) (ha1 : a < 2147483648)  : CT l0 1 0 0 mX11_log [kR (some 49), kI a] Ia Ja Ra Sa (cI (fun x I' J' => Ia = I' ∧ Ja = J' ∧ x = if a = -1 then Ia 51 307 else if 0 ≤ a ∧ a < Ia 51 308 then Ia 51 (264 + a).toNat else -1) Ra Sa) := by
  refine ct_in pn_X11 (Nat.le_of_ble_eq_true rfl) (fun X hX hT hIn => ?_)
  have hX : aK l0 X cX11_log 2 RX11 (some .int) 1 0 0 := hX
  change WW X 0 [some (kR (some 49)), some (kI a)] [] Ia Ja Ra Sa 0 0
  have qIa := RX_o hQ
  refine ww_iload_n hX (pc := 0) dX11_log_0 rfl ?_
  refine ww_iconst hX (pc := 1) (x := (-1)) dX11_log_1 rfl ?_
  refine ww_icmp_ne hX (pc := 2) (tgt := 16) dX11_log_2 (by decide) (fun h_2 => ?_) (fun h_2 => ?_)
  · simp only [w32_mod] at h_2
    refine ww_iload_n hX (pc := 16) dX11_log_16 rfl ?_
    refine ww_iconst hX (pc := 17) (x := 0) dX11_log_17 rfl ?_
    refine ww_aload_n hX (pc := 18) dX11_log_18 rfl ?_
    refine ww_getR hX (pc := 19) fX11_20 (by decide) (xs_49 hL) (xr_49_3 hL) dX11_log_19 ?_
    refine ww_sipush hX (pc := 22) (x := 308) dX11_log_22 (by decide) ?_
    refine ww_iald hX (pc := 25) (xs_51 hL) (by decide) (by omega) (by omega) dX11_log_25 ?_
    refine ww_toI (b := Ia 51 308) rfl ?_
    refine ww_iconst hX (pc := 26) (x := 1) dX11_log_26 rfl ?_
    refine ww_isub hX (pc := 27) dX11_log_27 ?_
    refine sI3 hX (pc := 28) sX11_101 (c_X11_lies l0 (by omega) (by omega) (by omega) (by omega) (by omega) (by omega)) (by decide) (Nat.le_refl 0) (Nat.le_refl 0) (Nat.le_of_ble_eq_true rfl) dX11_log_28 (fun x_28 I_28 J_28 h_28 => ?_)
    obtain ⟨rfl, rfl, h_28⟩ := h_28
    refine ww_if_eq hX (pc := 31) (tgt := 47) dX11_log_31 (by decide) (fun h_31 => ?_) (fun h_31 => ?_)
    · simp only [w32_mod] at h_31
      refine ww_iconst hX (pc := 47) (x := (-1)) dX11_log_47 rfl ?_
      refine rI hX (pc := 48) hT (Nat.le_refl 0) (Nat.le_refl 0) dX11_log_48 ?_
      exact ⟨rfl, rfl, (by (repeat (first | rw [if_pos (by omega)] | rw [if_neg (by omega)])) <;> rfl)⟩
    · simp only [w32_mod] at h_31
      have k_28 := h_28.2.mp (by omega)
      clear h_28
      refine ww_aload_n hX (pc := 34) dX11_log_34 rfl ?_
      refine ww_getR hX (pc := 35) fX11_20 (by decide) (xs_49 hL) (xr_49_3 hL) dX11_log_35 ?_
      refine ww_sipush hX (pc := 38) (x := 264) dX11_log_38 (by decide) ?_
      refine ww_iload_n hX (pc := 41) dX11_log_41 rfl ?_
      refine ww_iadd hX (pc := 42) dX11_log_42 ?_
      refine ww_iald hX (pc := 43) (xs_51 hL) (by decide) (by omega) (by omega) dX11_log_43 ?_
      refine ww_goto hX (pc := 44) (tgt := 48) dX11_log_44 (by decide) ?_
      refine rI hX (pc := 48) hT (Nat.le_refl 0) (Nat.le_refl 0) dX11_log_48 ?_
      exact ⟨rfl, rfl, (by (repeat (first | rw [if_pos (by omega)] | rw [if_neg (by omega)])) <;> rfl)⟩
  · simp only [w32_mod] at h_2
    refine ww_aload_n hX (pc := 5) dX11_log_5 rfl ?_
    refine ww_getR hX (pc := 6) fX11_20 (by decide) (xs_49 hL) (xr_49_3 hL) dX11_log_6 ?_
    refine ww_sipush hX (pc := 9) (x := 307) dX11_log_9 (by decide) ?_
    refine ww_iald hX (pc := 12) (xs_51 hL) (by decide) (by omega) (by omega) dX11_log_12 ?_
    refine ww_toI (b := Ia 51 307) rfl ?_
    refine ww_goto hX (pc := 13) (tgt := 48) dX11_log_13 (by decide) ?_
    refine rI hX (pc := 48) hT (Nat.le_refl 0) (Nat.le_refl 0) dX11_log_48 ?_
    exact ⟨rfl, rfl, (by (repeat (first | rw [if_pos (by omega)] | rw [if_neg (by omega)])) <;> rfl)⟩
set_option maxHeartbeats 4000000 in
set_option maxRecDepth 20000 in
theorem c8_X11_drawn (l0 : Launch) {Ia Ja : aI1} {Ra : aR1} {Sa : aS1} (hL : LY Ra Sa) (hQ : RX Ia) {a : Int} (ha0 : -2147483648 ≤ a) (ha1 : a < 2147483648)  : CT l0 1 0 0 mX11_drawn [kR (some 49), kI a] Ia Ja Ra Sa (cI (fun x I' J' => Ia = I' ∧ Ja = J' ∧ x = if Ia 49 39 = -1 then -1 else if a = -1 then Ia 49 40 else if 0 ≤ a ∧ a < Ia 49 39 then Ia 72 a.toNat else -1) Ra Sa) := by
  refine ct_in pn_X11 (Nat.le_of_ble_eq_true rfl) (fun X hX hT hIn => ?_)
  have hX : aK l0 X cX11_drawn 2 RX11 (some .int) 1 0 0 := hX
  change WW X 0 [some (kR (some 49)), some (kI a)] [] Ia Ja Ra Sa 0 0
  have qIa := RX_o hQ
  refine ww_aload_n hX (pc := 0) dX11_drawn_0 rfl ?_
  refine ww_getI hX (pc := 1) fX11_95 (by decide) (xs_49 hL) dX11_drawn_1 ?_
  refine ww_iconst hX (pc := 4) (x := (-1)) dX11_drawn_4 rfl ?_
  refine ww_icmp_ne hX (pc := 5) (tgt := 12) dX11_drawn_5 (by decide) (fun h_5 => ?_) (fun h_5 => ?_)
  · simp only [w32_mod] at h_5
    refine ww_iload_n hX (pc := 12) dX11_drawn_12 rfl ?_
    refine ww_iconst hX (pc := 13) (x := (-1)) dX11_drawn_13 rfl ?_
    refine ww_icmp_ne hX (pc := 14) (tgt := 24) dX11_drawn_14 (by decide) (fun h_14 => ?_) (fun h_14 => ?_)
    · simp only [w32_mod] at h_14
      refine ww_iload_n hX (pc := 24) dX11_drawn_24 rfl ?_
      refine ww_iconst hX (pc := 25) (x := 0) dX11_drawn_25 rfl ?_
      refine ww_aload_n hX (pc := 26) dX11_drawn_26 rfl ?_
      refine ww_getI hX (pc := 27) fX11_95 (by decide) (xs_49 hL) dX11_drawn_27 ?_
      refine ww_iconst hX (pc := 30) (x := 1) dX11_drawn_30 rfl ?_
      refine ww_isub hX (pc := 31) dX11_drawn_31 ?_
      refine sI3 hX (pc := 32) sX11_101 (c_X11_lies l0 (by omega) (by omega) (by omega) (by omega) (by omega) (by omega)) (by decide) (Nat.le_refl 0) (Nat.le_refl 0) (Nat.le_of_ble_eq_true rfl) dX11_drawn_32 (fun x_32 I_32 J_32 h_32 => ?_)
      obtain ⟨rfl, rfl, h_32⟩ := h_32
      refine ww_if_eq hX (pc := 35) (tgt := 47) dX11_drawn_35 (by decide) (fun h_35 => ?_) (fun h_35 => ?_)
      · simp only [w32_mod] at h_35
        refine ww_iconst hX (pc := 47) (x := (-1)) dX11_drawn_47 rfl ?_
        refine rI hX (pc := 48) hT (Nat.le_refl 0) (Nat.le_refl 0) dX11_drawn_48 ?_
        exact ⟨rfl, rfl, (by (repeat (first | rw [if_pos (by omega)] | rw [if_neg (by omega)])) <;> rfl)⟩
      · simp only [w32_mod] at h_35
        have k_32 := h_32.2.mp (by omega)
        clear h_32
        refine ww_aload_n hX (pc := 38) dX11_drawn_38 rfl ?_
        refine ww_getR hX (pc := 39) fX11_92 (by decide) (xs_49 hL) (xr_49_38 hL) dX11_drawn_39 ?_
        refine ww_iload_n hX (pc := 42) dX11_drawn_42 rfl ?_
        refine ww_iald hX (pc := 43) (xs_72 hL) (by decide) (by omega) (by omega) dX11_drawn_43 ?_
        refine ww_goto hX (pc := 44) (tgt := 48) dX11_drawn_44 (by decide) ?_
        refine rI hX (pc := 48) hT (Nat.le_refl 0) (Nat.le_refl 0) dX11_drawn_48 ?_
        exact ⟨rfl, rfl, (by (repeat (first | rw [if_pos (by omega)] | rw [if_neg (by omega)])) <;> rfl)⟩
    · simp only [w32_mod] at h_14
      refine ww_aload_n hX (pc := 17) dX11_drawn_17 rfl ?_
      refine ww_getI hX (pc := 18) fX11_347 (by decide) (xs_49 hL) dX11_drawn_18 ?_
      refine ww_goto hX (pc := 21) (tgt := 48) dX11_drawn_21 (by decide) ?_
      refine rI hX (pc := 48) hT (Nat.le_refl 0) (Nat.le_refl 0) dX11_drawn_48 ?_
      exact ⟨rfl, rfl, (by (repeat (first | rw [if_pos (by omega)] | rw [if_neg (by omega)])) <;> rfl)⟩
  · simp only [w32_mod] at h_5
    refine ww_iconst hX (pc := 8) (x := (-1)) dX11_drawn_8 rfl ?_
    refine ww_goto hX (pc := 9) (tgt := 48) dX11_drawn_9 (by decide) ?_
    refine rI hX (pc := 48) hT (Nat.le_refl 0) (Nat.le_refl 0) dX11_drawn_48 ?_
    exact ⟨rfl, rfl, (by (repeat (first | rw [if_pos (by omega)] | rw [if_neg (by omega)])) <;> rfl)⟩
set_option maxHeartbeats 4000000 in
set_option maxRecDepth 20000 in
theorem c8_X11_dawn (l0 : Launch) {Ia Ja : aI1} {Ra : aR1} {Sa : aS1} (hL : LY Ra Sa) (hQ : RX Ia)  : CT l0 1 0 0 mX11_dawn [kR (some 49)] Ia Ja Ra Sa (cI (fun x I' J' => Ch [51] [1] Ia I' ∧ Kp 49 73 Ja J' ∧ RX I' ∧ x = pcn (Ia 51 307).toNat ∧ I' 51 = up1 (up1 (Ia 51) 307 0) 308 0 ∧ I' 49 1 = Ia 49 1 + 1 ∧ J' = Ja) Ra Sa) := by
  refine ct_in pn_X11 (Nat.le_of_ble_eq_true rfl) (fun X hX hT hIn => ?_)
  have hX : aK l0 X cX11_dawn 2 RX11 (some .int) 1 0 0 := hX
  change WW X 0 [some (kR (some 49)), none] [] Ia Ja Ra Sa 0 0
  have qIa := RX_o hQ
  refine ww_aload_n hX (pc := 0) dX11_dawn_0 rfl ?_
  refine ww_getR hX (pc := 1) fX11_20 (by decide) (xs_49 hL) (xr_49_3 hL) dX11_dawn_1 ?_
  refine ww_sipush hX (pc := 4) (x := 307) dX11_dawn_4 (by decide) ?_
  refine ww_iald hX (pc := 7) (xs_51 hL) (by decide) (by omega) (by omega) dX11_dawn_7 ?_
  refine ww_toI (b := Ia 51 307) rfl ?_
  refine sI1 hX (pc := 8) sX11_259 (c7_X11_ones l0 (by omega) (by omega)) (by decide) (Nat.le_refl 0) (Nat.le_refl 0) (Nat.le_of_ble_eq_true rfl) dX11_dawn_8 (fun x_8 I_8 J_8 h_8 => ?_)
  obtain ⟨rfl, rfl, h_8⟩ := h_8
  refine ww_istore_n hX (pc := 11) (lv' := [some (kR (some 49)), some (kI x_8)]) dX11_dawn_11 (by decide) rfl rfl ?_
  refine ww_aload_n hX (pc := 12) dX11_dawn_12 rfl ?_
  refine ww_getR hX (pc := 13) fX11_20 (by decide) (xs_49 hL) (xr_49_3 hL) dX11_dawn_13 ?_
  refine ww_sipush hX (pc := 16) (x := 307) dX11_dawn_16 (by decide) ?_
  refine ww_iconst hX (pc := 19) (x := 0) dX11_dawn_19 rfl ?_
  refine ww_iast hX (pc := 20) (xs_51 hL) (by decide) (by omega) (by omega) dX11_dawn_20 ?_
  refine ww_nmH (fun I_20 eI_20 => ?_)
  have kI_20 : Ch [51] [1] Ia I_20 := by rw [eI_20]; exact Ch_r Ch_rf (by decide) (by decide)
  have cI_20 : RX I_20 := by rw [eI_20]; exact RX_307 hQ (by omega) (by omega)
  have qI_20 := RX_o cI_20
  have g20 : I_20 51 = up1 (Ia 51) 307 0 := by rw [eI_20, up2_row]; rfl
  have v20 : I_20 49 1 = Ia 49 1 := by rw [eI_20, up2_off _ _ _ (by decide)]
  refine ww_aload_n hX (pc := 21) dX11_dawn_21 rfl ?_
  refine ww_getR hX (pc := 22) fX11_20 (by decide) (xs_49 hL) (xr_49_3 hL) dX11_dawn_22 ?_
  refine ww_sipush hX (pc := 25) (x := 308) dX11_dawn_25 (by decide) ?_
  refine ww_iconst hX (pc := 28) (x := 0) dX11_dawn_28 rfl ?_
  refine ww_iast hX (pc := 29) (xs_51 hL) (by decide) (by omega) (by omega) dX11_dawn_29 ?_
  refine ww_nmH (fun I_29 eI_29 => ?_)
  have kI_29 : Ch [51] [1] Ia I_29 := by rw [eI_29]; exact Ch_r kI_20 (by decide) (by decide)
  have cI_29 : RX I_29 := by rw [eI_29]; exact RX_308 cI_20 (by omega) (by omega)
  have qI_29 := RX_o cI_29
  have r307_I_29 : I_29 51 307 = I_20 51 307 := by rw [eI_29, up2_n _ _ (Or.inr (by decide))]
  have g29 : I_29 51 = up1 (up1 (Ia 51) 307 0) 308 0 := by rw [eI_29, up2_row, g20]; rfl
  have v29 : I_29 49 1 = Ia 49 1 := by rw [eI_29, up2_off _ _ _ (by decide), v20]
  refine ww_aload_n hX (pc := 30) dX11_dawn_30 rfl ?_
  refine ww_dupR hX (pc := 31) dX11_dawn_31 ?_
  refine ww_getI hX (pc := 32) fX11_11 (by decide) (xs_49 hL) dX11_dawn_32 ?_
  refine ww_iconst hX (pc := 35) (x := 1) dX11_dawn_35 rfl ?_
  refine ww_iadd hX (pc := 36) dX11_dawn_36 ?_
  refine ww_putI hX (pc := 37) (fun h9 => absurd h9 (by decide)) gX11_11 rfl (xs_49 hL) dX11_dawn_37 ?_
  refine ww_nmH (fun I_37 eI_37 => ?_)
  have kI_37 : Ch [51] [1] Ia I_37 := by rw [eI_37]; exact Ch_f kI_29 (by decide)
  have cI_37 : RX I_37 := by rw [eI_37]; exact RX_f cI_29 (by decide)
  have qI_37 := RX_o cI_37
  have r307_I_37 : I_37 51 307 = I_29 51 307 := by rw [eI_37, up2_off _ _ _ (by decide)]
  have g37 : I_37 51 = I_29 51 := by rw [eI_37, up2_off _ _ _ (by decide)]
  have v37 : I_37 49 1 = I_29 49 1 + 1 := by rw [eI_37, up2_s]
  refine ww_iload_n hX (pc := 40) dX11_dawn_40 rfl ?_
  refine rI hX (pc := 41) hT (Nat.le_refl 0) (Nat.le_refl 0) dX11_dawn_41 ?_
  exact ⟨kI_37, (Kp_rf (a := 49) (b := 73)), cI_37, h_8, g37.trans g29, (by rw [v37, v29]), rfl⟩
