theorem gq_cm (a b : Int) : gq a b = gq b a := by
  unfold gq
  rw [Nat.gcd_comm]
set_option maxHeartbeats 4000000 in
set_option maxRecDepth 20000 in
theorem c8_X11_good (l0 : Launch) {Ia Ja : aI1} {Ra : aR1} {Sa : aS1} (hL : LY Ra Sa) (hQ : RX Ia) {a : Int}  : CT l0 0 0 0 mX11_good [kR (some 49), kI a] Ia Ja Ra Sa (cI (fun x I' J' => Ch [] [0, 1] Ia I' ∧ Kp 49 73 Ja J' ∧ RX I' ∧ x = a ∧ I' 49 0 = 0 ∧ I' 49 1 = Ia 49 1 + 1 ∧ J' = Ja) Ra Sa) := by
  refine ct_in pn_X11 (Nat.le_of_ble_eq_true rfl) (fun X hX hT hIn => ?_)
  have hX : aK l0 X cX11_good 2 RX11 (some .int) 0 0 0 := hX
  change WW X 0 [some (kR (some 49)), some (kI a)] [] Ia Ja Ra Sa 0 0
  have qIa := RX_o hQ
  refine ww_aload_n hX (pc := 0) dX11_good_0 rfl ?_
  refine ww_iconst hX (pc := 1) (x := 0) dX11_good_1 rfl ?_
  refine ww_putI hX (pc := 2) (fun h9 => absurd h9 (by decide)) gX11_3 rfl (xs_49 hL) dX11_good_2 ?_
  refine ww_nmH (fun I_2 eI_2 => ?_)
  have kI_2 : Ch [] [0, 1] Ia I_2 := by rw [eI_2]; exact Ch_f Ch_rf (by decide)
  have cI_2 : RX I_2 := by rw [eI_2]; exact RX_f hQ (by decide)
  have qI_2 := RX_o cI_2
  have r304_I_2 : I_2 51 304 = Ia 51 304 := by rw [eI_2, up2_off _ _ _ (by decide)]
  have r305_I_2 : I_2 51 305 = Ia 51 305 := by rw [eI_2, up2_off _ _ _ (by decide)]
  have rf_I_2 : FU (I_2 51 304) = FU (Ia 51 304) := by rw [r304_I_2]
  have z2 : I_2 49 0 = 0 := by rw [eI_2, up2_s]
  have o2 : I_2 49 1 = Ia 49 1 := by rw [eI_2, up2_n _ _ (Or.inr (by decide))]
  refine ww_aload_n hX (pc := 5) dX11_good_5 rfl ?_
  refine ww_dupR hX (pc := 6) dX11_good_6 ?_
  refine ww_getI hX (pc := 7) fX11_11 (by decide) (xs_49 hL) dX11_good_7 ?_
  refine ww_iconst hX (pc := 10) (x := 1) dX11_good_10 rfl ?_
  refine ww_iadd hX (pc := 11) dX11_good_11 ?_
  refine ww_putI hX (pc := 12) (fun h9 => absurd h9 (by decide)) gX11_11 rfl (xs_49 hL) dX11_good_12 ?_
  refine ww_nmH (fun I_12 eI_12 => ?_)
  have kI_12 : Ch [] [0, 1] Ia I_12 := by rw [eI_12]; exact Ch_f kI_2 (by decide)
  have cI_12 : RX I_12 := by rw [eI_12]; exact RX_f cI_2 (by decide)
  have qI_12 := RX_o cI_12
  have r304_I_12 : I_12 51 304 = I_2 51 304 := by rw [eI_12, up2_off _ _ _ (by decide)]
  have r305_I_12 : I_12 51 305 = I_2 51 305 := by rw [eI_12, up2_off _ _ _ (by decide)]
  have rf_I_12 : FU (I_12 51 304) = FU (I_2 51 304) := by rw [r304_I_12]
  have z12 : I_12 49 0 = 0 := by rw [eI_12, up2_n _ _ (Or.inr (by decide)), z2]
  have o12 : I_12 49 1 = I_2 49 1 + 1 := by rw [eI_12, up2_s]
  refine ww_iload_n hX (pc := 15) dX11_good_15 rfl ?_
  refine rI hX (pc := 16) hT (Nat.le_refl 0) (Nat.le_refl 0) dX11_good_16 ?_
  exact ⟨kI_12, (Kp_rf (a := 49) (b := 73)), cI_12, rfl, z12, (by rw [o12, o2]), rfl⟩
set_option maxHeartbeats 4000000 in
set_option maxRecDepth 20000 in
theorem c8_X11_refuses (l0 : Launch) {Ia Ja : aI1} {Ra : aR1} {Sa : aS1} (hL : LY Ra Sa) (hQ : RX Ia) {a : Int} (ha0 : -6 ≤ a) (ha1 : a ≤ -1)  : CT l0 0 0 0 mX11_refuses [kR (some 49), kI a] Ia Ja Ra Sa (cI (fun x I' J' => Ch [50] [0] Ia I' ∧ Kp 49 73 Ja J' ∧ RX I' ∧ x = a ∧ I' 49 0 = a ∧ I' 50 = up1 (Ia 50) (-a).toNat (Ia 50 (-a).toNat + 1) ∧ J' = Ja) Ra Sa) := by
  refine ct_in pn_X11 (Nat.le_of_ble_eq_true rfl) (fun X hX hT hIn => ?_)
  have hX : aK l0 X cX11_refuses 2 RX11 (some .int) 0 0 0 := hX
  change WW X 0 [some (kR (some 49)), some (kI a)] [] Ia Ja Ra Sa 0 0
  have qIa := RX_o hQ
  refine ww_aload_n hX (pc := 0) dX11_refuses_0 rfl ?_
  refine ww_iload_n hX (pc := 1) dX11_refuses_1 rfl ?_
  refine ww_putI hX (pc := 2) (fun h9 => absurd h9 (by decide)) gX11_3 rfl (xs_49 hL) dX11_refuses_2 ?_
  refine ww_nmH (fun I_2 eI_2 => ?_)
  have kI_2 : Ch [50] [0] Ia I_2 := by rw [eI_2]; exact Ch_f Ch_rf (by decide)
  have cI_2 : RX I_2 := by rw [eI_2]; exact RX_f hQ (by decide)
  have qI_2 := RX_o cI_2
  have r304_I_2 : I_2 51 304 = Ia 51 304 := by rw [eI_2, up2_off _ _ _ (by decide)]
  have r305_I_2 : I_2 51 305 = Ia 51 305 := by rw [eI_2, up2_off _ _ _ (by decide)]
  have rf_I_2 : FU (I_2 51 304) = FU (Ia 51 304) := by rw [r304_I_2]
  have z2 : I_2 49 0 = a := by rw [eI_2, up2_s]
  have r2 : I_2 50 = Ia 50 := by rw [eI_2, up2_off _ _ _ (by decide)]
  refine ww_aload_n hX (pc := 5) dX11_refuses_5 rfl ?_
  refine ww_getR hX (pc := 6) fX11_7 (by decide) (xs_49 hL) (xr_49_2 hL) dX11_refuses_6 ?_
  refine ww_iload_n hX (pc := 9) dX11_refuses_9 rfl ?_
  refine ww_ineg hX (pc := 10) dX11_refuses_10 ?_
  refine ww_dup2 hX (pc := 11) dX11_refuses_11 ?_
  refine ww_iald hX (pc := 12) (xs_50 hL) (by decide) (by omega) (by omega) dX11_refuses_12 ?_
  refine ww_iconst hX (pc := 13) (x := 1) dX11_refuses_13 rfl ?_
  refine ww_iadd hX (pc := 14) dX11_refuses_14 ?_
  refine ww_iast hX (pc := 15) (xs_50 hL) (by decide) (by omega) (by omega) dX11_refuses_15 ?_
  refine ww_nmH (fun I_15 eI_15 => ?_)
  have kI_15 : Ch [50] [0] Ia I_15 := by rw [eI_15]; exact Ch_r kI_2 (by decide) (by decide)
  have cI_15 : RX I_15 := by rw [eI_15]; exact RX_r cI_2 (by decide)
  have qI_15 := RX_o cI_15
  have r304_I_15 : I_15 51 304 = I_2 51 304 := by rw [eI_15, up2_off _ _ _ (by decide)]
  have r305_I_15 : I_15 51 305 = I_2 51 305 := by rw [eI_15, up2_off _ _ _ (by decide)]
  have rf_I_15 : FU (I_15 51 304) = FU (I_2 51 304) := by rw [r304_I_15]
  have z15 : I_15 49 0 = a := by rw [eI_15, up2_off _ _ _ (by decide), z2]
  have r15 : I_15 50 = up1 (Ia 50) (-a).toNat (Ia 50 (-a).toNat + 1) := by rw [eI_15, up2_row, r2]
  refine ww_iload_n hX (pc := 16) dX11_refuses_16 rfl ?_
  refine rI hX (pc := 17) hT (Nat.le_refl 0) (Nat.le_refl 0) dX11_refuses_17 ?_
  exact ⟨kI_15, (Kp_rf (a := 49) (b := 73)), cI_15, rfl, z15, r15, rfl⟩
