set_option maxHeartbeats 4000000 in
set_option maxRecDepth 20000 in
theorem c8_X11_rows (l0 : Launch) {Ia Ja : aI1} {Ra : aR1} {Sa : aS1} (hL : LY Ra Sa) (hQ : RX Ia) {a b c : Int} (ha0 : -2147483648 ≤ a) (ha1 : a < 2147483648) (hb0 : -2147483648 ≤ b) (hb1 : b < 2147483648) (hc0 : -2147483648 ≤ c) (hc1 : c < 2147483648) (hO : ∀ l, l < 8 → 0 ≤ Ia 51 (256 + l) ∧ Ia 51 (256 + l) ≤ 99) (hcr : ∀ t : Nat, (t : Int) ≤ FU (Ia 51 304) → -1 ≤ Ia 51 t ∧ Ia 51 t ≤ 7) (hK : ∀ s : Nat, (s : Int) ≤ FU (Ia 51 304) → Ia 51 s < Ia 51 305) {vv : Int} (hq : QF Ia Ja vv) (hv9 : vv ≤ 1000000)  : CT l0 6 0 0 mX11_rows [kR (some 49), kI a, kI b, kI c] Ia Ja Ra Sa (cJ (fun x I' J' => Ch [61] [25] Ia I' ∧ Kp 49 73 Ja J' ∧ RX I' ∧ I' 51 = Ia 51 ∧ QF I' J' vv ∧ ((0 ≤ a ∧ a ≤ 8 ∧ 0 ≤ b ∧ b ≤ FU (Ia 51 304) ∧ 0 ≤ c ∧ c ≤ 3) → ∃ L M, (zLV (Ia 51) (Ia 51 306) (FU (Ia 51 304) + 1) (Ia 51 305) (-1) L ∧ MRc (Ia 51) (Ia 51 306) (Ia 51 304) (Ia 51 305) M) ∧ x = RW (Ia 51) (nxRf c Ia L M) (-1) 0 (Ia 51 305).toNat (FU (Ia 51 304) + 1).toNat a.toNat b.toNat) ∧ (¬ (0 ≤ a ∧ a ≤ 8 ∧ 0 ≤ b ∧ b ≤ FU (Ia 51 304) ∧ 0 ≤ c ∧ c ≤ 3) → x = -1)) Ra Sa) := by
  refine ct_in pn_X11 (Nat.le_of_ble_eq_true rfl) (fun X hX hT hIn => ?_)
  have hX : aK l0 X cX11_rows 4 RX11 (some .long) 6 0 0 := hX
  change WW X 0 [some (kR (some 49)), some (kI a), some (kI b), some (kI c)] [] Ia Ja Ra Sa 0 0
  have qIa := RX_o hQ
  refine ww_iload_n hX (pc := 0) dX11_rows_0 rfl ?_
  refine ww_iconst hX (pc := 1) (x := 0) dX11_rows_1 rfl ?_
  refine ww_bipush hX (pc := 2) (x := 8) dX11_rows_2 (by decide) ?_
  refine sI3 hX (pc := 4) sX11_101 (c_X11_lies l0 (by omega) (by omega) (by omega) (by omega) (by omega) (by omega)) (by decide) (Nat.le_refl 0) (Nat.le_refl 0) (Nat.le_of_ble_eq_true rfl) dX11_rows_4 (fun x_4 I_4 J_4 h_4 => ?_)
  obtain ⟨rfl, rfl, h_4⟩ := h_4
  refine ww_if_eq hX (pc := 7) (tgt := 37) dX11_rows_7 (by decide) (fun h_7 => ?_) (fun h_7 => ?_)
  · simp only [w32_mod] at h_7
    refine ww_ldc2 hX (pc := 37) (x := (-1)) dX11_rows_37 tb_1398 ?_
    refine rJ hX (pc := 40) hT (Nat.le_refl 0) (Nat.le_refl 0) dX11_rows_40 ?_
    exact ⟨Ch_rf, (Kp_rf (a := 49) (b := 73)), hQ, rfl, hq, (fun h9 => absurd h9 (by omega)), (fun _ => rfl)⟩
  · simp only [w32_mod] at h_7
    have k_4 := h_4.2.mp (by omega)
    clear h_4
    refine ww_aload_n hX (pc := 10) dX11_rows_10 rfl ?_
    refine ww_iload_n hX (pc := 11) dX11_rows_11 rfl ?_
    refine vI1 hX (pc := 12) sX11_120 (xs_49 hL) (c_X11_isState l0 hL hQ (by omega) (by omega)) (by decide) (Nat.le_refl 0) (Nat.le_refl 0) (Nat.le_of_ble_eq_true rfl) dX11_rows_12 (fun x_12 I_12 J_12 h_12 => ?_)
    obtain ⟨rfl, rfl, h_12⟩ := h_12
    refine ww_if_eq hX (pc := 15) (tgt := 37) dX11_rows_15 (by decide) (fun h_15 => ?_) (fun h_15 => ?_)
    · simp only [w32_mod] at h_15
      refine ww_ldc2 hX (pc := 37) (x := (-1)) dX11_rows_37 tb_1398 ?_
      refine rJ hX (pc := 40) hT (Nat.le_refl 0) (Nat.le_refl 0) dX11_rows_40 ?_
      exact ⟨Ch_rf, (Kp_rf (a := 49) (b := 73)), hQ, rfl, hq, (fun h9 => absurd h9 (by omega)), (fun _ => rfl)⟩
    · simp only [w32_mod] at h_15
      have k_12 := h_12.2.mp (by omega)
      clear h_12
      refine ww_iload_n hX (pc := 18) dX11_rows_18 rfl ?_
      refine sI1 hX (pc := 19) sX11_308 (c_X11_isManner l0 (by omega) (by omega)) (by decide) (Nat.le_refl 0) (Nat.le_refl 0) (Nat.le_of_ble_eq_true rfl) dX11_rows_19 (fun x_19 I_19 J_19 h_19 => ?_)
      obtain ⟨rfl, rfl, h_19⟩ := h_19
      refine ww_if_eq hX (pc := 22) (tgt := 37) dX11_rows_22 (by decide) (fun h_22 => ?_) (fun h_22 => ?_)
      · simp only [w32_mod] at h_22
        refine ww_ldc2 hX (pc := 37) (x := (-1)) dX11_rows_37 tb_1398 ?_
        refine rJ hX (pc := 40) hT (Nat.le_refl 0) (Nat.le_refl 0) dX11_rows_40 ?_
        exact ⟨Ch_rf, (Kp_rf (a := 49) (b := 73)), hQ, rfl, hq, (fun h9 => absurd h9 (by omega)), (fun _ => rfl)⟩
      · simp only [w32_mod] at h_22
        have k_19 := h_19.2.mp (by omega)
        clear h_19
        refine ww_aload_n hX (pc := 25) dX11_rows_25 rfl ?_
        refine ww_iload_n hX (pc := 26) dX11_rows_26 rfl ?_
        refine ww_iload_n hX (pc := 27) dX11_rows_27 rfl ?_
        refine ww_iload_n hX (pc := 28) dX11_rows_28 rfl ?_
        refine ww_iconst hX (pc := 29) (x := (-1)) dX11_rows_29 rfl ?_
        refine ww_iconst hX (pc := 30) (x := 0) dX11_rows_30 rfl ?_
        refine vJ5 hX (pc := 31) sX11_337 (xs_49 hL) (c8_X11_rowsOf l0 hL hQ (by omega) (by omega) (by omega) (by omega) (by omega) (by omega) (by omega) (by omega) (by omega) (by omega) hO hcr hK hq hv9) (by decide) (Nat.le_refl 0) (Nat.le_refl 0) (Nat.le_of_ble_eq_true rfl) dX11_rows_31 (fun x_31 I_31 J_31 h_31 => ?_)
        have kJ_31 : Kp 49 73 Ja J_31 := Kp_tr (Kp_rf (a := 49) (b := 73)) h_31.2.1
        have kI_31 : Ch [61] [25] Ia I_31 := Ch_tr Ch_rf (Ch_wd h_31.1 (by decide) (by decide))
        have cI_31 : RX I_31 := h_31.2.2.1
        have qI_31 := RX_o cI_31
        have r304_I_31 : I_31 51 304 = Ia 51 304 := by rw [h_31.1.1 51 (by decide) (by decide)]
        have r305_I_31 : I_31 51 305 = Ia 51 305 := by rw [h_31.1.1 51 (by decide) (by decide)]
        have rf_I_31 : FU (I_31 51 304) = FU (Ia 51 304) := by rw [r304_I_31]
        refine ww_goto hX (pc := 34) (tgt := 40) dX11_rows_34 (by decide) ?_
        refine rJ hX (pc := 40) hT (Nat.le_refl 0) (Nat.le_refl 0) dX11_rows_40 ?_
        exact ⟨kI_31, kJ_31, cI_31, h_31.2.2.2.1, h_31.2.2.2.2.1, (fun _ => h_31.2.2.2.2.2), (fun h9 => absurd (by omega) h9)⟩
