set_option maxHeartbeats 4000000 in
set_option maxRecDepth 20000 in
theorem c8_X11_failing (l0 : Launch) {Ia Ja : aI1} {Ra : aR1} {Sa : aS1} (hL : LY Ra Sa) (hQ : RX Ia) {a : Int} (ha0 : -2147483648 ≤ a) (ha1 : a < 2147483648) (hO : ∀ l, l < 8 → 0 ≤ Ia 51 (256 + l) ∧ Ia 51 (256 + l) ≤ 99) (hcr : ∀ t : Nat, (t : Int) ≤ FU (Ia 51 304) → -1 ≤ Ia 51 t ∧ Ia 51 t ≤ 7) (hK : ∀ s : Nat, (s : Int) ≤ FU (Ia 51 304) → Ia 51 s < Ia 51 305) {vv : Int} (hq : QF Ia Ja vv) (hv9 : vv ≤ 1000000)  : CT l0 6 0 0 mX11_failing [kR (some 49), kI a] Ia Ja Ra Sa (cI (fun x I' J' => Ch [61, 64] [25, 28] Ia I' ∧ Kp 49 73 Ja J' ∧ RX I' ∧ I' 51 = Ia 51 ∧ QF I' J' vv ∧ ∃ L M F n, zLV (Ia 51) (Ia 51 306) (FU (Ia 51 304) + 1) (Ia 51 305) (-1) L ∧ MRc (Ia 51) (Ia 51 306) (Ia 51 304) (Ia 51 305) M ∧ FLg (fun s x => NX (bR 2 s (Ia 51 304) (Ia 51 305) (Ia 51) L M) (Ia 51) (Ia 51 306) s (FU (Ia 51 304) + 1) x) L (Ia 51) (Ia 51 305) F n ∧ (a = -1 → x = n) ∧ (0 ≤ a → a < n → x = F a.toNat) ∧ (a < -1 → x = -1) ∧ (n ≤ a → x = -1)) Ra Sa) := by
  refine ct_in pn_X11 (Nat.le_of_ble_eq_true rfl) (fun X hX hT hIn => ?_)
  have hX : aK l0 X cX11_failing 2 RX11 (some .int) 6 0 0 := hX
  change WW X 0 [some (kR (some 49)), some (kI a)] [] Ia Ja Ra Sa 0 0
  have qIa := RX_o hQ
  refine ww_aload_n hX (pc := 0) dX11_failing_0 rfl ?_
  refine vV0 hX (pc := 1) sX11_321 (xs_49 hL) (c8_X11_failing0 l0 hL hQ hO hcr hK hq hv9) (by decide) (Nat.le_refl 0) (Nat.le_refl 0) (Nat.le_of_ble_eq_true rfl) dX11_failing_1 (fun I_1 J_1 h_1 => ?_)
  have kJ_1 : Kp 49 73 Ja J_1 := Kp_tr (Kp_rf (a := 49) (b := 73)) h_1.2.1
  have kI_1 : Ch [61, 64] [25, 28] Ia I_1 := Ch_tr Ch_rf (Ch_wd h_1.1 (by decide) (by decide))
  have cI_1 : RX I_1 := h_1.2.2.1
  have qI_1 := RX_o cI_1
  have r304_I_1 : I_1 51 304 = Ia 51 304 := by rw [h_1.1.1 51 (by decide) (by decide)]
  have r305_I_1 : I_1 51 305 = Ia 51 305 := by rw [h_1.1.1 51 (by decide) (by decide)]
  have rf_I_1 : FU (I_1 51 304) = FU (Ia 51 304) := by rw [r304_I_1]
  obtain ⟨L1, M1, z1, m1, fl1⟩ := h_1.2.2.2.2.2
  have e51_1 := h_1.2.2.2.1
  have qf1 := h_1.2.2.2.2.1
  have n1a := fl1.1
  have n1b := fl1.2.1
  clear h_1
  refine ww_iload_n hX (pc := 4) dX11_failing_4 rfl ?_
  refine ww_iconst hX (pc := 5) (x := (-1)) dX11_failing_5 rfl ?_
  refine ww_icmp_ne hX (pc := 6) (tgt := 16) dX11_failing_6 (by decide) (fun h_6 => ?_) (fun h_6 => ?_)
  · simp only [w32_mod] at h_6
    refine ww_iload_n hX (pc := 16) dX11_failing_16 rfl ?_
    refine ww_iconst hX (pc := 17) (x := 0) dX11_failing_17 rfl ?_
    refine ww_aload_n hX (pc := 18) dX11_failing_18 rfl ?_
    refine ww_getI hX (pc := 19) fX11_318 (by decide) (xs_49 hL) dX11_failing_19 ?_
    refine ww_iconst hX (pc := 22) (x := 1) dX11_failing_22 rfl ?_
    refine ww_isub hX (pc := 23) dX11_failing_23 ?_
    refine sI3 hX (pc := 24) sX11_101 (c_X11_lies l0 (by omega) (by omega) (by omega) (by omega) (by omega) (by omega)) (by decide) (Nat.le_refl 0) (Nat.le_refl 0) (Nat.le_of_ble_eq_true rfl) dX11_failing_24 (fun x_24 I_24 J_24 h_24 => ?_)
    obtain ⟨rfl, rfl, h_24⟩ := h_24
    refine ww_if_eq hX (pc := 27) (tgt := 39) dX11_failing_27 (by decide) (fun h_27 => ?_) (fun h_27 => ?_)
    · simp only [w32_mod] at h_27
      refine ww_iconst hX (pc := 39) (x := (-1)) dX11_failing_39 rfl ?_
      refine rI hX (pc := 40) hT (Nat.le_refl 0) (Nat.le_refl 0) dX11_failing_40 ?_
      exact ⟨kI_1, kJ_1, cI_1, e51_1, qf1, L1, M1, I_1 64, I_1 49 28, z1, m1, fl1, (fun h9 => by first | rfl | (exfalso; omega)), (fun h9 h8 => by first | rfl | (exfalso; omega)), (fun h9 => by first | rfl | (exfalso; omega)), (fun h9 => by first | rfl | (exfalso; omega))⟩
    · simp only [w32_mod] at h_27
      have k_24 := h_24.2.mp (by omega)
      clear h_24
      refine ww_aload_n hX (pc := 30) dX11_failing_30 rfl ?_
      refine ww_getR hX (pc := 31) fX11_68 (by decide) (xs_49 hL) (xr_49_27 hL) dX11_failing_31 ?_
      refine ww_iload_n hX (pc := 34) dX11_failing_34 rfl ?_
      refine ww_iald hX (pc := 35) (xs_64 hL) (by decide) (by omega) (by omega) dX11_failing_35 ?_
      refine ww_goto hX (pc := 36) (tgt := 40) dX11_failing_36 (by decide) ?_
      refine rI hX (pc := 40) hT (Nat.le_refl 0) (Nat.le_refl 0) dX11_failing_40 ?_
      exact ⟨kI_1, kJ_1, cI_1, e51_1, qf1, L1, M1, I_1 64, I_1 49 28, z1, m1, fl1, (fun h9 => by first | rfl | (exfalso; omega)), (fun h9 h8 => by first | rfl | (exfalso; omega)), (fun h9 => by first | rfl | (exfalso; omega)), (fun h9 => by first | rfl | (exfalso; omega))⟩
  · simp only [w32_mod] at h_6
    refine ww_aload_n hX (pc := 9) dX11_failing_9 rfl ?_
    refine ww_getI hX (pc := 10) fX11_318 (by decide) (xs_49 hL) dX11_failing_10 ?_
    refine ww_goto hX (pc := 13) (tgt := 40) dX11_failing_13 (by decide) ?_
    refine rI hX (pc := 40) hT (Nat.le_refl 0) (Nat.le_refl 0) dX11_failing_40 ?_
    exact ⟨kI_1, kJ_1, cI_1, e51_1, qf1, L1, M1, I_1 64, I_1 49 28, z1, m1, fl1, (fun h9 => by first | rfl | (exfalso; omega)), (fun h9 h8 => by first | rfl | (exfalso; omega)), (fun h9 => by first | rfl | (exfalso; omega)), (fun h9 => by first | rfl | (exfalso; omega))⟩
