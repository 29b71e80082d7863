set_option maxHeartbeats 4000000 in
set_option maxRecDepth 20000 in
theorem c8_X10_failing (l0 : Launch) {Ia Ja : aI1} {Ra : aR1} {Sa : aS1} (hL : LY Ra Sa) (hC : CX Ia) (hF : FRk Ia Ja) {a : Int} (ha0 : -2147483648 ≤ a) (ha1 : a < 2147483648) (hO : ∀ j, j < 8 → 0 ≤ Ia 2 j ∧ Ia 2 j ≤ 99) (hK : ∀ s : Nat, (s : Int) ≤ FU (Ia 1 5) → Ia 3 s < Ia 1 6)  : CT l0 10 0 0 mX10_failing [kR (some 0), kI a] Ia Ja Ra Sa (cI (fun x I' J' => (Kp 0 49 Ia I' ∧ Kp 0 49 Ja J' ∧ CX I' ∧ Fw [18, 19, 20, 21, 22, 23, 24, 25, 26, 27, 28, 29, 30] [] Ia I' ∧ (a < -1 → x = -1) ∧ (-1 ≤ a → ∃ o L T F n, KT 2 Ia o L T ∧ FLg (fun s x => NX (bC 2 o L T) (Ia 3) (Ia 1 7) s (FU (Ia 1 5) + 1) x) L (Ia 3) (Ia 1 6) F n ∧ (a = -1 → x = n) ∧ (0 ≤ a → a < n → x = F a.toNat) ∧ (n ≤ a → x = -1))) ∧ FRk I' J') Ra Sa) := by
  refine ct_in pn_X10 (Nat.le_of_ble_eq_true rfl) (fun X hX hT hIn => ?_)
  have hX : aK l0 X cX10_failing 3 RX10 (some .int) 10 0 0 := hX
  change WW X 0 [some (kR (some 0)), some (kI a), none] [] Ia Ja Ra Sa 0 0
  have hI := hC.1
  have hq := XI_o hI
  refine ww_iload_n hX (pc := 0) dX10_failing_0 rfl ?_
  refine ww_iconst hX (pc := 1) (x := (-1)) dX10_failing_1 rfl ?_
  refine ww_icmp_ge hX (pc := 2) (tgt := 7) dX10_failing_2 (by decide) (fun h_2 => ?_) (fun h_2 => ?_)
  · simp only [w32_mod] at h_2
    refine ww_aload_n hX (pc := 7) dX10_failing_7 rfl ?_
    refine ww_getR hX (pc := 8) fX10_48 (by decide) (xs_0 hL) (xr_0_5 hL) dX10_failing_8 ?_
    refine ww_iconst hX (pc := 11) (x := 2) dX10_failing_11 rfl ?_
    refine vV1 hX (pc := 12) sX10_191 (xs_18 hL) (c8_X4_prepare l0 hL hC.1 hF hK (by omega) (by omega)) (by decide) (Nat.le_refl 0) (Nat.le_refl 0) (Nat.le_of_ble_eq_true rfl) dX10_failing_12 (fun I_12 J_12 h_12 => ?_)
    have kI_12 : Kp 0 49 Ia I_12 := Kp_tr (Kp_rf (a := 0) (b := 49)) (Kp_wd h_12.1 (by decide) (by decide))
    have kJ_12 : Kp 0 49 Ja J_12 := Kp_tr (Kp_rf (a := 0) (b := 49)) (Kp_wd h_12.2.1 (by decide) (by decide))
    have cI_12 : CX I_12 := CX_kp hC h_12.1 (by decide) (by decide)
    have qI_12 := XI_o cI_12.1
    have r5_I_12 : I_12 1 5 = Ia 1 5 := by rw [h_12.1 1 (by decide)]
    have r6_I_12 : I_12 1 6 = Ia 1 6 := by rw [h_12.1 1 (by decide)]
    have r8_I_12 : I_12 1 8 = Ia 1 8 := by rw [h_12.1 1 (by decide)]
    have r9_I_12 : I_12 1 9 = Ia 1 9 := by rw [h_12.1 1 (by decide)]
    have r10_I_12 : I_12 1 10 = Ia 1 10 := by rw [h_12.1 1 (by decide)]
    have r11_I_12 : I_12 1 11 = Ia 1 11 := by rw [h_12.1 1 (by decide)]
    have rf_I_12 : FU (I_12 1 5) = FU (Ia 1 5) := by rw [r5_I_12]
    have wI_12 : Fw [18, 19, 20, 21, 22, 23, 24, 25, 26, 27, 28, 29, 30] [] Ia I_12 := Fw_kp Fw_rf h_12.1 (by decide)
    have r7_I_12 : I_12 1 7 = Ia 1 7 := by rw [h_12.1 1 (by decide)]
    have frI_12 : FRk I_12 J_12 := h_12.2.2.1
    have e1_12 : I_12 1 = Ia 1 := h_12.1 1 (by decide)
    have e2_12 : I_12 2 = Ia 2 := h_12.1 2 (by decide)
    have e3_12 : I_12 3 = Ia 3 := h_12.1 3 (by decide)
    have htrp : ∀ t : Nat, (t : Int) ≤ FU (I_12 1 5) → TR 2 I_12 J_12 t := TR_p cI_12.1 (by rw [e2_12]; exact hO) h_12.2.2.2.1 h_12.2.2.2.2.1 h_12.2.2.2.2.2
    have hkt : KT 2 Ia (I_12 19) (I_12 24) (J_12 28) := KT_p h_12.2.2.2.1 h_12.2.2.2.2.1 h_12.2.2.2.2.2 e1_12 e2_12 e3_12
    refine ww_aload_n hX (pc := 15) dX10_failing_15 rfl ?_
    refine ww_getR hX (pc := 16) fX10_48 (by decide) (xs_0 hL) (xr_0_5 hL) dX10_failing_16 ?_
    refine vI0 hX (pc := 19) sX10_216 (xs_18 hL) (n8_X4_findFailing l0 hL cI_12.1 frI_12 htrp) (by decide) (Nat.le_refl 0) (Nat.le_refl 0) (Nat.le_of_ble_eq_true rfl) dX10_failing_19 (fun x_19 I_19 J_19 h_19 => ?_)
    have kI_19 : Kp 0 49 Ia I_19 := Kp_tr kI_12 (Kp_wd h_19.1 (by decide) (by decide))
    have kJ_19 : Kp 0 49 Ja J_19 := Kp_tr kJ_12 (Kp_wd h_19.2.1 (by decide) (by decide))
    have cI_19 : CX I_19 := CX_kp cI_12 h_19.1 (by decide) (by decide)
    have qI_19 := XI_o cI_19.1
    have r5_I_19 : I_19 1 5 = I_12 1 5 := by rw [h_19.1 1 (by decide)]
    have r6_I_19 : I_19 1 6 = I_12 1 6 := by rw [h_19.1 1 (by decide)]
    have r8_I_19 : I_19 1 8 = I_12 1 8 := by rw [h_19.1 1 (by decide)]
    have r9_I_19 : I_19 1 9 = I_12 1 9 := by rw [h_19.1 1 (by decide)]
    have r10_I_19 : I_19 1 10 = I_12 1 10 := by rw [h_19.1 1 (by decide)]
    have r11_I_19 : I_19 1 11 = I_12 1 11 := by rw [h_19.1 1 (by decide)]
    have rf_I_19 : FU (I_19 1 5) = FU (I_12 1 5) := by rw [r5_I_19]
    have wI_19 : Fw [18, 19, 20, 21, 22, 23, 24, 25, 26, 27, 28, 29, 30] [] Ia I_19 := Fw_kp wI_12 h_19.1 (by decide)
    have r7_I_19 : I_19 1 7 = I_12 1 7 := by rw [h_19.1 1 (by decide)]
    have frI_19 : FRk I_19 J_19 := h_19.2.2.1
    have hfl := h_19.2.2.2
    rw [e3_12, e1_12] at hfl
    have hn8 := hfl.1
    have hn9 := hfl.2.1
    refine ww_istore_n hX (pc := 22) (lv' := [some (kR (some 0)), some (kI a), some (kI x_19)]) dX10_failing_22 (by decide) rfl rfl ?_
    refine ww_iload_n hX (pc := 23) dX10_failing_23 rfl ?_
    refine ww_iconst hX (pc := 24) (x := (-1)) dX10_failing_24 rfl ?_
    refine ww_icmp_ne hX (pc := 25) (tgt := 30) dX10_failing_25 (by decide) (fun h_25 => ?_) (fun h_25 => ?_)
    · simp only [w32_mod] at h_25
      refine ww_iload_n hX (pc := 30) dX10_failing_30 rfl ?_
      refine ww_iload_n hX (pc := 31) dX10_failing_31 rfl ?_
      refine ww_icmp_ge hX (pc := 32) (tgt := 47) dX10_failing_32 (by decide) (fun h_32 => ?_) (fun h_32 => ?_)
      · simp only [w32_mod] at h_32
        refine ww_iconst hX (pc := 47) (x := (-1)) dX10_failing_47 rfl ?_
        refine rI hX (pc := 48) hT (Nat.le_refl 0) (Nat.le_refl 0) dX10_failing_48 ?_
        exact ⟨⟨kI_19, kJ_19, cI_19, (Fw_wd wI_19 (by decide) (by decide)), (fun h9 => absurd h9 (by omega)), (fun _ => ⟨_, _, _, _, _, hkt, hfl, (fun h9 => absurd h9 (by omega)), (fun _ h9 => absurd h9 (by omega)), (fun _ => rfl)⟩)⟩, frI_19⟩
      · simp only [w32_mod] at h_32
        refine ww_aload_n hX (pc := 35) dX10_failing_35 rfl ?_
        refine ww_getR hX (pc := 36) fX10_48 (by decide) (xs_0 hL) (xr_0_5 hL) dX10_failing_36 ?_
        refine ww_getR hX (pc := 39) fX10_219 (by decide) (xs_18 hL) (xr_18_2 hL) dX10_failing_39 ?_
        refine ww_iload_n hX (pc := 42) dX10_failing_42 rfl ?_
        refine ww_iald hX (pc := 43) (xs_20 hL) (by decide) (by omega) (by omega) dX10_failing_43 ?_
        refine ww_goto hX (pc := 44) (tgt := 48) dX10_failing_44 (by decide) ?_
        refine rI hX (pc := 48) hT (Nat.le_refl 0) (Nat.le_refl 0) dX10_failing_48 ?_
        exact ⟨⟨kI_19, kJ_19, cI_19, (Fw_wd wI_19 (by decide) (by decide)), (fun h9 => absurd h9 (by omega)), (fun _ => ⟨_, _, _, _, _, hkt, hfl, (fun h9 => absurd h9 (by omega)), (fun _ _ => rfl), (fun h9 => absurd h9 (by omega))⟩)⟩, frI_19⟩
    · simp only [w32_mod] at h_25
      refine ww_iload_n hX (pc := 28) dX10_failing_28 rfl ?_
      refine rI hX (pc := 29) hT (Nat.le_refl 0) (Nat.le_refl 0) dX10_failing_29 ?_
      exact ⟨⟨kI_19, kJ_19, cI_19, (Fw_wd wI_19 (by decide) (by decide)), (fun h9 => absurd h9 (by omega)), (fun _ => ⟨_, _, _, _, _, hkt, hfl, (fun _ => rfl), (fun h9 => absurd h9 (by omega)), (fun h9 => absurd h9 (by omega))⟩)⟩, frI_19⟩
  · simp only [w32_mod] at h_2
    refine ww_iconst hX (pc := 5) (x := (-1)) dX10_failing_5 rfl ?_
    refine rI hX (pc := 6) hT (Nat.le_refl 0) (Nat.le_refl 0) dX10_failing_6 ?_
    exact ⟨⟨(Kp_rf (a := 0) (b := 49)), (Kp_rf (a := 0) (b := 49)), hC, Fw_rf, (fun _ => rfl), (fun h9 => absurd h9 (by omega))⟩, hF⟩
