theorem TR_o2 {m : Int} {I I' J J' : aI1} {t : Nat} (h : TR m I J t) (e19 : I' 19 = I 19) (e24 : I' 24 = I 24) (j28 : J' 28 = J 28) : TR m I' J' t := by
  unfold TR at h ⊢
  rw [e19, e24, j28]
  exact h
def JOKp (ok : Int → Int → Prop) (s t x : Int) : Prop := ok s t ↔ x = 1
/-- SENT or not -/
def SNd (z : Int) (I I' : aI1) (x : Int) : Prop := (z = -1 → x = -3 ∧ I' 0 16 = -3 ∧ I' 48 = up1 (I 48) 3 (I 48 3 + 1) ∧ I' 1 8 = I 1 8 ∧ I' 1 10 = I 1 10 ∧ I' 5 = I 5) ∧ (¬ z = -1 → 24 ≤ I 1 10 → x = -5 ∧ I' 0 16 = -5 ∧ I' 48 = up1 (I 48) 5 (I 48 5 + 1) ∧ I' 1 8 = I 1 8 ∧ I' 1 10 = I 1 10 ∧ I' 5 = I 5) ∧ (¬ z = -1 → I 1 10 < 24 → x = bc (i_xor z (I 1 8)) ∧ I' 0 16 = 0 ∧ I' 48 = I 48 ∧ I' 1 8 = z ∧ I' 1 10 = I 1 10 + 1 ∧ I' 5 = up1 (I 5) (I 1 10).toNat z)

set_option maxHeartbeats 4000000 in
set_option maxRecDepth 20000 in
theorem c8_X10_next (l0 : Launch) {Ia Ja : aI1} {Ra : aR1} {Sa : aS1} (hL : LY Ra Sa) (hC : CX Ia) (hF : FRk Ia Ja) {a b c : Int} (ha0 : -2147483648 ≤ a) (ha1 : a < 2147483648) (hb0 : -2147483648 ≤ b) (hb1 : b < 2147483648) (hc0 : -2147483648 ≤ c) (hc1 : c < 2147483648) (hO : ∀ j, j < 8 → 0 ≤ Ia 2 j ∧ Ia 2 j ≤ 99) (hK : ∀ s : Nat, (s : Int) ≤ FU (Ia 1 5) → Ia 3 s < Ia 1 6)  : CT l0 10 0 0 mX10_next [kR (some 0), kI a, kI b, kI c] Ia Ja Ra Sa (cI (fun x I' J' => (Kp 0 49 Ia I' ∧ Kp 0 49 Ja J' ∧ CX I' ∧ Fw [18, 19, 20, 21, 22, 23, 24, 25, 26, 27, 28, 29, 30] [] Ia I' ∧ ((0 ≤ a ∧ a ≤ FU (Ia 1 5) ∧ 0 ≤ b ∧ b < Ia 1 6 ∧ 0 ≤ c ∧ c ≤ 3) → ∃ o L T, KT c Ia o L T ∧ x = NX (bC c o L T) (Ia 3) (Ia 1 7) a (FU (Ia 1 5) + 1) b) ∧ (¬ (0 ≤ a ∧ a ≤ FU (Ia 1 5) ∧ 0 ≤ b ∧ b < Ia 1 6 ∧ 0 ≤ c ∧ c ≤ 3) → x = -1)) ∧ FRk I' J') Ra Sa) := by
  refine ct_in pn_X10 (Nat.le_of_ble_eq_true rfl) (fun X hX hT hIn => ?_)
  have hX : aK l0 X cX10_next 4 RX10 (some .int) 10 0 0 := hX
  change WW X 0 [some (kR (some 0)), some (kI a), some (kI b), some (kI c)] [] Ia Ja Ra Sa 0 0
  have hI := hC.1
  have hq := XI_o hI
  refine ww_aload_n hX (pc := 0) dX10_next_0 rfl ?_
  refine ww_getR hX (pc := 1) fX10_10 (by decide) (xs_0 hL) (xr_0_0 hL) dX10_next_1 ?_
  refine ww_iload_n hX (pc := 4) dX10_next_4 rfl ?_
  refine vI1 hX (pc := 5) sX10_131 (xs_1 hL) (c_X1_isState l0 hL hC.1 (by omega)) (by decide) (Nat.le_refl 0) (Nat.le_refl 0) (Nat.le_of_ble_eq_true rfl) dX10_next_5 (fun x_5 I_5 J_5 h_5 => ?_)
  obtain ⟨rfl, rfl, h_5⟩ := h_5
  refine ww_if_eq hX (pc := 8) (tgt := 29) dX10_next_8 (by decide) (fun h_8 => ?_) (fun h_8 => ?_)
  · simp only [w32_mod] at h_8
    refine ww_iconst hX (pc := 29) (x := (-1)) dX10_next_29 rfl ?_
    refine rI hX (pc := 30) hT (Nat.le_refl 0) (Nat.le_refl 0) dX10_next_30 ?_
    exact ⟨⟨(Kp_rf (a := 0) (b := 49)), (Kp_rf (a := 0) (b := 49)), hC, Fw_rf, (fun h9 => absurd h9 (by omega)), (fun _ => rfl)⟩, hF⟩
  · simp only [w32_mod] at h_8
    have k_5 := h_5.2.mp (by omega)
    clear h_5
    refine ww_aload_n hX (pc := 11) dX10_next_11 rfl ?_
    refine ww_getR hX (pc := 12) fX10_10 (by decide) (xs_0 hL) (xr_0_0 hL) dX10_next_12 ?_
    refine ww_iload_n hX (pc := 15) dX10_next_15 rfl ?_
    refine vI1 hX (pc := 16) sX10_134 (xs_1 hL) (c_X1_isNews l0 hL hC.1 (by omega)) (by decide) (Nat.le_refl 0) (Nat.le_refl 0) (Nat.le_of_ble_eq_true rfl) dX10_next_16 (fun x_16 I_16 J_16 h_16 => ?_)
    obtain ⟨rfl, rfl, h_16⟩ := h_16
    refine ww_if_eq hX (pc := 19) (tgt := 29) dX10_next_19 (by decide) (fun h_19 => ?_) (fun h_19 => ?_)
    · simp only [w32_mod] at h_19
      refine ww_iconst hX (pc := 29) (x := (-1)) dX10_next_29 rfl ?_
      refine rI hX (pc := 30) hT (Nat.le_refl 0) (Nat.le_refl 0) dX10_next_30 ?_
      exact ⟨⟨(Kp_rf (a := 0) (b := 49)), (Kp_rf (a := 0) (b := 49)), hC, Fw_rf, (fun h9 => absurd h9 (by omega)), (fun _ => rfl)⟩, hF⟩
    · simp only [w32_mod] at h_19
      have k_16 := h_16.2.mp (by omega)
      clear h_16
      refine ww_iload_n hX (pc := 22) dX10_next_22 rfl ?_
      refine sI1 hX (pc := 23) sX10_188 (c_X10_isManner l0 (by omega) (by omega)) (by decide) (Nat.le_refl 0) (Nat.le_refl 0) (Nat.le_of_ble_eq_true rfl) dX10_next_23 (fun x_23 I_23 J_23 h_23 => ?_)
      obtain ⟨rfl, rfl, h_23⟩ := h_23
      refine ww_if_ne hX (pc := 26) (tgt := 31) dX10_next_26 (by decide) (fun h_26 => ?_) (fun h_26 => ?_)
      · simp only [w32_mod] at h_26
        have k_23 := h_23.2.mp (by omega)
        clear h_23
        refine ww_aload_n hX (pc := 31) dX10_next_31 rfl ?_
        refine ww_getR hX (pc := 32) fX10_48 (by decide) (xs_0 hL) (xr_0_5 hL) dX10_next_32 ?_
        refine ww_iload_n hX (pc := 35) dX10_next_35 rfl ?_
        refine vV1 hX (pc := 36) sX10_191 (xs_18 hL) (c8_X4_prepare l0 hL hC.1 hF hK (by omega) (by omega)) (by decide) (Nat.le_refl 0) (Nat.le_refl 0) (Nat.le_of_ble_eq_true rfl) dX10_next_36 (fun I_36 J_36 h_36 => ?_)
        have kI_36 : Kp 0 49 Ia I_36 := Kp_tr (Kp_rf (a := 0) (b := 49)) (Kp_wd h_36.1 (by decide) (by decide))
        have kJ_36 : Kp 0 49 Ja J_36 := Kp_tr (Kp_rf (a := 0) (b := 49)) (Kp_wd h_36.2.1 (by decide) (by decide))
        have cI_36 : CX I_36 := CX_kp hC h_36.1 (by decide) (by decide)
        have qI_36 := XI_o cI_36.1
        have r5_I_36 : I_36 1 5 = Ia 1 5 := by rw [h_36.1 1 (by decide)]
        have r6_I_36 : I_36 1 6 = Ia 1 6 := by rw [h_36.1 1 (by decide)]
        have r8_I_36 : I_36 1 8 = Ia 1 8 := by rw [h_36.1 1 (by decide)]
        have r9_I_36 : I_36 1 9 = Ia 1 9 := by rw [h_36.1 1 (by decide)]
        have r10_I_36 : I_36 1 10 = Ia 1 10 := by rw [h_36.1 1 (by decide)]
        have r11_I_36 : I_36 1 11 = Ia 1 11 := by rw [h_36.1 1 (by decide)]
        have rf_I_36 : FU (I_36 1 5) = FU (Ia 1 5) := by rw [r5_I_36]
        have wI_36 : Fw [18, 19, 20, 21, 22, 23, 24, 25, 26, 27, 28, 29, 30] [] Ia I_36 := Fw_kp Fw_rf h_36.1 (by decide)
        have r7_I_36 : I_36 1 7 = Ia 1 7 := by rw [h_36.1 1 (by decide)]
        have frI_36 : FRk I_36 J_36 := h_36.2.2.1
        have e1_36 : I_36 1 = Ia 1 := h_36.1 1 (by decide)
        have e2_36 : I_36 2 = Ia 2 := h_36.1 2 (by decide)
        have e3_36 : I_36 3 = Ia 3 := h_36.1 3 (by decide)
        have htrp : ∀ t : Nat, (t : Int) ≤ FU (I_36 1 5) → TR c I_36 J_36 t := TR_p cI_36.1 (by rw [e2_36]; exact hO) h_36.2.2.2.1 h_36.2.2.2.2.1 h_36.2.2.2.2.2
        have hkt : KT c Ia (I_36 19) (I_36 24) (J_36 28) := KT_p h_36.2.2.2.1 h_36.2.2.2.2.1 h_36.2.2.2.2.2 e1_36 e2_36 e3_36
        refine ww_aload_n hX (pc := 39) dX10_next_39 rfl ?_
        refine ww_getR hX (pc := 40) fX10_48 (by decide) (xs_0 hL) (xr_0_5 hL) dX10_next_40 ?_
        refine ww_iload_n hX (pc := 43) dX10_next_43 rfl ?_
        refine ww_iload_n hX (pc := 44) dX10_next_44 rfl ?_
        refine ww_iload_n hX (pc := 45) dX10_next_45 rfl ?_
        refine vI3 hX (pc := 46) sX10_194 (xs_18 hL) (n8_X4_choose l0 hL cI_36.1 frI_36 (by omega) (by omega) (by omega) (by omega) (by omega) (by omega) htrp) (by decide) (Nat.le_refl 0) (Nat.le_refl 0) (Nat.le_of_ble_eq_true rfl) dX10_next_46 (fun x_46 I_46 J_46 h_46 => ?_)
        have kI_46 : Kp 0 49 Ia I_46 := Kp_tr kI_36 (Kp_wd h_46.1 (by decide) (by decide))
        have kJ_46 : Kp 0 49 Ja J_46 := Kp_tr kJ_36 (Kp_wd h_46.2.1 (by decide) (by decide))
        have cI_46 : CX I_46 := CX_kp cI_36 h_46.1 (by decide) (by decide)
        have qI_46 := XI_o cI_46.1
        have r5_I_46 : I_46 1 5 = I_36 1 5 := by rw [h_46.1 1 (by decide)]
        have r6_I_46 : I_46 1 6 = I_36 1 6 := by rw [h_46.1 1 (by decide)]
        have r8_I_46 : I_46 1 8 = I_36 1 8 := by rw [h_46.1 1 (by decide)]
        have r9_I_46 : I_46 1 9 = I_36 1 9 := by rw [h_46.1 1 (by decide)]
        have r10_I_46 : I_46 1 10 = I_36 1 10 := by rw [h_46.1 1 (by decide)]
        have r11_I_46 : I_46 1 11 = I_36 1 11 := by rw [h_46.1 1 (by decide)]
        have rf_I_46 : FU (I_46 1 5) = FU (I_36 1 5) := by rw [r5_I_46]
        have wI_46 : Fw [18, 19, 20, 21, 22, 23, 24, 25, 26, 27, 28, 29, 30] [] Ia I_46 := Fw_kp wI_36 h_46.1 (by decide)
        have r7_I_46 : I_46 1 7 = I_36 1 7 := by rw [h_46.1 1 (by decide)]
        have frI_46 : FRk I_46 J_46 := h_46.2.2.1
        refine rI hX (pc := 49) hT (Nat.le_refl 0) (Nat.le_refl 0) dX10_next_49 ?_
        exact ⟨⟨kI_46, kJ_46, cI_46, (Fw_wd wI_46 (by decide) (by decide)), (fun _ => ⟨_, _, _, hkt, by have h9 := h_46.2.2.2.1; rw [e3_36, e1_36] at h9; exact h9⟩), (fun h9 => absurd (by omega) h9)⟩, frI_46⟩
      · simp only [w32_mod] at h_26
        refine ww_iconst hX (pc := 29) (x := (-1)) dX10_next_29 rfl ?_
        refine rI hX (pc := 30) hT (Nat.le_refl 0) (Nat.le_refl 0) dX10_next_30 ?_
        exact ⟨⟨(Kp_rf (a := 0) (b := 49)), (Kp_rf (a := 0) (b := 49)), hC, Fw_rf, (fun h9 => absurd h9 (by omega)), (fun _ => rfl)⟩, hF⟩
set_option maxHeartbeats 4000000 in
set_option maxRecDepth 20000 in
theorem c8_X10_lasts (l0 : Launch) {Ia Ja : aI1} {Ra : aR1} {Sa : aS1} (hL : LY Ra Sa) (hC : CX Ia) (hF : FRk Ia Ja) {a : Int} (ha0 : -2147483648 ≤ a) (ha1 : a < 2147483648)  : CT l0 10 0 0 mX10_lasts [kR (some 0), kI a] Ia Ja Ra Sa (cI (fun x I' J' => (Kp 0 49 Ia I' ∧ Kp 0 49 Ja J' ∧ CX I' ∧ Fw [18, 19, 20, 21, 22, 23, 24, 25, 26, 27, 28, 29, 30] [] Ia I' ∧ ((0 ≤ a ∧ a ≤ FU (Ia 1 5)) → ∃ L, zLV (Ia 3) (Ia 1 7) (FU (Ia 1 5) + 1) (Ia 1 6) (-1) L ∧ x = L a.toNat) ∧ (¬ (0 ≤ a ∧ a ≤ FU (Ia 1 5)) → x = -1)) ∧ FRk I' J') Ra Sa) := by
  refine ct_in pn_X10 (Nat.le_of_ble_eq_true rfl) (fun X hX hT hIn => ?_)
  have hX : aK l0 X cX10_lasts 2 RX10 (some .int) 10 0 0 := hX
  change WW X 0 [some (kR (some 0)), some (kI a)] [] Ia Ja Ra Sa 0 0
  have hI := hC.1
  have hq := XI_o hI
  refine ww_aload_n hX (pc := 0) dX10_lasts_0 rfl ?_
  refine ww_getR hX (pc := 1) fX10_10 (by decide) (xs_0 hL) (xr_0_0 hL) dX10_lasts_1 ?_
  refine ww_iload_n hX (pc := 4) dX10_lasts_4 rfl ?_
  refine vI1 hX (pc := 5) sX10_131 (xs_1 hL) (c_X1_isState l0 hL hC.1 (by omega)) (by decide) (Nat.le_refl 0) (Nat.le_refl 0) (Nat.le_of_ble_eq_true rfl) dX10_lasts_5 (fun x_5 I_5 J_5 h_5 => ?_)
  obtain ⟨rfl, rfl, h_5⟩ := h_5
  refine ww_if_eq hX (pc := 8) (tgt := 22) dX10_lasts_8 (by decide) (fun h_8 => ?_) (fun h_8 => ?_)
  · simp only [w32_mod] at h_8
    refine ww_iconst hX (pc := 22) (x := (-1)) dX10_lasts_22 rfl ?_
    refine rI hX (pc := 23) hT (Nat.le_refl 0) (Nat.le_refl 0) dX10_lasts_23 ?_
    exact ⟨⟨(Kp_rf (a := 0) (b := 49)), (Kp_rf (a := 0) (b := 49)), hC, Fw_rf, (fun h9 => absurd h9 (by omega)), (fun _ => rfl)⟩, hF⟩
  · simp only [w32_mod] at h_8
    have k_5 := h_5.2.mp (by omega)
    clear h_5
    refine ww_aload_n hX (pc := 11) dX10_lasts_11 rfl ?_
    refine ww_getR hX (pc := 12) fX10_48 (by decide) (xs_0 hL) (xr_0_5 hL) dX10_lasts_12 ?_
    refine ww_iload_n hX (pc := 15) dX10_lasts_15 rfl ?_
    refine vI1 hX (pc := 16) sX10_201 (xs_18 hL) (n8_X4_lastingOf l0 hL hC.1 hF (by omega) (by omega)) (by decide) (Nat.le_refl 0) (Nat.le_refl 0) (Nat.le_of_ble_eq_true rfl) dX10_lasts_16 (fun x_16 I_16 J_16 h_16 => ?_)
    have kI_16 : Kp 0 49 Ia I_16 := Kp_tr (Kp_rf (a := 0) (b := 49)) (Kp_wd h_16.1 (by decide) (by decide))
    have kJ_16 : Kp 0 49 Ja J_16 := Kp_tr (Kp_rf (a := 0) (b := 49)) (Kp_wd h_16.2.1 (by decide) (by decide))
    have cI_16 : CX I_16 := CX_kp hC h_16.1 (by decide) (by decide)
    have qI_16 := XI_o cI_16.1
    have r5_I_16 : I_16 1 5 = Ia 1 5 := by rw [h_16.1 1 (by decide)]
    have r6_I_16 : I_16 1 6 = Ia 1 6 := by rw [h_16.1 1 (by decide)]
    have r8_I_16 : I_16 1 8 = Ia 1 8 := by rw [h_16.1 1 (by decide)]
    have r9_I_16 : I_16 1 9 = Ia 1 9 := by rw [h_16.1 1 (by decide)]
    have r10_I_16 : I_16 1 10 = Ia 1 10 := by rw [h_16.1 1 (by decide)]
    have r11_I_16 : I_16 1 11 = Ia 1 11 := by rw [h_16.1 1 (by decide)]
    have rf_I_16 : FU (I_16 1 5) = FU (Ia 1 5) := by rw [r5_I_16]
    have wI_16 : Fw [18, 19, 20, 21, 22, 23, 24, 25, 26, 27, 28, 29, 30] [] Ia I_16 := Fw_kp Fw_rf h_16.1 (by decide)
    have r7_I_16 : I_16 1 7 = Ia 1 7 := by rw [h_16.1 1 (by decide)]
    have frI_16 : FRk I_16 J_16 := h_16.2.2.1
    refine ww_goto hX (pc := 19) (tgt := 23) dX10_lasts_19 (by decide) ?_
    refine rI hX (pc := 23) hT (Nat.le_refl 0) (Nat.le_refl 0) dX10_lasts_23 ?_
    exact ⟨⟨kI_16, kJ_16, cI_16, (Fw_wd wI_16 (by decide) (by decide)), (fun _ => h_16.2.2.2), (fun h9 => absurd (by omega) h9)⟩, frI_16⟩
set_option maxHeartbeats 4000000 in
set_option maxRecDepth 20000 in
theorem c8_X10_mean (l0 : Launch) {Ia Ja : aI1} {Ra : aR1} {Sa : aS1} (hL : LY Ra Sa) (hC : CX Ia) (hF : FRk Ia Ja) {a b : Int} (ha0 : -2147483648 ≤ a) (ha1 : a < 2147483648) (hb0 : -2147483648 ≤ b) (hb1 : b < 2147483648) (hK : ∀ s : Nat, (s : Int) ≤ FU (Ia 1 5) → Ia 3 s < Ia 1 6)  : CT l0 10 0 0 mX10_mean [kR (some 0), kI a, kI b] Ia Ja Ra Sa (cJ (fun x I' J' => (Kp 0 49 Ia I' ∧ Kp 0 49 Ja J' ∧ CX I' ∧ Fw [18, 19, 20, 21, 22, 23, 24, 25, 26, 27, 28, 29, 30] [] Ia I' ∧ ((0 ≤ a ∧ a ≤ FU (Ia 1 5) ∧ 0 ≤ b ∧ b ≤ 1) → ∃ T, MTc (Ia 3) (Ia 1 7) (Ia 1 5) (Ia 1 6) T ∧ x = mPt (T a.toNat) (blw (Ia 3) (Ia 1 6) a.toNat) (if b = 0 then 1 else 0)) ∧ (¬ (0 ≤ a ∧ a ≤ FU (Ia 1 5) ∧ 0 ≤ b ∧ b ≤ 1) → x = -1)) ∧ FRk I' J') Ra Sa) := by
  refine ct_in pn_X10 (Nat.le_of_ble_eq_true rfl) (fun X hX hT hIn => ?_)
  have hX : aK l0 X cX10_mean 3 RX10 (some .long) 10 0 0 := hX
  change WW X 0 [some (kR (some 0)), some (kI a), some (kI b)] [] Ia Ja Ra Sa 0 0
  have hI := hC.1
  have hq := XI_o hI
  refine ww_aload_n hX (pc := 0) dX10_mean_0 rfl ?_
  refine ww_getR hX (pc := 1) fX10_10 (by decide) (xs_0 hL) (xr_0_0 hL) dX10_mean_1 ?_
  refine ww_iload_n hX (pc := 4) dX10_mean_4 rfl ?_
  refine vI1 hX (pc := 5) sX10_131 (xs_1 hL) (c_X1_isState l0 hL hC.1 (by omega)) (by decide) (Nat.le_refl 0) (Nat.le_refl 0) (Nat.le_of_ble_eq_true rfl) dX10_mean_5 (fun x_5 I_5 J_5 h_5 => ?_)
  obtain ⟨rfl, rfl, h_5⟩ := h_5
  refine ww_if_eq hX (pc := 8) (tgt := 20) dX10_mean_8 (by decide) (fun h_8 => ?_) (fun h_8 => ?_)
  · simp only [w32_mod] at h_8
    refine ww_ldc2 hX (pc := 20) (x := (-1)) dX10_mean_20 tb_810 ?_
    refine rJ hX (pc := 23) hT (Nat.le_refl 0) (Nat.le_refl 0) dX10_mean_23 ?_
    exact ⟨⟨(Kp_rf (a := 0) (b := 49)), (Kp_rf (a := 0) (b := 49)), hC, Fw_rf, (fun h9 => absurd h9 (by omega)), (fun _ => rfl)⟩, hF⟩
  · simp only [w32_mod] at h_8
    have k_5 := h_5.2.mp (by omega)
    clear h_5
    refine ww_iload_n hX (pc := 11) dX10_mean_11 rfl ?_
    refine ww_if_lt hX (pc := 12) (tgt := 20) dX10_mean_12 (by decide) (fun h_12 => ?_) (fun h_12 => ?_)
    · simp only [w32_mod] at h_12
      refine ww_ldc2 hX (pc := 20) (x := (-1)) dX10_mean_20 tb_810 ?_
      refine rJ hX (pc := 23) hT (Nat.le_refl 0) (Nat.le_refl 0) dX10_mean_23 ?_
      exact ⟨⟨(Kp_rf (a := 0) (b := 49)), (Kp_rf (a := 0) (b := 49)), hC, Fw_rf, (fun h9 => absurd h9 (by omega)), (fun _ => rfl)⟩, hF⟩
    · simp only [w32_mod] at h_12
      refine ww_iload_n hX (pc := 15) dX10_mean_15 rfl ?_
      refine ww_iconst hX (pc := 16) (x := 1) dX10_mean_16 rfl ?_
      refine ww_icmp_le hX (pc := 17) (tgt := 24) dX10_mean_17 (by decide) (fun h_17 => ?_) (fun h_17 => ?_)
      · simp only [w32_mod] at h_17
        refine ww_aload_n hX (pc := 24) dX10_mean_24 rfl ?_
        refine ww_getR hX (pc := 25) fX10_48 (by decide) (xs_0 hL) (xr_0_5 hL) dX10_mean_25 ?_
        refine ww_iload_n hX (pc := 28) dX10_mean_28 rfl ?_
        refine ww_iload_n hX (pc := 29) dX10_mean_29 rfl ?_
        refine ww_if_ne hX (pc := 30) (tgt := 37) dX10_mean_30 (by decide) (fun h_30 => ?_) (fun h_30 => ?_)
        · simp only [w32_mod] at h_30
          refine ww_iconst hX (pc := 37) (x := 0) dX10_mean_37 rfl ?_
          refine vJ2 hX (pc := 38) sX10_206 (xs_18 hL) (n8_X4_meanPart l0 hL hC.1 hF hK (by omega) (by omega) (by omega) (by omega)) (by decide) (Nat.le_refl 0) (Nat.le_refl 0) (Nat.le_of_ble_eq_true rfl) dX10_mean_38 (fun x_38 I_38 J_38 h_38 => ?_)
          have kI_38 : Kp 0 49 Ia I_38 := Kp_tr (Kp_rf (a := 0) (b := 49)) (Kp_wd h_38.1 (by decide) (by decide))
          have kJ_38 : Kp 0 49 Ja J_38 := Kp_tr (Kp_rf (a := 0) (b := 49)) (Kp_wd h_38.2.1 (by decide) (by decide))
          have cI_38 : CX I_38 := CX_kp hC h_38.1 (by decide) (by decide)
          have qI_38 := XI_o cI_38.1
          have r5_I_38 : I_38 1 5 = Ia 1 5 := by rw [h_38.1 1 (by decide)]
          have r6_I_38 : I_38 1 6 = Ia 1 6 := by rw [h_38.1 1 (by decide)]
          have r8_I_38 : I_38 1 8 = Ia 1 8 := by rw [h_38.1 1 (by decide)]
          have r9_I_38 : I_38 1 9 = Ia 1 9 := by rw [h_38.1 1 (by decide)]
          have r10_I_38 : I_38 1 10 = Ia 1 10 := by rw [h_38.1 1 (by decide)]
          have r11_I_38 : I_38 1 11 = Ia 1 11 := by rw [h_38.1 1 (by decide)]
          have rf_I_38 : FU (I_38 1 5) = FU (Ia 1 5) := by rw [r5_I_38]
          have wI_38 : Fw [18, 19, 20, 21, 22, 23, 24, 25, 26, 27, 28, 29, 30] [] Ia I_38 := Fw_kp Fw_rf h_38.1 (by decide)
          have r7_I_38 : I_38 1 7 = Ia 1 7 := by rw [h_38.1 1 (by decide)]
          have frI_38 : FRk I_38 J_38 := h_38.2.2.1
          refine rJ hX (pc := 41) hT (Nat.le_refl 0) (Nat.le_refl 0) dX10_mean_41 ?_
          exact ⟨⟨kI_38, kJ_38, cI_38, (Fw_wd wI_38 (by decide) (by decide)), (fun _ => by
                obtain ⟨T, g1, g2⟩ := h_38.2.2.2
                refine ⟨T, g1, ?_⟩
                first
                | rw [if_pos (by omega)]; exact g2
                | rw [if_neg (by omega)]; exact g2), (fun h9 => absurd (by omega) h9)⟩, frI_38⟩
        · simp only [w32_mod] at h_30
          refine ww_iconst hX (pc := 33) (x := 1) dX10_mean_33 rfl ?_
          refine ww_goto hX (pc := 34) (tgt := 38) dX10_mean_34 (by decide) ?_
          refine vJ2 hX (pc := 38) sX10_206 (xs_18 hL) (n8_X4_meanPart l0 hL hC.1 hF hK (by omega) (by omega) (by omega) (by omega)) (by decide) (Nat.le_refl 0) (Nat.le_refl 0) (Nat.le_of_ble_eq_true rfl) dX10_mean_38 (fun x_38 I_38 J_38 h_38 => ?_)
          have kI_38 : Kp 0 49 Ia I_38 := Kp_tr (Kp_rf (a := 0) (b := 49)) (Kp_wd h_38.1 (by decide) (by decide))
          have kJ_38 : Kp 0 49 Ja J_38 := Kp_tr (Kp_rf (a := 0) (b := 49)) (Kp_wd h_38.2.1 (by decide) (by decide))
          have cI_38 : CX I_38 := CX_kp hC h_38.1 (by decide) (by decide)
          have qI_38 := XI_o cI_38.1
          have r5_I_38 : I_38 1 5 = Ia 1 5 := by rw [h_38.1 1 (by decide)]
          have r6_I_38 : I_38 1 6 = Ia 1 6 := by rw [h_38.1 1 (by decide)]
          have r8_I_38 : I_38 1 8 = Ia 1 8 := by rw [h_38.1 1 (by decide)]
          have r9_I_38 : I_38 1 9 = Ia 1 9 := by rw [h_38.1 1 (by decide)]
          have r10_I_38 : I_38 1 10 = Ia 1 10 := by rw [h_38.1 1 (by decide)]
          have r11_I_38 : I_38 1 11 = Ia 1 11 := by rw [h_38.1 1 (by decide)]
          have rf_I_38 : FU (I_38 1 5) = FU (Ia 1 5) := by rw [r5_I_38]
          have wI_38 : Fw [18, 19, 20, 21, 22, 23, 24, 25, 26, 27, 28, 29, 30] [] Ia I_38 := Fw_kp Fw_rf h_38.1 (by decide)
          have r7_I_38 : I_38 1 7 = Ia 1 7 := by rw [h_38.1 1 (by decide)]
          have frI_38 : FRk I_38 J_38 := h_38.2.2.1
          refine rJ hX (pc := 41) hT (Nat.le_refl 0) (Nat.le_refl 0) dX10_mean_41 ?_
          exact ⟨⟨kI_38, kJ_38, cI_38, (Fw_wd wI_38 (by decide) (by decide)), (fun _ => by
                obtain ⟨T, g1, g2⟩ := h_38.2.2.2
                refine ⟨T, g1, ?_⟩
                first
                | rw [if_pos (by omega)]; exact g2
                | rw [if_neg (by omega)]; exact g2), (fun h9 => absurd (by omega) h9)⟩, frI_38⟩
      · simp only [w32_mod] at h_17
        refine ww_ldc2 hX (pc := 20) (x := (-1)) dX10_mean_20 tb_810 ?_
        refine rJ hX (pc := 23) hT (Nat.le_refl 0) (Nat.le_refl 0) dX10_mean_23 ?_
        exact ⟨⟨(Kp_rf (a := 0) (b := 49)), (Kp_rf (a := 0) (b := 49)), hC, Fw_rf, (fun h9 => absurd h9 (by omega)), (fun _ => rfl)⟩, hF⟩
set_option maxHeartbeats 4000000 in
set_option maxRecDepth 20000 in
theorem c8_X10_failing (l0 : Launch) {Ia Ja : aI1} {Ra : aR1} {Sa : aS1} (hL : LY Ra Sa) (hC : CX Ia) (hF : FRk Ia Ja) {a : Int} (ha0 : -2147483648 ≤ a) (ha1 : a < 2147483648) (hO : ∀ j, j < 8 → 0 ≤ Ia 2 j ∧ Ia 2 j ≤ 99) (hK : ∀ s : Nat, (s : Int) ≤ FU (Ia 1 5) → Ia 3 s < Ia 1 6)  : CT l0 10 0 0 mX10_failing [kR (some 0), kI a] Ia Ja Ra Sa (cI (fun x I' J' => (Kp 0 49 Ia I' ∧ Kp 0 49 Ja J' ∧ CX I' ∧ Fw [18, 19, 20, 21, 22, 23, 24, 25, 26, 27, 28, 29, 30] [] Ia I' ∧ (a < -1 → x = -1) ∧ (-1 ≤ a → ∃ o L T F n, KT 2 Ia o L T ∧ FLg (fun s x => NX (bC 2 o L T) (Ia 3) (Ia 1 7) s (FU (Ia 1 5) + 1) x) L (Ia 3) (Ia 1 6) F n ∧ (a = -1 → x = n) ∧ (0 ≤ a → a < n → x = F a.toNat) ∧ (n ≤ a → x = -1))) ∧ FRk I' J') Ra Sa) := by
  refine ct_in pn_X10 (Nat.le_of_ble_eq_true rfl) (fun X hX hT hIn => ?_)
  have hX : aK l0 X cX10_failing 3 RX10 (some .int) 10 0 0 := hX
  change WW X 0 [some (kR (some 0)), some (kI a), none] [] Ia Ja Ra Sa 0 0
  have hI := hC.1
  have hq := XI_o hI
  refine ww_iload_n hX (pc := 0) dX10_failing_0 rfl ?_
  refine ww_iconst hX (pc := 1) (x := (-1)) dX10_failing_1 rfl ?_
  refine ww_icmp_ge hX (pc := 2) (tgt := 7) dX10_failing_2 (by decide) (fun h_2 => ?_) (fun h_2 => ?_)
  · simp only [w32_mod] at h_2
    refine ww_aload_n hX (pc := 7) dX10_failing_7 rfl ?_
    refine ww_getR hX (pc := 8) fX10_48 (by decide) (xs_0 hL) (xr_0_5 hL) dX10_failing_8 ?_
    refine ww_iconst hX (pc := 11) (x := 2) dX10_failing_11 rfl ?_
    refine vV1 hX (pc := 12) sX10_191 (xs_18 hL) (c8_X4_prepare l0 hL hC.1 hF hK (by omega) (by omega)) (by decide) (Nat.le_refl 0) (Nat.le_refl 0) (Nat.le_of_ble_eq_true rfl) dX10_failing_12 (fun I_12 J_12 h_12 => ?_)
    have kI_12 : Kp 0 49 Ia I_12 := Kp_tr (Kp_rf (a := 0) (b := 49)) (Kp_wd h_12.1 (by decide) (by decide))
    have kJ_12 : Kp 0 49 Ja J_12 := Kp_tr (Kp_rf (a := 0) (b := 49)) (Kp_wd h_12.2.1 (by decide) (by decide))
    have cI_12 : CX I_12 := CX_kp hC h_12.1 (by decide) (by decide)
    have qI_12 := XI_o cI_12.1
    have r5_I_12 : I_12 1 5 = Ia 1 5 := by rw [h_12.1 1 (by decide)]
    have r6_I_12 : I_12 1 6 = Ia 1 6 := by rw [h_12.1 1 (by decide)]
    have r8_I_12 : I_12 1 8 = Ia 1 8 := by rw [h_12.1 1 (by decide)]
    have r9_I_12 : I_12 1 9 = Ia 1 9 := by rw [h_12.1 1 (by decide)]
    have r10_I_12 : I_12 1 10 = Ia 1 10 := by rw [h_12.1 1 (by decide)]
    have r11_I_12 : I_12 1 11 = Ia 1 11 := by rw [h_12.1 1 (by decide)]
    have rf_I_12 : FU (I_12 1 5) = FU (Ia 1 5) := by rw [r5_I_12]
    have wI_12 : Fw [18, 19, 20, 21, 22, 23, 24, 25, 26, 27, 28, 29, 30] [] Ia I_12 := Fw_kp Fw_rf h_12.1 (by decide)
    have r7_I_12 : I_12 1 7 = Ia 1 7 := by rw [h_12.1 1 (by decide)]
    have frI_12 : FRk I_12 J_12 := h_12.2.2.1
    have e1_12 : I_12 1 = Ia 1 := h_12.1 1 (by decide)
    have e2_12 : I_12 2 = Ia 2 := h_12.1 2 (by decide)
    have e3_12 : I_12 3 = Ia 3 := h_12.1 3 (by decide)
    have htrp : ∀ t : Nat, (t : Int) ≤ FU (I_12 1 5) → TR 2 I_12 J_12 t := TR_p cI_12.1 (by rw [e2_12]; exact hO) h_12.2.2.2.1 h_12.2.2.2.2.1 h_12.2.2.2.2.2
    have hkt : KT 2 Ia (I_12 19) (I_12 24) (J_12 28) := KT_p h_12.2.2.2.1 h_12.2.2.2.2.1 h_12.2.2.2.2.2 e1_12 e2_12 e3_12
    refine ww_aload_n hX (pc := 15) dX10_failing_15 rfl ?_
    refine ww_getR hX (pc := 16) fX10_48 (by decide) (xs_0 hL) (xr_0_5 hL) dX10_failing_16 ?_
    refine vI0 hX (pc := 19) sX10_216 (xs_18 hL) (n8_X4_findFailing l0 hL cI_12.1 frI_12 htrp) (by decide) (Nat.le_refl 0) (Nat.le_refl 0) (Nat.le_of_ble_eq_true rfl) dX10_failing_19 (fun x_19 I_19 J_19 h_19 => ?_)
    have kI_19 : Kp 0 49 Ia I_19 := Kp_tr kI_12 (Kp_wd h_19.1 (by decide) (by decide))
    have kJ_19 : Kp 0 49 Ja J_19 := Kp_tr kJ_12 (Kp_wd h_19.2.1 (by decide) (by decide))
    have cI_19 : CX I_19 := CX_kp cI_12 h_19.1 (by decide) (by decide)
    have qI_19 := XI_o cI_19.1
    have r5_I_19 : I_19 1 5 = I_12 1 5 := by rw [h_19.1 1 (by decide)]
    have r6_I_19 : I_19 1 6 = I_12 1 6 := by rw [h_19.1 1 (by decide)]
    have r8_I_19 : I_19 1 8 = I_12 1 8 := by rw [h_19.1 1 (by decide)]
    have r9_I_19 : I_19 1 9 = I_12 1 9 := by rw [h_19.1 1 (by decide)]
    have r10_I_19 : I_19 1 10 = I_12 1 10 := by rw [h_19.1 1 (by decide)]
    have r11_I_19 : I_19 1 11 = I_12 1 11 := by rw [h_19.1 1 (by decide)]
    have rf_I_19 : FU (I_19 1 5) = FU (I_12 1 5) := by rw [r5_I_19]
    have wI_19 : Fw [18, 19, 20, 21, 22, 23, 24, 25, 26, 27, 28, 29, 30] [] Ia I_19 := Fw_kp wI_12 h_19.1 (by decide)
    have r7_I_19 : I_19 1 7 = I_12 1 7 := by rw [h_19.1 1 (by decide)]
    have frI_19 : FRk I_19 J_19 := h_19.2.2.1
    have hfl := h_19.2.2.2
    rw [e3_12, e1_12] at hfl
    have hn8 := hfl.1
    have hn9 := hfl.2.1
    refine ww_istore_n hX (pc := 22) (lv' := [some (kR (some 0)), some (kI a), some (kI x_19)]) dX10_failing_22 (by decide) rfl rfl ?_
    refine ww_iload_n hX (pc := 23) dX10_failing_23 rfl ?_
    refine ww_iconst hX (pc := 24) (x := (-1)) dX10_failing_24 rfl ?_
    refine ww_icmp_ne hX (pc := 25) (tgt := 30) dX10_failing_25 (by decide) (fun h_25 => ?_) (fun h_25 => ?_)
    · simp only [w32_mod] at h_25
      refine ww_iload_n hX (pc := 30) dX10_failing_30 rfl ?_
      refine ww_iload_n hX (pc := 31) dX10_failing_31 rfl ?_
      refine ww_icmp_ge hX (pc := 32) (tgt := 47) dX10_failing_32 (by decide) (fun h_32 => ?_) (fun h_32 => ?_)
      · simp only [w32_mod] at h_32
        refine ww_iconst hX (pc := 47) (x := (-1)) dX10_failing_47 rfl ?_
        refine rI hX (pc := 48) hT (Nat.le_refl 0) (Nat.le_refl 0) dX10_failing_48 ?_
        exact ⟨⟨kI_19, kJ_19, cI_19, (Fw_wd wI_19 (by decide) (by decide)), (fun h9 => absurd h9 (by omega)), (fun _ => ⟨_, _, _, _, _, hkt, hfl, (fun h9 => absurd h9 (by omega)), (fun _ h9 => absurd h9 (by omega)), (fun _ => rfl)⟩)⟩, frI_19⟩
      · simp only [w32_mod] at h_32
        refine ww_aload_n hX (pc := 35) dX10_failing_35 rfl ?_
        refine ww_getR hX (pc := 36) fX10_48 (by decide) (xs_0 hL) (xr_0_5 hL) dX10_failing_36 ?_
        refine ww_getR hX (pc := 39) fX10_219 (by decide) (xs_18 hL) (xr_18_2 hL) dX10_failing_39 ?_
        refine ww_iload_n hX (pc := 42) dX10_failing_42 rfl ?_
        refine ww_iald hX (pc := 43) (xs_20 hL) (by decide) (by omega) (by omega) dX10_failing_43 ?_
        refine ww_goto hX (pc := 44) (tgt := 48) dX10_failing_44 (by decide) ?_
        refine rI hX (pc := 48) hT (Nat.le_refl 0) (Nat.le_refl 0) dX10_failing_48 ?_
        exact ⟨⟨kI_19, kJ_19, cI_19, (Fw_wd wI_19 (by decide) (by decide)), (fun h9 => absurd h9 (by omega)), (fun _ => ⟨_, _, _, _, _, hkt, hfl, (fun h9 => absurd h9 (by omega)), (fun _ _ => rfl), (fun h9 => absurd h9 (by omega))⟩)⟩, frI_19⟩
    · simp only [w32_mod] at h_25
      refine ww_iload_n hX (pc := 28) dX10_failing_28 rfl ?_
      refine rI hX (pc := 29) hT (Nat.le_refl 0) (Nat.le_refl 0) dX10_failing_29 ?_
      exact ⟨⟨kI_19, kJ_19, cI_19, (Fw_wd wI_19 (by decide) (by decide)), (fun h9 => absurd h9 (by omega)), (fun _ => ⟨_, _, _, _, _, hkt, hfl, (fun _ => rfl), (fun h9 => absurd h9 (by omega)), (fun h9 => absurd h9 (by omega))⟩)⟩, frI_19⟩
  · simp only [w32_mod] at h_2
    refine ww_iconst hX (pc := 5) (x := (-1)) dX10_failing_5 rfl ?_
    refine rI hX (pc := 6) hT (Nat.le_refl 0) (Nat.le_refl 0) dX10_failing_6 ?_
    exact ⟨⟨(Kp_rf (a := 0) (b := 49)), (Kp_rf (a := 0) (b := 49)), hC, Fw_rf, (fun _ => rfl), (fun h9 => absurd h9 (by omega))⟩, hF⟩
set_option maxHeartbeats 4000000 in
set_option maxRecDepth 20000 in
theorem c8_X10_burnt (l0 : Launch) {Ia Ja : aI1} {Ra : aR1} {Sa : aS1} (hL : LY Ra Sa) (hC : CX Ia) (hF : FRk Ia Ja)  : CT l0 10 0 0 mX10_burnt [kR (some 0)] Ia Ja Ra Sa (cI (fun x I' J' => (Kp 0 49 Ia I' ∧ Kp 0 49 Ja J' ∧ CX I' ∧ Fw [18, 19, 20, 21, 22, 23, 24, 25, 26, 27, 28, 29, 30] [] Ia I' ∧ x = oilS (Ia 2) (Ia 1 8).toNat (Ia 1 5).toNat) ∧ FRk I' J') Ra Sa) := by
  refine ct_in pn_X10 (Nat.le_of_ble_eq_true rfl) (fun X hX hT hIn => ?_)
  have hX : aK l0 X cX10_burnt 1 RX10 (some .int) 10 0 0 := hX
  change WW X 0 [some (kR (some 0))] [] Ia Ja Ra Sa 0 0
  have hI := hC.1
  have hq := XI_o hI
  refine ww_aload_n hX (pc := 0) dX10_burnt_0 rfl ?_
  refine ww_getR hX (pc := 1) fX10_48 (by decide) (xs_0 hL) (xr_0_5 hL) dX10_burnt_1 ?_
  refine ww_aload_n hX (pc := 4) dX10_burnt_4 rfl ?_
  refine ww_getR hX (pc := 5) fX10_10 (by decide) (xs_0 hL) (xr_0_0 hL) dX10_burnt_5 ?_
  refine ww_getI hX (pc := 8) fX10_236 (by decide) (xs_1 hL) dX10_burnt_8 ?_
  refine vI1 hX (pc := 11) sX10_250 (xs_18 hL) (n8_X4_oilOf l0 hL hC.1 hF (by omega) (by omega)) (by decide) (Nat.le_refl 0) (Nat.le_refl 0) (Nat.le_of_ble_eq_true rfl) dX10_burnt_11 (fun x_11 I_11 J_11 h_11 => ?_)
  have kI_11 : Kp 0 49 Ia I_11 := Kp_tr (Kp_rf (a := 0) (b := 49)) (Kp_wd h_11.1 (by decide) (by decide))
  have kJ_11 : Kp 0 49 Ja J_11 := Kp_tr (Kp_rf (a := 0) (b := 49)) (Kp_wd h_11.2.1 (by decide) (by decide))
  have cI_11 : CX I_11 := CX_kp hC h_11.1 (by decide) (by decide)
  have qI_11 := XI_o cI_11.1
  have r5_I_11 : I_11 1 5 = Ia 1 5 := by rw [h_11.1 1 (by decide)]
  have r6_I_11 : I_11 1 6 = Ia 1 6 := by rw [h_11.1 1 (by decide)]
  have r8_I_11 : I_11 1 8 = Ia 1 8 := by rw [h_11.1 1 (by decide)]
  have r9_I_11 : I_11 1 9 = Ia 1 9 := by rw [h_11.1 1 (by decide)]
  have r10_I_11 : I_11 1 10 = Ia 1 10 := by rw [h_11.1 1 (by decide)]
  have r11_I_11 : I_11 1 11 = Ia 1 11 := by rw [h_11.1 1 (by decide)]
  have rf_I_11 : FU (I_11 1 5) = FU (Ia 1 5) := by rw [r5_I_11]
  have wI_11 : Fw [18, 19, 20, 21, 22, 23, 24, 25, 26, 27, 28, 29, 30] [] Ia I_11 := Fw_kp Fw_rf h_11.1 (by decide)
  have r7_I_11 : I_11 1 7 = Ia 1 7 := by rw [h_11.1 1 (by decide)]
  have frI_11 : FRk I_11 J_11 := h_11.2.2.1
  refine rI hX (pc := 14) hT (Nat.le_refl 0) (Nat.le_refl 0) dX10_burnt_14 ?_
  exact ⟨⟨kI_11, kJ_11, cI_11, (Fw_wd wI_11 (by decide) (by decide)), h_11.2.2.2⟩, frI_11⟩
set_option maxHeartbeats 4000000 in
set_option maxRecDepth 20000 in
theorem c8_X10_judge (l0 : Launch) {Ia Ja : aI1} {Ra : aR1} {Sa : aS1} (hL : LY Ra Sa) (hC : CX Ia) (hF : FRk Ia Ja) {a : Int} (ha0 : -2147483648 ≤ a) (ha1 : a < 2147483648) (hO : ∀ j, j < 8 → 0 ≤ Ia 2 j ∧ Ia 2 j ≤ 99) (hK : ∀ s : Nat, (s : Int) ≤ FU (Ia 1 5) → Ia 3 s < Ia 1 6)  : CT l0 10 0 0 mX10_judge [kR (some 0), kI a] Ia Ja Ra Sa (cI (fun x I' J' => (Kp 0 49 Ia I' ∧ Kp 0 49 Ja J' ∧ CX I' ∧ Fw [18, 19, 20, 21, 22, 23, 24, 25, 26, 27, 28, 29, 30] [] Ia I' ∧ ((0 ≤ a ∧ a ≤ 3) → ∃ o L T, KT a Ia o L T ∧ JG (fun s t => 0 ≤ s ∧ s ≤ FU (Ia 1 5) ∧ 0 ≤ t ∧ t ≤ FU (Ia 1 5) ∧ ¬ Ia 3 t.toNat = -1 ∧ NX (bC a o L T) (Ia 3) (Ia 1 7) s (FU (Ia 1 5) + 1) (Ia 3 t.toNat) = t) (Ia 46) (Ia 0 12) x) ∧ (¬ (0 ≤ a ∧ a ≤ 3) → x = -1)) ∧ FRk I' J') Ra Sa) := by
  refine ct_in pn_X10 (Nat.le_of_ble_eq_true rfl) (fun X hX hT hIn => ?_)
  have hX : aK l0 X cX10_judge 5 RX10 (some .int) 10 0 0 := hX
  change WW X 0 [some (kR (some 0)), some (kI a), none, none, none] [] Ia Ja Ra Sa 0 0
  have hI := hC.1
  have hq := XI_o hI
  refine ww_iload_n hX (pc := 0) dX10_judge_0 rfl ?_
  refine sI1 hX (pc := 1) sX10_188 (c_X10_isManner l0 (by omega) (by omega)) (by decide) (Nat.le_refl 0) (Nat.le_refl 0) (Nat.le_of_ble_eq_true rfl) dX10_judge_1 (fun x_1 I_1 J_1 h_1 => ?_)
  obtain ⟨rfl, rfl, h_1⟩ := h_1
  refine ww_if_ne hX (pc := 4) (tgt := 9) dX10_judge_4 (by decide) (fun h_4 => ?_) (fun h_4 => ?_)
  · simp only [w32_mod] at h_4
    have k_1 := h_1.2.mp (by omega)
    clear h_1
    refine ww_aload_n hX (pc := 9) dX10_judge_9 rfl ?_
    refine ww_getR hX (pc := 10) fX10_48 (by decide) (xs_0 hL) (xr_0_5 hL) dX10_judge_10 ?_
    refine ww_iload_n hX (pc := 13) dX10_judge_13 rfl ?_
    refine vV1 hX (pc := 14) sX10_191 (xs_18 hL) (c8_X4_prepare l0 hL hC.1 hF hK (by omega) (by omega)) (by decide) (Nat.le_refl 0) (Nat.le_refl 0) (Nat.le_of_ble_eq_true rfl) dX10_judge_14 (fun I_14 J_14 h_14 => ?_)
    have kI_14 : Kp 0 49 Ia I_14 := Kp_tr (Kp_rf (a := 0) (b := 49)) (Kp_wd h_14.1 (by decide) (by decide))
    have kJ_14 : Kp 0 49 Ja J_14 := Kp_tr (Kp_rf (a := 0) (b := 49)) (Kp_wd h_14.2.1 (by decide) (by decide))
    have cI_14 : CX I_14 := CX_kp hC h_14.1 (by decide) (by decide)
    have qI_14 := XI_o cI_14.1
    have r5_I_14 : I_14 1 5 = Ia 1 5 := by rw [h_14.1 1 (by decide)]
    have r6_I_14 : I_14 1 6 = Ia 1 6 := by rw [h_14.1 1 (by decide)]
    have r8_I_14 : I_14 1 8 = Ia 1 8 := by rw [h_14.1 1 (by decide)]
    have r9_I_14 : I_14 1 9 = Ia 1 9 := by rw [h_14.1 1 (by decide)]
    have r10_I_14 : I_14 1 10 = Ia 1 10 := by rw [h_14.1 1 (by decide)]
    have r11_I_14 : I_14 1 11 = Ia 1 11 := by rw [h_14.1 1 (by decide)]
    have rf_I_14 : FU (I_14 1 5) = FU (Ia 1 5) := by rw [r5_I_14]
    have wI_14 : Fw [18, 19, 20, 21, 22, 23, 24, 25, 26, 27, 28, 29, 30] [] Ia I_14 := Fw_kp Fw_rf h_14.1 (by decide)
    have r7_I_14 : I_14 1 7 = Ia 1 7 := by rw [h_14.1 1 (by decide)]
    have frI_14 : FRk I_14 J_14 := h_14.2.2.1
    have e1_14 : I_14 1 = Ia 1 := h_14.1 1 (by decide)
    have e2_14 : I_14 2 = Ia 2 := h_14.1 2 (by decide)
    have e3_14 : I_14 3 = Ia 3 := h_14.1 3 (by decide)
    have htrp : ∀ t : Nat, (t : Int) ≤ FU (I_14 1 5) → TR a I_14 J_14 t := TR_p cI_14.1 (by rw [e2_14]; exact hO) h_14.2.2.2.1 h_14.2.2.2.2.1 h_14.2.2.2.2.2
    have hkt : KT a Ia (I_14 19) (I_14 24) (J_14 28) := KT_p h_14.2.2.2.1 h_14.2.2.2.2.1 h_14.2.2.2.2.2 e1_14 e2_14 e3_14
    refine ww_iconst hX (pc := 17) (x := 0) dX10_judge_17 rfl ?_
    refine ww_istore_n hX (pc := 18) (lv' := [some (kR (some 0)), some (kI a), some (kI 0), none, none]) dX10_judge_18 (by decide) rfl rfl ?_
    refine ww_iconst hX (pc := 19) (x := 0) dX10_judge_19 rfl ?_
    refine ww_istore_n hX (pc := 20) (lv' := [some (kR (some 0)), some (kI a), some (kI 0), some (kI 0), none]) dX10_judge_20 (by decide) rfl rfl ?_
    have hl_21 : ∀ (n_21 : Nat) (pv : Int) (i : Int) (I2 : aI1) (J2 : aI1), (30 - i).toNat = n_21 → (Kp 0 49 Ia I2 ∧ Kp 0 49 Ja J2 ∧ CX I2 ∧ FRk I2 J2 ∧ Fw [18, 19, 20, 21, 22, 23, 24, 25, 26, 27, 28, 29, 30] [] Ia I2 ∧ (I2 1 5 = I_14 1 5 ∧ I2 1 6 = I_14 1 6) ∧ (((0 ≤ i ∧ i ≤ 30) ∧ (-2147483648 ≤ pv ∧ pv < 2147483648) ∧ I2 0 12 = I_14 0 12) ∧ (I2 19 = I_14 19 ∧ I2 24 = I_14 24 ∧ J2 28 = J_14 28) ∧ pv = JGp (Ia 46) i.toNat ∧ (∀ j : Nat, (j : Int) < i → (fun s t => 0 ≤ s ∧ s ≤ FU (Ia 1 5) ∧ 0 ≤ t ∧ t ≤ FU (Ia 1 5) ∧ ¬ Ia 3 t.toNat = -1 ∧ NX (bC a (I_14 19) (I_14 24) (J_14 28)) (Ia 3) (Ia 1 7) s (FU (Ia 1 5) + 1) (Ia 3 t.toNat) = t) (JGp (Ia 46) j) (w32 (Ia 46 j))))) → WW X 21 [some (kR (some 0)), some (kI a), some (kI pv), some (kI i), none] [] I2 J2 Ra Sa 0 0 := by
      intro n_21
      induction n_21 using Nat.strongRecOn with
      | ind n_21 ih_21 =>
        intro pv i I2 J2 hm_21 hv_21
        have hq_21 := Sh0_i hm_21
        clear hm_21
        obtain ⟨kI2, kJ2, cI2, frI2, wI2, hI20, hjg⟩ := hv_21
        have qI2 := XI_o cI2.1
        have rfI2 := congrArg FU hI20.1
        obtain ⟨⟨hi, hpv, h012⟩, ⟨t19_I2, t24_I2, t28_I2⟩, hpj, hok⟩ := hjg
        have t3_I2 : I2 3 = Ia 3 := Fw_row wI2 3 (by decide) (by decide) (by decide)
        have t1_I2 : I2 1 = Ia 1 := Fw_row wI2 1 (by decide) (by decide) (by decide)
        have t46_I2 : I2 46 = Ia 46 := Fw_row wI2 46 (by decide) (by decide) (by decide)
        have t12_I2 : I2 0 12 = Ia 0 12 := wI2 0 12 (by decide) (by decide) (by decide)
        refine ww_iload_n hX (pc := 21) dX10_judge_21 rfl ?_
        refine ww_aload_n hX (pc := 22) dX10_judge_22 rfl ?_
        refine ww_getI hX (pc := 23) fX10_256 (by decide) (xs_0 hL) dX10_judge_23 ?_
        refine ww_icmp_ge hX (pc := 26) (tgt := 62) dX10_judge_26 (by decide) (fun h_26 => ?_) (fun h_26 => ?_)
        · simp only [w32_mod] at h_26
          refine ww_iconst hX (pc := 62) (x := (-1)) dX10_judge_62 rfl ?_
          refine rI hX (pc := 63) hT (Nat.le_refl 0) (Nat.le_refl 0) dX10_judge_63 ?_
          exact ⟨⟨kI2, kJ2, cI2, (Fw_wd wI2 (by decide) (by decide)), (fun _ => ⟨_, _, _, hkt, Or.inl ⟨rfl, fun j hj => hok j (by omega)⟩⟩), (fun h9 => absurd (by omega) h9)⟩, frI2⟩
        · simp only [w32_mod] at h_26
          refine ww_aload_n hX (pc := 29) dX10_judge_29 rfl ?_
          refine ww_getR hX (pc := 30) fX10_75 (by decide) (xs_0 hL) (xr_0_9 hL) dX10_judge_30 ?_
          refine ww_iload_n hX (pc := 33) dX10_judge_33 rfl ?_
          refine ww_iald hX (pc := 34) (xs_46 hL) (by decide) (by omega) (by omega) dX10_judge_34 ?_
          refine ww_w32 ?_
          refine ww_nmI (fun tv htv => ?_)
          have htv2 := w32_r (I2 46 i.toNat)
          refine ww_nmI (fun v_35 hv_35 => ?_)
          refine ww_istore hX (pc := 35) (lv' := [some (kR (some 0)), some (kI a), some (kI pv), some (kI i), some (kI v_35)]) dX10_judge_35 (by decide) rfl rfl ?_
          refine ww_aload_n hX (pc := 37) dX10_judge_37 rfl ?_
          refine ww_getR hX (pc := 38) fX10_48 (by decide) (xs_0 hL) (xr_0_5 hL) dX10_judge_38 ?_
          refine ww_iload_n hX (pc := 41) dX10_judge_41 rfl ?_
          refine ww_iload hX (pc := 42) dX10_judge_42 rfl ?_
          refine ww_iload_n hX (pc := 44) dX10_judge_44 rfl ?_
          refine vI3 hX (pc := 45) sX10_259 (xs_18 hL) (n8_X4_wouldLight l0 hL cI2.1 frI2 (by omega) (by omega) (by omega) (by omega) (by omega) (by omega) (fun t ht => TR_o2 (htrp t (by rw [e1_14]; rw [t1_I2] at ht; exact ht)) t19_I2 t24_I2 t28_I2)) (by decide) (Nat.le_refl 0) (Nat.le_refl 0) (Nat.le_of_ble_eq_true rfl) dX10_judge_45 (fun x_45 I_45 J_45 h_45 => ?_)
          have kI_45 : Kp 0 49 Ia I_45 := Kp_tr kI2 (Kp_wd h_45.1 (by decide) (by decide))
          have kJ_45 : Kp 0 49 Ja J_45 := Kp_tr kJ2 (Kp_wd h_45.2.1 (by decide) (by decide))
          have cI_45 : CX I_45 := CX_kp cI2 h_45.1 (by decide) (by decide)
          have qI_45 := XI_o cI_45.1
          have r5_I_45 : I_45 1 5 = I2 1 5 := by rw [h_45.1 1 (by decide)]
          have r6_I_45 : I_45 1 6 = I2 1 6 := by rw [h_45.1 1 (by decide)]
          have r8_I_45 : I_45 1 8 = I2 1 8 := by rw [h_45.1 1 (by decide)]
          have r9_I_45 : I_45 1 9 = I2 1 9 := by rw [h_45.1 1 (by decide)]
          have r10_I_45 : I_45 1 10 = I2 1 10 := by rw [h_45.1 1 (by decide)]
          have r11_I_45 : I_45 1 11 = I2 1 11 := by rw [h_45.1 1 (by decide)]
          have rf_I_45 : FU (I_45 1 5) = FU (I2 1 5) := by rw [r5_I_45]
          have wI_45 : Fw [18, 19, 20, 21, 22, 23, 24, 25, 26, 27, 28, 29, 30] [] Ia I_45 := Fw_kp wI2 h_45.1 (by decide)
          have r7_I_45 : I_45 1 7 = I2 1 7 := by rw [h_45.1 1 (by decide)]
          have frI_45 : FRk I_45 J_45 := h_45.2.2.1
          have hwl := h_45.2.2.2.1
          rw [t3_I2, t1_I2, t19_I2, t24_I2, t28_I2] at hwl
          have htv3 : v_35 = w32 (I2 46 i.toNat) := hv_35.trans htv
          have hwe : JOKp (fun s t => 0 ≤ s ∧ s ≤ FU (Ia 1 5) ∧ 0 ≤ t ∧ t ≤ FU (Ia 1 5) ∧ ¬ Ia 3 t.toNat = -1 ∧ NX (bC a (I_14 19) (I_14 24) (J_14 28)) (Ia 3) (Ia 1 7) s (FU (Ia 1 5) + 1) (Ia 3 t.toNat) = t) pv v_35 x_45 := hwl.2.symm
          have hx45 : 0 ≤ x_45 ∧ x_45 ≤ 1 := by
            rcases hwl.1 with h9 | h9 <;> omega
          have h45a := h_45.1
          have t19b : I_45 19 = I_14 19 := (h_45.2.2.2.2.1 19 (by decide)).trans t19_I2
          have t24b : I_45 24 = I_14 24 := (h_45.2.2.2.2.1 24 (by decide)).trans t24_I2
          have t28b : J_45 28 = J_14 28 := by rw [← h_45.2.2.2.2.2]; exact t28_I2
          clear hwl h_45
          refine ww_if_ne hX (pc := 48) (tgt := 53) dX10_judge_48 (by decide) (fun h_48 => ?_) (fun h_48 => ?_)
          · simp only [w32_mod] at h_48
            refine ww_iload hX (pc := 53) dX10_judge_53 rfl ?_
            refine ww_istore_n hX (pc := 55) (lv' := [some (kR (some 0)), some (kI a), some (kI v_35), some (kI i), some (kI v_35)]) dX10_judge_55 (by decide) rfl rfl ?_
            refine ww_iinc hX (pc := 56) (lv' := [some (kR (some 0)), some (kI a), some (kI v_35), some (kI (i + 1)), some (kI v_35)]) dX10_judge_56 rfl (by decide) rfl rfl ?_
            refine ww_goto hX (pc := 59) (tgt := 21) dX10_judge_59 (by decide) ?_
            refine ww_sub [some (kR (some 0)), some (kI a), some (kI v_35), some (kI (i + 1)), none] (aLe_s (aLe_s (aLe_s (aLe_s (aLe_n aLe_0))))) ?_
            exact ih_21 _ (by have hm9 := Sh0_e hq_21; omega) v_35 (i + 1) I_45 J_45 rfl ⟨kI_45, kJ_45, cI_45, frI_45, wI_45, ⟨by omega, by omega⟩, ⟨⟨⟨by omega, by omega⟩, ⟨by omega, by omega⟩, by first | rfl | (rw [h45a 0 (by decide)]; exact h012)⟩, ⟨t19b, t24b, t28b⟩, by
        unfold JGp
        rw [if_neg (by omega), htv3, t46_I2, show (i + 1).toNat - 1 = i.toNat by omega], fun j hj => by
        by_cases e9 : j = i.toNat
        · rw [e9, ← hpj, ← t46_I2, ← htv3]
          exact (show _ ↔ _ from hwe).mpr (by omega)
        · exact hok j (by omega)⟩⟩
          · simp only [w32_mod] at h_48
            refine ww_iload_n hX (pc := 51) dX10_judge_51 rfl ?_
            refine rI hX (pc := 52) hT (Nat.le_refl 0) (Nat.le_refl 0) dX10_judge_52 ?_
            exact ⟨⟨kI_45, kJ_45, cI_45, (Fw_wd wI_45 (by decide) (by decide)), (fun _ => ⟨_, _, _, hkt, Or.inr ⟨by omega, by omega, hok, fun h9 => by
                  rw [← hpj, ← t46_I2, ← htv3] at h9
                  have := (show _ ↔ _ from hwe).mp h9
                  omega⟩⟩), (fun h9 => absurd (by omega) h9)⟩, frI_45⟩
    exact hl_21 _ 0 0 I_14 J_14 rfl ⟨kI_14, kJ_14, cI_14, frI_14, wI_14, ⟨by omega, by omega⟩, ⟨⟨⟨by omega, by omega⟩, ⟨by omega, by omega⟩, rfl⟩, ⟨rfl, rfl, rfl⟩, rfl, fun j hj => absurd hj (by omega)⟩⟩
  · simp only [w32_mod] at h_4
    refine ww_iconst hX (pc := 7) (x := (-1)) dX10_judge_7 rfl ?_
    refine rI hX (pc := 8) hT (Nat.le_refl 0) (Nat.le_refl 0) dX10_judge_8 ?_
    exact ⟨⟨(Kp_rf (a := 0) (b := 49)), (Kp_rf (a := 0) (b := 49)), hC, Fw_rf, (fun h9 => absurd h9 (by omega)), (fun _ => rfl)⟩, hF⟩
set_option maxHeartbeats 4000000 in
set_option maxRecDepth 20000 in
theorem c8_X10_send (l0 : Launch) {Ia Ja : aI1} {Ra : aR1} {Sa : aS1} (hL : LY Ra Sa) (hC : CX Ia) (hF : FRk Ia Ja) {a b : Int} (ha0 : -2147483648 ≤ a) (ha1 : a < 2147483648) (hb0 : -2147483648 ≤ b) (hb1 : b < 2147483648) (hO : ∀ j, j < 8 → 0 ≤ Ia 2 j ∧ Ia 2 j ≤ 99) (hK : ∀ s : Nat, (s : Int) ≤ FU (Ia 1 5) → Ia 3 s < Ia 1 6)  : CT l0 10 0 0 mX10_send [kR (some 0), kI a, kI b] Ia Ja Ra Sa (cI (fun x I' J' => (Kp 0 49 Ia I' ∧ Kp 0 49 Ja J' ∧ CX I' ∧ Fw [5, 18, 19, 20, 21, 22, 23, 24, 25, 26, 27, 28, 29, 30, 48] [(0, 16), (1, 8), (1, 10)] Ia I' ∧ (¬ (0 ≤ a ∧ a < Ia 1 6 ∧ 0 ≤ b ∧ b ≤ 3) → x = -1 ∧ RFc Ia I' (-1)) ∧ ((0 ≤ a ∧ a < Ia 1 6 ∧ 0 ≤ b ∧ b ≤ 3) → ∃ o L T, KT b Ia o L T ∧ SNd (NX (bC b o L T) (Ia 3) (Ia 1 7) (Ia 1 8) (FU (Ia 1 5) + 1) a) Ia I' x)) ∧ FRk I' J') Ra Sa) := by
  refine ct_in pn_X10 (Nat.le_of_ble_eq_true rfl) (fun X hX hT hIn => ?_)
  have hX : aK l0 X cX10_send 5 RX10 (some .int) 10 0 0 := hX
  change WW X 0 [some (kR (some 0)), some (kI a), some (kI b), none, none] [] Ia Ja Ra Sa 0 0
  have hI := hC.1
  have hq := XI_o hI
  refine ww_aload_n hX (pc := 0) dX10_send_0 rfl ?_
  refine ww_getR hX (pc := 1) fX10_10 (by decide) (xs_0 hL) (xr_0_0 hL) dX10_send_1 ?_
  refine ww_iload_n hX (pc := 4) dX10_send_4 rfl ?_
  refine vI1 hX (pc := 5) sX10_134 (xs_1 hL) (c_X1_isNews l0 hL hC.1 (by omega)) (by decide) (Nat.le_refl 0) (Nat.le_refl 0) (Nat.le_of_ble_eq_true rfl) dX10_send_5 (fun x_5 I_5 J_5 h_5 => ?_)
  obtain ⟨rfl, rfl, h_5⟩ := h_5
  refine ww_if_eq hX (pc := 8) (tgt := 18) dX10_send_8 (by decide) (fun h_8 => ?_) (fun h_8 => ?_)
  · simp only [w32_mod] at h_8
    refine ww_aload_n hX (pc := 18) dX10_send_18 rfl ?_
    refine ww_iconst hX (pc := 19) (x := (-1)) dX10_send_19 rfl ?_
    refine vI1 hX (pc := 20) sX10_89 (xs_0 hL) (c8_X10_refuse l0 hL hC hF (by omega) (by omega)) (by decide) (Nat.le_refl 0) (Nat.le_refl 0) (Nat.le_of_ble_eq_true rfl) dX10_send_20 (fun x_20 I_20 J_20 h_20 => ?_)
    obtain ⟨h_20, frI_20⟩ := h_20
    have kI_20 : Kp 0 49 Ia I_20 := Kp_tr (Kp_rf (a := 0) (b := 49)) (Kp_wd h_20.1 (by decide) (by decide))
    have kJ_20 : Kp 0 49 Ja J_20 := Kp_tr (Kp_rf (a := 0) (b := 49)) (Kp_wd h_20.2.1 (by decide) (by decide))
    have cI_20 : CX I_20 := h_20.2.2.1
    have qI_20 := XI_o cI_20.1
    have wI_20 : Fw [5, 18, 19, 20, 21, 22, 23, 24, 25, 26, 27, 28, 29, 30, 48] [(0, 16), (1, 8), (1, 10)] Ia I_20 := Fw_tr Fw_rf (Fw_wd h_20.2.2.2.1 (by decide) (by decide))
    have r5_I_20 : I_20 1 5 = Ia 1 5 := h_20.2.2.2.1 1 5 (by decide) (by decide) (by decide)
    have r6_I_20 : I_20 1 6 = Ia 1 6 := h_20.2.2.2.1 1 6 (by decide) (by decide) (by decide)
    have r7_I_20 : I_20 1 7 = Ia 1 7 := h_20.2.2.2.1 1 7 (by decide) (by decide) (by decide)
    have r8_I_20 : I_20 1 8 = Ia 1 8 := h_20.2.2.2.1 1 8 (by decide) (by decide) (by decide)
    have r9_I_20 : I_20 1 9 = Ia 1 9 := h_20.2.2.2.1 1 9 (by decide) (by decide) (by decide)
    have r10_I_20 : I_20 1 10 = Ia 1 10 := h_20.2.2.2.1 1 10 (by decide) (by decide) (by decide)
    have r11_I_20 : I_20 1 11 = Ia 1 11 := h_20.2.2.2.1 1 11 (by decide) (by decide) (by decide)
    have r81_I_20 : I_20 8 1 = Ia 8 1 := h_20.2.2.2.1 8 1 (by decide) (by decide) (by decide)
    have rf_I_20 : FU (I_20 1 5) = FU (Ia 1 5) := by rw [r5_I_20]
    have y5_I_20 : I_20 5 = Ia 5 := Fw_row h_20.2.2.2.1 5 (by decide) (by decide) (by decide)
    have xv_I_20 := h_20.2.2.2.2
    refine rI hX (pc := 23) hT (Nat.le_refl 0) (Nat.le_refl 0) dX10_send_23 ?_
    exact ⟨⟨kI_20, kJ_20, cI_20, (Fw_wd wI_20 (by decide) (by decide)), (fun _ => ⟨xv_I_20.1, h_20.2.2.2.1, xv_I_20.2⟩), (fun h9 => absurd h9 (by omega))⟩, frI_20⟩
  · simp only [w32_mod] at h_8
    have k_5 := h_5.2.mp (by omega)
    clear h_5
    refine ww_iload_n hX (pc := 11) dX10_send_11 rfl ?_
    refine sI1 hX (pc := 12) sX10_188 (c_X10_isManner l0 (by omega) (by omega)) (by decide) (Nat.le_refl 0) (Nat.le_refl 0) (Nat.le_of_ble_eq_true rfl) dX10_send_12 (fun x_12 I_12 J_12 h_12 => ?_)
    obtain ⟨rfl, rfl, h_12⟩ := h_12
    refine ww_if_ne hX (pc := 15) (tgt := 24) dX10_send_15 (by decide) (fun h_15 => ?_) (fun h_15 => ?_)
    · simp only [w32_mod] at h_15
      have k_12 := h_12.2.mp (by omega)
      clear h_12
      refine ww_aload_n hX (pc := 24) dX10_send_24 rfl ?_
      refine ww_getR hX (pc := 25) fX10_48 (by decide) (xs_0 hL) (xr_0_5 hL) dX10_send_25 ?_
      refine ww_iload_n hX (pc := 28) dX10_send_28 rfl ?_
      refine vV1 hX (pc := 29) sX10_191 (xs_18 hL) (c8_X4_prepare l0 hL hC.1 hF hK (by omega) (by omega)) (by decide) (Nat.le_refl 0) (Nat.le_refl 0) (Nat.le_of_ble_eq_true rfl) dX10_send_29 (fun I_29 J_29 h_29 => ?_)
      have kI_29 : Kp 0 49 Ia I_29 := Kp_tr (Kp_rf (a := 0) (b := 49)) (Kp_wd h_29.1 (by decide) (by decide))
      have kJ_29 : Kp 0 49 Ja J_29 := Kp_tr (Kp_rf (a := 0) (b := 49)) (Kp_wd h_29.2.1 (by decide) (by decide))
      have cI_29 : CX I_29 := CX_kp hC h_29.1 (by decide) (by decide)
      have qI_29 := XI_o cI_29.1
      have r5_I_29 : I_29 1 5 = Ia 1 5 := by rw [h_29.1 1 (by decide)]
      have r6_I_29 : I_29 1 6 = Ia 1 6 := by rw [h_29.1 1 (by decide)]
      have r8_I_29 : I_29 1 8 = Ia 1 8 := by rw [h_29.1 1 (by decide)]
      have r9_I_29 : I_29 1 9 = Ia 1 9 := by rw [h_29.1 1 (by decide)]
      have r10_I_29 : I_29 1 10 = Ia 1 10 := by rw [h_29.1 1 (by decide)]
      have r11_I_29 : I_29 1 11 = Ia 1 11 := by rw [h_29.1 1 (by decide)]
      have rf_I_29 : FU (I_29 1 5) = FU (Ia 1 5) := by rw [r5_I_29]
      have wI_29 : Fw [5, 18, 19, 20, 21, 22, 23, 24, 25, 26, 27, 28, 29, 30] [(0, 16), (1, 8), (1, 10)] Ia I_29 := Fw_kp Fw_rf h_29.1 (by decide)
      have r7_I_29 : I_29 1 7 = Ia 1 7 := by rw [h_29.1 1 (by decide)]
      have y5_I_29 : I_29 5 = Ia 5 := h_29.1 5 (by decide)
      have y48_I_29 : I_29 48 = Ia 48 := h_29.1 48 (by decide)
      have frI_29 : FRk I_29 J_29 := h_29.2.2.1
      have e1_29 : I_29 1 = Ia 1 := h_29.1 1 (by decide)
      have e2_29 : I_29 2 = Ia 2 := h_29.1 2 (by decide)
      have e3_29 : I_29 3 = Ia 3 := h_29.1 3 (by decide)
      have htrp : ∀ t : Nat, (t : Int) ≤ FU (I_29 1 5) → TR b I_29 J_29 t := TR_p cI_29.1 (by rw [e2_29]; exact hO) h_29.2.2.2.1 h_29.2.2.2.2.1 h_29.2.2.2.2.2
      have hkt : KT b Ia (I_29 19) (I_29 24) (J_29 28) := KT_p h_29.2.2.2.1 h_29.2.2.2.2.1 h_29.2.2.2.2.2 e1_29 e2_29 e3_29
      refine ww_aload_n hX (pc := 32) dX10_send_32 rfl ?_
      refine ww_getR hX (pc := 33) fX10_48 (by decide) (xs_0 hL) (xr_0_5 hL) dX10_send_33 ?_
      refine ww_aload_n hX (pc := 36) dX10_send_36 rfl ?_
      refine ww_getR hX (pc := 37) fX10_10 (by decide) (xs_0 hL) (xr_0_0 hL) dX10_send_37 ?_
      refine ww_getI hX (pc := 40) fX10_236 (by decide) (xs_1 hL) dX10_send_40 ?_
      refine ww_iload_n hX (pc := 43) dX10_send_43 rfl ?_
      refine ww_iload_n hX (pc := 44) dX10_send_44 rfl ?_
      refine vI3 hX (pc := 45) sX10_194 (xs_18 hL) (n8_X4_choose l0 hL cI_29.1 frI_29 (by omega) (by omega) (by omega) (by omega) (by omega) (by omega) htrp) (by decide) (Nat.le_refl 0) (Nat.le_refl 0) (Nat.le_of_ble_eq_true rfl) dX10_send_45 (fun x_45 I_45 J_45 h_45 => ?_)
      have kI_45 : Kp 0 49 Ia I_45 := Kp_tr kI_29 (Kp_wd h_45.1 (by decide) (by decide))
      have kJ_45 : Kp 0 49 Ja J_45 := Kp_tr kJ_29 (Kp_wd h_45.2.1 (by decide) (by decide))
      have cI_45 : CX I_45 := CX_kp cI_29 h_45.1 (by decide) (by decide)
      have qI_45 := XI_o cI_45.1
      have r5_I_45 : I_45 1 5 = I_29 1 5 := by rw [h_45.1 1 (by decide)]
      have r6_I_45 : I_45 1 6 = I_29 1 6 := by rw [h_45.1 1 (by decide)]
      have r8_I_45 : I_45 1 8 = I_29 1 8 := by rw [h_45.1 1 (by decide)]
      have r9_I_45 : I_45 1 9 = I_29 1 9 := by rw [h_45.1 1 (by decide)]
      have r10_I_45 : I_45 1 10 = I_29 1 10 := by rw [h_45.1 1 (by decide)]
      have r11_I_45 : I_45 1 11 = I_29 1 11 := by rw [h_45.1 1 (by decide)]
      have rf_I_45 : FU (I_45 1 5) = FU (I_29 1 5) := by rw [r5_I_45]
      have wI_45 : Fw [5, 18, 19, 20, 21, 22, 23, 24, 25, 26, 27, 28, 29, 30] [(0, 16), (1, 8), (1, 10)] Ia I_45 := Fw_kp wI_29 h_45.1 (by decide)
      have r7_I_45 : I_45 1 7 = I_29 1 7 := by rw [h_45.1 1 (by decide)]
      have y5_I_45 : I_45 5 = I_29 5 := h_45.1 5 (by decide)
      have y48_I_45 : I_45 48 = I_29 48 := h_45.1 48 (by decide)
      have frI_45 : FRk I_45 J_45 := h_45.2.2.1
      have hz : x_45 = NX (bC b (I_29 19) (I_29 24) (J_29 28)) (Ia 3) (Ia 1 7) (Ia 1 8) (FU (Ia 1 5) + 1) a := by
        have h9 := h_45.2.2.2.1
        rw [e3_29, e1_29] at h9
        exact h9
      have hnr := NX_r (bt := bC b (I_29 19) (I_29 24) (J_29 28)) (code := Ia 3) (g := Ia 1 7) (s := Ia 1 8) (N := (FU (Ia 1 5) + 1)) (x := a) (by omega)
      rw [← hz] at hnr
      have hnr2 : -1 ≤ x_45 ∧ x_45 ≤ FU (Ia 1 5) := by
        rcases hnr with h9 | h9
        · omega
        · omega
      clear hnr
      have e1_45 : I_45 1 = Ia 1 := (h_45.1 1 (by decide)).trans e1_29
      have f8_45 : I_45 1 8 = Ia 1 8 := congrFun e1_45 8
      have f10_45 : I_45 1 10 = Ia 1 10 := congrFun e1_45 10
      have f5_45 : I_45 5 = Ia 5 := (h_45.1 5 (by decide)).trans (h_29.1 5 (by decide))
      have f48_45 : I_45 48 = Ia 48 := (h_45.1 48 (by decide)).trans (h_29.1 48 (by decide))
      refine ww_istore_n hX (pc := 48) (lv' := [some (kR (some 0)), some (kI a), some (kI b), some (kI x_45), none]) dX10_send_48 (by decide) rfl rfl ?_
      refine ww_iload_n hX (pc := 49) dX10_send_49 rfl ?_
      refine ww_iconst hX (pc := 50) (x := (-1)) dX10_send_50 rfl ?_
      refine ww_icmp_ne hX (pc := 51) (tgt := 61) dX10_send_51 (by decide) (fun h_51 => ?_) (fun h_51 => ?_)
      · simp only [w32_mod] at h_51
        refine ww_aload_n hX (pc := 61) dX10_send_61 rfl ?_
        refine ww_getR hX (pc := 62) fX10_10 (by decide) (xs_0 hL) (xr_0_0 hL) dX10_send_62 ?_
        refine ww_getI hX (pc := 65) fX10_239 (by decide) (xs_1 hL) dX10_send_65 ?_
        refine ww_bipush hX (pc := 68) (x := 24) dX10_send_68 (by decide) ?_
        refine ww_icmp_lt hX (pc := 70) (tgt := 80) dX10_send_70 (by decide) (fun h_70 => ?_) (fun h_70 => ?_)
        · simp only [w32_mod] at h_70
          refine ww_iload_n hX (pc := 80) dX10_send_80 rfl ?_
          refine ww_aload_n hX (pc := 81) dX10_send_81 rfl ?_
          refine ww_getR hX (pc := 82) fX10_10 (by decide) (xs_0 hL) (xr_0_0 hL) dX10_send_82 ?_
          refine ww_getI hX (pc := 85) fX10_236 (by decide) (xs_1 hL) dX10_send_85 ?_
          refine ww_ixor hX (pc := 88) dX10_send_88 ?_
          refine sI1 hX (pc := 89) sX10_242 (c_J6_bitCount_0f7a4 l0) (by decide) (Nat.le_refl 0) (Nat.le_refl 0) (Nat.le_of_ble_eq_true rfl) dX10_send_89 (fun x_89 I_89 J_89 h_89 => ?_)
          obtain ⟨rfl, rfl, h_89⟩ := h_89
          refine ww_istore hX (pc := 92) (lv' := [some (kR (some 0)), some (kI a), some (kI b), some (kI x_45), some (kI x_89)]) dX10_send_92 (by decide) rfl rfl ?_
          refine ww_aload_n hX (pc := 94) dX10_send_94 rfl ?_
          refine ww_getR hX (pc := 95) fX10_10 (by decide) (xs_0 hL) (xr_0_0 hL) dX10_send_95 ?_
          refine ww_getR hX (pc := 98) fX10_247 (by decide) (xs_1 hL) (xr_1_3 hL) dX10_send_98 ?_
          refine ww_aload_n hX (pc := 101) dX10_send_101 rfl ?_
          refine ww_getR hX (pc := 102) fX10_10 (by decide) (xs_0 hL) (xr_0_0 hL) dX10_send_102 ?_
          refine ww_getI hX (pc := 105) fX10_239 (by decide) (xs_1 hL) dX10_send_105 ?_
          refine ww_iload_n hX (pc := 108) dX10_send_108 rfl ?_
          refine ww_iast hX (pc := 109) (xs_5 hL) (by decide) (by omega) (by omega) dX10_send_109 ?_
          refine ww_nmH (fun I_109 eI_109 => ?_)
          have kI_109 : Kp 0 49 Ia I_109 := by rw [eI_109]; exact Kp_up kI_45 _ _ (by decide)
          have cI_109 : CX I_109 := by rw [eI_109]; exact CX_up cI_45 (by decide)
          have qI_109 := XI_o cI_109.1
          have r5_I_109 : I_109 1 5 = I_45 1 5 := by rw [eI_109, up2_off _ _ _ (by decide)]
          have r6_I_109 : I_109 1 6 = I_45 1 6 := by rw [eI_109, up2_off _ _ _ (by decide)]
          have r8_I_109 : I_109 1 8 = I_45 1 8 := by rw [eI_109, up2_off _ _ _ (by decide)]
          have r9_I_109 : I_109 1 9 = I_45 1 9 := by rw [eI_109, up2_off _ _ _ (by decide)]
          have r10_I_109 : I_109 1 10 = I_45 1 10 := by rw [eI_109, up2_off _ _ _ (by decide)]
          have r11_I_109 : I_109 1 11 = I_45 1 11 := by rw [eI_109, up2_off _ _ _ (by decide)]
          have rf_I_109 : FU (I_109 1 5) = FU (I_45 1 5) := by rw [r5_I_109]
          have wI_109 : Fw [5, 18, 19, 20, 21, 22, 23, 24, 25, 26, 27, 28, 29, 30] [(0, 16), (1, 8), (1, 10)] Ia I_109 := by rw [eI_109]; exact Fw_up wI_45 (Or.inl (by decide))
          have r7_I_109 : I_109 1 7 = I_45 1 7 := by rw [eI_109, up2_n _ _ (Or.inl (by decide))]
          have y48_I_109 : I_109 48 = I_45 48 := by rw [eI_109, up2_off _ _ _ (by decide)]
          have frI_109 : FRk I_109 J_45 := by rw [eI_109]; exact FRk_up frI_45 (by decide)
          refine ww_aload_n hX (pc := 110) dX10_send_110 rfl ?_
          refine ww_getR hX (pc := 111) fX10_10 (by decide) (xs_0 hL) (xr_0_0 hL) dX10_send_111 ?_
          refine ww_dupR hX (pc := 114) dX10_send_114 ?_
          refine ww_getI hX (pc := 115) fX10_239 (by decide) (xs_1 hL) dX10_send_115 ?_
          refine ww_iconst hX (pc := 118) (x := 1) dX10_send_118 rfl ?_
          refine ww_iadd hX (pc := 119) dX10_send_119 ?_
          refine ww_putI hX (pc := 120) (fun h9 => absurd h9 (by decide)) gX10_239 rfl (xs_1 hL) dX10_send_120 ?_
          refine ww_nmH (fun I_120 eI_120 => ?_)
          have kI_120 : Kp 0 49 Ia I_120 := by rw [eI_120]; exact Kp_up kI_109 _ _ (by decide)
          have cI_120 : CX I_120 := by rw [eI_120]; exact CX_x cI_109 (XI_1_10 cI_109.1 (by omega) (by omega)) (by decide)
          have qI_120 := XI_o cI_120.1
          have r5_I_120 : I_120 1 5 = I_109 1 5 := by rw [eI_120, up2_n _ _ (Or.inr (by decide))]
          have r6_I_120 : I_120 1 6 = I_109 1 6 := by rw [eI_120, up2_n _ _ (Or.inr (by decide))]
          have r8_I_120 : I_120 1 8 = I_109 1 8 := by rw [eI_120, up2_n _ _ (Or.inr (by decide))]
          have r9_I_120 : I_120 1 9 = I_109 1 9 := by rw [eI_120, up2_n _ _ (Or.inr (by decide))]
          skip
          have r11_I_120 : I_120 1 11 = I_109 1 11 := by rw [eI_120, up2_n _ _ (Or.inr (by decide))]
          have rf_I_120 : FU (I_120 1 5) = FU (I_109 1 5) := by rw [r5_I_120]
          have wI_120 : Fw [5, 18, 19, 20, 21, 22, 23, 24, 25, 26, 27, 28, 29, 30] [(0, 16), (1, 8), (1, 10)] Ia I_120 := by rw [eI_120]; exact Fw_up wI_109 (Or.inr (by decide))
          have r7_I_120 : I_120 1 7 = I_109 1 7 := by rw [eI_120, up2_n _ _ (Or.inr (by decide))]
          have y5_I_120 : I_120 5 = I_109 5 := by rw [eI_120, up2_off _ _ _ (by decide)]
          have y48_I_120 : I_120 48 = I_109 48 := by rw [eI_120, up2_off _ _ _ (by decide)]
          have frI_120 : FRk I_120 J_45 := by rw [eI_120]; exact FRk_u1 frI_109 (by decide)
          refine ww_aload_n hX (pc := 123) dX10_send_123 rfl ?_
          refine ww_getR hX (pc := 124) fX10_10 (by decide) (xs_0 hL) (xr_0_0 hL) dX10_send_124 ?_
          refine ww_iload_n hX (pc := 127) dX10_send_127 rfl ?_
          refine ww_putI hX (pc := 128) (fun h9 => absurd h9 (by decide)) gX10_236 rfl (xs_1 hL) dX10_send_128 ?_
          refine ww_nmH (fun I_128 eI_128 => ?_)
          have kI_128 : Kp 0 49 Ia I_128 := by rw [eI_128]; exact Kp_up kI_120 _ _ (by decide)
          have cI_128 : CX I_128 := by rw [eI_128]; exact CX_x cI_120 (XI_1_8 cI_120.1 (by omega) (by omega)) (by decide)
          have qI_128 := XI_o cI_128.1
          have r5_I_128 : I_128 1 5 = I_120 1 5 := by rw [eI_128, up2_n _ _ (Or.inr (by decide))]
          have r6_I_128 : I_128 1 6 = I_120 1 6 := by rw [eI_128, up2_n _ _ (Or.inr (by decide))]
          skip
          have r9_I_128 : I_128 1 9 = I_120 1 9 := by rw [eI_128, up2_n _ _ (Or.inr (by decide))]
          have r10_I_128 : I_128 1 10 = I_120 1 10 := by rw [eI_128, up2_n _ _ (Or.inr (by decide))]
          have r11_I_128 : I_128 1 11 = I_120 1 11 := by rw [eI_128, up2_n _ _ (Or.inr (by decide))]
          have rf_I_128 : FU (I_128 1 5) = FU (I_120 1 5) := by rw [r5_I_128]
          have wI_128 : Fw [5, 18, 19, 20, 21, 22, 23, 24, 25, 26, 27, 28, 29, 30] [(0, 16), (1, 8), (1, 10)] Ia I_128 := by rw [eI_128]; exact Fw_up wI_120 (Or.inr (by decide))
          have r7_I_128 : I_128 1 7 = I_120 1 7 := by rw [eI_128, up2_n _ _ (Or.inr (by decide))]
          have y5_I_128 : I_128 5 = I_120 5 := by rw [eI_128, up2_off _ _ _ (by decide)]
          have y48_I_128 : I_128 48 = I_120 48 := by rw [eI_128, up2_off _ _ _ (by decide)]
          have frI_128 : FRk I_128 J_45 := by rw [eI_128]; exact FRk_u1 frI_120 (by decide)
          refine ww_aload_n hX (pc := 131) dX10_send_131 rfl ?_
          refine ww_iload hX (pc := 132) dX10_send_132 rfl ?_
          refine vI1 hX (pc := 134) sX10_114 (xs_0 hL) (c8_X10_accept l0 hL cI_128 frI_128) (by decide) (Nat.le_refl 0) (Nat.le_refl 0) (Nat.le_of_ble_eq_true rfl) dX10_send_134 (fun x_134 I_134 J_134 h_134 => ?_)
          obtain ⟨h_134, frI_134⟩ := h_134
          have kI_134 : Kp 0 49 Ia I_134 := Kp_tr kI_128 (Kp_wd h_134.1 (by decide) (by decide))
          have kJ_134 : Kp 0 49 Ja J_134 := Kp_tr kJ_45 (Kp_wd h_134.2.1 (by decide) (by decide))
          have cI_134 : CX I_134 := h_134.2.2.1
          have qI_134 := XI_o cI_134.1
          have wI_134 : Fw [5, 18, 19, 20, 21, 22, 23, 24, 25, 26, 27, 28, 29, 30] [(0, 16), (1, 8), (1, 10)] Ia I_134 := Fw_tr wI_128 (Fw_wd h_134.2.2.2.1 (by decide) (by decide))
          have r5_I_134 : I_134 1 5 = I_128 1 5 := h_134.2.2.2.1 1 5 (by decide) (by decide) (by decide)
          have r6_I_134 : I_134 1 6 = I_128 1 6 := h_134.2.2.2.1 1 6 (by decide) (by decide) (by decide)
          have r7_I_134 : I_134 1 7 = I_128 1 7 := h_134.2.2.2.1 1 7 (by decide) (by decide) (by decide)
          have r8_I_134 : I_134 1 8 = I_128 1 8 := h_134.2.2.2.1 1 8 (by decide) (by decide) (by decide)
          have r9_I_134 : I_134 1 9 = I_128 1 9 := h_134.2.2.2.1 1 9 (by decide) (by decide) (by decide)
          have r10_I_134 : I_134 1 10 = I_128 1 10 := h_134.2.2.2.1 1 10 (by decide) (by decide) (by decide)
          have r11_I_134 : I_134 1 11 = I_128 1 11 := h_134.2.2.2.1 1 11 (by decide) (by decide) (by decide)
          have r81_I_134 : I_134 8 1 = I_128 8 1 := h_134.2.2.2.1 8 1 (by decide) (by decide) (by decide)
          have rf_I_134 : FU (I_134 1 5) = FU (I_128 1 5) := by rw [r5_I_134]
          have y5_I_134 : I_134 5 = I_128 5 := Fw_row h_134.2.2.2.1 5 (by decide) (by decide) (by decide)
          have y48_I_134 : I_134 48 = I_128 48 := Fw_row h_134.2.2.2.1 48 (by decide) (by decide) (by decide)
          have xv_I_134 := h_134.2.2.2.2
          refine rI hX (pc := 137) hT (Nat.le_refl 0) (Nat.le_refl 0) dX10_send_137 ?_
          exact ⟨⟨kI_134, kJ_134, cI_134, (Fw_wd wI_134 (by decide) (by decide)), (fun h9 => absurd (by omega) h9), (fun _ => ⟨_, _, _, hkt, by
                rw [← hz]
                exact ⟨fun h9 => absurd h9 (by omega), fun _ h9 => absurd h9 (by omega), fun _ _ => ⟨by rw [xv_I_134.1, h_89, f8_45], xv_I_134.2, by rw [y48_I_134, y48_I_128, y48_I_120, y48_I_109]; exact f48_45, by rw [r8_I_134, eI_128, up2_s], by rw [r10_I_134, r10_I_128, eI_120, up2_s, eI_109, up2_off _ _ _ (by decide), f10_45], by rw [y5_I_134, y5_I_128, y5_I_120, eI_109, up2_row, f5_45, f10_45]⟩⟩⟩)⟩, frI_134⟩
        · simp only [w32_mod] at h_70
          refine ww_aload_n hX (pc := 73) dX10_send_73 rfl ?_
          refine ww_bipush hX (pc := 74) (x := (-5)) dX10_send_74 (by decide) ?_
          refine vI1 hX (pc := 76) sX10_89 (xs_0 hL) (c8_X10_refuse l0 hL cI_45 frI_45 (by omega) (by omega)) (by decide) (Nat.le_refl 0) (Nat.le_refl 0) (Nat.le_of_ble_eq_true rfl) dX10_send_76 (fun x_76 I_76 J_76 h_76 => ?_)
          obtain ⟨h_76, frI_76⟩ := h_76
          have kI_76 : Kp 0 49 Ia I_76 := Kp_tr kI_45 (Kp_wd h_76.1 (by decide) (by decide))
          have kJ_76 : Kp 0 49 Ja J_76 := Kp_tr kJ_45 (Kp_wd h_76.2.1 (by decide) (by decide))
          have cI_76 : CX I_76 := h_76.2.2.1
          have qI_76 := XI_o cI_76.1
          have wI_76 : Fw [5, 18, 19, 20, 21, 22, 23, 24, 25, 26, 27, 28, 29, 30, 48] [(0, 16), (1, 8), (1, 10)] Ia I_76 := Fw_tr (Fw_wd wI_45 (by decide) (by decide)) (Fw_wd h_76.2.2.2.1 (by decide) (by decide))
          have r5_I_76 : I_76 1 5 = I_45 1 5 := h_76.2.2.2.1 1 5 (by decide) (by decide) (by decide)
          have r6_I_76 : I_76 1 6 = I_45 1 6 := h_76.2.2.2.1 1 6 (by decide) (by decide) (by decide)
          have r7_I_76 : I_76 1 7 = I_45 1 7 := h_76.2.2.2.1 1 7 (by decide) (by decide) (by decide)
          have r8_I_76 : I_76 1 8 = I_45 1 8 := h_76.2.2.2.1 1 8 (by decide) (by decide) (by decide)
          have r9_I_76 : I_76 1 9 = I_45 1 9 := h_76.2.2.2.1 1 9 (by decide) (by decide) (by decide)
          have r10_I_76 : I_76 1 10 = I_45 1 10 := h_76.2.2.2.1 1 10 (by decide) (by decide) (by decide)
          have r11_I_76 : I_76 1 11 = I_45 1 11 := h_76.2.2.2.1 1 11 (by decide) (by decide) (by decide)
          have r81_I_76 : I_76 8 1 = I_45 8 1 := h_76.2.2.2.1 8 1 (by decide) (by decide) (by decide)
          have rf_I_76 : FU (I_76 1 5) = FU (I_45 1 5) := by rw [r5_I_76]
          have y5_I_76 : I_76 5 = I_45 5 := Fw_row h_76.2.2.2.1 5 (by decide) (by decide) (by decide)
          have xv_I_76 := h_76.2.2.2.2
          refine rI hX (pc := 79) hT (Nat.le_refl 0) (Nat.le_refl 0) dX10_send_79 ?_
          exact ⟨⟨kI_76, kJ_76, cI_76, (Fw_wd wI_76 (by decide) (by decide)), (fun h9 => absurd (by omega) h9), (fun _ => ⟨_, _, _, hkt, by
                rw [← hz]
                exact ⟨fun h9 => absurd h9 (by omega), fun _ _ => ⟨xv_I_76.1, xv_I_76.2.1, by rw [xv_I_76.2.2, f48_45]; rfl, r8_I_76.trans f8_45, r10_I_76.trans f10_45, y5_I_76.trans f5_45⟩, fun _ h9 => absurd h9 (by omega)⟩⟩)⟩, frI_76⟩
      · simp only [w32_mod] at h_51
        refine ww_aload_n hX (pc := 54) dX10_send_54 rfl ?_
        refine ww_bipush hX (pc := 55) (x := (-3)) dX10_send_55 (by decide) ?_
        refine vI1 hX (pc := 57) sX10_89 (xs_0 hL) (c8_X10_refuse l0 hL cI_45 frI_45 (by omega) (by omega)) (by decide) (Nat.le_refl 0) (Nat.le_refl 0) (Nat.le_of_ble_eq_true rfl) dX10_send_57 (fun x_57 I_57 J_57 h_57 => ?_)
        obtain ⟨h_57, frI_57⟩ := h_57
        have kI_57 : Kp 0 49 Ia I_57 := Kp_tr kI_45 (Kp_wd h_57.1 (by decide) (by decide))
        have kJ_57 : Kp 0 49 Ja J_57 := Kp_tr kJ_45 (Kp_wd h_57.2.1 (by decide) (by decide))
        have cI_57 : CX I_57 := h_57.2.2.1
        have qI_57 := XI_o cI_57.1
        have wI_57 : Fw [5, 18, 19, 20, 21, 22, 23, 24, 25, 26, 27, 28, 29, 30, 48] [(0, 16), (1, 8), (1, 10)] Ia I_57 := Fw_tr (Fw_wd wI_45 (by decide) (by decide)) (Fw_wd h_57.2.2.2.1 (by decide) (by decide))
        have r5_I_57 : I_57 1 5 = I_45 1 5 := h_57.2.2.2.1 1 5 (by decide) (by decide) (by decide)
        have r6_I_57 : I_57 1 6 = I_45 1 6 := h_57.2.2.2.1 1 6 (by decide) (by decide) (by decide)
        have r7_I_57 : I_57 1 7 = I_45 1 7 := h_57.2.2.2.1 1 7 (by decide) (by decide) (by decide)
        have r8_I_57 : I_57 1 8 = I_45 1 8 := h_57.2.2.2.1 1 8 (by decide) (by decide) (by decide)
        have r9_I_57 : I_57 1 9 = I_45 1 9 := h_57.2.2.2.1 1 9 (by decide) (by decide) (by decide)
        have r10_I_57 : I_57 1 10 = I_45 1 10 := h_57.2.2.2.1 1 10 (by decide) (by decide) (by decide)
        have r11_I_57 : I_57 1 11 = I_45 1 11 := h_57.2.2.2.1 1 11 (by decide) (by decide) (by decide)
        have r81_I_57 : I_57 8 1 = I_45 8 1 := h_57.2.2.2.1 8 1 (by decide) (by decide) (by decide)
        have rf_I_57 : FU (I_57 1 5) = FU (I_45 1 5) := by rw [r5_I_57]
        have y5_I_57 : I_57 5 = I_45 5 := Fw_row h_57.2.2.2.1 5 (by decide) (by decide) (by decide)
        have xv_I_57 := h_57.2.2.2.2
        refine rI hX (pc := 60) hT (Nat.le_refl 0) (Nat.le_refl 0) dX10_send_60 ?_
        exact ⟨⟨kI_57, kJ_57, cI_57, (Fw_wd wI_57 (by decide) (by decide)), (fun h9 => absurd (by omega) h9), (fun _ => ⟨_, _, _, hkt, by
              rw [← hz]
              exact ⟨fun _ => ⟨xv_I_57.1, xv_I_57.2.1, by rw [xv_I_57.2.2, f48_45]; rfl, r8_I_57.trans f8_45, r10_I_57.trans f10_45, y5_I_57.trans f5_45⟩, fun h9 => absurd (by omega) h9, fun h9 => absurd (by omega) h9⟩⟩)⟩, frI_57⟩
    · simp only [w32_mod] at h_15
      refine ww_aload_n hX (pc := 18) dX10_send_18 rfl ?_
      refine ww_iconst hX (pc := 19) (x := (-1)) dX10_send_19 rfl ?_
      refine vI1 hX (pc := 20) sX10_89 (xs_0 hL) (c8_X10_refuse l0 hL hC hF (by omega) (by omega)) (by decide) (Nat.le_refl 0) (Nat.le_refl 0) (Nat.le_of_ble_eq_true rfl) dX10_send_20 (fun x_20 I_20 J_20 h_20 => ?_)
      obtain ⟨h_20, frI_20⟩ := h_20
      have kI_20 : Kp 0 49 Ia I_20 := Kp_tr (Kp_rf (a := 0) (b := 49)) (Kp_wd h_20.1 (by decide) (by decide))
      have kJ_20 : Kp 0 49 Ja J_20 := Kp_tr (Kp_rf (a := 0) (b := 49)) (Kp_wd h_20.2.1 (by decide) (by decide))
      have cI_20 : CX I_20 := h_20.2.2.1
      have qI_20 := XI_o cI_20.1
      have wI_20 : Fw [5, 18, 19, 20, 21, 22, 23, 24, 25, 26, 27, 28, 29, 30, 48] [(0, 16), (1, 8), (1, 10)] Ia I_20 := Fw_tr Fw_rf (Fw_wd h_20.2.2.2.1 (by decide) (by decide))
      have r5_I_20 : I_20 1 5 = Ia 1 5 := h_20.2.2.2.1 1 5 (by decide) (by decide) (by decide)
      have r6_I_20 : I_20 1 6 = Ia 1 6 := h_20.2.2.2.1 1 6 (by decide) (by decide) (by decide)
      have r7_I_20 : I_20 1 7 = Ia 1 7 := h_20.2.2.2.1 1 7 (by decide) (by decide) (by decide)
      have r8_I_20 : I_20 1 8 = Ia 1 8 := h_20.2.2.2.1 1 8 (by decide) (by decide) (by decide)
      have r9_I_20 : I_20 1 9 = Ia 1 9 := h_20.2.2.2.1 1 9 (by decide) (by decide) (by decide)
      have r10_I_20 : I_20 1 10 = Ia 1 10 := h_20.2.2.2.1 1 10 (by decide) (by decide) (by decide)
      have r11_I_20 : I_20 1 11 = Ia 1 11 := h_20.2.2.2.1 1 11 (by decide) (by decide) (by decide)
      have r81_I_20 : I_20 8 1 = Ia 8 1 := h_20.2.2.2.1 8 1 (by decide) (by decide) (by decide)
      have rf_I_20 : FU (I_20 1 5) = FU (Ia 1 5) := by rw [r5_I_20]
      have y5_I_20 : I_20 5 = Ia 5 := Fw_row h_20.2.2.2.1 5 (by decide) (by decide) (by decide)
      have xv_I_20 := h_20.2.2.2.2
      refine rI hX (pc := 23) hT (Nat.le_refl 0) (Nat.le_refl 0) dX10_send_23 ?_
      exact ⟨⟨kI_20, kJ_20, cI_20, (Fw_wd wI_20 (by decide) (by decide)), (fun _ => ⟨xv_I_20.1, h_20.2.2.2.1, xv_I_20.2⟩), (fun h9 => absurd h9 (by omega))⟩, frI_20⟩
