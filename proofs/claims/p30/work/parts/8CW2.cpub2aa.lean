theorem TR_o2 {m : Int} {I I' J J' : aI1} {t : Nat} (h : TR m I J t) (e19 : I' 19 = I 19) (e24 : I' 24 = I 24) (j28 : J' 28 = J 28) : TR m I' J' t := by
  unfold TR at h ⊢
  rw [e19, e24, j28]
  exact h
def JOKp (ok : Int → Int → Prop) (s t x : Int) : Prop := ok s t ↔ x = 1
/-- SENT or not -/
def SNd (z : Int) (I I' : aI1) (x : Int) : Prop := (z = -1 → x = -3 ∧ I' 0 16 = -3 ∧ I' 48 = up1 (I 48) 3 (I 48 3 + 1) ∧ I' 1 8 = I 1 8 ∧ I' 1 10 = I 1 10 ∧ I' 5 = I 5) ∧ (¬ z = -1 → 24 ≤ I 1 10 → x = -5 ∧ I' 0 16 = -5 ∧ I' 48 = up1 (I 48) 5 (I 48 5 + 1) ∧ I' 1 8 = I 1 8 ∧ I' 1 10 = I 1 10 ∧ I' 5 = I 5) ∧ (¬ z = -1 → I 1 10 < 24 → x = bc (i_xor z (I 1 8)) ∧ I' 0 16 = 0 ∧ I' 48 = I 48 ∧ I' 1 8 = z ∧ I' 1 10 = I 1 10 + 1 ∧ I' 5 = up1 (I 5) (I 1 10).toNat z)

set_option maxHeartbeats 4000000 in
set_option maxRecDepth 20000 in
theorem c8_X10_next (l0 : Launch) {Ia Ja : aI1} {Ra : aR1} {Sa : aS1} (hL : LY Ra Sa) (hC : CX Ia) (hF : FRk Ia Ja) {a b c : Int} (ha0 : -2147483648 ≤ a) (ha1 : a < 2147483648) (hb0 : -2147483648 ≤ b) (hb1 : b < 2147483648) (hc0 : -2147483648 ≤ c) (hc1 : c < 2147483648) (hO : ∀ j, j < 8 → 0 ≤ Ia 2 j ∧ Ia 2 j ≤ 99) (hK : ∀ s : Nat, (s : Int) ≤ FU (Ia 1 5) → Ia 3 s < Ia 1 6)  : CT l0 10 0 0 mX10_next [kR (some 0), kI a, kI b, kI c] Ia Ja Ra Sa (cI (fun x I' J' => (Kp 0 49 Ia I' ∧ Kp 0 49 Ja J' ∧ CX I' ∧ Fw [18, 19, 20, 21, 22, 23, 24, 25, 26, 27, 28, 29, 30] [] Ia I' ∧ ((0 ≤ a ∧ a ≤ FU (Ia 1 5) ∧ 0 ≤ b ∧ b < Ia 1 6 ∧ 0 ≤ c ∧ c ≤ 3) → ∃ o L T, KT c Ia o L T ∧ x = NX (bC c o L T) (Ia 3) (Ia 1 7) a (FU (Ia 1 5) + 1) b) ∧ (¬ (0 ≤ a ∧ a ≤ FU (Ia 1 5) ∧ 0 ≤ b ∧ b < Ia 1 6 ∧ 0 ≤ c ∧ c ≤ 3) → x = -1)) ∧ FRk I' J') Ra Sa) := by
  refine ct_in pn_X10 (Nat.le_of_ble_eq_true rfl) (fun X hX hT hIn => ?_)
  have hX : aK l0 X cX10_next 4 RX10 (some .int) 10 0 0 := hX
  change WW X 0 [some (kR (some 0)), some (kI a), some (kI b), some (kI c)] [] Ia Ja Ra Sa 0 0
  have hI := hC.1
  have hq := XI_o hI
  refine ww_aload_n hX (pc := 0) dX10_next_0 rfl ?_
  refine ww_getR hX (pc := 1) fX10_10 (by decide) (xs_0 hL) (xr_0_0 hL) dX10_next_1 ?_
  refine ww_iload_n hX (pc := 4) dX10_next_4 rfl ?_
  refine vI1 hX (pc := 5) sX10_131 (xs_1 hL) (c_X1_isState l0 hL hC.1 (by omega)) (by decide) (Nat.le_refl 0) (Nat.le_refl 0) (Nat.le_of_ble_eq_true rfl) dX10_next_5 (fun x_5 I_5 J_5 h_5 => ?_)
  obtain ⟨rfl, rfl, h_5⟩ := h_5
  refine ww_if_eq hX (pc := 8) (tgt := 29) dX10_next_8 (by decide) (fun h_8 => ?_) (fun h_8 => ?_)
  · simp only [w32_mod] at h_8
    refine ww_iconst hX (pc := 29) (x := (-1)) dX10_next_29 rfl ?_
    refine rI hX (pc := 30) hT (Nat.le_refl 0) (Nat.le_refl 0) dX10_next_30 ?_
    exact ⟨⟨(Kp_rf (a := 0) (b := 49)), (Kp_rf (a := 0) (b := 49)), hC, Fw_rf, (fun h9 => absurd h9 (by omega)), (fun _ => rfl)⟩, hF⟩
  · simp only [w32_mod] at h_8
    have k_5 := h_5.2.mp (by omega)
    clear h_5
    refine ww_aload_n hX (pc := 11) dX10_next_11 rfl ?_
    refine ww_getR hX (pc := 12) fX10_10 (by decide) (xs_0 hL) (xr_0_0 hL) dX10_next_12 ?_
    refine ww_iload_n hX (pc := 15) dX10_next_15 rfl ?_
    refine vI1 hX (pc := 16) sX10_134 (xs_1 hL) (c_X1_isNews l0 hL hC.1 (by omega)) (by decide) (Nat.le_refl 0) (Nat.le_refl 0) (Nat.le_of_ble_eq_true rfl) dX10_next_16 (fun x_16 I_16 J_16 h_16 => ?_)
    obtain ⟨rfl, rfl, h_16⟩ := h_16
    refine ww_if_eq hX (pc := 19) (tgt := 29) dX10_next_19 (by decide) (fun h_19 => ?_) (fun h_19 => ?_)
    · simp only [w32_mod] at h_19
      refine ww_iconst hX (pc := 29) (x := (-1)) dX10_next_29 rfl ?_
      refine rI hX (pc := 30) hT (Nat.le_refl 0) (Nat.le_refl 0) dX10_next_30 ?_
      exact ⟨⟨(Kp_rf (a := 0) (b := 49)), (Kp_rf (a := 0) (b := 49)), hC, Fw_rf, (fun h9 => absurd h9 (by omega)), (fun _ => rfl)⟩, hF⟩
    · simp only [w32_mod] at h_19
      have k_16 := h_16.2.mp (by omega)
      clear h_16
      refine ww_iload_n hX (pc := 22) dX10_next_22 rfl ?_
      refine sI1 hX (pc := 23) sX10_188 (c_X10_isManner l0 (by omega) (by omega)) (by decide) (Nat.le_refl 0) (Nat.le_refl 0) (Nat.le_of_ble_eq_true rfl) dX10_next_23 (fun x_23 I_23 J_23 h_23 => ?_)
      obtain ⟨rfl, rfl, h_23⟩ := h_23
      refine ww_if_ne hX (pc := 26) (tgt := 31) dX10_next_26 (by decide) (fun h_26 => ?_) (fun h_26 => ?_)
      · simp only [w32_mod] at h_26
        have k_23 := h_23.2.mp (by omega)
        clear h_23
        refine ww_aload_n hX (pc := 31) dX10_next_31 rfl ?_
        refine ww_getR hX (pc := 32) fX10_48 (by decide) (xs_0 hL) (xr_0_5 hL) dX10_next_32 ?_
        refine ww_iload_n hX (pc := 35) dX10_next_35 rfl ?_
        refine vV1 hX (pc := 36) sX10_191 (xs_18 hL) (c8_X4_prepare l0 hL hC.1 hF hK (by omega) (by omega)) (by decide) (Nat.le_refl 0) (Nat.le_refl 0) (Nat.le_of_ble_eq_true rfl) dX10_next_36 (fun I_36 J_36 h_36 => ?_)
        have kI_36 : Kp 0 49 Ia I_36 := Kp_tr (Kp_rf (a := 0) (b := 49)) (Kp_wd h_36.1 (by decide) (by decide))
        have kJ_36 : Kp 0 49 Ja J_36 := Kp_tr (Kp_rf (a := 0) (b := 49)) (Kp_wd h_36.2.1 (by decide) (by decide))
        have cI_36 : CX I_36 := CX_kp hC h_36.1 (by decide) (by decide)
        have qI_36 := XI_o cI_36.1
        have r5_I_36 : I_36 1 5 = Ia 1 5 := by rw [h_36.1 1 (by decide)]
        have r6_I_36 : I_36 1 6 = Ia 1 6 := by rw [h_36.1 1 (by decide)]
        have r8_I_36 : I_36 1 8 = Ia 1 8 := by rw [h_36.1 1 (by decide)]
        have r9_I_36 : I_36 1 9 = Ia 1 9 := by rw [h_36.1 1 (by decide)]
        have r10_I_36 : I_36 1 10 = Ia 1 10 := by rw [h_36.1 1 (by decide)]
        have r11_I_36 : I_36 1 11 = Ia 1 11 := by rw [h_36.1 1 (by decide)]
        have rf_I_36 : FU (I_36 1 5) = FU (Ia 1 5) := by rw [r5_I_36]
        have wI_36 : Fw [18, 19, 20, 21, 22, 23, 24, 25, 26, 27, 28, 29, 30] [] Ia I_36 := Fw_kp Fw_rf h_36.1 (by decide)
        have r7_I_36 : I_36 1 7 = Ia 1 7 := by rw [h_36.1 1 (by decide)]
        have frI_36 : FRk I_36 J_36 := h_36.2.2.1
        have e1_36 : I_36 1 = Ia 1 := h_36.1 1 (by decide)
        have e2_36 : I_36 2 = Ia 2 := h_36.1 2 (by decide)
        have e3_36 : I_36 3 = Ia 3 := h_36.1 3 (by decide)
        have htrp : ∀ t : Nat, (t : Int) ≤ FU (I_36 1 5) → TR c I_36 J_36 t := TR_p cI_36.1 (by rw [e2_36]; exact hO) h_36.2.2.2.1 h_36.2.2.2.2.1 h_36.2.2.2.2.2
        have hkt : KT c Ia (I_36 19) (I_36 24) (J_36 28) := KT_p h_36.2.2.2.1 h_36.2.2.2.2.1 h_36.2.2.2.2.2 e1_36 e2_36 e3_36
        refine ww_aload_n hX (pc := 39) dX10_next_39 rfl ?_
        refine ww_getR hX (pc := 40) fX10_48 (by decide) (xs_0 hL) (xr_0_5 hL) dX10_next_40 ?_
        refine ww_iload_n hX (pc := 43) dX10_next_43 rfl ?_
        refine ww_iload_n hX (pc := 44) dX10_next_44 rfl ?_
        refine ww_iload_n hX (pc := 45) dX10_next_45 rfl ?_
        refine vI3 hX (pc := 46) sX10_194 (xs_18 hL) (n8_X4_choose l0 hL cI_36.1 frI_36 (by omega) (by omega) (by omega) (by omega) (by omega) (by omega) htrp) (by decide) (Nat.le_refl 0) (Nat.le_refl 0) (Nat.le_of_ble_eq_true rfl) dX10_next_46 (fun x_46 I_46 J_46 h_46 => ?_)
        have kI_46 : Kp 0 49 Ia I_46 := Kp_tr kI_36 (Kp_wd h_46.1 (by decide) (by decide))
        have kJ_46 : Kp 0 49 Ja J_46 := Kp_tr kJ_36 (Kp_wd h_46.2.1 (by decide) (by decide))
        have cI_46 : CX I_46 := CX_kp cI_36 h_46.1 (by decide) (by decide)
        have qI_46 := XI_o cI_46.1
        have r5_I_46 : I_46 1 5 = I_36 1 5 := by rw [h_46.1 1 (by decide)]
        have r6_I_46 : I_46 1 6 = I_36 1 6 := by rw [h_46.1 1 (by decide)]
        have r8_I_46 : I_46 1 8 = I_36 1 8 := by rw [h_46.1 1 (by decide)]
        have r9_I_46 : I_46 1 9 = I_36 1 9 := by rw [h_46.1 1 (by decide)]
        have r10_I_46 : I_46 1 10 = I_36 1 10 := by rw [h_46.1 1 (by decide)]
        have r11_I_46 : I_46 1 11 = I_36 1 11 := by rw [h_46.1 1 (by decide)]
        have rf_I_46 : FU (I_46 1 5) = FU (I_36 1 5) := by rw [r5_I_46]
        have wI_46 : Fw [18, 19, 20, 21, 22, 23, 24, 25, 26, 27, 28, 29, 30] [] Ia I_46 := Fw_kp wI_36 h_46.1 (by decide)
        have r7_I_46 : I_46 1 7 = I_36 1 7 := by rw [h_46.1 1 (by decide)]
        have frI_46 : FRk I_46 J_46 := h_46.2.2.1
        refine rI hX (pc := 49) hT (Nat.le_refl 0) (Nat.le_refl 0) dX10_next_49 ?_
        exact ⟨⟨kI_46, kJ_46, cI_46, (Fw_wd wI_46 (by decide) (by decide)), (fun _ => ⟨_, _, _, hkt, by have h9 := h_46.2.2.2.1; rw [e3_36, e1_36] at h9; exact h9⟩), (fun h9 => absurd (by omega) h9)⟩, frI_46⟩
      · simp only [w32_mod] at h_26
        refine ww_iconst hX (pc := 29) (x := (-1)) dX10_next_29 rfl ?_
        refine rI hX (pc := 30) hT (Nat.le_refl 0) (Nat.le_refl 0) dX10_next_30 ?_
        exact ⟨⟨(Kp_rf (a := 0) (b := 49)), (Kp_rf (a := 0) (b := 49)), hC, Fw_rf, (fun h9 => absurd h9 (by omega)), (fun _ => rfl)⟩, hF⟩
