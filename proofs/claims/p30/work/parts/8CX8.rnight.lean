set_option maxHeartbeats 4000000 in
set_option maxRecDepth 20000 in
theorem c8_X11_night (l0 : Launch) {Ia Ja : aI1} {Ra : aR1} {Sa : aS1} (hL : LY Ra Sa) (hQ : RX Ia) {a b c : Int} (ha0 : -2147483648 ≤ a) (ha1 : a < 2147483648) (hb0 : -2147483648 ≤ b) (hb1 : b < 2147483648) (hc0 : -2147483648 ≤ c) (hc1 : c < 2147483648) (hO : ∀ l, l < 8 → 0 ≤ Ia 51 (256 + l) ∧ Ia 51 (256 + l) ≤ 99) (hcr : ∀ t : Nat, (t : Int) ≤ FU (Ia 51 304) → -1 ≤ Ia 51 t ∧ Ia 51 t ≤ 7) (hK : ∀ s : Nat, (s : Int) ≤ FU (Ia 51 304) → Ia 51 s < Ia 51 305) {vv : Int} (hq : QF Ia Ja vv) (hv9 : vv ≤ 1000000)  : CT l0 5 0 0 mX11_night [kR (some 49), kI a, kI b, kI c] Ia Ja Ra Sa (cI (fun x I' J' => Ch [50, 61, 72] [0, 1, 25, 39, 40, 41] Ia I' ∧ Kp 49 73 Ja J' ∧ RX I' ∧ I' 51 = Ia 51 ∧ QF I' J' (vv + 1) ∧ (¬ (0 ≤ a ∧ a ≤ 1000000 ∧ 0 ≤ b ∧ b ≤ 24 ∧ 0 ≤ c ∧ c ≤ 3) → x = -1 ∧ I' 49 0 = -1 ∧ I' 50 = up1 (Ia 50) 1 (Ia 50 1 + 1) ∧ I' 49 39 = Ia 49 39 ∧ I' 49 40 = Ia 49 40 ∧ I' 72 = Ia 72) ∧ ((0 ≤ a ∧ a ≤ 1000000 ∧ 0 ≤ b ∧ b ≤ 24 ∧ 0 ≤ c ∧ c ≤ 3) → x = I' 49 39 ∧ I' 49 0 = 0 ∧ I' 50 = Ia 50 ∧ ∃ L M, zLV (Ia 51) (Ia 51 306) (FU (Ia 51 304) + 1) (Ia 51 305) (-1) L ∧ MRc (Ia 51) (Ia 51 306) (Ia 51 304) (Ia 51 305) M ∧ NGc (fun s x => NX (bR c s (Ia 51 304) (Ia 51 305) (Ia 51) L M) (Ia 51) (Ia 51 306) s (FU (Ia 51 304) + 1) x) a (Ia 51 305) b (I' 72) (I' 49 39) (I' 49 40))) Ra Sa) := by
  refine ct_in pn_X11 (Nat.le_of_ble_eq_true rfl) (fun X hX hT hIn => ?_)
  have hX : aK l0 X cX11_night 7 RX11 (some .int) 5 0 0 := hX
  change WW X 0 [some (kR (some 49)), some (kI a), some (kI b), some (kI c), none, none, none] [] Ia Ja Ra Sa 0 0
  have qIa := RX_n hQ
  refine ww_iload_n hX (pc := 0) dX11_night_0 rfl ?_
  refine ww_iconst hX (pc := 1) (x := 0) dX11_night_1 rfl ?_
  refine ww_ldc hX (pc := 2) (x := 1000000) dX11_night_2 tb_1327 ?_
  refine sI3 hX (pc := 4) sX11_101 (c_X11_lies l0 (by omega) (by omega) (by omega) (by omega) (by omega) (by omega)) (by decide) (Nat.le_refl 0) (Nat.le_refl 0) (Nat.le_of_ble_eq_true rfl) dX11_night_4 (fun x_4 I_4 J_4 h_4 => ?_)
  obtain ⟨rfl, rfl, h_4⟩ := h_4
  refine ww_if_eq hX (pc := 7) (tgt := 27) dX11_night_7 (by decide) (fun h_7 => ?_) (fun h_7 => ?_)
  · simp only [w32_mod] at h_7
    refine ww_aload_n hX (pc := 27) dX11_night_27 rfl ?_
    refine ww_iconst hX (pc := 28) (x := (-1)) dX11_night_28 rfl ?_
    refine vI1 hX (pc := 29) sX11_105 (xs_49 hL) (c8_X11_refuses l0 hL hQ (by omega) (by omega)) (by decide) (Nat.le_refl 0) (Nat.le_refl 0) (Nat.le_of_ble_eq_true rfl) dX11_night_29 (fun x_29 I_29 J_29 h_29 => ?_)
    have kJ_29 : Kp 49 73 Ja J_29 := Kp_tr (Kp_rf (a := 49) (b := 73)) h_29.2.1
    have kI_29 : Ch [50, 61, 72] [0, 1, 25, 39, 40, 41] Ia I_29 := Ch_tr Ch_rf (Ch_wd h_29.1 (by decide) (by decide))
    have cI_29 : RX I_29 := h_29.2.2.1
    have qI_29 := RX_n cI_29
    have r304_I_29 : I_29 51 304 = Ia 51 304 := by rw [h_29.1.1 51 (by decide) (by decide)]
    have r305_I_29 : I_29 51 305 = Ia 51 305 := by rw [h_29.1.1 51 (by decide) (by decide)]
    have f39_I_29 : I_29 49 39 = Ia 49 39 := h_29.1.2 39 (by decide)
    have f40_I_29 : I_29 49 40 = Ia 49 40 := h_29.1.2 40 (by decide)
    have f41_I_29 : I_29 49 41 = Ia 49 41 := h_29.1.2 41 (by decide)
    have rf_I_29 : FU (I_29 51 304) = FU (Ia 51 304) := by rw [r304_I_29]
    refine rI hX (pc := 32) hT (Nat.le_refl 0) (Nat.le_refl 0) dX11_night_32 ?_
    exact ⟨kI_29, kJ_29, cI_29, h_29.1.1 51 (by decide) (by decide), (QF_kp hq (h_29.1.2 1 (by decide)) (h_29.1.2 25 (by decide)) (h_29.1.1 51 (by decide) (by decide)) (h_29.1.1 61 (by decide) (by decide)) (by rw [h_29.2.2.2.2.2.2]) (by omega)), (fun _ => ⟨h_29.2.2.2.1, h_29.2.2.2.2.1, h_29.2.2.2.2.2.1, h_29.1.2 39 (by decide), h_29.1.2 40 (by decide), h_29.1.1 72 (by decide) (by decide)⟩), (fun h9 => absurd h9 (by omega))⟩
  · simp only [w32_mod] at h_7
    have k_4 := h_4.2.mp (by omega)
    clear h_4
    refine ww_iload_n hX (pc := 10) dX11_night_10 rfl ?_
    refine ww_iconst hX (pc := 11) (x := 0) dX11_night_11 rfl ?_
    refine ww_bipush hX (pc := 12) (x := 24) dX11_night_12 (by decide) ?_
    refine sI3 hX (pc := 14) sX11_101 (c_X11_lies l0 (by omega) (by omega) (by omega) (by omega) (by omega) (by omega)) (by decide) (Nat.le_refl 0) (Nat.le_refl 0) (Nat.le_of_ble_eq_true rfl) dX11_night_14 (fun x_14 I_14 J_14 h_14 => ?_)
    obtain ⟨rfl, rfl, h_14⟩ := h_14
    refine ww_if_eq hX (pc := 17) (tgt := 27) dX11_night_17 (by decide) (fun h_17 => ?_) (fun h_17 => ?_)
    · simp only [w32_mod] at h_17
      refine ww_aload_n hX (pc := 27) dX11_night_27 rfl ?_
      refine ww_iconst hX (pc := 28) (x := (-1)) dX11_night_28 rfl ?_
      refine vI1 hX (pc := 29) sX11_105 (xs_49 hL) (c8_X11_refuses l0 hL hQ (by omega) (by omega)) (by decide) (Nat.le_refl 0) (Nat.le_refl 0) (Nat.le_of_ble_eq_true rfl) dX11_night_29 (fun x_29 I_29 J_29 h_29 => ?_)
      have kJ_29 : Kp 49 73 Ja J_29 := Kp_tr (Kp_rf (a := 49) (b := 73)) h_29.2.1
      have kI_29 : Ch [50, 61, 72] [0, 1, 25, 39, 40, 41] Ia I_29 := Ch_tr Ch_rf (Ch_wd h_29.1 (by decide) (by decide))
      have cI_29 : RX I_29 := h_29.2.2.1
      have qI_29 := RX_n cI_29
      have r304_I_29 : I_29 51 304 = Ia 51 304 := by rw [h_29.1.1 51 (by decide) (by decide)]
      have r305_I_29 : I_29 51 305 = Ia 51 305 := by rw [h_29.1.1 51 (by decide) (by decide)]
      have f39_I_29 : I_29 49 39 = Ia 49 39 := h_29.1.2 39 (by decide)
      have f40_I_29 : I_29 49 40 = Ia 49 40 := h_29.1.2 40 (by decide)
      have f41_I_29 : I_29 49 41 = Ia 49 41 := h_29.1.2 41 (by decide)
      have rf_I_29 : FU (I_29 51 304) = FU (Ia 51 304) := by rw [r304_I_29]
      refine rI hX (pc := 32) hT (Nat.le_refl 0) (Nat.le_refl 0) dX11_night_32 ?_
      exact ⟨kI_29, kJ_29, cI_29, h_29.1.1 51 (by decide) (by decide), (QF_kp hq (h_29.1.2 1 (by decide)) (h_29.1.2 25 (by decide)) (h_29.1.1 51 (by decide) (by decide)) (h_29.1.1 61 (by decide) (by decide)) (by rw [h_29.2.2.2.2.2.2]) (by omega)), (fun _ => ⟨h_29.2.2.2.1, h_29.2.2.2.2.1, h_29.2.2.2.2.2.1, h_29.1.2 39 (by decide), h_29.1.2 40 (by decide), h_29.1.1 72 (by decide) (by decide)⟩), (fun h9 => absurd h9 (by omega))⟩
    · simp only [w32_mod] at h_17
      have k_14 := h_14.2.mp (by omega)
      clear h_14
      refine ww_iload_n hX (pc := 20) dX11_night_20 rfl ?_
      refine sI1 hX (pc := 21) sX11_308 (c_X11_isManner l0 (by omega) (by omega)) (by decide) (Nat.le_refl 0) (Nat.le_refl 0) (Nat.le_of_ble_eq_true rfl) dX11_night_21 (fun x_21 I_21 J_21 h_21 => ?_)
      obtain ⟨rfl, rfl, h_21⟩ := h_21
      refine ww_if_ne hX (pc := 24) (tgt := 33) dX11_night_24 (by decide) (fun h_24 => ?_) (fun h_24 => ?_)
      · simp only [w32_mod] at h_24
        have k_21 := h_21.2.mp (by omega)
        clear h_21
        refine ww_aload_n hX (pc := 33) dX11_night_33 rfl ?_
        refine vV0 hX (pc := 34) sX11_294 (xs_49 hL) (c8_X11_looks l0 hL hQ hcr hK hq hv9) (by decide) (Nat.le_refl 0) (Nat.le_refl 0) (Nat.le_of_ble_eq_true rfl) dX11_night_34 (fun I_34 J_34 h_34 => ?_)
        have kJ_34 : Kp 49 73 Ja J_34 := Kp_tr (Kp_rf (a := 49) (b := 73)) h_34.2.1
        have kI_34 : Ch [50, 61, 72] [0, 1, 25, 39, 40, 41] Ia I_34 := Ch_tr Ch_rf (Ch_wd h_34.1 (by decide) (by decide))
        have cI_34 : RX I_34 := h_34.2.2.1
        have qI_34 := RX_n cI_34
        have r304_I_34 : I_34 51 304 = Ia 51 304 := by rw [h_34.1.1 51 (by decide) (by decide)]
        have r305_I_34 : I_34 51 305 = Ia 51 305 := by rw [h_34.1.1 51 (by decide) (by decide)]
        have f39_I_34 : I_34 49 39 = Ia 49 39 := h_34.1.2 39 (by decide)
        have f40_I_34 : I_34 49 40 = Ia 49 40 := h_34.1.2 40 (by decide)
        have f41_I_34 : I_34 49 41 = Ia 49 41 := h_34.1.2 41 (by decide)
        have rf_I_34 : FU (I_34 51 304) = FU (Ia 51 304) := by rw [r304_I_34]
        have e51_34 : I_34 51 = Ia 51 := h_34.2.2.2.1
        have hq9_34 := h_34.2.2.2.2.1
        have hq8_34 := h_34.1.2 1 (by decide)
        have hq7 := hq.1
        have hrt9 := h_34.2.2.2.2.2
        have hqf : QF I_34 J_34 vv := ⟨by omega, by omega, fun _ => hrt9⟩
        unfold RT at hrt9
        rw [e51_34] at hrt9
        have hzl := hrt9.1
        have hmr := hrt9.2
        clear hrt9
        have efu : FU (I_34 51 304) = FU (Ia 51 304) := by rw [e51_34]
        have kp_I_34 : I_34 51 = Ia 51 ∧ I_34 61 = I_34 61 ∧ I_34 49 1 = Ia 49 1 ∧ I_34 49 25 = I_34 49 25 ∧ I_34 50 = Ia 50 := ⟨e51_34, rfl, hq8_34, rfl, h_34.1.1 50 (by decide) (by decide)⟩
        refine ww_aload_n hX (pc := 37) dX11_night_37 rfl ?_
        refine ww_iload_n hX (pc := 38) dX11_night_38 rfl ?_
        refine ww_putI hX (pc := 39) (fun h9 => absurd h9 (by decide)) gX11_344 rfl (xs_49 hL) dX11_night_39 ?_
        refine ww_nmH (fun I_39 eI_39 => ?_)
        have kI_39 : Ch [50, 61, 72] [0, 1, 25, 39, 40, 41] Ia I_39 := by rw [eI_39]; exact Ch_f kI_34 (by decide)
        have cI_39 : RX I_39 := by rw [eI_39]; exact RX_f cI_34 (by decide)
        have qI_39 := RX_n cI_39
        have r304_I_39 : I_39 51 304 = I_34 51 304 := by rw [eI_39, up2_off _ _ _ (by decide)]
        have r305_I_39 : I_39 51 305 = I_34 51 305 := by rw [eI_39, up2_off _ _ _ (by decide)]
        have f39_I_39 : I_39 49 39 = I_34 49 39 := by rw [eI_39, up2_n _ _ (Or.inr (by decide))]
        have f40_I_39 : I_39 49 40 = I_34 49 40 := by rw [eI_39, up2_n _ _ (Or.inr (by decide))]
        have rf_I_39 : FU (I_39 51 304) = FU (I_34 51 304) := by rw [r304_I_39]
        have kp_I_39 : I_39 51 = Ia 51 ∧ I_39 61 = I_34 61 ∧ I_39 49 1 = Ia 49 1 ∧ I_39 49 25 = I_34 49 25 ∧ I_39 50 = Ia 50 := ⟨Eq.trans (by first | rw [eI_39, up2_off _ _ _ (by decide)] | rw [eI_39, up2_n _ _ (Or.inr (by decide))]) kp_I_34.1, Eq.trans (by first | rw [eI_39, up2_off _ _ _ (by decide)] | rw [eI_39, up2_n _ _ (Or.inr (by decide))]) kp_I_34.2.1, Eq.trans (by first | rw [eI_39, up2_off _ _ _ (by decide)] | rw [eI_39, up2_n _ _ (Or.inr (by decide))]) kp_I_34.2.2.1, Eq.trans (by first | rw [eI_39, up2_off _ _ _ (by decide)] | rw [eI_39, up2_n _ _ (Or.inr (by decide))]) kp_I_34.2.2.2.1, Eq.trans (by first | rw [eI_39, up2_off _ _ _ (by decide)] | rw [eI_39, up2_n _ _ (Or.inr (by decide))]) kp_I_34.2.2.2.2⟩
        have f41 : I_39 49 41 = a := by rw [eI_39, up2_s]
        refine ww_aload_n hX (pc := 42) dX11_night_42 rfl ?_
        refine ww_iconst hX (pc := 43) (x := 0) dX11_night_43 rfl ?_
        refine ww_putI hX (pc := 44) (fun h9 => absurd h9 (by decide)) gX11_95 rfl (xs_49 hL) dX11_night_44 ?_
        refine ww_nmH (fun I_44 eI_44 => ?_)
        have kI_44 : Ch [50, 61, 72] [0, 1, 25, 39, 40, 41] Ia I_44 := by rw [eI_44]; exact Ch_f kI_39 (by decide)
        have cI_44 : RX I_44 := by rw [eI_44]; exact RX_39 cI_39 (by omega) (by omega)
        have qI_44 := RX_n cI_44
        have r304_I_44 : I_44 51 304 = I_39 51 304 := by rw [eI_44, up2_off _ _ _ (by decide)]
        have r305_I_44 : I_44 51 305 = I_39 51 305 := by rw [eI_44, up2_off _ _ _ (by decide)]
        have f40_I_44 : I_44 49 40 = I_39 49 40 := by rw [eI_44, up2_n _ _ (Or.inr (by decide))]
        have f41_I_44 : I_44 49 41 = I_39 49 41 := by rw [eI_44, up2_n _ _ (Or.inr (by decide))]
        have rf_I_44 : FU (I_44 51 304) = FU (I_39 51 304) := by rw [r304_I_44]
        have kp_I_44 : I_44 51 = Ia 51 ∧ I_44 61 = I_34 61 ∧ I_44 49 1 = Ia 49 1 ∧ I_44 49 25 = I_34 49 25 ∧ I_44 50 = Ia 50 := ⟨Eq.trans (by first | rw [eI_44, up2_off _ _ _ (by decide)] | rw [eI_44, up2_n _ _ (Or.inr (by decide))]) kp_I_39.1, Eq.trans (by first | rw [eI_44, up2_off _ _ _ (by decide)] | rw [eI_44, up2_n _ _ (Or.inr (by decide))]) kp_I_39.2.1, Eq.trans (by first | rw [eI_44, up2_off _ _ _ (by decide)] | rw [eI_44, up2_n _ _ (Or.inr (by decide))]) kp_I_39.2.2.1, Eq.trans (by first | rw [eI_44, up2_off _ _ _ (by decide)] | rw [eI_44, up2_n _ _ (Or.inr (by decide))]) kp_I_39.2.2.2.1, Eq.trans (by first | rw [eI_44, up2_off _ _ _ (by decide)] | rw [eI_44, up2_n _ _ (Or.inr (by decide))]) kp_I_39.2.2.2.2⟩
        have f39 : I_44 49 39 = 0 := by rw [eI_44, up2_s]
        refine ww_aload_n hX (pc := 47) dX11_night_47 rfl ?_
        refine ww_iconst hX (pc := 48) (x := (-1)) dX11_night_48 rfl ?_
        refine ww_putI hX (pc := 49) (fun h9 => absurd h9 (by decide)) gX11_347 rfl (xs_49 hL) dX11_night_49 ?_
        refine ww_nmH (fun I_49 eI_49 => ?_)
        have kI_49 : Ch [50, 61, 72] [0, 1, 25, 39, 40, 41] Ia I_49 := by rw [eI_49]; exact Ch_f kI_44 (by decide)
        have cI_49 : RX I_49 := by rw [eI_49]; exact RX_f cI_44 (by decide)
        have qI_49 := RX_n cI_49
        have r304_I_49 : I_49 51 304 = I_44 51 304 := by rw [eI_49, up2_off _ _ _ (by decide)]
        have r305_I_49 : I_49 51 305 = I_44 51 305 := by rw [eI_49, up2_off _ _ _ (by decide)]
        have f39_I_49 : I_49 49 39 = I_44 49 39 := by rw [eI_49, up2_n _ _ (Or.inr (by decide))]
        have f41_I_49 : I_49 49 41 = I_44 49 41 := by rw [eI_49, up2_n _ _ (Or.inr (by decide))]
        have rf_I_49 : FU (I_49 51 304) = FU (I_44 51 304) := by rw [r304_I_49]
        have kp_I_49 : I_49 51 = Ia 51 ∧ I_49 61 = I_34 61 ∧ I_49 49 1 = Ia 49 1 ∧ I_49 49 25 = I_34 49 25 ∧ I_49 50 = Ia 50 := ⟨Eq.trans (by first | rw [eI_49, up2_off _ _ _ (by decide)] | rw [eI_49, up2_n _ _ (Or.inr (by decide))]) kp_I_44.1, Eq.trans (by first | rw [eI_49, up2_off _ _ _ (by decide)] | rw [eI_49, up2_n _ _ (Or.inr (by decide))]) kp_I_44.2.1, Eq.trans (by first | rw [eI_49, up2_off _ _ _ (by decide)] | rw [eI_49, up2_n _ _ (Or.inr (by decide))]) kp_I_44.2.2.1, Eq.trans (by first | rw [eI_49, up2_off _ _ _ (by decide)] | rw [eI_49, up2_n _ _ (Or.inr (by decide))]) kp_I_44.2.2.2.1, Eq.trans (by first | rw [eI_49, up2_off _ _ _ (by decide)] | rw [eI_49, up2_n _ _ (Or.inr (by decide))]) kp_I_44.2.2.2.2⟩
        have f40 : I_49 49 40 = -1 := by rw [eI_49, up2_s]
        refine ww_iconst hX (pc := 52) (x := 0) dX11_night_52 rfl ?_
        refine ww_istore hX (pc := 53) (lv' := [some (kR (some 49)), some (kI a), some (kI b), some (kI c), some (kI 0), none, none]) dX11_night_53 (by decide) rfl rfl ?_
        have hl_55 : ∀ (n_55 : Nat) (sa : Int) (I55 : aI1), (2 * (24 - I55 49 39) - I55 49 40).toNat = n_55 → (Ch [50, 61, 72] [0, 1, 25, 39, 40, 41] Ia I55 ∧ RX I55 ∧ I55 51 304 = I_49 51 304 ∧ I55 51 305 = I_49 51 305 ∧ (0 ≤ sa ∧ sa ≤ FU (Ia 51 304)) ∧ (0 ≤ I55 49 39 ∧ I55 49 39 ≤ b) ∧ (-1 ≤ I55 49 40 ∧ I55 49 40 ≤ 8) ∧ (0 ≤ I55 49 41 ∧ I55 49 41 ≤ 1000003) ∧ (I55 51 = Ia 51 ∧ I55 61 = I_34 61 ∧ I55 49 1 = Ia 49 1 ∧ I55 49 25 = I_34 49 25 ∧ I55 50 = Ia 50) ∧ NGi (fun s x => NX (bR c s (Ia 51 304) (Ia 51 305) (Ia 51) (I_34 61) (J_34 62)) (Ia 51) (Ia 51 306) s (FU (Ia 51 304) + 1) x) a (Ia 51 305) b (I55 49 39) sa (I55 49 41) (I55 72) (I55 49 39) (I55 49 40)) → WW X 55 [some (kR (some 49)), some (kI a), some (kI b), some (kI c), some (kI sa), none, none] [] I55 J_34 Ra Sa 0 0 := by
          intro n_55
          induction n_55 using Nat.strongRecOn with
          | ind n_55 ih_55 =>
            intro sa I55 hm_55 hv_55
            have hq_55 := Sh0_i hm_55
            clear hm_55
            obtain ⟨kI55, cI55, r304_I55, r305_I55, hv, hv1, hv2, hv3, kp_I55, hng⟩ := hv_55
            have qI55 := RX_n cI55
            have rf_I55 : FU (I55 51 304) = FU (I_49 51 304) := by rw [r304_I55]
            refine ww_aload_n hX (pc := 55) dX11_night_55 rfl ?_
            refine ww_getI hX (pc := 56) fX11_95 (by decide) (xs_49 hL) dX11_night_56 ?_
            refine ww_iload_n hX (pc := 59) dX11_night_59 rfl ?_
            refine ww_icmp_ge hX (pc := 60) (tgt := 162) dX11_night_60 (by decide) (fun h_60 => ?_) (fun h_60 => ?_)
            · simp only [w32_mod] at h_60
              refine ww_aload_n hX (pc := 162) dX11_night_162 rfl ?_
              refine ww_aload_n hX (pc := 163) dX11_night_163 rfl ?_
              refine ww_getI hX (pc := 164) fX11_95 (by decide) (xs_49 hL) dX11_night_164 ?_
              refine vI1 hX (pc := 167) sX11_109 (xs_49 hL) (c8_X11_good l0 hL cI55 ) (by decide) (Nat.le_refl 0) (Nat.le_refl 0) (Nat.le_of_ble_eq_true rfl) dX11_night_167 (fun x_167 I_167 J_167 h_167 => ?_)
              have kJ_167 : Kp 49 73 Ja J_167 := Kp_tr kJ_34 h_167.2.1
              have kI_167 : Ch [50, 61, 72] [0, 1, 25, 39, 40, 41] Ia I_167 := Ch_tr kI55 (Ch_wd h_167.1 (by decide) (by decide))
              have cI_167 : RX I_167 := h_167.2.2.1
              have qI_167 := RX_n cI_167
              have r304_I_167 : I_167 51 304 = I55 51 304 := by rw [h_167.1.1 51 (by decide) (by decide)]
              have r305_I_167 : I_167 51 305 = I55 51 305 := by rw [h_167.1.1 51 (by decide) (by decide)]
              have f39_I_167 : I_167 49 39 = I55 49 39 := h_167.1.2 39 (by decide)
              have f40_I_167 : I_167 49 40 = I55 49 40 := h_167.1.2 40 (by decide)
              have f41_I_167 : I_167 49 41 = I55 49 41 := h_167.1.2 41 (by decide)
              have rf_I_167 : FU (I_167 51 304) = FU (I55 51 304) := by rw [r304_I_167]
              refine rI hX (pc := 170) hT (Nat.le_refl 0) (Nat.le_refl 0) dX11_night_170 ?_
              exact ⟨kI_167, kJ_167, cI_167, (h_167.1.1 51 (by decide) (by decide)).trans kp_I55.1, (QF_up hqf (by rw [h_167.2.2.2.2.2.1, kp_I55.2.2.1, hq8_34]) ((h_167.1.2 25 (by decide)).trans kp_I55.2.2.2.1) (Int.le_refl _)), (fun h9 => absurd (by omega) h9), (fun _ => ⟨h_167.2.2.2.1.trans (h_167.1.2 39 (by decide)).symm, h_167.2.2.2.2.1, (h_167.1.1 50 (by decide) (by decide)).trans kp_I55.2.2.2.2, _, _, hzl, hmr, (by rw [h_167.1.1 72 (by decide) (by decide), h_167.1.2 39 (by decide), h_167.1.2 40 (by decide)]; exact NGi_end hng hv1 (by first | exact Or.inl (by omega) | exact Or.inr (by omega)))⟩)⟩
            · simp only [w32_mod] at h_60
              refine ww_aload_n hX (pc := 63) dX11_night_63 rfl ?_
              refine ww_getI hX (pc := 64) fX11_347 (by decide) (xs_49 hL) dX11_night_64 ?_
              refine ww_iconst hX (pc := 67) (x := (-1)) dX11_night_67 rfl ?_
              refine ww_icmp_ne hX (pc := 68) (tgt := 162) dX11_night_68 (by decide) (fun h_68 => ?_) (fun h_68 => ?_)
              · simp only [w32_mod] at h_68
                refine ww_aload_n hX (pc := 162) dX11_night_162 rfl ?_
                refine ww_aload_n hX (pc := 163) dX11_night_163 rfl ?_
                refine ww_getI hX (pc := 164) fX11_95 (by decide) (xs_49 hL) dX11_night_164 ?_
                refine vI1 hX (pc := 167) sX11_109 (xs_49 hL) (c8_X11_good l0 hL cI55 ) (by decide) (Nat.le_refl 0) (Nat.le_refl 0) (Nat.le_of_ble_eq_true rfl) dX11_night_167 (fun x_167 I_167 J_167 h_167 => ?_)
                have kJ_167 : Kp 49 73 Ja J_167 := Kp_tr kJ_34 h_167.2.1
                have kI_167 : Ch [50, 61, 72] [0, 1, 25, 39, 40, 41] Ia I_167 := Ch_tr kI55 (Ch_wd h_167.1 (by decide) (by decide))
                have cI_167 : RX I_167 := h_167.2.2.1
                have qI_167 := RX_n cI_167
                have r304_I_167 : I_167 51 304 = I55 51 304 := by rw [h_167.1.1 51 (by decide) (by decide)]
                have r305_I_167 : I_167 51 305 = I55 51 305 := by rw [h_167.1.1 51 (by decide) (by decide)]
                have f39_I_167 : I_167 49 39 = I55 49 39 := h_167.1.2 39 (by decide)
                have f40_I_167 : I_167 49 40 = I55 49 40 := h_167.1.2 40 (by decide)
                have f41_I_167 : I_167 49 41 = I55 49 41 := h_167.1.2 41 (by decide)
                have rf_I_167 : FU (I_167 51 304) = FU (I55 51 304) := by rw [r304_I_167]
                refine rI hX (pc := 170) hT (Nat.le_refl 0) (Nat.le_refl 0) dX11_night_170 ?_
                exact ⟨kI_167, kJ_167, cI_167, (h_167.1.1 51 (by decide) (by decide)).trans kp_I55.1, (QF_up hqf (by rw [h_167.2.2.2.2.2.1, kp_I55.2.2.1, hq8_34]) ((h_167.1.2 25 (by decide)).trans kp_I55.2.2.2.1) (Int.le_refl _)), (fun h9 => absurd (by omega) h9), (fun _ => ⟨h_167.2.2.2.1.trans (h_167.1.2 39 (by decide)).symm, h_167.2.2.2.2.1, (h_167.1.1 50 (by decide) (by decide)).trans kp_I55.2.2.2.2, _, _, hzl, hmr, (by rw [h_167.1.1 72 (by decide) (by decide), h_167.1.2 39 (by decide), h_167.1.2 40 (by decide)]; exact NGi_end hng hv1 (by first | exact Or.inl (by omega) | exact Or.inr (by omega)))⟩)⟩
              · simp only [w32_mod] at h_68
                refine ww_aload_n hX (pc := 71) dX11_night_71 rfl ?_
                refine ww_ldc2 hX (pc := 72) (x := 1103) dX11_night_72 tb_1615 ?_
                refine ww_aload_n hX (pc := 75) dX11_night_75 rfl ?_
                refine ww_getI hX (pc := 76) fX11_344 (by decide) (xs_49 hL) dX11_night_76 ?_
                refine ww_i2l hX (pc := 79) dX11_night_79 ?_
                refine ww_lmul hX (pc := 80) dX11_night_80 ?_
                refine ww_ldc2 hX (pc := 81) (x := 12345) dX11_night_81 tb_1616 ?_
                refine ww_ladd hX (pc := 84) dX11_night_84 ?_
                refine ww_ldc2 hX (pc := 85) (x := 1000003) dX11_night_85 tb_1617 ?_
                refine ww_lrem hX (pc := 88) dX11_night_88 (by decide) ?_
                refine ww_l2i hX (pc := 89) dX11_night_89 ?_
                refine ww_putI hX (pc := 90) (fun h9 => absurd h9 (by decide)) gX11_344 rfl (xs_49 hL) dX11_night_90 ?_
                refine ww_nmH (fun I_90 eI_90 => ?_)
                have kI_90 : Ch [50, 61, 72] [0, 1, 25, 39, 40, 41] Ia I_90 := by rw [eI_90]; exact Ch_f kI55 (by decide)
                have cI_90 : RX I_90 := by rw [eI_90]; exact RX_f cI55 (by decide)
                have qI_90 := RX_n cI_90
                have r304_I_90 : I_90 51 304 = I55 51 304 := by rw [eI_90, up2_off _ _ _ (by decide)]
                have r305_I_90 : I_90 51 305 = I55 51 305 := by rw [eI_90, up2_off _ _ _ (by decide)]
                have f39_I_90 : I_90 49 39 = I55 49 39 := by rw [eI_90, up2_n _ _ (Or.inr (by decide))]
                have f40_I_90 : I_90 49 40 = I55 49 40 := by rw [eI_90, up2_n _ _ (Or.inr (by decide))]
                have rf_I_90 : FU (I_90 51 304) = FU (I55 51 304) := by rw [r304_I_90]
                have kp_I_90 : I_90 51 = Ia 51 ∧ I_90 61 = I_34 61 ∧ I_90 49 1 = Ia 49 1 ∧ I_90 49 25 = I_34 49 25 ∧ I_90 50 = Ia 50 := ⟨Eq.trans (by first | rw [eI_90, up2_off _ _ _ (by decide)] | rw [eI_90, up2_n _ _ (Or.inr (by decide))]) kp_I55.1, Eq.trans (by first | rw [eI_90, up2_off _ _ _ (by decide)] | rw [eI_90, up2_n _ _ (Or.inr (by decide))]) kp_I55.2.1, Eq.trans (by first | rw [eI_90, up2_off _ _ _ (by decide)] | rw [eI_90, up2_n _ _ (Or.inr (by decide))]) kp_I55.2.2.1, Eq.trans (by first | rw [eI_90, up2_off _ _ _ (by decide)] | rw [eI_90, up2_n _ _ (Or.inr (by decide))]) kp_I55.2.2.2.1, Eq.trans (by first | rw [eI_90, up2_off _ _ _ (by decide)] | rw [eI_90, up2_n _ _ (Or.inr (by decide))]) kp_I55.2.2.2.2⟩
                have f41 : I_90 49 41 = l_rem (1103 * w32 (I55 49 41) + 12345) 1000003 := by rw [eI_90, up2_s]
                rw [w32_id (by omega) (by omega), l_rem_v (by omega) (by omega) (by decide) (by decide)] at f41
                have f72_90 : I_90 72 = I55 72 := by rw [eI_90, up2_off _ _ _ (by decide)]
                have efu90 : FU (I_90 51 304) = FU (Ia 51 304) := by rw [kp_I_90.1]
                have e305_90 : I_90 51 305 = Ia 51 305 := by rw [kp_I_90.1]
                have u55 : I55 49 40 = -1 := by omega
                refine ww_aload_n hX (pc := 93) dX11_night_93 rfl ?_
                refine ww_getI hX (pc := 94) fX11_344 (by decide) (xs_49 hL) dX11_night_94 ?_
                refine ww_aload_n hX (pc := 97) dX11_night_97 rfl ?_
                refine ww_getR hX (pc := 98) fX11_20 (by decide) (xs_49 hL) (xr_49_3 hL) dX11_night_98 ?_
                refine ww_sipush hX (pc := 101) (x := 305) dX11_night_101 (by decide) ?_
                refine ww_iald hX (pc := 104) (xs_51 hL) (by decide) (by omega) (by omega) dX11_night_104 ?_
                refine ww_toI (b := I_90 51 305) rfl ?_
                refine ww_irem hX (pc := 105) dX11_night_105 (by rw [w32_id (by omega) (by omega)]; omega) ?_
                refine ww_nmI (fun v_106 hv_106 => ?_)
                refine ww_istore hX (pc := 106) (lv' := [some (kR (some 49)), some (kI a), some (kI b), some (kI c), some (kI sa), some (kI v_106), none]) dX11_night_106 (by decide) rfl rfl ?_
                rw [i_rem_v (by omega) (by omega) (by omega) (by omega)] at hv_106
                have hx1 := Int.emod_nonneg (I_90 49 41) (show I_90 51 305 ≠ 0 by omega)
                have hx2 := Int.emod_lt_of_pos (I_90 49 41) (show 0 < I_90 51 305 by omega)
                have hv106 : v_106 = I_90 49 41 % Ia 51 305 := by rw [← e305_90]; exact hv_106
                refine ww_aload_n hX (pc := 108) dX11_night_108 rfl ?_
                refine ww_iload hX (pc := 109) dX11_night_109 rfl ?_
                refine ww_iload hX (pc := 111) dX11_night_111 rfl ?_
                refine ww_iload_n hX (pc := 113) dX11_night_113 rfl ?_
                refine vI3 hX (pc := 114) sX11_311 (xs_49 hL) (c8_X11_nextOf l0 hL cI_90 (by omega) (by omega) (by omega) (by omega) (by omega) (by omega) (by rw [kp_I_90.1]; exact hO) (by rw [kp_I_90.1]; exact hcr) (by rw [kp_I_90.1]; exact fun t ht => (hmr t ht).2)) (by decide) (Nat.le_refl 0) (Nat.le_refl 0) (Nat.le_of_ble_eq_true rfl) dX11_night_114 (fun x_114 I_114 J_114 h_114 => ?_)
                obtain ⟨rfl, rfl, h_114⟩ := h_114
                rw [kp_I_90.1, kp_I_90.2.1] at h_114
                have hxn : (fun s x => NX (bR c s (Ia 51 304) (Ia 51 305) (Ia 51) (I_34 61) (J_34 62)) (Ia 51) (Ia 51 306) s (FU (Ia 51 304) + 1) x) sa v_106 = x_114 := h_114.symm
                have hnr := NX_r (bt := bR c sa (Ia 51 304) (Ia 51 305) (Ia 51) (I_34 61) (J_34 62)) (code := Ia 51) (g := Ia 51 306) (s := sa) (N := (FU (Ia 51 304) + 1)) (x := v_106) (by omega)
                rw [← h_114] at hnr
                have hnr2 : -1 ≤ x_114 ∧ x_114 ≤ FU (Ia 51 304) := by
                  rcases hnr with h9 | h9 <;> omega
                clear hnr
                refine ww_istore hX (pc := 117) (lv' := [some (kR (some 49)), some (kI a), some (kI b), some (kI c), some (kI sa), some (kI v_106), some (kI x_114)]) dX11_night_117 (by decide) rfl rfl ?_
                refine ww_iload hX (pc := 119) dX11_night_119 rfl ?_
                refine ww_iconst hX (pc := 121) (x := (-1)) dX11_night_121 rfl ?_
                refine ww_icmp_ne hX (pc := 122) (tgt := 134) dX11_night_122 (by decide) (fun h_122 => ?_) (fun h_122 => ?_)
                · simp only [w32_mod] at h_122
                  refine ww_iload hX (pc := 134) dX11_night_134 rfl ?_
                  refine ww_istore hX (pc := 136) (lv' := [some (kR (some 49)), some (kI a), some (kI b), some (kI c), some (kI x_114), some (kI v_106), some (kI x_114)]) dX11_night_136 (by decide) rfl rfl ?_
                  refine ww_aload_n hX (pc := 138) dX11_night_138 rfl ?_
                  refine ww_getR hX (pc := 139) fX11_92 (by decide) (xs_49 hL) (xr_49_38 hL) dX11_night_139 ?_
                  refine ww_aload_n hX (pc := 142) dX11_night_142 rfl ?_
                  refine ww_getI hX (pc := 143) fX11_95 (by decide) (xs_49 hL) dX11_night_143 ?_
                  refine ww_iload hX (pc := 146) dX11_night_146 rfl ?_
                  refine ww_iast hX (pc := 148) (xs_72 hL) (by decide) (by omega) (by omega) dX11_night_148 ?_
                  refine ww_nmH (fun I_148 eI_148 => ?_)
                  have kI_148 : Ch [50, 61, 72] [0, 1, 25, 39, 40, 41] Ia I_148 := by rw [eI_148]; exact Ch_r kI_90 (by decide) (by decide)
                  have cI_148 : RX I_148 := by rw [eI_148]; exact RX_r cI_90 (by decide)
                  have qI_148 := RX_n cI_148
                  have r304_I_148 : I_148 51 304 = I_90 51 304 := by rw [eI_148, up2_off _ _ _ (by decide)]
                  have r305_I_148 : I_148 51 305 = I_90 51 305 := by rw [eI_148, up2_off _ _ _ (by decide)]
                  have f39_I_148 : I_148 49 39 = I_90 49 39 := by rw [eI_148, up2_off _ _ _ (by decide)]
                  have f40_I_148 : I_148 49 40 = I_90 49 40 := by rw [eI_148, up2_off _ _ _ (by decide)]
                  have f41_I_148 : I_148 49 41 = I_90 49 41 := by rw [eI_148, up2_off _ _ _ (by decide)]
                  have rf_I_148 : FU (I_148 51 304) = FU (I_90 51 304) := by rw [r304_I_148]
                  have kp_I_148 : I_148 51 = Ia 51 ∧ I_148 61 = I_34 61 ∧ I_148 49 1 = Ia 49 1 ∧ I_148 49 25 = I_34 49 25 ∧ I_148 50 = Ia 50 := ⟨Eq.trans (by first | rw [eI_148, up2_off _ _ _ (by decide)] | rw [eI_148, up2_n _ _ (Or.inr (by decide))]) kp_I_90.1, Eq.trans (by first | rw [eI_148, up2_off _ _ _ (by decide)] | rw [eI_148, up2_n _ _ (Or.inr (by decide))]) kp_I_90.2.1, Eq.trans (by first | rw [eI_148, up2_off _ _ _ (by decide)] | rw [eI_148, up2_n _ _ (Or.inr (by decide))]) kp_I_90.2.2.1, Eq.trans (by first | rw [eI_148, up2_off _ _ _ (by decide)] | rw [eI_148, up2_n _ _ (Or.inr (by decide))]) kp_I_90.2.2.2.1, Eq.trans (by first | rw [eI_148, up2_off _ _ _ (by decide)] | rw [eI_148, up2_n _ _ (Or.inr (by decide))]) kp_I_90.2.2.2.2⟩
                  have f72_148 : I_148 72 = up1 (I55 72) (I55 49 39).toNat x_114 := (by rw [eI_148, up2_row, f72_90, f39_I_90])
                  refine ww_aload_n hX (pc := 149) dX11_night_149 rfl ?_
                  refine ww_dupR hX (pc := 150) dX11_night_150 ?_
                  refine ww_getI hX (pc := 151) fX11_95 (by decide) (xs_49 hL) dX11_night_151 ?_
                  refine ww_iconst hX (pc := 154) (x := 1) dX11_night_154 rfl ?_
                  refine ww_iadd hX (pc := 155) dX11_night_155 ?_
                  refine ww_putI hX (pc := 156) (fun h9 => absurd h9 (by decide)) gX11_95 rfl (xs_49 hL) dX11_night_156 ?_
                  refine ww_nmH (fun I_156 eI_156 => ?_)
                  have kI_156 : Ch [50, 61, 72] [0, 1, 25, 39, 40, 41] Ia I_156 := by rw [eI_156]; exact Ch_f kI_148 (by decide)
                  have cI_156 : RX I_156 := by rw [eI_156]; exact RX_39 cI_148 (by omega) (by omega)
                  have qI_156 := RX_n cI_156
                  have r304_I_156 : I_156 51 304 = I_148 51 304 := by rw [eI_156, up2_off _ _ _ (by decide)]
                  have r305_I_156 : I_156 51 305 = I_148 51 305 := by rw [eI_156, up2_off _ _ _ (by decide)]
                  have f40_I_156 : I_156 49 40 = I_148 49 40 := by rw [eI_156, up2_n _ _ (Or.inr (by decide))]
                  have f41_I_156 : I_156 49 41 = I_148 49 41 := by rw [eI_156, up2_n _ _ (Or.inr (by decide))]
                  have rf_I_156 : FU (I_156 51 304) = FU (I_148 51 304) := by rw [r304_I_156]
                  have kp_I_156 : I_156 51 = Ia 51 ∧ I_156 61 = I_34 61 ∧ I_156 49 1 = Ia 49 1 ∧ I_156 49 25 = I_34 49 25 ∧ I_156 50 = Ia 50 := ⟨Eq.trans (by first | rw [eI_156, up2_off _ _ _ (by decide)] | rw [eI_156, up2_n _ _ (Or.inr (by decide))]) kp_I_148.1, Eq.trans (by first | rw [eI_156, up2_off _ _ _ (by decide)] | rw [eI_156, up2_n _ _ (Or.inr (by decide))]) kp_I_148.2.1, Eq.trans (by first | rw [eI_156, up2_off _ _ _ (by decide)] | rw [eI_156, up2_n _ _ (Or.inr (by decide))]) kp_I_148.2.2.1, Eq.trans (by first | rw [eI_156, up2_off _ _ _ (by decide)] | rw [eI_156, up2_n _ _ (Or.inr (by decide))]) kp_I_148.2.2.2.1, Eq.trans (by first | rw [eI_156, up2_off _ _ _ (by decide)] | rw [eI_156, up2_n _ _ (Or.inr (by decide))]) kp_I_148.2.2.2.2⟩
                  have f39b : I_156 49 39 = I_148 49 39 + 1 := by rw [eI_156, up2_s]
                  have f39c : I_156 49 39 = I55 49 39 + 1 := by omega
                  have hnc : NGi (fun s x => NX (bR c s (Ia 51 304) (Ia 51 305) (Ia 51) (I_34 61) (J_34 62)) (Ia 51) (Ia 51 306) s (FU (Ia 51 304) + 1) x) a (Ia 51 305) b (I_156 49 39) x_114 (I_156 49 41) (I_156 72) (I_156 49 39) (I_156 49 40) := by
                    have h9 := NGi_go hng u55 (by omega) (show I_156 49 41 = (I55 49 41 * 1103 + 12345) % 1000003 by omega) (show v_106 = I_156 49 41 % Ia 51 305 by rw [f41_I_156, f41_I_148]; exact hv106) hxn (by omega) (show I_156 72 = up1 (I55 72) (I55 49 39).toNat x_114 by rw [eI_156, up2_off _ _ _ (by decide), f72_148]) f39c (show I_156 49 40 = -1 by omega)
                    rw [← f39c] at h9
                    exact h9
                  refine ww_goto hX (pc := 159) (tgt := 55) dX11_night_159 (by decide) ?_
                  refine ww_sub [some (kR (some 49)), some (kI a), some (kI b), some (kI c), some (kI x_114), none, none] (aLe_s (aLe_s (aLe_s (aLe_s (aLe_s (aLe_n (aLe_n aLe_0))))))) ?_
                  exact ih_55 _ (by have hm9 := Sh0_e hq_55; omega) x_114 I_156 rfl ⟨kI_156, cI_156, by omega, by omega, by omega, by omega, by omega, by omega, (by first | exact kp_I_156 | exact kp_I_128), hnc⟩
                · simp only [w32_mod] at h_122
                  refine ww_aload_n hX (pc := 125) dX11_night_125 rfl ?_
                  refine ww_iload hX (pc := 126) dX11_night_126 rfl ?_
                  refine ww_putI hX (pc := 128) (fun h9 => absurd h9 (by decide)) gX11_347 rfl (xs_49 hL) dX11_night_128 ?_
                  refine ww_nmH (fun I_128 eI_128 => ?_)
                  have kI_128 : Ch [50, 61, 72] [0, 1, 25, 39, 40, 41] Ia I_128 := by rw [eI_128]; exact Ch_f kI_90 (by decide)
                  have cI_128 : RX I_128 := by rw [eI_128]; exact RX_f cI_90 (by decide)
                  have qI_128 := RX_n cI_128
                  have r304_I_128 : I_128 51 304 = I_90 51 304 := by rw [eI_128, up2_off _ _ _ (by decide)]
                  have r305_I_128 : I_128 51 305 = I_90 51 305 := by rw [eI_128, up2_off _ _ _ (by decide)]
                  have f39_I_128 : I_128 49 39 = I_90 49 39 := by rw [eI_128, up2_n _ _ (Or.inr (by decide))]
                  have f41_I_128 : I_128 49 41 = I_90 49 41 := by rw [eI_128, up2_n _ _ (Or.inr (by decide))]
                  have rf_I_128 : FU (I_128 51 304) = FU (I_90 51 304) := by rw [r304_I_128]
                  have kp_I_128 : I_128 51 = Ia 51 ∧ I_128 61 = I_34 61 ∧ I_128 49 1 = Ia 49 1 ∧ I_128 49 25 = I_34 49 25 ∧ I_128 50 = Ia 50 := ⟨Eq.trans (by first | rw [eI_128, up2_off _ _ _ (by decide)] | rw [eI_128, up2_n _ _ (Or.inr (by decide))]) kp_I_90.1, Eq.trans (by first | rw [eI_128, up2_off _ _ _ (by decide)] | rw [eI_128, up2_n _ _ (Or.inr (by decide))]) kp_I_90.2.1, Eq.trans (by first | rw [eI_128, up2_off _ _ _ (by decide)] | rw [eI_128, up2_n _ _ (Or.inr (by decide))]) kp_I_90.2.2.1, Eq.trans (by first | rw [eI_128, up2_off _ _ _ (by decide)] | rw [eI_128, up2_n _ _ (Or.inr (by decide))]) kp_I_90.2.2.2.1, Eq.trans (by first | rw [eI_128, up2_off _ _ _ (by decide)] | rw [eI_128, up2_n _ _ (Or.inr (by decide))]) kp_I_90.2.2.2.2⟩
                  have f40b : I_128 49 40 = v_106 := by rw [eI_128, up2_s]
                  have hnc : NGi (fun s x => NX (bR c s (Ia 51 304) (Ia 51 305) (Ia 51) (I_34 61) (J_34 62)) (Ia 51) (Ia 51 306) s (FU (Ia 51 304) + 1) x) a (Ia 51 305) b (I_128 49 39) sa (I_128 49 41) (I_128 72) (I_128 49 39) (I_128 49 40) := NGi_any (NGi_un hng u55 (by omega) (by omega) (by omega) (show I_90 49 41 = (I55 49 41 * 1103 + 12345) % 1000003 by omega) hv106 (hxn.trans (by omega)) (by rw [eI_128, up2_off _ _ _ (by decide), f72_90]) (f39_I_128.trans f39_I_90) f40b) (by omega)
                  refine ww_goto hX (pc := 131) (tgt := 55) dX11_night_131 (by decide) ?_
                  refine ww_sub [some (kR (some 49)), some (kI a), some (kI b), some (kI c), some (kI sa), none, none] (aLe_s (aLe_s (aLe_s (aLe_s (aLe_s (aLe_n (aLe_n aLe_0))))))) ?_
                  exact ih_55 _ (by have hm9 := Sh0_e hq_55; omega) sa I_128 rfl ⟨kI_128, cI_128, by omega, by omega, by omega, by omega, by omega, by omega, (by first | exact kp_I_156 | exact kp_I_128), hnc⟩
        exact hl_55 _ 0 I_49 rfl ⟨kI_49, cI_49, rfl, rfl, by omega, by omega, by omega, by omega, kp_I_49, (by rw [show I_49 49 39 = 0 by omega, show I_49 49 41 = a by omega]; exact NGi_0 rfl f40)⟩
      · simp only [w32_mod] at h_24
        refine ww_aload_n hX (pc := 27) dX11_night_27 rfl ?_
        refine ww_iconst hX (pc := 28) (x := (-1)) dX11_night_28 rfl ?_
        refine vI1 hX (pc := 29) sX11_105 (xs_49 hL) (c8_X11_refuses l0 hL hQ (by omega) (by omega)) (by decide) (Nat.le_refl 0) (Nat.le_refl 0) (Nat.le_of_ble_eq_true rfl) dX11_night_29 (fun x_29 I_29 J_29 h_29 => ?_)
        have kJ_29 : Kp 49 73 Ja J_29 := Kp_tr (Kp_rf (a := 49) (b := 73)) h_29.2.1
        have kI_29 : Ch [50, 61, 72] [0, 1, 25, 39, 40, 41] Ia I_29 := Ch_tr Ch_rf (Ch_wd h_29.1 (by decide) (by decide))
        have cI_29 : RX I_29 := h_29.2.2.1
        have qI_29 := RX_n cI_29
        have r304_I_29 : I_29 51 304 = Ia 51 304 := by rw [h_29.1.1 51 (by decide) (by decide)]
        have r305_I_29 : I_29 51 305 = Ia 51 305 := by rw [h_29.1.1 51 (by decide) (by decide)]
        have f39_I_29 : I_29 49 39 = Ia 49 39 := h_29.1.2 39 (by decide)
        have f40_I_29 : I_29 49 40 = Ia 49 40 := h_29.1.2 40 (by decide)
        have f41_I_29 : I_29 49 41 = Ia 49 41 := h_29.1.2 41 (by decide)
        have rf_I_29 : FU (I_29 51 304) = FU (Ia 51 304) := by rw [r304_I_29]
        refine rI hX (pc := 32) hT (Nat.le_refl 0) (Nat.le_refl 0) dX11_night_32 ?_
        exact ⟨kI_29, kJ_29, cI_29, h_29.1.1 51 (by decide) (by decide), (QF_kp hq (h_29.1.2 1 (by decide)) (h_29.1.2 25 (by decide)) (h_29.1.1 51 (by decide) (by decide)) (h_29.1.1 61 (by decide) (by decide)) (by rw [h_29.2.2.2.2.2.2]) (by omega)), (fun _ => ⟨h_29.2.2.2.1, h_29.2.2.2.2.1, h_29.2.2.2.2.2.1, h_29.1.2 39 (by decide), h_29.1.2 40 (by decide), h_29.1.1 72 (by decide) (by decide)⟩), (fun h9 => absurd h9 (by omega))⟩
