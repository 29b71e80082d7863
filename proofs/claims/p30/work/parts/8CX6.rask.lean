set_option maxHeartbeats 4000000 in
set_option maxRecDepth 20000 in
theorem c8_X11_next (l0 : Launch) {Ia Ja : aI1} {Ra : aR1} {Sa : aS1} (hL : LY Ra Sa) (hQ : RX Ia) {a b c : Int} (ha0 : -2147483648 ≤ a) (ha1 : a < 2147483648) (hb0 : -2147483648 ≤ b) (hb1 : b < 2147483648) (hc0 : -2147483648 ≤ c) (hc1 : c < 2147483648) (hO : ∀ l, l < 8 → 0 ≤ Ia 51 (256 + l) ∧ Ia 51 (256 + l) ≤ 99) (hcr : ∀ t : Nat, (t : Int) ≤ FU (Ia 51 304) → -1 ≤ Ia 51 t ∧ Ia 51 t ≤ 7) (hK : ∀ s : Nat, (s : Int) ≤ FU (Ia 51 304) → Ia 51 s < Ia 51 305) {vv : Int} (hq : QF Ia Ja vv) (hv9 : vv ≤ 1000000)  : CT l0 5 0 0 mX11_next [kR (some 49), kI a, kI b, kI c] Ia Ja Ra Sa (cI (fun x I' J' => Ch [61] [25] Ia I' ∧ Kp 49 73 Ja J' ∧ RX I' ∧ I' 51 = Ia 51 ∧ QF I' J' vv ∧ ((0 ≤ a ∧ a ≤ FU (Ia 51 304) ∧ 0 ≤ b ∧ b < Ia 51 305 ∧ 0 ≤ c ∧ c ≤ 3) → ∃ L M, zLV (Ia 51) (Ia 51 306) (FU (Ia 51 304) + 1) (Ia 51 305) (-1) L ∧ MRc (Ia 51) (Ia 51 306) (Ia 51 304) (Ia 51 305) M ∧ x = NX (bR c a (Ia 51 304) (Ia 51 305) (Ia 51) L M) (Ia 51) (Ia 51 306) a (FU (Ia 51 304) + 1) b) ∧ (¬ (0 ≤ a ∧ a ≤ FU (Ia 51 304) ∧ 0 ≤ b ∧ b < Ia 51 305 ∧ 0 ≤ c ∧ c ≤ 3) → x = -1)) Ra Sa) := by
  refine ct_in pn_X11 (Nat.le_of_ble_eq_true rfl) (fun X hX hT hIn => ?_)
  have hX : aK l0 X cX11_next 4 RX11 (some .int) 5 0 0 := hX
  change WW X 0 [some (kR (some 49)), some (kI a), some (kI b), some (kI c)] [] Ia Ja Ra Sa 0 0
  have qIa := RX_o hQ
  refine ww_aload_n hX (pc := 0) dX11_next_0 rfl ?_
  refine ww_iload_n hX (pc := 1) dX11_next_1 rfl ?_
  refine vI1 hX (pc := 2) sX11_120 (xs_49 hL) (c_X11_isState l0 hL hQ (by omega) (by omega)) (by decide) (Nat.le_refl 0) (Nat.le_refl 0) (Nat.le_of_ble_eq_true rfl) dX11_next_2 (fun x_2 I_2 J_2 h_2 => ?_)
  obtain ⟨rfl, rfl, h_2⟩ := h_2
  refine ww_if_eq hX (pc := 5) (tgt := 23) dX11_next_5 (by decide) (fun h_5 => ?_) (fun h_5 => ?_)
  · simp only [w32_mod] at h_5
    refine ww_iconst hX (pc := 23) (x := (-1)) dX11_next_23 rfl ?_
    refine rI hX (pc := 24) hT (Nat.le_refl 0) (Nat.le_refl 0) dX11_next_24 ?_
    exact ⟨Ch_rf, (Kp_rf (a := 49) (b := 73)), hQ, rfl, hq, (fun h9 => absurd h9 (by omega)), (fun _ => rfl)⟩
  · simp only [w32_mod] at h_5
    have k_2 := h_2.2.mp (by omega)
    clear h_2
    refine ww_aload_n hX (pc := 8) dX11_next_8 rfl ?_
    refine ww_iload_n hX (pc := 9) dX11_next_9 rfl ?_
    refine vI1 hX (pc := 10) sX11_123 (xs_49 hL) (c_X11_isNews l0 hL hQ (by omega) (by omega)) (by decide) (Nat.le_refl 0) (Nat.le_refl 0) (Nat.le_of_ble_eq_true rfl) dX11_next_10 (fun x_10 I_10 J_10 h_10 => ?_)
    obtain ⟨rfl, rfl, h_10⟩ := h_10
    refine ww_if_eq hX (pc := 13) (tgt := 23) dX11_next_13 (by decide) (fun h_13 => ?_) (fun h_13 => ?_)
    · simp only [w32_mod] at h_13
      refine ww_iconst hX (pc := 23) (x := (-1)) dX11_next_23 rfl ?_
      refine rI hX (pc := 24) hT (Nat.le_refl 0) (Nat.le_refl 0) dX11_next_24 ?_
      exact ⟨Ch_rf, (Kp_rf (a := 49) (b := 73)), hQ, rfl, hq, (fun h9 => absurd h9 (by omega)), (fun _ => rfl)⟩
    · simp only [w32_mod] at h_13
      have k_10 := h_10.2.mp (by omega)
      clear h_10
      refine ww_iload_n hX (pc := 16) dX11_next_16 rfl ?_
      refine sI1 hX (pc := 17) sX11_308 (c_X11_isManner l0 (by omega) (by omega)) (by decide) (Nat.le_refl 0) (Nat.le_refl 0) (Nat.le_of_ble_eq_true rfl) dX11_next_17 (fun x_17 I_17 J_17 h_17 => ?_)
      obtain ⟨rfl, rfl, h_17⟩ := h_17
      refine ww_if_ne hX (pc := 20) (tgt := 25) dX11_next_20 (by decide) (fun h_20 => ?_) (fun h_20 => ?_)
      · simp only [w32_mod] at h_20
        have k_17 := h_17.2.mp (by omega)
        clear h_17
        refine ww_aload_n hX (pc := 25) dX11_next_25 rfl ?_
        refine vV0 hX (pc := 26) sX11_294 (xs_49 hL) (c8_X11_looks l0 hL hQ hcr hK hq hv9) (by decide) (Nat.le_refl 0) (Nat.le_refl 0) (Nat.le_of_ble_eq_true rfl) dX11_next_26 (fun I_26 J_26 h_26 => ?_)
        have kJ_26 : Kp 49 73 Ja J_26 := Kp_tr (Kp_rf (a := 49) (b := 73)) h_26.2.1
        have kI_26 : Ch [61] [25] Ia I_26 := Ch_tr Ch_rf (Ch_wd h_26.1 (by decide) (by decide))
        have cI_26 : RX I_26 := h_26.2.2.1
        have qI_26 := RX_o cI_26
        have r304_I_26 : I_26 51 304 = Ia 51 304 := by rw [h_26.1.1 51 (by decide) (by decide)]
        have r305_I_26 : I_26 51 305 = Ia 51 305 := by rw [h_26.1.1 51 (by decide) (by decide)]
        have rf_I_26 : FU (I_26 51 304) = FU (Ia 51 304) := by rw [r304_I_26]
        have e51_26 : I_26 51 = Ia 51 := h_26.2.2.2.1
        have hq9_26 := h_26.2.2.2.2.1
        have hq8_26 := h_26.1.2 1 (by decide)
        have hq7 := hq.1
        have hrt9 := h_26.2.2.2.2.2
        have hqf : QF I_26 J_26 vv := ⟨by omega, by omega, fun _ => hrt9⟩
        unfold RT at hrt9
        rw [e51_26] at hrt9
        have hzl := hrt9.1
        have hmr := hrt9.2
        clear hrt9
        have efu : FU (I_26 51 304) = FU (Ia 51 304) := by rw [e51_26]
        refine ww_aload_n hX (pc := 29) dX11_next_29 rfl ?_
        refine ww_iload_n hX (pc := 30) dX11_next_30 rfl ?_
        refine ww_iload_n hX (pc := 31) dX11_next_31 rfl ?_
        refine ww_iload_n hX (pc := 32) dX11_next_32 rfl ?_
        refine vI3 hX (pc := 33) sX11_311 (xs_49 hL) (c8_X11_nextOf l0 hL cI_26 (by omega) (by omega) (by omega) (by omega) (by omega) (by omega) (by rw [e51_26]; exact hO) (by rw [e51_26]; exact hcr) (by rw [e51_26]; exact fun t ht => (hmr t ht).2)) (by decide) (Nat.le_refl 0) (Nat.le_refl 0) (Nat.le_of_ble_eq_true rfl) dX11_next_33 (fun x_33 I_33 J_33 h_33 => ?_)
        obtain ⟨rfl, rfl, h_33⟩ := h_33
        rw [e51_26] at h_33
        refine rI hX (pc := 36) hT (Nat.le_refl 0) (Nat.le_refl 0) dX11_next_36 ?_
        exact ⟨kI_26, kJ_26, cI_26, e51_26, hqf, (fun _ => ⟨_, _, hzl, hmr, h_33⟩), (fun h9 => absurd (by omega) h9)⟩
      · simp only [w32_mod] at h_20
        refine ww_iconst hX (pc := 23) (x := (-1)) dX11_next_23 rfl ?_
        refine rI hX (pc := 24) hT (Nat.le_refl 0) (Nat.le_refl 0) dX11_next_24 ?_
        exact ⟨Ch_rf, (Kp_rf (a := 49) (b := 73)), hQ, rfl, hq, (fun h9 => absurd h9 (by omega)), (fun _ => rfl)⟩
set_option maxHeartbeats 4000000 in
set_option maxRecDepth 20000 in
theorem c8_X11_lasts (l0 : Launch) {Ia Ja : aI1} {Ra : aR1} {Sa : aS1} (hL : LY Ra Sa) (hQ : RX Ia) {a : Int} (ha0 : -2147483648 ≤ a) (ha1 : a < 2147483648) (hO : ∀ l, l < 8 → 0 ≤ Ia 51 (256 + l) ∧ Ia 51 (256 + l) ≤ 99) (hcr : ∀ t : Nat, (t : Int) ≤ FU (Ia 51 304) → -1 ≤ Ia 51 t ∧ Ia 51 t ≤ 7) (hK : ∀ s : Nat, (s : Int) ≤ FU (Ia 51 304) → Ia 51 s < Ia 51 305) {vv : Int} (hq : QF Ia Ja vv) (hv9 : vv ≤ 1000000)  : CT l0 5 0 0 mX11_lasts [kR (some 49), kI a] Ia Ja Ra Sa (cI (fun x I' J' => Ch [61] [25] Ia I' ∧ Kp 49 73 Ja J' ∧ RX I' ∧ I' 51 = Ia 51 ∧ QF I' J' vv ∧ ((0 ≤ a ∧ a ≤ FU (Ia 51 304)) → ∃ L, zLV (Ia 51) (Ia 51 306) (FU (Ia 51 304) + 1) (Ia 51 305) (-1) L ∧ x = L a.toNat) ∧ (¬ (0 ≤ a ∧ a ≤ FU (Ia 51 304)) → x = -1)) Ra Sa) := by
  refine ct_in pn_X11 (Nat.le_of_ble_eq_true rfl) (fun X hX hT hIn => ?_)
  have hX : aK l0 X cX11_lasts 2 RX11 (some .int) 5 0 0 := hX
  change WW X 0 [some (kR (some 49)), some (kI a)] [] Ia Ja Ra Sa 0 0
  have qIa := RX_o hQ
  refine ww_aload_n hX (pc := 0) dX11_lasts_0 rfl ?_
  refine ww_iload_n hX (pc := 1) dX11_lasts_1 rfl ?_
  refine vI1 hX (pc := 2) sX11_120 (xs_49 hL) (c_X11_isState l0 hL hQ (by omega) (by omega)) (by decide) (Nat.le_refl 0) (Nat.le_refl 0) (Nat.le_of_ble_eq_true rfl) dX11_lasts_2 (fun x_2 I_2 J_2 h_2 => ?_)
  obtain ⟨rfl, rfl, h_2⟩ := h_2
  refine ww_if_ne hX (pc := 5) (tgt := 10) dX11_lasts_5 (by decide) (fun h_5 => ?_) (fun h_5 => ?_)
  · simp only [w32_mod] at h_5
    have k_2 := h_2.2.mp (by omega)
    clear h_2
    refine ww_aload_n hX (pc := 10) dX11_lasts_10 rfl ?_
    refine vV0 hX (pc := 11) sX11_294 (xs_49 hL) (c8_X11_looks l0 hL hQ hcr hK hq hv9) (by decide) (Nat.le_refl 0) (Nat.le_refl 0) (Nat.le_of_ble_eq_true rfl) dX11_lasts_11 (fun I_11 J_11 h_11 => ?_)
    have kJ_11 : Kp 49 73 Ja J_11 := Kp_tr (Kp_rf (a := 49) (b := 73)) h_11.2.1
    have kI_11 : Ch [61] [25] Ia I_11 := Ch_tr Ch_rf (Ch_wd h_11.1 (by decide) (by decide))
    have cI_11 : RX I_11 := h_11.2.2.1
    have qI_11 := RX_o cI_11
    have r304_I_11 : I_11 51 304 = Ia 51 304 := by rw [h_11.1.1 51 (by decide) (by decide)]
    have r305_I_11 : I_11 51 305 = Ia 51 305 := by rw [h_11.1.1 51 (by decide) (by decide)]
    have rf_I_11 : FU (I_11 51 304) = FU (Ia 51 304) := by rw [r304_I_11]
    have e51_11 : I_11 51 = Ia 51 := h_11.2.2.2.1
    have hq9_11 := h_11.2.2.2.2.1
    have hq8_11 := h_11.1.2 1 (by decide)
    have hq7 := hq.1
    have hrt9 := h_11.2.2.2.2.2
    have hqf : QF I_11 J_11 vv := ⟨by omega, by omega, fun _ => hrt9⟩
    unfold RT at hrt9
    rw [e51_11] at hrt9
    have hzl := hrt9.1
    have hmr := hrt9.2
    clear hrt9
    have efu : FU (I_11 51 304) = FU (Ia 51 304) := by rw [e51_11]
    refine ww_aload_n hX (pc := 14) dX11_lasts_14 rfl ?_
    refine ww_getR hX (pc := 15) fX11_55 (by decide) (xs_49 hL) (xr_49_23 hL) dX11_lasts_15 ?_
    refine ww_iload_n hX (pc := 18) dX11_lasts_18 rfl ?_
    refine ww_iald hX (pc := 19) (xs_61 hL) (by decide) (by omega) (by omega) dX11_lasts_19 ?_
    refine rI hX (pc := 20) hT (Nat.le_refl 0) (Nat.le_refl 0) dX11_lasts_20 ?_
    exact ⟨kI_11, kJ_11, cI_11, e51_11, hqf, (fun _ => ⟨_, hzl, rfl⟩), (fun h9 => absurd (by omega) h9)⟩
  · simp only [w32_mod] at h_5
    refine ww_iconst hX (pc := 8) (x := (-1)) dX11_lasts_8 rfl ?_
    refine rI hX (pc := 9) hT (Nat.le_refl 0) (Nat.le_refl 0) dX11_lasts_9 ?_
    exact ⟨Ch_rf, (Kp_rf (a := 49) (b := 73)), hQ, rfl, hq, (fun h9 => absurd h9 (by omega)), (fun _ => rfl)⟩
set_option maxHeartbeats 4000000 in
set_option maxRecDepth 20000 in
theorem c8_X11_mean (l0 : Launch) {Ia Ja : aI1} {Ra : aR1} {Sa : aS1} (hL : LY Ra Sa) (hQ : RX Ia) {a b : Int} (ha0 : -2147483648 ≤ a) (ha1 : a < 2147483648) (hb0 : -2147483648 ≤ b) (hb1 : b < 2147483648) (hO : ∀ l, l < 8 → 0 ≤ Ia 51 (256 + l) ∧ Ia 51 (256 + l) ≤ 99) (hcr : ∀ t : Nat, (t : Int) ≤ FU (Ia 51 304) → -1 ≤ Ia 51 t ∧ Ia 51 t ≤ 7) (hK : ∀ s : Nat, (s : Int) ≤ FU (Ia 51 304) → Ia 51 s < Ia 51 305) {vv : Int} (hq : QF Ia Ja vv) (hv9 : vv ≤ 1000000)  : CT l0 5 0 0 mX11_mean [kR (some 49), kI a, kI b] Ia Ja Ra Sa (cJ (fun x I' J' => Ch [61] [25] Ia I' ∧ Kp 49 73 Ja J' ∧ RX I' ∧ I' 51 = Ia 51 ∧ QF I' J' vv ∧ ((0 ≤ a ∧ a ≤ FU (Ia 51 304) ∧ 0 ≤ b ∧ b ≤ 1) → ∃ M, MRc (Ia 51) (Ia 51 306) (Ia 51 304) (Ia 51 305) M ∧ x = mPt (M a.toNat) (dwn (Ia 51) (Ia 51 305) (Ia 51 304) a.toNat) (if b = 0 then 1 else 0)) ∧ (¬ (0 ≤ a ∧ a ≤ FU (Ia 51 304) ∧ 0 ≤ b ∧ b ≤ 1) → x = -1)) Ra Sa) := by
  refine ct_in pn_X11 (Nat.le_of_ble_eq_true rfl) (fun X hX hT hIn => ?_)
  have hX : aK l0 X cX11_mean 7 RX11 (some .long) 5 0 0 := hX
  change WW X 0 [some (kR (some 49)), some (kI a), some (kI b), none, none, none, none] [] Ia Ja Ra Sa 0 0
  have qIa := RX_o hQ
  refine ww_aload_n hX (pc := 0) dX11_mean_0 rfl ?_
  refine ww_iload_n hX (pc := 1) dX11_mean_1 rfl ?_
  refine vI1 hX (pc := 2) sX11_120 (xs_49 hL) (c_X11_isState l0 hL hQ (by omega) (by omega)) (by decide) (Nat.le_refl 0) (Nat.le_refl 0) (Nat.le_of_ble_eq_true rfl) dX11_mean_2 (fun x_2 I_2 J_2 h_2 => ?_)
  obtain ⟨rfl, rfl, h_2⟩ := h_2
  refine ww_if_eq hX (pc := 5) (tgt := 17) dX11_mean_5 (by decide) (fun h_5 => ?_) (fun h_5 => ?_)
  · simp only [w32_mod] at h_5
    refine ww_ldc2 hX (pc := 17) (x := (-1)) dX11_mean_17 tb_1398 ?_
    refine rJ hX (pc := 20) hT (Nat.le_refl 0) (Nat.le_refl 0) dX11_mean_20 ?_
    exact ⟨Ch_rf, (Kp_rf (a := 49) (b := 73)), hQ, rfl, hq, (fun h9 => absurd h9 (by omega)), (fun _ => rfl)⟩
  · simp only [w32_mod] at h_5
    have k_2 := h_2.2.mp (by omega)
    clear h_2
    refine ww_iload_n hX (pc := 8) dX11_mean_8 rfl ?_
    refine ww_iconst hX (pc := 9) (x := 0) dX11_mean_9 rfl ?_
    refine ww_iconst hX (pc := 10) (x := 1) dX11_mean_10 rfl ?_
    refine sI3 hX (pc := 11) sX11_101 (c_X11_lies l0 (by omega) (by omega) (by omega) (by omega) (by omega) (by omega)) (by decide) (Nat.le_refl 0) (Nat.le_refl 0) (Nat.le_of_ble_eq_true rfl) dX11_mean_11 (fun x_11 I_11 J_11 h_11 => ?_)
    obtain ⟨rfl, rfl, h_11⟩ := h_11
    refine ww_if_ne hX (pc := 14) (tgt := 21) dX11_mean_14 (by decide) (fun h_14 => ?_) (fun h_14 => ?_)
    · simp only [w32_mod] at h_14
      have k_11 := h_11.2.mp (by omega)
      clear h_11
      refine ww_aload_n hX (pc := 21) dX11_mean_21 rfl ?_
      refine vV0 hX (pc := 22) sX11_294 (xs_49 hL) (c8_X11_looks l0 hL hQ hcr hK hq hv9) (by decide) (Nat.le_refl 0) (Nat.le_refl 0) (Nat.le_of_ble_eq_true rfl) dX11_mean_22 (fun I_22 J_22 h_22 => ?_)
      have kJ_22 : Kp 49 73 Ja J_22 := Kp_tr (Kp_rf (a := 49) (b := 73)) h_22.2.1
      have kI_22 : Ch [61] [25] Ia I_22 := Ch_tr Ch_rf (Ch_wd h_22.1 (by decide) (by decide))
      have cI_22 : RX I_22 := h_22.2.2.1
      have qI_22 := RX_o cI_22
      have r304_I_22 : I_22 51 304 = Ia 51 304 := by rw [h_22.1.1 51 (by decide) (by decide)]
      have r305_I_22 : I_22 51 305 = Ia 51 305 := by rw [h_22.1.1 51 (by decide) (by decide)]
      have rf_I_22 : FU (I_22 51 304) = FU (Ia 51 304) := by rw [r304_I_22]
      have e51_22 : I_22 51 = Ia 51 := h_22.2.2.2.1
      have hq9_22 := h_22.2.2.2.2.1
      have hq8_22 := h_22.1.2 1 (by decide)
      have hq7 := hq.1
      have hrt9 := h_22.2.2.2.2.2
      have hqf : QF I_22 J_22 vv := ⟨by omega, by omega, fun _ => hrt9⟩
      unfold RT at hrt9
      rw [e51_22] at hrt9
      have hzl := hrt9.1
      have hmr := hrt9.2
      clear hrt9
      have efu : FU (I_22 51 304) = FU (Ia 51 304) := by rw [e51_22]
      have hns := pcn_n (n := Ia 51 304) (t := a.toNat) (by omega) (by omega) (by omega)
      have hrs := pcn_r a.toNat
      have hca := hcr a.toNat (by omega)
      have hm8 := (hmr a.toNat (by omega)).2
      have hp7 := pow_7 (b := Ia 51 305 - 1) (n := (Ia 51 304 - pcn a.toNat).toNat) (by omega) (by omega) (by omega)
      have hm80 : 0 ≤ J_22 62 a.toNat ∧ J_22 62 a.toNat ≤ 1152960200 := by
        have h9 := hm8.1
        have h8 := hm8.2.1
        omega
      clear hm8
      refine ww_aload_n hX (pc := 25) dX11_mean_25 rfl ?_
      refine ww_aload_n hX (pc := 26) dX11_mean_26 rfl ?_
      refine ww_iload_n hX (pc := 27) dX11_mean_27 rfl ?_
      refine vI1 hX (pc := 28) sX11_274 (xs_49 hL) (c8_X11_dark l0 hL cI_22 (by omega) (by omega)) (by decide) (Nat.le_refl 0) (Nat.le_refl 0) (Nat.le_of_ble_eq_true rfl) dX11_mean_28 (fun x_28 I_28 J_28 h_28 => ?_)
      obtain ⟨rfl, rfl, h_28⟩ := h_28
      rw [e51_22] at h_28
      refine vJ1 hX (pc := 31) sX11_277 (xs_49 hL) (c_X11_power l0 hL cI_22 (by omega) (by omega)) (by decide) (Nat.le_refl 0) (Nat.le_refl 0) (Nat.le_of_ble_eq_true rfl) dX11_mean_31 (fun x_31 I_31 J_31 h_31 => ?_)
      obtain ⟨rfl, rfl, h_31⟩ := h_31
      rw [e51_22, h_28] at h_31
      refine ww_aload_n hX (pc := 34) dX11_mean_34 rfl ?_
      refine ww_iload_n hX (pc := 35) dX11_mean_35 rfl ?_
      refine vI1 hX (pc := 36) sX11_126 (xs_49 hL) (c_X11_readOf l0 hL cI_22 (by omega) (by omega)) (by decide) (Nat.le_refl 0) (Nat.le_refl 0) (Nat.le_of_ble_eq_true rfl) dX11_mean_36 (fun x_36 I_36 J_36 h_36 => ?_)
      obtain ⟨rfl, rfl, h_36⟩ := h_36
      rw [e51_22] at h_36
      refine ww_iconst hX (pc := 39) (x := (-1)) dX11_mean_39 rfl ?_
      refine ww_icmp_ne hX (pc := 40) (tgt := 54) dX11_mean_40 (by decide) (fun h_40 => ?_) (fun h_40 => ?_)
      · simp only [w32_mod] at h_40
        refine ww_aload_n hX (pc := 54) dX11_mean_54 rfl ?_
        refine ww_getR hX (pc := 55) fX11_20 (by decide) (xs_49 hL) (xr_49_3 hL) dX11_mean_55 ?_
        refine ww_sipush hX (pc := 58) (x := 305) dX11_mean_58 (by decide) ?_
        refine ww_iald hX (pc := 61) (xs_51 hL) (by decide) (by omega) (by omega) dX11_mean_61 ?_
        refine ww_toI (b := I_22 51 305) rfl ?_
        refine ww_iconst hX (pc := 62) (x := 1) dX11_mean_62 rfl ?_
        refine ww_isub hX (pc := 63) dX11_mean_63 ?_
        refine ww_i2l hX (pc := 64) dX11_mean_64 ?_
        refine ww_lmul hX (pc := 65) dX11_mean_65 ?_
        refine ww_nmL (fun v_66 hv_66 => ?_)
        refine ww_lstore_n hX (pc := 66) (lv' := [some (kR (some 49)), some (kI a), some (kI b), some (kL v_66), none, none, none]) dX11_mean_66 (by decide) rfl rfl ?_
        have hv66 : v_66 = dwn (Ia 51) (Ia 51 305) (Ia 51 304) a.toNat := by
          unfold dwn
          rw [hv_66, w32_id (by omega) (by omega), e51_22, h_31]
          first
          | (rw [if_pos (show Ia 51 a.toNat = -1 by omega)])
          | (rw [if_neg (show ¬ Ia 51 a.toNat = -1 by omega)])
        have hdn : 1 ≤ v_66 ∧ v_66 ≤ 46118408 := by rw [hv66]; unfold dwn; exact mul_small hp7 (by split <;> omega)
        refine ww_lload_n hX (pc := 67) dX11_mean_67 rfl ?_
        refine ww_aload_n hX (pc := 68) dX11_mean_68 rfl ?_
        refine ww_getR hX (pc := 69) fX11_58 (by decide) (xs_49 hL) (xr_49_24 hL) dX11_mean_69 ?_
        refine ww_iload_n hX (pc := 72) dX11_mean_72 rfl ?_
        refine ww_lald hX (pc := 73) (xs_62 hL) (by decide) (by omega) (by omega) dX11_mean_73 ?_
        refine sJ2 hX (pc := 74) sX11_297 (c8_X11_gcd l0 (by omega) (by omega) (by omega) (by omega)) (by decide) (Nat.le_refl 0) (Nat.le_refl 0) (Nat.le_of_ble_eq_true rfl) dX11_mean_74 (fun x_74 I_74 J_74 h_74 => ?_)
        obtain ⟨rfl, rfl, h_74⟩ := h_74
        have hg74 : x_74 = gq (J_22 62 a.toNat) (dwn (Ia 51) (Ia 51 305) (Ia 51 304) a.toNat) := by rw [h_74, gq_cm, hv66]
        have hgr := gq_r (a := J_22 62 a.toNat) (b := dwn (Ia 51) (Ia 51 305) (Ia 51 304) a.toNat) (by omega)
        refine ww_lstore hX (pc := 77) (lv' := [some (kR (some 49)), some (kI a), some (kI b), some (kL v_66), none, some (kL x_74), none]) dX11_mean_77 (by decide) rfl rfl ?_
        refine ww_iload_n hX (pc := 79) dX11_mean_79 rfl ?_
        refine ww_if_ne hX (pc := 80) (tgt := 92) dX11_mean_80 (by decide) (fun h_80 => ?_) (fun h_80 => ?_)
        · simp only [w32_mod] at h_80
          refine ww_lload_n hX (pc := 92) dX11_mean_92 rfl ?_
          refine ww_lload hX (pc := 93) dX11_mean_93 rfl ?_
          refine ww_ldiv hX (pc := 95) dX11_mean_95 (by rw [w64_id (by omega) (by omega)]; omega) ?_
          refine ww_toL (b := mPt (J_22 62 a.toNat) (dwn (Ia 51) (Ia 51 305) (Ia 51 304) a.toNat) (if b = 0 then 1 else 0)) (by
              unfold mPt
              first
              | (rw [if_pos (show b = 0 by omega), if_neg (show ¬ (1 : Int) = 0 by decide), l_div_v (by omega) (by omega) (by omega) (by omega), hg74])
              | (rw [if_neg (show ¬ b = 0 by omega), if_pos rfl, l_div_v (by omega) (by omega) (by omega) (by omega), hg74, hv66])) ?_
          refine rJ hX (pc := 96) hT (Nat.le_refl 0) (Nat.le_refl 0) dX11_mean_96 ?_
          exact ⟨kI_22, kJ_22, cI_22, e51_22, hqf, (fun _ => ⟨_, hmr, rfl⟩), (fun h9 => absurd (by omega) h9)⟩
        · simp only [w32_mod] at h_80
          refine ww_aload_n hX (pc := 83) dX11_mean_83 rfl ?_
          refine ww_getR hX (pc := 84) fX11_58 (by decide) (xs_49 hL) (xr_49_24 hL) dX11_mean_84 ?_
          refine ww_iload_n hX (pc := 87) dX11_mean_87 rfl ?_
          refine ww_lald hX (pc := 88) (xs_62 hL) (by decide) (by omega) (by omega) dX11_mean_88 ?_
          refine ww_goto hX (pc := 89) (tgt := 93) dX11_mean_89 (by decide) ?_
          refine ww_lload hX (pc := 93) dX11_mean_93 rfl ?_
          refine ww_ldiv hX (pc := 95) dX11_mean_95 (by rw [w64_id (by omega) (by omega)]; omega) ?_
          refine ww_toL (b := mPt (J_22 62 a.toNat) (dwn (Ia 51) (Ia 51 305) (Ia 51 304) a.toNat) (if b = 0 then 1 else 0)) (by
              unfold mPt
              first
              | (rw [if_pos (show b = 0 by omega), if_neg (show ¬ (1 : Int) = 0 by decide), l_div_v (by omega) (by omega) (by omega) (by omega), hg74])
              | (rw [if_neg (show ¬ b = 0 by omega), if_pos rfl, l_div_v (by omega) (by omega) (by omega) (by omega), hg74, hv66])) ?_
          refine rJ hX (pc := 96) hT (Nat.le_refl 0) (Nat.le_refl 0) dX11_mean_96 ?_
          exact ⟨kI_22, kJ_22, cI_22, e51_22, hqf, (fun _ => ⟨_, hmr, rfl⟩), (fun h9 => absurd (by omega) h9)⟩
      · simp only [w32_mod] at h_40
        refine ww_aload_n hX (pc := 43) dX11_mean_43 rfl ?_
        refine ww_getR hX (pc := 44) fX11_20 (by decide) (xs_49 hL) (xr_49_3 hL) dX11_mean_44 ?_
        refine ww_sipush hX (pc := 47) (x := 305) dX11_mean_47 (by decide) ?_
        refine ww_iald hX (pc := 50) (xs_51 hL) (by decide) (by omega) (by omega) dX11_mean_50 ?_
        refine ww_toI (b := I_22 51 305) rfl ?_
        refine ww_goto hX (pc := 51) (tgt := 64) dX11_mean_51 (by decide) ?_
        refine ww_i2l hX (pc := 64) dX11_mean_64 ?_
        refine ww_lmul hX (pc := 65) dX11_mean_65 ?_
        refine ww_nmL (fun v_66 hv_66 => ?_)
        refine ww_lstore_n hX (pc := 66) (lv' := [some (kR (some 49)), some (kI a), some (kI b), some (kL v_66), none, none, none]) dX11_mean_66 (by decide) rfl rfl ?_
        have hv66 : v_66 = dwn (Ia 51) (Ia 51 305) (Ia 51 304) a.toNat := by
          unfold dwn
          rw [hv_66, w32_id (by omega) (by omega), e51_22, h_31]
          first
          | (rw [if_pos (show Ia 51 a.toNat = -1 by omega)])
          | (rw [if_neg (show ¬ Ia 51 a.toNat = -1 by omega)])
        have hdn : 1 ≤ v_66 ∧ v_66 ≤ 46118408 := by rw [hv66]; unfold dwn; exact mul_small hp7 (by split <;> omega)
        refine ww_lload_n hX (pc := 67) dX11_mean_67 rfl ?_
        refine ww_aload_n hX (pc := 68) dX11_mean_68 rfl ?_
        refine ww_getR hX (pc := 69) fX11_58 (by decide) (xs_49 hL) (xr_49_24 hL) dX11_mean_69 ?_
        refine ww_iload_n hX (pc := 72) dX11_mean_72 rfl ?_
        refine ww_lald hX (pc := 73) (xs_62 hL) (by decide) (by omega) (by omega) dX11_mean_73 ?_
        refine sJ2 hX (pc := 74) sX11_297 (c8_X11_gcd l0 (by omega) (by omega) (by omega) (by omega)) (by decide) (Nat.le_refl 0) (Nat.le_refl 0) (Nat.le_of_ble_eq_true rfl) dX11_mean_74 (fun x_74 I_74 J_74 h_74 => ?_)
        obtain ⟨rfl, rfl, h_74⟩ := h_74
        have hg74 : x_74 = gq (J_22 62 a.toNat) (dwn (Ia 51) (Ia 51 305) (Ia 51 304) a.toNat) := by rw [h_74, gq_cm, hv66]
        have hgr := gq_r (a := J_22 62 a.toNat) (b := dwn (Ia 51) (Ia 51 305) (Ia 51 304) a.toNat) (by omega)
        refine ww_lstore hX (pc := 77) (lv' := [some (kR (some 49)), some (kI a), some (kI b), some (kL v_66), none, some (kL x_74), none]) dX11_mean_77 (by decide) rfl rfl ?_
        refine ww_iload_n hX (pc := 79) dX11_mean_79 rfl ?_
        refine ww_if_ne hX (pc := 80) (tgt := 92) dX11_mean_80 (by decide) (fun h_80 => ?_) (fun h_80 => ?_)
        · simp only [w32_mod] at h_80
          refine ww_lload_n hX (pc := 92) dX11_mean_92 rfl ?_
          refine ww_lload hX (pc := 93) dX11_mean_93 rfl ?_
          refine ww_ldiv hX (pc := 95) dX11_mean_95 (by rw [w64_id (by omega) (by omega)]; omega) ?_
          refine ww_toL (b := mPt (J_22 62 a.toNat) (dwn (Ia 51) (Ia 51 305) (Ia 51 304) a.toNat) (if b = 0 then 1 else 0)) (by
              unfold mPt
              first
              | (rw [if_pos (show b = 0 by omega), if_neg (show ¬ (1 : Int) = 0 by decide), l_div_v (by omega) (by omega) (by omega) (by omega), hg74])
              | (rw [if_neg (show ¬ b = 0 by omega), if_pos rfl, l_div_v (by omega) (by omega) (by omega) (by omega), hg74, hv66])) ?_
          refine rJ hX (pc := 96) hT (Nat.le_refl 0) (Nat.le_refl 0) dX11_mean_96 ?_
          exact ⟨kI_22, kJ_22, cI_22, e51_22, hqf, (fun _ => ⟨_, hmr, rfl⟩), (fun h9 => absurd (by omega) h9)⟩
        · simp only [w32_mod] at h_80
          refine ww_aload_n hX (pc := 83) dX11_mean_83 rfl ?_
          refine ww_getR hX (pc := 84) fX11_58 (by decide) (xs_49 hL) (xr_49_24 hL) dX11_mean_84 ?_
          refine ww_iload_n hX (pc := 87) dX11_mean_87 rfl ?_
          refine ww_lald hX (pc := 88) (xs_62 hL) (by decide) (by omega) (by omega) dX11_mean_88 ?_
          refine ww_goto hX (pc := 89) (tgt := 93) dX11_mean_89 (by decide) ?_
          refine ww_lload hX (pc := 93) dX11_mean_93 rfl ?_
          refine ww_ldiv hX (pc := 95) dX11_mean_95 (by rw [w64_id (by omega) (by omega)]; omega) ?_
          refine ww_toL (b := mPt (J_22 62 a.toNat) (dwn (Ia 51) (Ia 51 305) (Ia 51 304) a.toNat) (if b = 0 then 1 else 0)) (by
              unfold mPt
              first
              | (rw [if_pos (show b = 0 by omega), if_neg (show ¬ (1 : Int) = 0 by decide), l_div_v (by omega) (by omega) (by omega) (by omega), hg74])
              | (rw [if_neg (show ¬ b = 0 by omega), if_pos rfl, l_div_v (by omega) (by omega) (by omega) (by omega), hg74, hv66])) ?_
          refine rJ hX (pc := 96) hT (Nat.le_refl 0) (Nat.le_refl 0) dX11_mean_96 ?_
          exact ⟨kI_22, kJ_22, cI_22, e51_22, hqf, (fun _ => ⟨_, hmr, rfl⟩), (fun h9 => absurd (by omega) h9)⟩
    · simp only [w32_mod] at h_14
      refine ww_ldc2 hX (pc := 17) (x := (-1)) dX11_mean_17 tb_1398 ?_
      refine rJ hX (pc := 20) hT (Nat.le_refl 0) (Nat.le_refl 0) dX11_mean_20 ?_
      exact ⟨Ch_rf, (Kp_rf (a := 49) (b := 73)), hQ, rfl, hq, (fun h9 => absurd h9 (by omega)), (fun _ => rfl)⟩
