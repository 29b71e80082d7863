/-- what was searched holds the first CODES too -/
def SRF (F : aI1) : Prop := ∀ n k : Int, 1 ≤ n → n ≤ 3 → 2 ≤ k → k ≤ 4 → F 45 ((n - 1) * 3 + k - 2).toNat = 1 → ∀ t : Nat, t < 4 → ¬ F 43 (4 * ((n - 1) * 3 + k - 2).toNat + t) = 0 → FIo F (2 ^ n.toNat) k.toNat ((n - 1) * 3 + k - 2).toNat t
theorem TBt_r6 (k N t : Nat) : 0 ≤ TBt k N t ∧ TBt k N t < 16777216 := by
  unfold TBt
  have := Nat.mod_lt (TOTc k N / 16777216 ^ t) (show 0 < 16777216 by decide)
  omega
theorem SRF_of {F G : aI1} (h : SRF F) (h1 : G 43 = F 43) (h2 : G 44 = F 44) (h3 : G 45 = F 45) : SRF G := fun n k n0 n1 k0 k1 h45 t ht hc => FIo_of h2 (h n k n0 n1 k0 k1 (by rw [← h3]; exact h45) t ht (by rw [← h1]; exact hc))
theorem SRF_s {F G : aI1} {n k : Int} (h : SRF F) (n0 : 1 ≤ n) (n1 : n ≤ 3) (k0 : 2 ≤ k) (k1 : k ≤ 4) (hf : ∀ t : Nat, t < 4 → ¬ G 43 (4 * ((n - 1) * 3 + k - 2).toNat + t) = 0 → FIo G (2 ^ n.toNat) k.toNat ((n - 1) * 3 + k - 2).toNat t) (o3 : ∀ j : Nat, (j < 4 * ((n - 1) * 3 + k - 2).toNat ∨ 4 * ((n - 1) * 3 + k - 2).toNat + 4 ≤ j) → G 43 j = F 43 j) (o4 : ∀ j : Nat, (j < 32 * ((n - 1) * 3 + k - 2).toNat ∨ 32 * ((n - 1) * 3 + k - 2).toNat + 32 ≤ j) → G 44 j = F 44 j) (e45 : G 45 = up1 (F 45) ((n - 1) * 3 + k - 2).toNat 1) : SRF G := fun n' k' a0 a1 b0 b1 h45 t ht hc => by
  by_cases e : n' = n ∧ k' = k
  · obtain ⟨rfl, rfl⟩ := e
    exact hf t ht hc
  · have hne : ((n' - 1) * 3 + k' - 2).toNat ≠ ((n - 1) * 3 + k - 2).toNat := by omega
    rw [e45, up1_n _ _ hne] at h45
    rw [o3 _ (by omega)] at hc
    have h9 := h n' k' a0 a1 b0 b1 h45 t ht hc
    have hN : 2 ^ n'.toNat ≤ 8 := by
      rcases (show n' = 1 ∨ n' = 2 ∨ n' = 3 by omega) with rfl | rfl | rfl <;> decide
    exact fun j hj => by rw [o4 _ (by omega)]; exact h9 j hj
set_option maxHeartbeats 4000000 in
set_option maxRecDepth 20000 in
theorem c6_X2_countCodes (l0 : Launch) {Ia Ja : aI1} {Ra : aR1} {Sa : aS1} (hL : LY Ra Sa) {n k t : Int} (hn0 : 1 ≤ n) (hn1 : n ≤ 3) (hk0 : 2 ≤ k) (hk1 : k ≤ 4) (ht0 : 0 ≤ t) (ht1 : t ≤ 8) (hF : FI Ia) (hS : SR Ia) (hG : SRF Ia)  : CT l0 4 0 0 mX2_countCodes [kR (some 37), kI n, kI k, kI t] Ia Ja Ra Sa (cI (fun x I' J' => Kp 37 46 Ia I' ∧ Kp 37 46 Ja J' ∧ FI I' ∧ SR I' ∧ SRF I' ∧ (3 < t → x = 0) ∧ (t ≤ 3 → I' 45 ((n - 1) * 3 + k - 2).toNat = 1) ∧ (t ≤ 3 → x = TBt k.toNat (2 ^ n.toNat) t.toNat)) Ra Sa) := by
  refine ct_in pn_X2 (Nat.le_of_ble_eq_true rfl) (fun X hX hT hIn => ?_)
  have hX : aK l0 X cX2_countCodes 5 RX2 (some .int) 4 0 0 := hX
  change WW X 0 [some (kR (some 37)), some (kI n), some (kI k), some (kI t), none] [] Ia Ja Ra Sa 0 0
  refine ww_iload_n hX (pc := 0) dX2_countCodes_0 rfl ?_
  refine ww_iconst hX (pc := 1) (x := 3) dX2_countCodes_1 rfl ?_
  refine ww_icmp_le hX (pc := 2) (tgt := 7) dX2_countCodes_2 (by decide) (fun h_2 => ?_) (fun h_2 => ?_)
  · simp only [w32_mod] at h_2
    refine ww_iload_n hX (pc := 7) dX2_countCodes_7 rfl ?_
    refine ww_iload_n hX (pc := 8) dX2_countCodes_8 rfl ?_
    refine sI2 hX (pc := 9) sX2_35 (c_X2_pairOf l0) (by decide) (Nat.le_refl 0) (Nat.le_refl 0) (Nat.le_of_ble_eq_true rfl) dX2_countCodes_9 (fun x_9 I_9 J_9 h_9 => ?_)
    obtain ⟨rfl, rfl, h_9⟩ := h_9
    refine ww_istore hX (pc := 12) (lv' := [some (kR (some 37)), some (kI n), some (kI k), some (kI t), some (kI x_9)]) dX2_countCodes_12 (by decide) rfl rfl ?_
    have e12 : x_9 = (n - 1) * 3 + k - 2 := h_9
    have hs0 := hS n k hn0 hn1 hk0 hk1
    rw [← e12] at hs0
    refine ww_aload_n hX (pc := 14) dX2_countCodes_14 rfl ?_
    refine ww_getR hX (pc := 15) fX2_31 (by decide) (xs_37 hL) (xr_37_5 hL) dX2_countCodes_15 ?_
    refine ww_iload hX (pc := 18) dX2_countCodes_18 rfl ?_
    refine ww_zald hX (pc := 20) (xs_45 hL) (by decide) (by omega) (by omega) dX2_countCodes_20 ?_
    refine ww_if_ne hX (pc := 21) (tgt := 40) dX2_countCodes_21 (by decide) (fun h_21 => ?_) (fun h_21 => ?_)
    · simp only [w32_mod] at h_21
      refine ww_aload_n hX (pc := 40) dX2_countCodes_40 rfl ?_
      refine ww_getR hX (pc := 41) fX2_25 (by decide) (xs_37 hL) (xr_37_3 hL) dX2_countCodes_41 ?_
      refine ww_iload hX (pc := 44) dX2_countCodes_44 rfl ?_
      refine ww_iconst hX (pc := 46) (x := 4) dX2_countCodes_46 rfl ?_
      refine ww_imul hX (pc := 47) dX2_countCodes_47 ?_
      refine ww_iload_n hX (pc := 48) dX2_countCodes_48 rfl ?_
      refine ww_iadd hX (pc := 49) dX2_countCodes_49 ?_
      refine ww_iald hX (pc := 50) (xs_43 hL) (by decide) (by omega) (by omega) dX2_countCodes_50 ?_
      refine rI hX (pc := 51) hT (Nat.le_refl 0) (Nat.le_refl 0) dX2_countCodes_51 ?_
      have hsr9 := hS n k hn0 hn1 hk0 hk1
      rw [← e12] at hsr9
      exact ⟨(Kp_rf (a := 37) (b := 46)), (Kp_rf (a := 37) (b := 46)), hF, hS, hG, (fun h9 => absurd h9 (by omega)), (fun h9 => by
          rw [← e12]
          rcases hsr9 with ⟨h8, -⟩ | ⟨h8, -⟩
          · omega
          · exact h8), fun h9 => by
          rw [show (x_9 * 4 + t).toNat = 4 * x_9.toNat + t.toNat by omega]
          rcases hsr9 with ⟨h8, -⟩ | ⟨-, h8⟩
          · omega
          · exact h8 t.toNat (by omega)⟩
    · simp only [w32_mod] at h_21
      have hz0 : ∀ t : Nat, t < 4 → Ia 43 (4 * x_9.toNat + t) = 0 := by
        rcases hs0 with h8 | h8
        · exact h8.2
        · omega
      refine ww_aload_n hX (pc := 24) dX2_countCodes_24 rfl ?_
      refine ww_getR hX (pc := 25) fX2_31 (by decide) (xs_37 hL) (xr_37_5 hL) dX2_countCodes_25 ?_
      refine ww_iload hX (pc := 28) dX2_countCodes_28 rfl ?_
      refine ww_iconst hX (pc := 30) (x := 1) dX2_countCodes_30 rfl ?_
      refine ww_zast hX (pc := 31) (xs_45 hL) (by decide) (by omega) (by omega) (by decide) dX2_countCodes_31 ?_
      refine ww_nmH (fun I_31 eI_31 => ?_)
      have kI_31 : Kp 37 46 Ia I_31 := by rw [eI_31]; exact Kp_up (Kp_rf (a := 37) (b := 46)) _ _ (by decide)
      have fI_31 : FI I_31 := FI_of hF (by rw [eI_31, up2_off _ _ _ (by decide)])
      have g43 : I_31 43 = Ia 43 := by rw [eI_31, up2_off _ _ _ (by decide)]
      refine ww_aload_n hX (pc := 32) dX2_countCodes_32 rfl ?_
      refine ww_iload hX (pc := 33) dX2_countCodes_33 rfl ?_
      refine ww_iload_n hX (pc := 35) dX2_countCodes_35 rfl ?_
      refine ww_iload_n hX (pc := 36) dX2_countCodes_36 rfl ?_
      refine vV3 hX (pc := 37) sX2_39 (xs_37 hL) (c6_X2_search l0 hL (by omega) (by omega) (by omega) (by omega) (by omega) (by omega) fI_31 (fun t ht => by rw [g43]; exact hz0 t ht)) (by decide) (Nat.le_refl 0) (Nat.le_refl 0) (Nat.le_of_ble_eq_true rfl) dX2_countCodes_37 (fun I_37 J_37 h_37 => ?_)
      have kI_37 : Kp 37 46 Ia I_37 := Kp_tr kI_31 (Kp_wd h_37.1 (by decide) (by decide))
      have kJ_37 : Kp 37 46 Ja J_37 := Kp_tr (Kp_rf (a := 37) (b := 46)) (Kp_wd h_37.2.1 (by decide) (by decide))
      have z45 : I_37 45 x_9.toNat = 1 := by rw [h_37.2.2.2.2.2.2.1, eI_31, up2_s]
      have f_37 : FI I_37 := h_37.2.2.1
      have sr_37 : SR I_37 := SR_s hS hn0 hn1 hk0 hk1 (by rw [← e12]; exact h_37.2.2.2.1) (by rw [← e12]; exact h_37.2.2.2.2.1) (by rw [← e12]; exact fun j hj => (h_37.2.2.2.2.2.1 j hj).trans (by rw [g43])) (by rw [h_37.2.2.2.2.2.2.1, eI_31, up2_row, e12])
      have g44 : I_31 44 = Ia 44 := by rw [eI_31, up2_off _ _ _ (by decide)]
      have sg_37 : SRF I_37 := SRF_s hG hn0 hn1 hk0 hk1 (by rw [← e12]; exact h_37.2.2.2.2.2.2.2.1) (by rw [← e12]; exact fun j hj => (h_37.2.2.2.2.2.1 j hj).trans (by rw [g43])) (by rw [← e12]; exact fun j hj => (h_37.2.2.2.2.2.2.2.2 j hj).trans (by rw [g44])) (by rw [h_37.2.2.2.2.2.2.1, eI_31, up2_row, e12])
      refine ww_aload_n hX (pc := 40) dX2_countCodes_40 rfl ?_
      refine ww_getR hX (pc := 41) fX2_25 (by decide) (xs_37 hL) (xr_37_3 hL) dX2_countCodes_41 ?_
      refine ww_iload hX (pc := 44) dX2_countCodes_44 rfl ?_
      refine ww_iconst hX (pc := 46) (x := 4) dX2_countCodes_46 rfl ?_
      refine ww_imul hX (pc := 47) dX2_countCodes_47 ?_
      refine ww_iload_n hX (pc := 48) dX2_countCodes_48 rfl ?_
      refine ww_iadd hX (pc := 49) dX2_countCodes_49 ?_
      refine ww_iald hX (pc := 50) (xs_43 hL) (by decide) (by omega) (by omega) dX2_countCodes_50 ?_
      refine rI hX (pc := 51) hT (Nat.le_refl 0) (Nat.le_refl 0) dX2_countCodes_51 ?_
      have hsr9 := sr_37 n k hn0 hn1 hk0 hk1
      rw [← e12] at hsr9
      exact ⟨kI_37, kJ_37, f_37, sr_37, sg_37, (fun h9 => absurd h9 (by omega)), (fun h9 => by
          rw [← e12]
          rcases hsr9 with ⟨h8, -⟩ | ⟨h8, -⟩
          · omega
          · exact h8), fun h9 => by
          rw [show (x_9 * 4 + t).toNat = 4 * x_9.toNat + t.toNat by omega]
          rcases hsr9 with ⟨h8, -⟩ | ⟨-, h8⟩
          · omega
          · exact h8 t.toNat (by omega)⟩
  · simp only [w32_mod] at h_2
    refine ww_iconst hX (pc := 5) (x := 0) dX2_countCodes_5 rfl ?_
    refine rI hX (pc := 6) hT (Nat.le_refl 0) (Nat.le_refl 0) dX2_countCodes_6 ?_
    exact ⟨(Kp_rf (a := 37) (b := 46)), (Kp_rf (a := 37) (b := 46)), hF, hS, hG, fun _ => rfl, (fun h9 => absurd h9 (by omega)), fun h9 => absurd h9 (by omega)⟩
set_option maxHeartbeats 4000000 in
set_option maxRecDepth 20000 in
theorem c6_X2_copyFirst (l0 : Launch) {Ia Ja : aI1} {Ra : aR1} {Sa : aS1} (hL : LY Ra Sa) {n k t : Int} (hn0 : 1 ≤ n) (hn1 : n ≤ 3) (hk0 : 2 ≤ k) (hk1 : k ≤ 4) (ht0 : 0 ≤ t) (ht1 : t ≤ 8) (hF : FI Ia) (hS : SR Ia) (hG : SRF Ia) (hI3 : ∀ j, j < 256 → -1 ≤ Ia 3 j ∧ Ia 3 j ≤ 7)  : CT l0 5 0 0 mX2_copyFirst [kR (some 37), kI n, kI k, kI t, kR (some 3)] Ia Ja Ra Sa (cV (fun I' J' => (∀ q, q ≠ 3 → (q < 37 ∨ 46 ≤ q) → I' q = Ia q) ∧ Kp 37 46 Ja J' ∧ FI I' ∧ (∀ j, j < 256 → -1 ≤ I' 3 j ∧ I' 3 j ≤ 7) ∧ SR I' ∧ SRF I' ∧ ((t ≤ 3 ∧ 0 < TBt k.toNat (2 ^ n.toNat) t.toNat) → ∀ j : Nat, I' 3 j = if j < 2 ^ n.toNat then ((gd (S0 k.toNat (2 ^ n.toNat) t.toNat) j : Nat) : Int) else Ia 3 j) ∧ (¬ (t ≤ 3 ∧ 0 < TBt k.toNat (2 ^ n.toNat) t.toNat) → I' 3 = Ia 3)) Ra Sa) := by
  refine ct_in pn_X2 (Nat.le_of_ble_eq_true rfl) (fun X hX hT hIn => ?_)
  have hX : aK l0 X cX2_copyFirst 5 RX2 none 5 0 0 := hX
  change WW X 0 [some (kR (some 37)), some (kI n), some (kI k), some (kI t), some (kR (some 3))] [] Ia Ja Ra Sa 0 0
  refine ww_aload_n hX (pc := 0) dX2_copyFirst_0 rfl ?_
  refine ww_iload_n hX (pc := 1) dX2_copyFirst_1 rfl ?_
  refine ww_iload_n hX (pc := 2) dX2_copyFirst_2 rfl ?_
  refine ww_iload_n hX (pc := 3) dX2_copyFirst_3 rfl ?_
  refine vI3 hX (pc := 4) sX2_43 (xs_37 hL) (c6_X2_countCodes l0 hL (by omega) (by omega) (by omega) (by omega) (by omega) (by omega) hF hS hG) (by decide) (Nat.le_refl 0) (Nat.le_refl 0) (Nat.le_of_ble_eq_true rfl) dX2_copyFirst_4 (fun x_4 I_4 J_4 h_4 => ?_)
  refine ww_if_le hX (pc := 7) (tgt := 35) dX2_copyFirst_7 (by decide) (fun h_7 => ?_) (fun h_7 => ?_)
  · simp only [w32_mod] at h_7
    refine rV hX (pc := 35) hT (Nat.le_refl 0) (Nat.le_refl 0) dX2_copyFirst_35 ?_
    exact ⟨fun q h1 h2 => h_4.1 q (by omega), h_4.2.1, h_4.2.2.1, by rw [h_4.1 3 (by decide)]; exact hI3, h_4.2.2.2.1, h_4.2.2.2.2.1, (fun h9 => by exfalso; have := TBt_r6 k.toNat (2 ^ n.toNat) t.toNat; have := h_4.2.2.2.2.2.1; have := h_4.2.2.2.2.2.2.2; omega), fun _ => h_4.1 3 (by decide)⟩
  · simp only [w32_mod] at h_7
    refine ww_aload_n hX (pc := 10) dX2_copyFirst_10 rfl ?_
    refine ww_getR hX (pc := 11) fX2_28 (by decide) (xs_37 hL) (xr_37_4 hL) dX2_copyFirst_11 ?_
    refine ww_iload_n hX (pc := 14) dX2_copyFirst_14 rfl ?_
    refine ww_iload_n hX (pc := 15) dX2_copyFirst_15 rfl ?_
    refine sI2 hX (pc := 16) sX2_35 (c_X2_pairOf l0) (by decide) (Nat.le_refl 0) (Nat.le_refl 0) (Nat.le_of_ble_eq_true rfl) dX2_copyFirst_16 (fun x_16 I_16 J_16 h_16 => ?_)
    obtain ⟨rfl, rfl, h_16⟩ := h_16
    refine ww_iconst hX (pc := 19) (x := 4) dX2_copyFirst_19 rfl ?_
    refine ww_imul hX (pc := 20) dX2_copyFirst_20 ?_
    refine ww_iload_n hX (pc := 21) dX2_copyFirst_21 rfl ?_
    refine ww_iadd hX (pc := 22) dX2_copyFirst_22 ?_
    refine ww_bipush hX (pc := 23) (x := 8) dX2_copyFirst_23 (by decide) ?_
    refine ww_imul hX (pc := 25) dX2_copyFirst_25 ?_
    refine ww_aload hX (pc := 26) dX2_copyFirst_26 rfl ?_
    refine ww_iconst hX (pc := 28) (x := 0) dX2_copyFirst_28 rfl ?_
    refine ww_iconst hX (pc := 29) (x := 1) dX2_copyFirst_29 rfl ?_
    refine ww_iload_n hX (pc := 30) dX2_copyFirst_30 rfl ?_
    refine ww_ishl hX (pc := 31) dX2_copyFirst_31 ?_
    refine ww_nmI (fun v_31 hv_31 => ?_)
    have hst : 2 ≤ v_31 ∧ v_31 ≤ 8 := by
      rw [hv_31, i_shl1 (by omega) (by omega)]
      rcases (show n = 1 ∨ n = 2 ∨ n = 3 by omega) with rfl | rfl | rfl <;> decide
    have ht3 : t ≤ 3 := by have := h_4.2.2.2.2.2.1; omega
    have hbt := TBt_r6 k.toNat (2 ^ n.toNat) t.toNat
    have hx4 := h_4.2.2.2.2.2.2.2 ht3
    have h45 := h_4.2.2.2.2.2.2.1 ht3
    have hsr9 := h_4.2.2.2.1 n k hn0 hn1 hk0 hk1
    have hc43 : I_4 43 (4 * ((n - 1) * 3 + k - 2).toNat + t.toNat) = x_4 := by
      rcases hsr9 with ⟨h8, -⟩ | ⟨-, h8⟩
      · omega
      · rw [hx4]; exact h8 t.toNat (by omega)
    have hfi := h_4.2.2.2.2.1 n k hn0 hn1 hk0 hk1 h45 t.toNat (by omega) (by omega)
    refine ww_copy hX (pc := 32) tb_879 tb_663 tb_662 tb_19 (xs_44 hL) (xs_3 hL) (by decide) (by decide) (by omega) (by omega) (by omega) (by omega) (by omega) (by decide) (Nat.le_of_ble_eq_true rfl) dX2_copyFirst_32 ?_
    refine ww_nmH (fun I_32 eI_32 => ?_)
    refine rV hX (pc := 35) hT (Nat.le_refl 0) (Nat.le_refl 0) dX2_copyFirst_35 ?_
    refine ⟨fun q h1 h2 => ?_, h_4.2.1, FI_of h_4.2.2.1 (by rw [eI_32, upR_n _ _ (by decide)]), fun j hj => ?_, SR_of h_4.2.2.2.1 (by rw [eI_32, upR_n _ _ (by decide)]) (by rw [eI_32, upR_n _ _ (by decide)]), SRF_of h_4.2.2.2.2.1 (by rw [eI_32, upR_n _ _ (by decide)]) (by rw [eI_32, upR_n _ _ (by decide)]) (by rw [eI_32, upR_n _ _ (by decide)]), fun _ => (fun j => by
        rw [eI_32, upR_s, hv_31]
        unfold va_cpy
        rw [← hv_31]
        have hN3 : v_31.toNat = 2 ^ n.toNat := by
          rw [hv_31, i_shl1 (by omega) (by omega)]
          rcases (show n = 1 ∨ n = 2 ∨ n = 3 by omega) with rfl | rfl | rfl <;> decide
        by_cases g : j < 2 ^ n.toNat
        · rw [if_pos g, if_pos (by omega)]
          refine Eq.trans (congrArg (I_4 44) ?_) (hfi j g)
          omega
        · rw [if_neg g, if_neg (by omega)]
          exact congrFun (h_4.1 3 (by decide)) j), fun h9 => absurd h9 (by omega)⟩
    · rw [eI_32, upR_n _ _ h1]; exact h_4.1 q (by omega)
    · rw [eI_32, upR_s]
      unfold va_cpy
      split
      · have := h_4.2.2.1 (((x_16 * 4 + t) * 8).toNat + (j - Int.toNat 0)) (by omega)
        omega
      · rw [h_4.1 3 (by decide)]; exact hI3 j hj
