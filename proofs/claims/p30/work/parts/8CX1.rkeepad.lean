set_option maxHeartbeats 4000000 in
set_option maxRecDepth 20000 in
theorem c8_X11_looks (l0 : Launch) {Ia Ja : aI1} {Ra : aR1} {Sa : aS1} (hL : LY Ra Sa) (hQ : RX Ia) (hcr : ∀ t : Nat, (t : Int) ≤ FU (Ia 51 304) → -1 ≤ Ia 51 t ∧ Ia 51 t ≤ 7) (hK : ∀ s : Nat, (s : Int) ≤ FU (Ia 51 304) → Ia 51 s < Ia 51 305) {vv : Int} (hq : QF Ia Ja vv) (hv9 : vv ≤ 1000000)  : CT l0 4 0 0 mX11_looks [kR (some 49)] Ia Ja Ra Sa (cV (fun I' J' => Ch [61] [25] Ia I' ∧ Kp 49 73 Ja J' ∧ RX I' ∧ I' 51 = Ia 51 ∧ I' 49 25 = I' 49 1 ∧ RT I' J') Ra Sa) := by
  refine ct_in pn_X11 (Nat.le_of_ble_eq_true rfl) (fun X hX hT hIn => ?_)
  have hX : aK l0 X cX11_looks 2 RX11 none 4 0 0 := hX
  change WW X 0 [some (kR (some 49)), none] [] Ia Ja Ra Sa 0 0
  have qIa := RX_o hQ
  have hq1 := hq.1
  have hq2 := hq.2.1
  refine ww_aload_n hX (pc := 0) dX11_looks_0 rfl ?_
  refine ww_getI hX (pc := 1) fX11_62 (by decide) (xs_49 hL) dX11_looks_1 ?_
  refine ww_aload_n hX (pc := 4) dX11_looks_4 rfl ?_
  refine ww_getI hX (pc := 5) fX11_11 (by decide) (xs_49 hL) dX11_looks_5 ?_
  refine ww_icmp_ne hX (pc := 8) (tgt := 12) dX11_looks_8 (by decide) (fun h_8 => ?_) (fun h_8 => ?_)
  · simp only [w32_mod] at h_8
    refine ww_aload_n hX (pc := 12) dX11_looks_12 rfl ?_
    refine ww_aload_n hX (pc := 13) dX11_looks_13 rfl ?_
    refine ww_getI hX (pc := 14) fX11_11 (by decide) (xs_49 hL) dX11_looks_14 ?_
    refine ww_putI hX (pc := 17) (fun h9 => absurd h9 (by decide)) gX11_62 rfl (xs_49 hL) dX11_looks_17 ?_
    refine ww_nmH (fun I_17 eI_17 => ?_)
    have kI_17 : Ch [61] [25] Ia I_17 := by rw [eI_17]; exact Ch_f Ch_rf (by decide)
    have cI_17 : RX I_17 := by rw [eI_17]; exact RX_f hQ (by decide)
    have qI_17 := RX_o cI_17
    have r304_I_17 : I_17 51 304 = Ia 51 304 := by rw [eI_17, up2_off _ _ _ (by decide)]
    have r305_I_17 : I_17 51 305 = Ia 51 305 := by rw [eI_17, up2_off _ _ _ (by decide)]
    have f1_I_17 : I_17 49 1 = Ia 49 1 := by rw [eI_17, up2_n _ _ (Or.inr (by decide))]
    have rf_I_17 : FU (I_17 51 304) = FU (Ia 51 304) := by rw [r304_I_17]
    have e51_17 : I_17 51 = Ia 51 := by rw [eI_17, up2_off _ _ _ (by decide)]
    have z25 : I_17 49 25 = Ia 49 1 := by rw [eI_17, up2_s]
    refine ww_aload_n hX (pc := 20) dX11_looks_20 rfl ?_
    refine ww_aload_n hX (pc := 21) dX11_looks_21 rfl ?_
    refine ww_getR hX (pc := 22) fX11_20 (by decide) (xs_49 hL) (xr_49_3 hL) dX11_looks_22 ?_
    refine ww_sipush hX (pc := 25) (x := 306) dX11_looks_25 (by decide) ?_
    refine ww_iald hX (pc := 28) (xs_51 hL) (by decide) (by omega) (by omega) dX11_looks_28 ?_
    refine ww_toI (b := I_17 51 306) rfl ?_
    refine vV1 hX (pc := 29) sX11_285 (xs_49 hL) (c5_X11_lasts0 l0 hL cI_17 (by rw [e51_17]; exact hcr)) (by decide) (Nat.le_refl 0) (Nat.le_refl 0) (Nat.le_of_ble_eq_true rfl) dX11_looks_29 (fun I_29 J_29 h_29 => ?_)
    have kJ_29 : Kp 49 73 Ja J_29 := Kp_tr (Kp_rf (a := 49) (b := 73)) h_29.2.1
    have kI_29 : Ch [61] [25] Ia I_29 := Ch_tr kI_17 (Ch_wd h_29.1 (by decide) (by decide))
    have cI_29 : RX I_29 := h_29.2.2.1
    have qI_29 := RX_o cI_29
    have r304_I_29 : I_29 51 304 = I_17 51 304 := by rw [h_29.1.1 51 (by decide) (by decide)]
    have r305_I_29 : I_29 51 305 = I_17 51 305 := by rw [h_29.1.1 51 (by decide) (by decide)]
    have f1_I_29 : I_29 49 1 = I_17 49 1 := h_29.1.2 1 (by decide)
    have f25_I_29 : I_29 49 25 = I_17 49 25 := h_29.1.2 25 (by decide)
    have rf_I_29 : FU (I_29 51 304) = FU (I_17 51 304) := by rw [r304_I_29]
    have e51_29 : I_29 51 = Ia 51 := h_29.2.2.2.1.trans e51_17
    have e304 : FU (I_29 51 304) = FU (Ia 51 304) := by rw [e51_29]
    have hz := h_29.2.2.2.2
    rw [e51_17] at hz
    refine ww_aload_n hX (pc := 32) dX11_looks_32 rfl ?_
    refine vI0 hX (pc := 33) sX11_112 (xs_49 hL) (c_X11_states l0 hL cI_29 ) (by decide) (Nat.le_refl 0) (Nat.le_refl 0) (Nat.le_of_ble_eq_true rfl) dX11_looks_33 (fun x_33 I_33 J_33 h_33 => ?_)
    obtain ⟨rfl, rfl, h_33⟩ := h_33
    refine ww_iconst hX (pc := 36) (x := 1) dX11_looks_36 rfl ?_
    refine ww_isub hX (pc := 37) dX11_looks_37 ?_
    refine ww_nmI (fun v_38 hv_38 => ?_)
    refine ww_istore_n hX (pc := 38) (lv' := [some (kR (some 49)), some (kI v_38)]) dX11_looks_38 (by decide) rfl rfl ?_
    have hl_39 : ∀ (n_39 : Nat) (i : Int) (J39 : aI1), (i + 1).toNat = n_39 → (Kp 49 73 Ja J39 ∧ (-1 ≤ i ∧ i ≤ FU (Ia 51 304)) ∧ (∀ s : Nat, i < s → (s : Int) ≤ FU (Ia 51 304) → MRs (Ia 51) (Ia 51 306) (FU (Ia 51 304) + 1) (Ia 51 305) (Ia 51 304) (J39 62) s (J39 62 s) ∧ MR8 (Ia 51 304) (Ia 51 305 - 1) (Ia 51 s) (pcn s) (J39 62 s))) → WW X 39 [some (kR (some 49)), some (kI i)] [] I_29 J39 Ra Sa 0 0 := by
      intro n_39
      induction n_39 using Nat.strongRecOn with
      | ind n_39 ih_39 =>
        intro i J39 hm_39 hv_39
        have hq_39 := Sh0_i hm_39
        clear hm_39
        obtain ⟨kJ39, hv, hms⟩ := hv_39
        refine ww_iload_n hX (pc := 39) dX11_looks_39 rfl ?_
        refine ww_if_lt hX (pc := 40) (tgt := 60) dX11_looks_40 (by decide) (fun h_40 => ?_) (fun h_40 => ?_)
        · simp only [w32_mod] at h_40
          refine rV hX (pc := 60) hT (Nat.le_refl 0) (Nat.le_refl 0) dX11_looks_60 ?_
          exact ⟨kI_29, kJ39, cI_29, e51_29, (by omega), ⟨by rw [e51_29]; exact hz, by rw [e51_29]; exact fun s hs => hms s (by omega) hs⟩⟩
        · simp only [w32_mod] at h_40
          refine ww_aload_n hX (pc := 43) dX11_looks_43 rfl ?_
          refine ww_getR hX (pc := 44) fX11_58 (by decide) (xs_49 hL) (xr_49_24 hL) dX11_looks_44 ?_
          refine ww_iload_n hX (pc := 47) dX11_looks_47 rfl ?_
          refine ww_aload_n hX (pc := 48) dX11_looks_48 rfl ?_
          refine ww_iload_n hX (pc := 49) dX11_looks_49 rfl ?_
          refine vJ1 hX (pc := 50) sX11_288 (xs_49 hL) (c8_X11_meanOf l0 hL cI_29 (by omega) (by omega) (by rw [e51_29]; exact hcr) (fun t h1 h2 => by rw [e51_29] at h2 ⊢; exact (hms t h1 h2).2) (by rw [e51_29]; exact hK i.toNat (by omega))) (by decide) (Nat.le_refl 0) (Nat.le_refl 0) (Nat.le_of_ble_eq_true rfl) dX11_looks_50 (fun x_50 I_50 J_50 h_50 => ?_)
          obtain ⟨rfl, rfl, h_50⟩ := h_50
          rw [e51_29] at h_50
          refine ww_last hX (pc := 53) (xs_62 hL) (by decide) (by omega) (by omega) dX11_looks_53 ?_
          refine ww_nmK (fun J_53 eJ_53 => ?_)
          have kJ_53 : Kp 49 73 Ja J_53 := by rw [eJ_53]; exact Kp_up kJ39 _ _ (by decide)
          refine ww_iinc hX (pc := 54) (lv' := [some (kR (some 49)), some (kI (i + (-1)))]) dX11_looks_54 rfl (by decide) rfl rfl ?_
          refine ww_goto hX (pc := 57) (tgt := 39) dX11_looks_57 (by decide) ?_
          exact ih_39 _ (by have hm9 := Sh0_e hq_39; omega) (i + (-1)) J_53 rfl ⟨kJ_53, ⟨by omega, by omega⟩, (fun s h1 h2 => by
      rw [eJ_53, up2_row]
      by_cases e9 : s = i.toNat
      · rw [e9, up1_s]
        exact ⟨MRs_cg h_50.1 (fun t g1 g2 => (up1_n _ _ (by omega)).symm), h_50.2⟩
      · rw [up1_n _ _ e9]
        have hs := hms s (by omega) h2
        exact ⟨MRs_cg hs.1 (fun t g1 g2 => (up1_n _ _ (by omega)).symm), hs.2⟩)⟩
    exact hl_39 _ v_38 J_29 rfl ⟨kJ_29, (by omega), fun s h1 h2 => absurd h2 (by omega)⟩
  · simp only [w32_mod] at h_8
    refine rV hX (pc := 11) hT (Nat.le_refl 0) (Nat.le_refl 0) dX11_looks_11 ?_
    exact ⟨Ch_rf, (Kp_rf (a := 49) (b := 73)), hQ, rfl, (by omega), hq.2.2 (by omega)⟩
