section
/-- SENT or not (reference) -/
def SNr (z : Int) (I I' : aI1) (x : Int) : Prop := (z = -1 → x = -3 ∧ I' 49 0 = -3 ∧ I' 50 = up1 (I 50) 3 (I 50 3 + 1) ∧ I' 51 = I 51) ∧ (¬ z = -1 → I 51 308 = 24 → x = -5 ∧ I' 49 0 = -5 ∧ I' 50 = up1 (I 50) 5 (I 50 5 + 1) ∧ I' 51 = I 51) ∧ (¬ z = -1 → ¬ I 51 308 = 24 → x = pcn z.toNat - pcn (I 51 307).toNat ∧ I' 49 0 = 0 ∧ I' 50 = I 50 ∧ I' 51 = up1 (up1 (up1 (I 51) 307 z) (264 + I 51 308).toNat z) 308 (I 51 308 + 1))

set_option maxHeartbeats 4000000 in
set_option maxRecDepth 20000 in
theorem c8_X11_send (l0 : Launch) {Ia Ja : aI1} {Ra : aR1} {Sa : aS1} (hL : LY Ra Sa) (hQ : RX Ia) {a b : Int} (ha0 : -2147483648 ≤ a) (ha1 : a < 2147483648) (hb0 : -2147483648 ≤ b) (hb1 : b < 2147483648) (hO : ∀ l, l < 8 → 0 ≤ Ia 51 (256 + l) ∧ Ia 51 (256 + l) ≤ 99) (hcr : ∀ t : Nat, (t : Int) ≤ FU (Ia 51 304) → -1 ≤ Ia 51 t ∧ Ia 51 t ≤ 7) (hK : ∀ s : Nat, (s : Int) ≤ FU (Ia 51 304) → Ia 51 s < Ia 51 305) {vv : Int} (hq : QF Ia Ja vv) (hv9 : vv ≤ 1000000) (hst7 : Ia 51 307 ≤ FU (Ia 51 304))  : CT l0 5 0 0 mX11_send [kR (some 49), kI a, kI b] Ia Ja Ra Sa (cI (fun x I' J' => Ch [50, 51, 61] [0, 1, 25] Ia I' ∧ Kp 49 73 Ja J' ∧ RX I' ∧ QF I' J' (vv + 1) ∧ (¬ (0 ≤ a ∧ a < Ia 51 305 ∧ 0 ≤ b ∧ b ≤ 3) → x = -1 ∧ I' 49 0 = -1 ∧ I' 50 = up1 (Ia 50) 1 (Ia 50 1 + 1) ∧ I' 51 = Ia 51) ∧ ((0 ≤ a ∧ a < Ia 51 305 ∧ 0 ≤ b ∧ b ≤ 3) → ∃ L M, zLV (Ia 51) (Ia 51 306) (FU (Ia 51 304) + 1) (Ia 51 305) (-1) L ∧ MRc (Ia 51) (Ia 51 306) (Ia 51 304) (Ia 51 305) M ∧ SNr (NX (bR b (Ia 51 307) (Ia 51 304) (Ia 51 305) (Ia 51) L M) (Ia 51) (Ia 51 306) (Ia 51 307) (FU (Ia 51 304) + 1) a) Ia I' x)) Ra Sa) := by
  refine ct_in pn_X11 (Nat.le_of_ble_eq_true rfl) (fun X hX hT hIn => ?_)
  have hX : aK l0 X cX11_send 5 RX11 (some .int) 5 0 0 := hX
  change WW X 0 [some (kR (some 49)), some (kI a), some (kI b), none, none] [] Ia Ja Ra Sa 0 0
  have qIa := RX_o hQ
  refine ww_aload_n hX (pc := 0) dX11_send_0 rfl ?_
  refine ww_iload_n hX (pc := 1) dX11_send_1 rfl ?_
  refine vI1 hX (pc := 2) sX11_123 (xs_49 hL) (c_X11_isNews l0 hL hQ (by omega) (by omega)) (by decide) (Nat.le_refl 0) (Nat.le_refl 0) (Nat.le_of_ble_eq_true rfl) dX11_send_2 (fun x_2 I_2 J_2 h_2 => ?_)
  obtain ⟨rfl, rfl, h_2⟩ := h_2
  refine ww_if_eq hX (pc := 5) (tgt := 15) dX11_send_5 (by decide) (fun h_5 => ?_) (fun h_5 => ?_)
  · simp only [w32_mod] at h_5
    refine ww_aload_n hX (pc := 15) dX11_send_15 rfl ?_
    refine ww_iconst hX (pc := 16) (x := (-1)) dX11_send_16 rfl ?_
    refine vI1 hX (pc := 17) sX11_105 (xs_49 hL) (c8_X11_refuses l0 hL hQ (by omega) (by omega)) (by decide) (Nat.le_refl 0) (Nat.le_refl 0) (Nat.le_of_ble_eq_true rfl) dX11_send_17 (fun x_17 I_17 J_17 h_17 => ?_)
    have kJ_17 : Kp 49 73 Ja J_17 := Kp_tr (Kp_rf (a := 49) (b := 73)) h_17.2.1
    have kI_17 : Ch [50, 51, 61] [0, 1, 25] Ia I_17 := Ch_tr Ch_rf (Ch_wd h_17.1 (by decide) (by decide))
    have cI_17 : RX I_17 := h_17.2.2.1
    have qI_17 := RX_o cI_17
    have r304_I_17 : I_17 51 304 = Ia 51 304 := by rw [h_17.1.1 51 (by decide) (by decide)]
    have r305_I_17 : I_17 51 305 = Ia 51 305 := by rw [h_17.1.1 51 (by decide) (by decide)]
    have r307_I_17 : I_17 51 307 = Ia 51 307 := by rw [h_17.1.1 51 (by decide) (by decide)]
    have r308_I_17 : I_17 51 308 = Ia 51 308 := by rw [h_17.1.1 51 (by decide) (by decide)]
    have r309_I_17 : I_17 51 309 = Ia 51 309 := by rw [h_17.1.1 51 (by decide) (by decide)]
    have rf_I_17 : FU (I_17 51 304) = FU (Ia 51 304) := by rw [r304_I_17]
    refine rI hX (pc := 20) hT (Nat.le_refl 0) (Nat.le_refl 0) dX11_send_20 ?_
    exact ⟨kI_17, kJ_17, cI_17, (QF_kp hq (h_17.1.2 1 (by decide)) (h_17.1.2 25 (by decide)) (h_17.1.1 51 (by decide) (by decide)) (h_17.1.1 61 (by decide) (by decide)) (by rw [h_17.2.2.2.2.2.2]) (by omega)), (fun _ => ⟨h_17.2.2.2.1, h_17.2.2.2.2.1, h_17.2.2.2.2.2.1, h_17.1.1 51 (by decide) (by decide)⟩), (fun h9 => absurd h9 (by omega))⟩
  · simp only [w32_mod] at h_5
    have k_2 := h_2.2.mp (by omega)
    clear h_2
    refine ww_iload_n hX (pc := 8) dX11_send_8 rfl ?_
    refine sI1 hX (pc := 9) sX11_308 (c_X11_isManner l0 (by omega) (by omega)) (by decide) (Nat.le_refl 0) (Nat.le_refl 0) (Nat.le_of_ble_eq_true rfl) dX11_send_9 (fun x_9 I_9 J_9 h_9 => ?_)
    obtain ⟨rfl, rfl, h_9⟩ := h_9
    refine ww_if_ne hX (pc := 12) (tgt := 21) dX11_send_12 (by decide) (fun h_12 => ?_) (fun h_12 => ?_)
    · simp only [w32_mod] at h_12
      have k_9 := h_9.2.mp (by omega)
      clear h_9
      refine ww_aload_n hX (pc := 21) dX11_send_21 rfl ?_
      refine vV0 hX (pc := 22) sX11_294 (xs_49 hL) (c8_X11_looks l0 hL hQ hcr hK hq hv9) (by decide) (Nat.le_refl 0) (Nat.le_refl 0) (Nat.le_of_ble_eq_true rfl) dX11_send_22 (fun I_22 J_22 h_22 => ?_)
      have kJ_22 : Kp 49 73 Ja J_22 := Kp_tr (Kp_rf (a := 49) (b := 73)) h_22.2.1
      have kI_22 : Ch [50, 51, 61] [0, 1, 25] Ia I_22 := Ch_tr Ch_rf (Ch_wd h_22.1 (by decide) (by decide))
      have cI_22 : RX I_22 := h_22.2.2.1
      have qI_22 := RX_o cI_22
      have r304_I_22 : I_22 51 304 = Ia 51 304 := by rw [h_22.1.1 51 (by decide) (by decide)]
      have r305_I_22 : I_22 51 305 = Ia 51 305 := by rw [h_22.1.1 51 (by decide) (by decide)]
      have r307_I_22 : I_22 51 307 = Ia 51 307 := by rw [h_22.1.1 51 (by decide) (by decide)]
      have r308_I_22 : I_22 51 308 = Ia 51 308 := by rw [h_22.1.1 51 (by decide) (by decide)]
      have r309_I_22 : I_22 51 309 = Ia 51 309 := by rw [h_22.1.1 51 (by decide) (by decide)]
      have rf_I_22 : FU (I_22 51 304) = FU (Ia 51 304) := by rw [r304_I_22]
      have e51_22 : I_22 51 = Ia 51 := h_22.2.2.2.1
      have hq9_22 := h_22.2.2.2.2.1
      have hq8_22 := h_22.1.2 1 (by decide)
      have hq7 := hq.1
      have hrt9 := h_22.2.2.2.2.2
      have hqf : QF I_22 J_22 vv := ⟨by omega, by omega, fun _ => hrt9⟩
      unfold RT at hrt9
      rw [e51_22] at hrt9
      have hzl := hrt9.1
      have hmr := hrt9.2
      clear hrt9
      have efu : FU (I_22 51 304) = FU (Ia 51 304) := by rw [e51_22]
      have kq_I_22 : I_22 50 = Ia 50 ∧ I_22 49 1 = Ia 49 1 ∧ I_22 49 25 = I_22 49 25 := ⟨h_22.1.1 50 (by decide) (by decide), hq8_22, rfl⟩
      refine ww_aload_n hX (pc := 25) dX11_send_25 rfl ?_
      refine ww_aload_n hX (pc := 26) dX11_send_26 rfl ?_
      refine ww_getR hX (pc := 27) fX11_20 (by decide) (xs_49 hL) (xr_49_3 hL) dX11_send_27 ?_
      refine ww_sipush hX (pc := 30) (x := 307) dX11_send_30 (by decide) ?_
      refine ww_iald hX (pc := 33) (xs_51 hL) (by decide) (by omega) (by omega) dX11_send_33 ?_
      refine ww_toI (b := I_22 51 307) rfl ?_
      refine ww_iload_n hX (pc := 34) dX11_send_34 rfl ?_
      refine ww_iload_n hX (pc := 35) dX11_send_35 rfl ?_
      refine vI3 hX (pc := 36) sX11_311 (xs_49 hL) (c8_X11_nextOf l0 hL cI_22 (by omega) (by omega) (by omega) (by omega) (by omega) (by omega) (by rw [e51_22]; exact hO) (by rw [e51_22]; exact hcr) (by rw [e51_22]; exact fun t ht => (hmr t ht).2)) (by decide) (Nat.le_refl 0) (Nat.le_refl 0) (Nat.le_of_ble_eq_true rfl) dX11_send_36 (fun x_36 I_36 J_36 h_36 => ?_)
      obtain ⟨rfl, rfl, h_36⟩ := h_36
      rw [e51_22] at h_36
      have hz : NX (bR b (Ia 51 307) (Ia 51 304) (Ia 51 305) (Ia 51) (I_22 61) (J_22 62)) (Ia 51) (Ia 51 306) (Ia 51 307) (FU (Ia 51 304) + 1) a = x_36 := h_36.symm
      have hnr := NX_r (bt := bR b (Ia 51 307) (Ia 51 304) (Ia 51 305) (Ia 51) (I_22 61) (J_22 62)) (code := Ia 51) (g := Ia 51 306) (s := Ia 51 307) (N := (FU (Ia 51 304) + 1)) (x := a) (by omega)
      rw [← h_36] at hnr
      have hnr2 : -1 ≤ x_36 ∧ x_36 ≤ FU (Ia 51 304) := by
        rcases hnr with h9 | h9 <;> omega
      clear hnr
      refine ww_istore_n hX (pc := 39) (lv' := [some (kR (some 49)), some (kI a), some (kI b), some (kI x_36), none]) dX11_send_39 (by decide) rfl rfl ?_
      refine ww_iload_n hX (pc := 40) dX11_send_40 rfl ?_
      refine ww_iconst hX (pc := 41) (x := (-1)) dX11_send_41 rfl ?_
      refine ww_icmp_ne hX (pc := 42) (tgt := 52) dX11_send_42 (by decide) (fun h_42 => ?_) (fun h_42 => ?_)
      · simp only [w32_mod] at h_42
        refine ww_aload_n hX (pc := 52) dX11_send_52 rfl ?_
        refine ww_getR hX (pc := 53) fX11_20 (by decide) (xs_49 hL) (xr_49_3 hL) dX11_send_53 ?_
        refine ww_sipush hX (pc := 56) (x := 308) dX11_send_56 (by decide) ?_
        refine ww_iald hX (pc := 59) (xs_51 hL) (by decide) (by omega) (by omega) dX11_send_59 ?_
        refine ww_toI (b := I_22 51 308) rfl ?_
        refine ww_bipush hX (pc := 60) (x := 24) dX11_send_60 (by decide) ?_
        refine ww_icmp_ne hX (pc := 62) (tgt := 72) dX11_send_62 (by decide) (fun h_62 => ?_) (fun h_62 => ?_)
        · simp only [w32_mod] at h_62
          refine ww_iload_n hX (pc := 72) dX11_send_72 rfl ?_
          refine sI1 hX (pc := 73) sX11_259 (c7_X11_ones l0 (by omega) (by omega)) (by decide) (Nat.le_refl 0) (Nat.le_refl 0) (Nat.le_of_ble_eq_true rfl) dX11_send_73 (fun x_73 I_73 J_73 h_73 => ?_)
          obtain ⟨rfl, rfl, h_73⟩ := h_73
          have hp73 := pcn_r x_36.toNat
          refine ww_aload_n hX (pc := 76) dX11_send_76 rfl ?_
          refine ww_getR hX (pc := 77) fX11_20 (by decide) (xs_49 hL) (xr_49_3 hL) dX11_send_77 ?_
          refine ww_sipush hX (pc := 80) (x := 307) dX11_send_80 (by decide) ?_
          refine ww_iald hX (pc := 83) (xs_51 hL) (by decide) (by omega) (by omega) dX11_send_83 ?_
          refine ww_toI (b := I_22 51 307) rfl ?_
          refine sI1 hX (pc := 84) sX11_259 (c7_X11_ones l0 (by omega) (by omega)) (by decide) (Nat.le_refl 0) (Nat.le_refl 0) (Nat.le_of_ble_eq_true rfl) dX11_send_84 (fun x_84 I_84 J_84 h_84 => ?_)
          obtain ⟨rfl, rfl, h_84⟩ := h_84
          rw [e51_22] at h_84
          have hp84 := pcn_r (Ia 51 307).toNat
          refine ww_isub hX (pc := 87) dX11_send_87 ?_
          refine ww_nmI (fun v_88 hv_88 => ?_)
          refine ww_istore hX (pc := 88) (lv' := [some (kR (some 49)), some (kI a), some (kI b), some (kI x_36), some (kI v_88)]) dX11_send_88 (by decide) rfl rfl ?_
          refine ww_aload_n hX (pc := 90) dX11_send_90 rfl ?_
          refine ww_getR hX (pc := 91) fX11_20 (by decide) (xs_49 hL) (xr_49_3 hL) dX11_send_91 ?_
          refine ww_sipush hX (pc := 94) (x := 307) dX11_send_94 (by decide) ?_
          refine ww_iload_n hX (pc := 97) dX11_send_97 rfl ?_
          refine ww_iast hX (pc := 98) (xs_51 hL) (by decide) (by omega) (by omega) dX11_send_98 ?_
          refine ww_nmH (fun I_98 eI_98 => ?_)
          have kI_98 : Ch [50, 51, 61] [0, 1, 25] Ia I_98 := by rw [eI_98]; exact Ch_r kI_22 (by decide) (by decide)
          have cI_98 : RX I_98 := by rw [eI_98]; exact RX_307 cI_22 (by omega) (by omega)
          have qI_98 := RX_o cI_98
          have r304_I_98 : I_98 51 304 = I_22 51 304 := by rw [eI_98, up2_n _ _ (Or.inr (by decide))]
          have r305_I_98 : I_98 51 305 = I_22 51 305 := by rw [eI_98, up2_n _ _ (Or.inr (by decide))]
          have r308_I_98 : I_98 51 308 = I_22 51 308 := by rw [eI_98, up2_n _ _ (Or.inr (by decide))]
          have r309_I_98 : I_98 51 309 = I_22 51 309 := by rw [eI_98, up2_n _ _ (Or.inr (by decide))]
          have rf_I_98 : FU (I_98 51 304) = FU (I_22 51 304) := by rw [r304_I_98]
          have kq_I_98 : I_98 50 = Ia 50 ∧ I_98 49 1 = Ia 49 1 ∧ I_98 49 25 = I_22 49 25 := ⟨Eq.trans (by first | rw [eI_98, up2_off _ _ _ (by decide)] | rw [eI_98, up2_n _ _ (Or.inr (by decide))]) kq_I_22.1, Eq.trans (by first | rw [eI_98, up2_off _ _ _ (by decide)] | rw [eI_98, up2_n _ _ (Or.inr (by decide))]) kq_I_22.2.1, Eq.trans (by first | rw [eI_98, up2_off _ _ _ (by decide)] | rw [eI_98, up2_n _ _ (Or.inr (by decide))]) kq_I_22.2.2⟩
          have g98 : I_98 51 = up1 (Ia 51) 307 x_36 := by rw [eI_98, up2_row, e51_22]; try rfl
          refine ww_aload_n hX (pc := 99) dX11_send_99 rfl ?_
          refine ww_getR hX (pc := 100) fX11_20 (by decide) (xs_49 hL) (xr_49_3 hL) dX11_send_100 ?_
          refine ww_sipush hX (pc := 103) (x := 264) dX11_send_103 (by decide) ?_
          refine ww_aload_n hX (pc := 106) dX11_send_106 rfl ?_
          refine ww_getR hX (pc := 107) fX11_20 (by decide) (xs_49 hL) (xr_49_3 hL) dX11_send_107 ?_
          refine ww_sipush hX (pc := 110) (x := 308) dX11_send_110 (by decide) ?_
          refine ww_iald hX (pc := 113) (xs_51 hL) (by decide) (by omega) (by omega) dX11_send_113 ?_
          refine ww_toI (b := I_98 51 308) rfl ?_
          refine ww_iadd hX (pc := 114) dX11_send_114 ?_
          refine ww_iload_n hX (pc := 115) dX11_send_115 rfl ?_
          refine ww_iast hX (pc := 116) (xs_51 hL) (by decide) (by omega) (by omega) dX11_send_116 ?_
          refine ww_nmH (fun I_116 eI_116 => ?_)
          have kI_116 : Ch [50, 51, 61] [0, 1, 25] Ia I_116 := by rw [eI_116]; exact Ch_r kI_98 (by decide) (by decide)
          have cI_116 : RX I_116 := by rw [eI_116]; exact RX_lo cI_98 (by omega)
          have qI_116 := RX_o cI_116
          have r304_I_116 : I_116 51 304 = I_98 51 304 := by rw [eI_116, up2_n _ _ (Or.inr (by omega))]
          have r305_I_116 : I_116 51 305 = I_98 51 305 := by rw [eI_116, up2_n _ _ (Or.inr (by omega))]
          have r307_I_116 : I_116 51 307 = I_98 51 307 := by rw [eI_116, up2_n _ _ (Or.inr (by omega))]
          have r308_I_116 : I_116 51 308 = I_98 51 308 := by rw [eI_116, up2_n _ _ (Or.inr (by omega))]
          have r309_I_116 : I_116 51 309 = I_98 51 309 := by rw [eI_116, up2_n _ _ (Or.inr (by omega))]
          have rf_I_116 : FU (I_116 51 304) = FU (I_98 51 304) := by rw [r304_I_116]
          have kq_I_116 : I_116 50 = Ia 50 ∧ I_116 49 1 = Ia 49 1 ∧ I_116 49 25 = I_22 49 25 := ⟨Eq.trans (by first | rw [eI_116, up2_off _ _ _ (by decide)] | rw [eI_116, up2_n _ _ (Or.inr (by decide))]) kq_I_98.1, Eq.trans (by first | rw [eI_116, up2_off _ _ _ (by decide)] | rw [eI_116, up2_n _ _ (Or.inr (by decide))]) kq_I_98.2.1, Eq.trans (by first | rw [eI_116, up2_off _ _ _ (by decide)] | rw [eI_116, up2_n _ _ (Or.inr (by decide))]) kq_I_98.2.2⟩
          have g116 : I_116 51 = up1 (up1 (Ia 51) 307 x_36) (264 + Ia 51 308).toNat x_36 := by rw [eI_116, r308_I_98, r308_I_22, up2_row, g98]
          refine ww_aload_n hX (pc := 117) dX11_send_117 rfl ?_
          refine ww_getR hX (pc := 118) fX11_20 (by decide) (xs_49 hL) (xr_49_3 hL) dX11_send_118 ?_
          refine ww_sipush hX (pc := 121) (x := 308) dX11_send_121 (by decide) ?_
          refine ww_dup2 hX (pc := 124) dX11_send_124 ?_
          refine ww_iald hX (pc := 125) (xs_51 hL) (by decide) (by omega) (by omega) dX11_send_125 ?_
          refine ww_toI (b := I_116 51 308) rfl ?_
          refine ww_iconst hX (pc := 126) (x := 1) dX11_send_126 rfl ?_
          refine ww_iadd hX (pc := 127) dX11_send_127 ?_
          refine ww_iast hX (pc := 128) (xs_51 hL) (by decide) (by omega) (by omega) dX11_send_128 ?_
          refine ww_nmH (fun I_128 eI_128 => ?_)
          have kI_128 : Ch [50, 51, 61] [0, 1, 25] Ia I_128 := by rw [eI_128]; exact Ch_r kI_116 (by decide) (by decide)
          have cI_128 : RX I_128 := by rw [eI_128]; exact RX_308 cI_116 (by omega) (by omega)
          have qI_128 := RX_o cI_128
          have r304_I_128 : I_128 51 304 = I_116 51 304 := by rw [eI_128, up2_n _ _ (Or.inr (by decide))]
          have r305_I_128 : I_128 51 305 = I_116 51 305 := by rw [eI_128, up2_n _ _ (Or.inr (by decide))]
          have r307_I_128 : I_128 51 307 = I_116 51 307 := by rw [eI_128, up2_n _ _ (Or.inr (by decide))]
          have r309_I_128 : I_128 51 309 = I_116 51 309 := by rw [eI_128, up2_n _ _ (Or.inr (by decide))]
          have rf_I_128 : FU (I_128 51 304) = FU (I_116 51 304) := by rw [r304_I_128]
          have kq_I_128 : I_128 50 = Ia 50 ∧ I_128 49 1 = Ia 49 1 ∧ I_128 49 25 = I_22 49 25 := ⟨Eq.trans (by first | rw [eI_128, up2_off _ _ _ (by decide)] | rw [eI_128, up2_n _ _ (Or.inr (by decide))]) kq_I_116.1, Eq.trans (by first | rw [eI_128, up2_off _ _ _ (by decide)] | rw [eI_128, up2_n _ _ (Or.inr (by decide))]) kq_I_116.2.1, Eq.trans (by first | rw [eI_128, up2_off _ _ _ (by decide)] | rw [eI_128, up2_n _ _ (Or.inr (by decide))]) kq_I_116.2.2⟩
          have g128 : I_128 51 = up1 (up1 (up1 (Ia 51) 307 x_36) (264 + Ia 51 308).toNat x_36) 308 (Ia 51 308 + 1) := by rw [eI_128, r308_I_116, r308_I_98, r308_I_22, up2_row, g116]; rfl
          refine ww_aload_n hX (pc := 129) dX11_send_129 rfl ?_
          refine ww_iload hX (pc := 130) dX11_send_130 rfl ?_
          refine vI1 hX (pc := 132) sX11_109 (xs_49 hL) (c8_X11_good l0 hL cI_128 ) (by decide) (Nat.le_refl 0) (Nat.le_refl 0) (Nat.le_of_ble_eq_true rfl) dX11_send_132 (fun x_132 I_132 J_132 h_132 => ?_)
          have kJ_132 : Kp 49 73 Ja J_132 := Kp_tr kJ_22 h_132.2.1
          have kI_132 : Ch [50, 51, 61] [0, 1, 25] Ia I_132 := Ch_tr kI_128 (Ch_wd h_132.1 (by decide) (by decide))
          have cI_132 : RX I_132 := h_132.2.2.1
          have qI_132 := RX_o cI_132
          have r304_I_132 : I_132 51 304 = I_128 51 304 := by rw [h_132.1.1 51 (by decide) (by decide)]
          have r305_I_132 : I_132 51 305 = I_128 51 305 := by rw [h_132.1.1 51 (by decide) (by decide)]
          have r307_I_132 : I_132 51 307 = I_128 51 307 := by rw [h_132.1.1 51 (by decide) (by decide)]
          have r308_I_132 : I_132 51 308 = I_128 51 308 := by rw [h_132.1.1 51 (by decide) (by decide)]
          have r309_I_132 : I_132 51 309 = I_128 51 309 := by rw [h_132.1.1 51 (by decide) (by decide)]
          have rf_I_132 : FU (I_132 51 304) = FU (I_128 51 304) := by rw [r304_I_132]
          refine rI hX (pc := 135) hT (Nat.le_refl 0) (Nat.le_refl 0) dX11_send_135 ?_
          exact ⟨kI_132, kJ_132, cI_132, (QF_up hqf (by rw [h_132.2.2.2.2.2.1, kq_I_128.2.1, hq8_22]) ((h_132.1.2 25 (by decide)).trans kq_I_128.2.2) (Int.le_refl _)), (fun h9 => absurd (by omega) h9), (fun _ => ⟨_, _, hzl, hmr, by
                rw [hz]
                exact ⟨fun h9 => absurd h9 (by omega), fun _ h9 => absurd h9 (by omega), fun _ _ => ⟨by rw [h_132.2.2.2.1]; omega, h_132.2.2.2.2.1, (h_132.1.1 50 (by decide) (by decide)).trans kq_I_128.1, (h_132.1.1 51 (by decide) (by decide)).trans g128⟩⟩⟩)⟩
        · simp only [w32_mod] at h_62
          refine ww_aload_n hX (pc := 65) dX11_send_65 rfl ?_
          refine ww_bipush hX (pc := 66) (x := (-5)) dX11_send_66 (by decide) ?_
          refine vI1 hX (pc := 68) sX11_105 (xs_49 hL) (c8_X11_refuses l0 hL cI_22 (by omega) (by omega)) (by decide) (Nat.le_refl 0) (Nat.le_refl 0) (Nat.le_of_ble_eq_true rfl) dX11_send_68 (fun x_68 I_68 J_68 h_68 => ?_)
          have kJ_68 : Kp 49 73 Ja J_68 := Kp_tr kJ_22 h_68.2.1
          have kI_68 : Ch [50, 51, 61] [0, 1, 25] Ia I_68 := Ch_tr kI_22 (Ch_wd h_68.1 (by decide) (by decide))
          have cI_68 : RX I_68 := h_68.2.2.1
          have qI_68 := RX_o cI_68
          have r304_I_68 : I_68 51 304 = I_22 51 304 := by rw [h_68.1.1 51 (by decide) (by decide)]
          have r305_I_68 : I_68 51 305 = I_22 51 305 := by rw [h_68.1.1 51 (by decide) (by decide)]
          have r307_I_68 : I_68 51 307 = I_22 51 307 := by rw [h_68.1.1 51 (by decide) (by decide)]
          have r308_I_68 : I_68 51 308 = I_22 51 308 := by rw [h_68.1.1 51 (by decide) (by decide)]
          have r309_I_68 : I_68 51 309 = I_22 51 309 := by rw [h_68.1.1 51 (by decide) (by decide)]
          have rf_I_68 : FU (I_68 51 304) = FU (I_22 51 304) := by rw [r304_I_68]
          refine rI hX (pc := 71) hT (Nat.le_refl 0) (Nat.le_refl 0) dX11_send_71 ?_
          exact ⟨kI_68, kJ_68, cI_68, (QF_kp hqf (h_68.1.2 1 (by decide)) (h_68.1.2 25 (by decide)) (h_68.1.1 51 (by decide) (by decide)) (h_68.1.1 61 (by decide) (by decide)) (by rw [h_68.2.2.2.2.2.2]) (by omega)), (fun h9 => absurd (by omega) h9), (fun _ => ⟨_, _, hzl, hmr, by
                rw [hz]
                exact ⟨fun h9 => absurd h9 (by omega), fun _ _ => ⟨h_68.2.2.2.1, h_68.2.2.2.2.1, by rw [h_68.2.2.2.2.2.1, kq_I_22.1]; rfl, (h_68.1.1 51 (by decide) (by decide)).trans e51_22⟩, fun _ h9 => absurd (by omega) h9⟩⟩)⟩
      · simp only [w32_mod] at h_42
        refine ww_aload_n hX (pc := 45) dX11_send_45 rfl ?_
        refine ww_bipush hX (pc := 46) (x := (-3)) dX11_send_46 (by decide) ?_
        refine vI1 hX (pc := 48) sX11_105 (xs_49 hL) (c8_X11_refuses l0 hL cI_22 (by omega) (by omega)) (by decide) (Nat.le_refl 0) (Nat.le_refl 0) (Nat.le_of_ble_eq_true rfl) dX11_send_48 (fun x_48 I_48 J_48 h_48 => ?_)
        have kJ_48 : Kp 49 73 Ja J_48 := Kp_tr kJ_22 h_48.2.1
        have kI_48 : Ch [50, 51, 61] [0, 1, 25] Ia I_48 := Ch_tr kI_22 (Ch_wd h_48.1 (by decide) (by decide))
        have cI_48 : RX I_48 := h_48.2.2.1
        have qI_48 := RX_o cI_48
        have r304_I_48 : I_48 51 304 = I_22 51 304 := by rw [h_48.1.1 51 (by decide) (by decide)]
        have r305_I_48 : I_48 51 305 = I_22 51 305 := by rw [h_48.1.1 51 (by decide) (by decide)]
        have r307_I_48 : I_48 51 307 = I_22 51 307 := by rw [h_48.1.1 51 (by decide) (by decide)]
        have r308_I_48 : I_48 51 308 = I_22 51 308 := by rw [h_48.1.1 51 (by decide) (by decide)]
        have r309_I_48 : I_48 51 309 = I_22 51 309 := by rw [h_48.1.1 51 (by decide) (by decide)]
        have rf_I_48 : FU (I_48 51 304) = FU (I_22 51 304) := by rw [r304_I_48]
        refine rI hX (pc := 51) hT (Nat.le_refl 0) (Nat.le_refl 0) dX11_send_51 ?_
        exact ⟨kI_48, kJ_48, cI_48, (QF_kp hqf (h_48.1.2 1 (by decide)) (h_48.1.2 25 (by decide)) (h_48.1.1 51 (by decide) (by decide)) (h_48.1.1 61 (by decide) (by decide)) (by rw [h_48.2.2.2.2.2.2]) (by omega)), (fun h9 => absurd (by omega) h9), (fun _ => ⟨_, _, hzl, hmr, by
              rw [hz]
              exact ⟨fun _ => ⟨h_48.2.2.2.1, h_48.2.2.2.2.1, by rw [h_48.2.2.2.2.2.1, kq_I_22.1]; rfl, (h_48.1.1 51 (by decide) (by decide)).trans e51_22⟩, fun h9 => absurd (by omega) h9, fun h9 => absurd (by omega) h9⟩⟩)⟩
    · simp only [w32_mod] at h_12
      refine ww_aload_n hX (pc := 15) dX11_send_15 rfl ?_
      refine ww_iconst hX (pc := 16) (x := (-1)) dX11_send_16 rfl ?_
      refine vI1 hX (pc := 17) sX11_105 (xs_49 hL) (c8_X11_refuses l0 hL hQ (by omega) (by omega)) (by decide) (Nat.le_refl 0) (Nat.le_refl 0) (Nat.le_of_ble_eq_true rfl) dX11_send_17 (fun x_17 I_17 J_17 h_17 => ?_)
      have kJ_17 : Kp 49 73 Ja J_17 := Kp_tr (Kp_rf (a := 49) (b := 73)) h_17.2.1
      have kI_17 : Ch [50, 51, 61] [0, 1, 25] Ia I_17 := Ch_tr Ch_rf (Ch_wd h_17.1 (by decide) (by decide))
      have cI_17 : RX I_17 := h_17.2.2.1
      have qI_17 := RX_o cI_17
      have r304_I_17 : I_17 51 304 = Ia 51 304 := by rw [h_17.1.1 51 (by decide) (by decide)]
      have r305_I_17 : I_17 51 305 = Ia 51 305 := by rw [h_17.1.1 51 (by decide) (by decide)]
      have r307_I_17 : I_17 51 307 = Ia 51 307 := by rw [h_17.1.1 51 (by decide) (by decide)]
      have r308_I_17 : I_17 51 308 = Ia 51 308 := by rw [h_17.1.1 51 (by decide) (by decide)]
      have r309_I_17 : I_17 51 309 = Ia 51 309 := by rw [h_17.1.1 51 (by decide) (by decide)]
      have rf_I_17 : FU (I_17 51 304) = FU (Ia 51 304) := by rw [r304_I_17]
      refine rI hX (pc := 20) hT (Nat.le_refl 0) (Nat.le_refl 0) dX11_send_20 ?_
      exact ⟨kI_17, kJ_17, cI_17, (QF_kp hq (h_17.1.2 1 (by decide)) (h_17.1.2 25 (by decide)) (h_17.1.1 51 (by decide) (by decide)) (h_17.1.1 61 (by decide) (by decide)) (by rw [h_17.2.2.2.2.2.2]) (by omega)), (fun _ => ⟨h_17.2.2.2.1, h_17.2.2.2.2.1, h_17.2.2.2.2.2.1, h_17.1.1 51 (by decide) (by decide)⟩), (fun h9 => absurd h9 (by omega))⟩
end
section
/-! sums, and how many ROWS of NEWS lead to a STATE -/
def Sm (f : Nat → Int) : Nat → Int
  | 0 => 0
  | n + 1 => Sm f n + f n
theorem Sm_s (f : Nat → Int) (n : Nat) : Sm f (n + 1) = Sm f n + f n := rfl
theorem Sm_cg {f g : Nat → Int} : ∀ {n : Nat}, (∀ k, k < n → f k = g k) → Sm f n = Sm g n
  | 0, _ => rfl
  | n + 1, h => by rw [Sm_s, Sm_s, Sm_cg (fun k hk => h k (by omega)), h n (by omega)]
theorem Sm_z {f : Nat → Int} {n : Nat} (h : ∀ k, k < n → f k = 0) : Sm f n = 0 := by
  induction n with
  | zero => rfl
  | succ n ih => rw [Sm_s, ih (fun k hk => h k (by omega)), h n (by omega)]; rfl
theorem Sm_nn {f : Nat → Int} {n : Nat} (h : ∀ k, k < n → 0 ≤ f k) : 0 ≤ Sm f n := by
  induction n with
  | zero => exact Int.le_refl 0
  | succ n ih => have := ih (fun k hk => h k (by omega)); have := h n (by omega); rw [Sm_s]; omega
theorem Sm_le {f g : Nat → Int} {n : Nat} (h : ∀ k, k < n → f k ≤ g k) : Sm f n ≤ Sm g n := by
  induction n with
  | zero => exact Int.le_refl 0
  | succ n ih => have := ih (fun k hk => h k (by omega)); have := h n (by omega); rw [Sm_s, Sm_s]; omega
theorem Sm_mn {f : Nat → Int} {n m : Nat} (h : ∀ k, k < m → 0 ≤ f k) (hm : n ≤ m) : Sm f n ≤ Sm f m := by
  induction m with
  | zero => rw [show n = 0 by omega]; exact Int.le_refl _
  | succ m ih =>
    by_cases e : n = m + 1
    · rw [e]; exact Int.le_refl _
    · have := ih (fun k hk => h k (by omega)) (by omega); have := h m (by omega); rw [Sm_s]; omega
theorem Sm_at {f : Nat → Int} {n k : Nat} (h : ∀ k, k < n → 0 ≤ f k) (hk : k < n) : f k ≤ Sm f n := by
  have h1 := Sm_mn (n := k + 1) (m := n) h (by omega)
  have h2 := Sm_nn (f := f) (n := k) (fun a ha => h a (by omega))
  rw [Sm_s] at h1; omega
theorem Sm_cut {f : Nat → Int} {n m : Nat} (h : ∀ k, n ≤ k → k < m → f k = 0) (hm : n ≤ m) : Sm f m = Sm f n := by
  induction m with
  | zero => rw [show n = 0 by omega]
  | succ m ih =>
    by_cases e : n = m + 1
    · rw [e]
    · rw [Sm_s, ih (fun k h1 h2 => h k h1 (by omega)) (by omega), h m (by omega) (by omega)]; omega
theorem Sm_add {f g : Nat → Int} : ∀ n : Nat, Sm (fun k => f k + g k) n = Sm f n + Sm g n
  | 0 => rfl
  | n + 1 => by rw [Sm_s, Sm_s, Sm_s, Sm_add n]; omega
theorem Sm_mul {f : Nat → Int} {c : Int} : ∀ n : Nat, Sm (fun k => c * f k) n = c * Sm f n
  | 0 => (Int.mul_zero c).symm
  | n + 1 => by rw [Sm_s, Sm_s, Sm_mul n, Int.mul_add]
theorem Sm_const {c : Int} : ∀ n : Nat, Sm (fun _ => c) n = (n : Int) * c
  | 0 => (Int.zero_mul c).symm
  | n + 1 => by rw [Sm_s, Sm_const n, Int.natCast_succ, Int.add_mul, Int.one_mul]
theorem Sm_ex {f : Nat → Nat → Int} {m : Nat} : ∀ n : Nat, Sm (fun a => Sm (fun b => f a b) m) n = Sm (fun b => Sm (fun a => f a b) n) m
  | 0 => (Sm_z (fun _ _ => rfl)).symm
  | n + 1 => by
    rw [Sm_s, Sm_ex n, ← Sm_add]
    exact Sm_cg (fun _ _ => rfl)
/-- at most one of these is told -/
theorem Sm_one {a : Int} {p : Prop} [Decidable p] : ∀ n : Nat, Sm (fun t => if p ∧ a = (t : Int) then 1 else 0) n ≤ 1 := fun n => by
  by_cases h : 0 ≤ a ∧ a < n
  · have e : Sm (fun t => if p ∧ a = (t : Int) then 1 else 0) n = Sm (fun t => if p ∧ a = (t : Int) then 1 else 0) (a.toNat + 1) :=
      Sm_cut (fun k h1 h2 => if_neg (fun h3 => by have := h3.2; omega)) (by omega)
    have e2 : Sm (fun t => if p ∧ a = (t : Int) then 1 else 0) a.toNat = 0 := Sm_z (fun k hk => if_neg (fun h3 => by have := h3.2; omega))
    rw [e, Sm_s, e2]
    by_cases hp : p ∧ a = (a.toNat : Int)
    · rw [if_pos hp]; decide
    · rw [if_neg hp]; decide
  · rw [Sm_z (fun k hk => if_neg (fun h3 => by have := h3.2; omega))]; decide
/-- NEWS x, the i-th of a ROW, leads from STATE s to t -/
def eW (own : Nat → Int) (nx : Nat → Nat → Int) (j w : Int) (i s x t : Nat) : Int := if (¬ (x : Int) = own s ∧ ((i : Int) = j → (x : Int) = w)) ∧ nx s x = (t : Int) then 1 else 0
/-- by how many of the first n NEWS -/
def cW (own : Nat → Int) (nx : Nat → Nat → Int) (j w : Int) (i s t n : Nat) : Int := Sm (fun x => eW own nx j w i s x t) n
/-- how many ROWS of i NEWS lead to t -/
def RW (own : Nat → Int) (nx : Nat → Nat → Int) (j w : Int) (K N : Nat) : Nat → Nat → Int
  | 0, t => if t = 0 then 1 else 0
  | i + 1, t => Sm (fun s => RW own nx j w K N i s * cW own nx j w i s t K) N
/-- the part of the STATES below q -/
def PW (own : Nat → Int) (nx : Nat → Nat → Int) (j w : Int) (K N q : Nat) : Nat → Nat → Int
  | 0, t => if t = 0 then 1 else 0
  | i + 1, t => Sm (fun s => RW own nx j w K N i s * cW own nx j w i s t K) q
section
variable {own own' : Nat → Int} {nx nx' : Nat → Nat → Int} {j w : Int} {K N : Nat}
theorem eW_nn (i s x t : Nat) : 0 ≤ eW own nx j w i s x t := by
  unfold eW; split <;> decide
theorem eW_y {i s x t : Nat} (h1 : ¬ (x : Int) = own s) (h2 : (i : Int) = j → (x : Int) = w) (h3 : nx s x = (t : Int)) : eW own nx j w i s x t = 1 := if_pos ⟨⟨h1, h2⟩, h3⟩
theorem eW_own {i s x t : Nat} (h1 : (x : Int) = own s) : eW own nx j w i s x t = 0 := if_neg (fun h => h.1.1 h1)
theorem eW_j {i s x t : Nat} (h1 : (i : Int) = j) (h2 : ¬ (x : Int) = w) : eW own nx j w i s x t = 0 := if_neg (fun h => h2 (h.1.2 h1))
theorem eW_t {i s x t : Nat} (h1 : ¬ nx s x = (t : Int)) : eW own nx j w i s x t = 0 := if_neg (fun h => h1 h.2)
theorem cW_nn (i s t n : Nat) : 0 ≤ cW own nx j w i s t n := Sm_nn (fun _ _ => eW_nn _ _ _ _)
theorem RW_nn : ∀ i t : Nat, 0 ≤ RW own nx j w K N i t
  | 0, t => by show 0 ≤ (if t = 0 then (1 : Int) else 0); split <;> decide
  | i + 1, t => Sm_nn (fun s _ => Int.mul_nonneg (RW_nn i s) (cW_nn _ _ _ _))
/-- from one STATE a NEWS leads to at most one -/
theorem cW_one (i s M : Nat) : Sm (fun t => cW own nx j w i s t K) M ≤ (K : Int) := by
  unfold cW
  rw [Sm_ex]
  have h := Sm_le (f := fun x => Sm (fun t => eW own nx j w i s x t) M) (g := fun _ => 1) (n := K) (fun x _ => Sm_one M)
  rw [Sm_const] at h
  omega
theorem RW_ms (hK : K ≤ 8) : ∀ i : Nat, Sm (RW own nx j w K N i) N ≤ 8 ^ i
  | 0 => by
    have h : ∀ n : Nat, Sm (fun t => if t = 0 then (1 : Int) else 0) n ≤ 1 := fun n => by
      cases n with
      | zero => exact Int.le_of_lt (by decide)
      | succ n =>
        rw [Sm_cut (n := 1) (fun k h1 h2 => if_neg (by omega)) (by omega)]
        decide
    exact h N
  | i + 1 => by
    have ih := RW_ms hK i
    have e : Sm (RW own nx j w K N (i + 1)) N = Sm (fun s => RW own nx j w K N i s * Sm (fun t => cW own nx j w i s t K) N) N := by
      show Sm (fun t => Sm (fun s => RW own nx j w K N i s * cW own nx j w i s t K) N) N = _
      rw [Sm_ex]
      exact Sm_cg (fun s _ => Sm_mul N)
    rw [e]
    have h := Sm_le (f := fun s => RW own nx j w K N i s * Sm (fun t => cW own nx j w i s t K) N) (g := fun s => 8 * RW own nx j w K N i s) (n := N) (fun s _ => by
      have h1 := cW_one (own := own) (nx := nx) (j := j) (w := w) (K := K) i s N
      have h2 := RW_nn (own := own) (nx := nx) (j := j) (w := w) (K := K) (N := N) i s
      have h3 := Int.mul_le_mul_of_nonneg_left (show Sm (fun t => cW own nx j w i s t K) N ≤ 8 by omega) h2
      rw [Int.mul_comm 8]
      exact h3)
    rw [Sm_mul] at h
    have e8 : (8 : Int) ^ (i + 1) = 8 * 8 ^ i := by rw [Int.pow_succ, Int.mul_comm]
    rw [e8]
    omega
theorem RW_b (hK : K ≤ 8) {i t : Nat} (hi : i ≤ 8) (ht : t < N) : RW own nx j w K N i t ≤ 16777216 := by
  have h1 := Sm_at (f := RW own nx j w K N i) (n := N) (fun k _ => RW_nn i k) ht
  have h2 := RW_ms (own := own) (nx := nx) (j := j) (w := w) (N := N) hK i
  have h3 : (8 : Int) ^ i ≤ 16777216 := by
    have : i = 0 ∨ i = 1 ∨ i = 2 ∨ i = 3 ∨ i = 4 ∨ i = 5 ∨ i = 6 ∨ i = 7 ∨ i = 8 := by omega
    rcases this with rfl | rfl | rfl | rfl | rfl | rfl | rfl | rfl | rfl <;> decide
  omega
theorem PW_0 (i t : Nat) : PW own nx j w K N 0 i t = (if i = 0 ∧ t = 0 then 1 else 0) := by
  cases i with
  | zero => show (if t = 0 then (1 : Int) else 0) = _; by_cases h : t = 0 <;> simp [h]
  | succ i => rw [if_neg (by omega)]; rfl
theorem PW_s (q i t : Nat) : PW own nx j w K N (q + 1) (i + 1) t = PW own nx j w K N q (i + 1) t + RW own nx j w K N i q * cW own nx j w i q t K := rfl
/-- a NEWS leads up, to a greater STATE that has all LAMPS -/
def UpW (own : Nat → Int) (nx : Nat → Nat → Int) (K N : Nat) : Prop := ∀ s x t : Nat, s < N → x < K → ¬ (x : Int) = own s → nx s x = (t : Int) → s < t ∧ s &&& t = s
theorem eW_up (h : UpW own nx K N) {i s x t : Nat} (hs : s < N) (hx : x < K) (ht : ¬ (s < t ∧ s &&& t = s)) : eW own nx j w i s x t = 0 := if_neg (fun h9 => ht (h s x t hs hx h9.1.1 h9.2))
theorem cW_up (h : UpW own nx K N) {i s t n : Nat} (hs : s < N) (hn : n ≤ K) (ht : ¬ (s < t ∧ s &&& t = s)) : cW own nx j w i s t n = 0 := Sm_z (fun x hx => eW_up h hs (by omega) ht)
/-- at q all of q's own is through -/
theorem PW_q (h : UpW own nx K N) {i q : Nat} (hq : q ≤ N) {t : Nat} (ht : t ≤ q) : PW own nx j w K N q i t = RW own nx j w K N i t := by
  cases i with
  | zero => rfl
  | succ i => exact (Sm_cut (fun s h1 h2 => by rw [cW_up h h2 (Nat.le_refl K) (by omega), Int.mul_zero]) hq).symm
/-- a STATE that doesn't lie below t adds nothing to t -/
theorem PW_n (h : UpW own nx K N) {i q t : Nat} (hq : q < N) (ht : ¬ q &&& t = q) : PW own nx j w K N (q + 1) i t = PW own nx j w K N q i t := by
  cases i with
  | zero => rfl
  | succ i => rw [PW_s, cW_up h hq (Nat.le_refl K) (fun h9 => ht h9.2), Int.mul_zero, Int.add_zero]
theorem PW_z {i q t : Nat} (h : RW own nx j w K N i q = 0) : PW own nx j w K N (q + 1) (i + 1) t = PW own nx j w K N q (i + 1) t := by
  rw [PW_s, h, Int.zero_mul, Int.add_zero]
end
/-- what stands when also the first n NEWS of STATE q are through -/
def QW (own : Nat → Int) (nx : Nat → Nat → Int) (j w : Int) (K N q n : Nat) : Nat → Nat → Int
  | 0, t => if t = 0 then 1 else 0
  | i + 1, t => PW own nx j w K N q (i + 1) t + RW own nx j w K N i q * cW own nx j w i q t n
/-- and of NEWS n the first u lengths -/
def VW (own : Nat → Int) (nx : Nat → Nat → Int) (j w : Int) (K N q n u i t : Nat) : Int := if i ≤ u then QW own nx j w K N q (n + 1) i t else QW own nx j w K N q n i t
/-- the cells of the ROWS of at most b NEWS that lead to STATES within goal -/
def MW (P : Nat → Nat → Int) (b : Int) (N G : Nat) (F : Nat → Int) : Prop := ∀ i t : Nat, (i : Int) ≤ b → t < N → t &&& G = t → F (i * 256 + t) = P i t
def JW (P : Nat → Int) (n : Nat) (F : Nat → Int) : Prop := ∀ t : Nat, t < n → F t = P t
theorem MW_cg {P Q : Nat → Nat → Int} {b : Int} {N G : Nat} {F : Nat → Int} (h : MW P b N G F) (e : ∀ i t : Nat, (i : Int) ≤ b → t < N → t &&& G = t → P i t = Q i t) : MW Q b N G F := fun i t h1 h2 h3 => (h i t h1 h2 h3).trans (e i t h1 h2 h3)
theorem JW_cg {P Q : Nat → Int} {n : Nat} {F : Nat → Int} (h : JW P n F) (e : ∀ t : Nat, t < n → P t = Q t) : JW Q n F := fun t h1 => (h t h1).trans (e t h1)
section
variable {own : Nat → Int} {nx : Nat → Nat → Int} {j w b : Int} {K N G : Nat} {F : Nat → Int}
theorem QW_0 (q i t : Nat) : QW own nx j w K N q 0 i t = PW own nx j w K N q i t := by
  cases i with
  | zero => rfl
  | succ i => show _ + _ * Sm _ 0 = _; rw [show Sm (fun x => eW own nx j w i q x t) 0 = 0 from rfl, Int.mul_zero, Int.add_zero]
theorem QW_K (q i t : Nat) : QW own nx j w K N q K i t = PW own nx j w K N (q + 1) i t := by cases i <;> rfl
theorem QW_s (q n i t : Nat) : QW own nx j w K N q (n + 1) (i + 1) t = QW own nx j w K N q n (i + 1) t + RW own nx j w K N i q * eW own nx j w i q n t := by
  show _ + _ * (cW own nx j w i q t n + _) = (_ + _) + _
  rw [Int.mul_add, Int.add_assoc]
theorem QW_e {q n i t : Nat} (h : ∀ i : Nat, eW own nx j w i q n t = 0) : QW own nx j w K N q (n + 1) i t = QW own nx j w K N q n i t := by
  cases i with
  | zero => rfl
  | succ i => rw [QW_s, h, Int.mul_zero, Int.add_zero]
theorem QW_q (hU : UpW own nx K N) {q n i : Nat} (hq : q < N) (hn : n ≤ K) : QW own nx j w K N q n i q = RW own nx j w K N i q := by
  cases i with
  | zero => rfl
  | succ i =>
    show PW own nx j w K N q (i + 1) q + _ * cW own nx j w i q q n = _
    rw [cW_up hU hq hn (by omega), Int.mul_zero, Int.add_zero]
    exact PW_q hU (Nat.le_of_lt hq) (Nat.le_refl q)
theorem MW_s {q : Nat} (h : MW (PW own nx j w K N q) b N G F) : MW (QW own nx j w K N q 0) b N G F := MW_cg h (fun i t _ _ _ => (QW_0 q i t).symm)
theorem MW_e {q : Nat} (h : MW (QW own nx j w K N q K) b N G F) : MW (PW own nx j w K N (q + 1)) b N G F := MW_cg h (fun i t _ _ _ => QW_K q i t)
theorem MW_own {q n : Nat} (h : MW (QW own nx j w K N q n) b N G F) (ho : (n : Int) = own q) : MW (QW own nx j w K N q (n + 1)) b N G F := MW_cg h (fun i t _ _ _ => (QW_e (fun _ => eW_own ho)).symm)
theorem MW_no {q n : Nat} (h : MW (QW own nx j w K N q n) b N G F) (ho : nx q n = -1) : MW (QW own nx j w K N q (n + 1)) b N G F := MW_cg h (fun i t _ _ _ => (QW_e (fun _ => eW_t (by omega))).symm)
theorem MW_in {q n : Nat} (h : MW (QW own nx j w K N q n) b N G F) : MW (VW own nx j w K N q n 0) b N G F := MW_cg h (fun i t _ _ _ => by
  unfold VW
  cases i with
  | zero => rw [if_pos (by omega)]; rfl
  | succ i => rw [if_neg (by omega)])
theorem MW_out {q n u : Nat} (h : MW (VW own nx j w K N q n u) b N G F) (hu : b ≤ u) : MW (QW own nx j w K N q (n + 1)) b N G F := MW_cg h (fun i t h1 _ _ => by
  unfold VW
  rw [if_pos (by omega)])
theorem VW_e {q n u i t : Nat} (h : eW own nx j w u q n t = 0) : VW own nx j w K N q n u i t = VW own nx j w K N q n (u + 1) i t := by
  unfold VW
  by_cases h1 : i ≤ u
  · rw [if_pos h1, if_pos (by omega)]
  · by_cases h2 : i = u + 1
    · rw [if_neg h1, if_pos (by omega), h2, QW_s, h, Int.mul_zero, Int.add_zero]
    · rw [if_neg h1, if_neg (by omega)]
theorem MW_skip {q n u : Nat} (h : MW (VW own nx j w K N q n u) b N G F) (h1 : (u : Int) = j) (h2 : ¬ (n : Int) = w) : MW (VW own nx j w K N q n (u + 1)) b N G F := MW_cg h (fun i t _ _ _ => VW_e (eW_j h1 h2))
theorem MW_add {q n u to p r : Nat} (hU : UpW own nx K N) (hN : N ≤ 256) (h : MW (VW own nx j w K N q n u) b N G F) (hq : q < N) (hg : q &&& G = q) (hn : n < K) (hu : (u : Int) < b) (ht : nx q n = (to : Int)) (hto : to < N) (h1 : ¬ (n : Int) = own q) (h2 : (u : Int) = j → (n : Int) = w) (hp : p = (u + 1) * 256 + to) (hr : r = u * 256 + q) : MW (VW own nx j w K N q n (u + 1)) b N G (up1 F p (F p + F r)) := by
  intro i t hi hlt hG
  by_cases e : i = u + 1 ∧ t = to
  · obtain ⟨rfl, rfl⟩ := e
    rw [hp, up1_s, h (u + 1) t hi hlt hG, hr, h u q (by omega) hq hg]
    unfold VW
    rw [if_neg (by omega), if_pos (by omega), if_pos (by omega), QW_q hU hq (by omega), QW_s, eW_y h1 h2 ht, Int.mul_one]
  · rw [up1_n _ _ (by omega), h i t hi hlt hG]
    by_cases e1 : i = u + 1
    · exact VW_e (eW_t (by rw [ht]; omega))
    · unfold VW
      by_cases h3 : i ≤ u
      · rw [if_pos h3, if_pos (by omega)]
      · rw [if_neg h3, if_neg (by omega)]
/-- a STATE outside of goal, or not met, is through at once -/
theorem MW_np {q : Nat} (hU : UpW own nx K N) (hq : q < N) (h : MW (PW own nx j w K N q) b N G F) (hg : ¬ q &&& G = q) : MW (PW own nx j w K N (q + 1)) b N G F := MW_cg h (fun i t _ _ hG => (PW_n hU hq (fun h9 => hg (by
  rw [← h9, Nat.and_assoc, hG]))).symm)
theorem MW_nm {q : Nat} (hU : UpW own nx K N) (hK : K ≤ 8) (hb : b ≤ 8) (hq : q < N) (h : MW (PW own nx j w K N q) b N G F) (hg : q &&& G = q) (hz : ∀ i : Nat, (i : Int) < b → F (i * 256 + q) = 0) : MW (PW own nx j w K N (q + 1)) b N G F := MW_cg h (fun i t hi _ hG => by
  cases i with
  | zero => rfl
  | succ i =>
    have h1 := h i q (by omega) hq hg
    rw [PW_q hU (Nat.le_of_lt hq) (Nat.le_refl q)] at h1
    exact (PW_z (h1.symm.trans (hz i (by omega)))).symm)
theorem MW_bd {q : Nat} (hU : UpW own nx K N) (hK : K ≤ 8) (hb : b ≤ 8) (hq : q < N) (h : MW (PW own nx j w K N q) b N G F) (hg : q &&& G = q) {i : Nat} (hi : (i : Int) < b) : 0 ≤ F (i * 256 + q) ∧ F (i * 256 + q) ≤ 16777216 := by
  have h1 := h i q (by omega) hq hg
  rw [PW_q hU (Nat.le_of_lt hq) (Nat.le_refl q)] at h1
  rw [h1]
  exact ⟨RW_nn i q, RW_b hK (by omega) hq⟩
theorem MW_0 (hN : N ≤ 256) (hb : b ≤ 8) (h : ∀ k : Nat, (k : Int) < (b + 1) * 256 → F k = 0) : MW (PW own nx j w K N 0) b N G (up1 F 0 1) := by
  intro i t hi hlt _
  rw [PW_0]
  by_cases e : i = 0 ∧ t = 0
  · rw [e.1, e.2, if_pos ⟨rfl, rfl⟩]; exact up1_s _ _ _
  · rw [if_neg e, up1_n _ _ (by omega)]
    exact h _ (by omega)
theorem MW_at {g : Nat} (hU : UpW own nx K N) (h : MW (PW own nx j w K N g) b N g F) (hg : g < N) {i : Nat} (hi : (i : Int) ≤ b) : F (i * 256 + g) = RW own nx j w K N i g := by
  rw [h i g hi hg (Nat.and_self g)]
  exact PW_q hU (Nat.le_of_lt hg) (Nat.le_refl g)
/-! the reference: one length behind the other -/
variable {q i : Nat}
theorem JW_0 {n : Nat} {v : Int} (h : JW (RW own nx j w K N 0) n F) (hv : v = if n = 0 then 1 else 0) : JW (RW own nx j w K N 0) (n + 1) (up1 F n v) := by
  intro t ht
  by_cases e : t = n
  · rw [e, up1_s]; exact hv
  · rw [up1_n _ _ e]; exact h t (by omega)
theorem JW_z {n : Nat} {P : Nat → Int} {v : Int} (h : JW P n F) (hv : v = P n) : JW P (n + 1) (up1 F n v) := by
  intro t ht
  by_cases e : t = n
  · rw [e, up1_s]; exact hv
  · rw [up1_n _ _ e]; exact h t (by omega)
theorem JW_s {n : Nat} (h : JW (PW own nx j w K N q (i + 1)) n F) : JW (QW own nx j w K N q 0 (i + 1)) n F := JW_cg h (fun t _ => (QW_0 q (i + 1) t).symm)
theorem JW_e {n : Nat} (h : JW (QW own nx j w K N q K (i + 1)) n F) : JW (PW own nx j w K N (q + 1) (i + 1)) n F := h
theorem JW_f {n : Nat} (h : JW (PW own nx j w K N N (i + 1)) n F) : JW (RW own nx j w K N (i + 1)) n F := h
theorem JW_a {n : Nat} (h : JW (fun _ => 0) n F) : JW (PW own nx j w K N 0 (i + 1)) n F := h
theorem JW_n {q n m : Nat} (h : JW (QW own nx j w K N q n (i + 1)) m F) (hz : RW own nx j w K N i q = 0) : JW (PW own nx j w K N (q + 1) (i + 1)) m F := JW_cg h (fun t _ => by
  rw [PW_z hz]
  show _ + _ * _ = _
  rw [hz, Int.zero_mul, Int.add_zero])
theorem JW_k {q n m : Nat} (h : JW (QW own nx j w K N q n (i + 1)) m F) (he : ∀ t : Nat, eW own nx j w i q n t = 0) : JW (QW own nx j w K N q (n + 1) (i + 1)) m F := JW_cg h (fun t _ => by
  rw [QW_s, he, Int.mul_zero, Int.add_zero])
theorem JW_add {q n m to : Nat} {c : Int} (h : JW (QW own nx j w K N q n (i + 1)) m F) (ht : nx q n = (to : Int)) (hto : to < m) (h1 : ¬ (n : Int) = own q) (h2 : (i : Int) = j → (n : Int) = w) (hc : c = RW own nx j w K N i q) : JW (QW own nx j w K N q (n + 1) (i + 1)) m (up1 F to (F to + c)) := by
  intro t hlt
  rw [QW_s]
  by_cases e : t = to
  · rw [e, up1_s, h to hto, eW_y h1 h2 ht, Int.mul_one, hc]
  · rw [up1_n _ _ e, h t hlt, eW_t (by rw [ht]; omega), Int.mul_zero, Int.add_zero]
end

/-- by which STATE NEWS x is SENT from s: the class's choice -/
def nxD (m : Int) (I : aI1) (o L T : Nat → Int) (s x : Nat) : Int := NX (bC m o L T) (I 3) (I 1 7) (s : Int) (FU (I 1 5) + 1) (x : Int)
/-- the reference's choice -/
def nxRf (m : Int) (I : aI1) (L M : Nat → Int) (s x : Nat) : Int := NX (bR m (s : Int) (I 51 304) (I 51 305) (I 51) L M) (I 51) (I 51 306) (s : Int) (FU (I 51 304) + 1) (x : Int)
theorem UpW_nx {bt : Nat → Nat → Nat → Bool} {code : Nat → Int} {g B : Int} {K N : Nat} (hN : N = B.toNat) : UpW code (fun s x => NX (bt s) code g (s : Int) B (x : Int)) K N := by
  intro s x t hs hx hne ht
  have h := NX_r (bt := bt s) (code := code) (g := g) (s := (s : Int)) (N := B) (x := (x : Int)) (by omega)
  have ht : NX (bt s) code g (s : Int) B (x : Int) = (t : Int) := ht
  rw [ht] at h
  rcases h with h | ⟨h1, -, h3, h4, -⟩
  · omega
  · rw [Int.toNat_natCast] at h3 h4
    rw [Int.toNat_natCast] at h4
    refine ⟨?_, h4⟩
    by_cases e : s = t
    · subst e; omega
    · omega
theorem UpW_nxD {m : Int} {I : aI1} {o L T : Nat → Int} {K N : Nat} (hN : N = (FU (I 1 5) + 1).toNat) : UpW (I 3) (nxD m I o L T) K N := UpW_nx hN
theorem nxD_kp {m : Int} {I I' : aI1} {o L T : Nat → Int} (h1 : I' 1 = I 1) (h3 : I' 3 = I 3) : nxD m I' o L T = nxD m I o L T := by
  unfold nxD; rw [h1, h3]
/-- the class's cells of many, the STATES below q through -/
def PD (m e g : Int) (K N : Nat) (I J : aI1) (q : Nat) : Nat → Nat → Int := PW (I 3) (nxD m I (I 19) (I 24) (J 28)) e g K N q
theorem PD_kp {m e g : Int} {K N : Nat} {I I' J J' : aI1} {q : Nat} (h1 : I' 1 = I 1) (h3 : I' 3 = I 3) (h19 : I' 19 = I 19) (h24 : I' 24 = I 24) (h28 : J' 28 = J 28) : PD m e g K N I' J' q = PD m e g K N I J q := by
  unfold PD; rw [nxD_kp h1 h3, h3, h19, h24, h28]
/-- none that lead here was counted: what isMet says -/
def IMZ (x b a : Int) (F : Nat → Int) : Prop := x = 0 → ∀ i : Nat, (i : Int) < b → w64 (F (i * 256 + a.toNat)) = 0
end
