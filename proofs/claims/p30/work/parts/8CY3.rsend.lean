/-- SENT or not (reference) -/
def SNr (z : Int) (I I' : aI1) (x : Int) : Prop := (z = -1 → x = -3 ∧ I' 49 0 = -3 ∧ I' 50 = up1 (I 50) 3 (I 50 3 + 1) ∧ I' 51 = I 51) ∧ (¬ z = -1 → I 51 308 = 24 → x = -5 ∧ I' 49 0 = -5 ∧ I' 50 = up1 (I 50) 5 (I 50 5 + 1) ∧ I' 51 = I 51) ∧ (¬ z = -1 → ¬ I 51 308 = 24 → x = pcn z.toNat - pcn (I 51 307).toNat ∧ I' 49 0 = 0 ∧ I' 50 = I 50 ∧ I' 51 = up1 (up1 (up1 (I 51) 307 z) (264 + I 51 308).toNat z) 308 (I 51 308 + 1))

set_option maxHeartbeats 4000000 in
set_option maxRecDepth 20000 in
theorem c8_X11_send (l0 : Launch) {Ia Ja : aI1} {Ra : aR1} {Sa : aS1} (hL : LY Ra Sa) (hQ : RX Ia) {a b : Int} (ha0 : -2147483648 ≤ a) (ha1 : a < 2147483648) (hb0 : -2147483648 ≤ b) (hb1 : b < 2147483648) (hO : ∀ l, l < 8 → 0 ≤ Ia 51 (256 + l) ∧ Ia 51 (256 + l) ≤ 99) (hcr : ∀ t : Nat, (t : Int) ≤ FU (Ia 51 304) → -1 ≤ Ia 51 t ∧ Ia 51 t ≤ 7) (hK : ∀ s : Nat, (s : Int) ≤ FU (Ia 51 304) → Ia 51 s < Ia 51 305) {vv : Int} (hq : QF Ia Ja vv) (hv9 : vv ≤ 1000000) (hst7 : Ia 51 307 ≤ FU (Ia 51 304))  : CT l0 5 0 0 mX11_send [kR (some 49), kI a, kI b] Ia Ja Ra Sa (cI (fun x I' J' => Ch [50, 51, 61] [0, 1, 25] Ia I' ∧ Kp 49 73 Ja J' ∧ RX I' ∧ QF I' J' (vv + 1) ∧ (¬ (0 ≤ a ∧ a < Ia 51 305 ∧ 0 ≤ b ∧ b ≤ 3) → x = -1 ∧ I' 49 0 = -1 ∧ I' 50 = up1 (Ia 50) 1 (Ia 50 1 + 1) ∧ I' 51 = Ia 51) ∧ ((0 ≤ a ∧ a < Ia 51 305 ∧ 0 ≤ b ∧ b ≤ 3) → ∃ L M, zLV (Ia 51) (Ia 51 306) (FU (Ia 51 304) + 1) (Ia 51 305) (-1) L ∧ MRc (Ia 51) (Ia 51 306) (Ia 51 304) (Ia 51 305) M ∧ SNr (NX (bR b (Ia 51 307) (Ia 51 304) (Ia 51 305) (Ia 51) L M) (Ia 51) (Ia 51 306) (Ia 51 307) (FU (Ia 51 304) + 1) a) Ia I' x)) Ra Sa) := by
  refine ct_in pn_X11 (Nat.le_of_ble_eq_true rfl) (fun X hX hT hIn => ?_)
  have hX : aK l0 X cX11_send 5 RX11 (some .int) 5 0 0 := hX
  change WW X 0 [some (kR (some 49)), some (kI a), some (kI b), none, none] [] Ia Ja Ra Sa 0 0
  have qIa := RX_o hQ
  refine ww_aload_n hX (pc := 0) dX11_send_0 rfl ?_
  refine ww_iload_n hX (pc := 1) dX11_send_1 rfl ?_
  refine vI1 hX (pc := 2) sX11_123 (xs_49 hL) (c_X11_isNews l0 hL hQ (by omega) (by omega)) (by decide) (Nat.le_refl 0) (Nat.le_refl 0) (Nat.le_of_ble_eq_true rfl) dX11_send_2 (fun x_2 I_2 J_2 h_2 => ?_)
  obtain ⟨rfl, rfl, h_2⟩ := h_2
  refine ww_if_eq hX (pc := 5) (tgt := 15) dX11_send_5 (by decide) (fun h_5 => ?_) (fun h_5 => ?_)
  · simp only [w32_mod] at h_5
    refine ww_aload_n hX (pc := 15) dX11_send_15 rfl ?_
    refine ww_iconst hX (pc := 16) (x := (-1)) dX11_send_16 rfl ?_
    refine vI1 hX (pc := 17) sX11_105 (xs_49 hL) (c8_X11_refuses l0 hL hQ (by omega) (by omega)) (by decide) (Nat.le_refl 0) (Nat.le_refl 0) (Nat.le_of_ble_eq_true rfl) dX11_send_17 (fun x_17 I_17 J_17 h_17 => ?_)
    have kJ_17 : Kp 49 73 Ja J_17 := Kp_tr (Kp_rf (a := 49) (b := 73)) h_17.2.1
    have kI_17 : Ch [50, 51, 61] [0, 1, 25] Ia I_17 := Ch_tr Ch_rf (Ch_wd h_17.1 (by decide) (by decide))
    have cI_17 : RX I_17 := h_17.2.2.1
    have qI_17 := RX_o cI_17
    have r304_I_17 : I_17 51 304 = Ia 51 304 := by rw [h_17.1.1 51 (by decide) (by decide)]
    have r305_I_17 : I_17 51 305 = Ia 51 305 := by rw [h_17.1.1 51 (by decide) (by decide)]
    have r307_I_17 : I_17 51 307 = Ia 51 307 := by rw [h_17.1.1 51 (by decide) (by decide)]
    have r308_I_17 : I_17 51 308 = Ia 51 308 := by rw [h_17.1.1 51 (by decide) (by decide)]
    have r309_I_17 : I_17 51 309 = Ia 51 309 := by rw [h_17.1.1 51 (by decide) (by decide)]
    have rf_I_17 : FU (I_17 51 304) = FU (Ia 51 304) := by rw [r304_I_17]
    refine rI hX (pc := 20) hT (Nat.le_refl 0) (Nat.le_refl 0) dX11_send_20 ?_
    exact ⟨kI_17, kJ_17, cI_17, (QF_kp hq (h_17.1.2 1 (by decide)) (h_17.1.2 25 (by decide)) (h_17.1.1 51 (by decide) (by decide)) (h_17.1.1 61 (by decide) (by decide)) (by rw [h_17.2.2.2.2.2.2]) (by omega)), (fun _ => ⟨h_17.2.2.2.1, h_17.2.2.2.2.1, h_17.2.2.2.2.2.1, h_17.1.1 51 (by decide) (by decide)⟩), (fun h9 => absurd h9 (by omega))⟩
  · simp only [w32_mod] at h_5
    have k_2 := h_2.2.mp (by omega)
    clear h_2
    refine ww_iload_n hX (pc := 8) dX11_send_8 rfl ?_
    refine sI1 hX (pc := 9) sX11_308 (c_X11_isManner l0 (by omega) (by omega)) (by decide) (Nat.le_refl 0) (Nat.le_refl 0) (Nat.le_of_ble_eq_true rfl) dX11_send_9 (fun x_9 I_9 J_9 h_9 => ?_)
    obtain ⟨rfl, rfl, h_9⟩ := h_9
    refine ww_if_ne hX (pc := 12) (tgt := 21) dX11_send_12 (by decide) (fun h_12 => ?_) (fun h_12 => ?_)
    · simp only [w32_mod] at h_12
      have k_9 := h_9.2.mp (by omega)
      clear h_9
      refine ww_aload_n hX (pc := 21) dX11_send_21 rfl ?_
      refine vV0 hX (pc := 22) sX11_294 (xs_49 hL) (c8_X11_looks l0 hL hQ hcr hK hq hv9) (by decide) (Nat.le_refl 0) (Nat.le_refl 0) (Nat.le_of_ble_eq_true rfl) dX11_send_22 (fun I_22 J_22 h_22 => ?_)
      have kJ_22 : Kp 49 73 Ja J_22 := Kp_tr (Kp_rf (a := 49) (b := 73)) h_22.2.1
      have kI_22 : Ch [50, 51, 61] [0, 1, 25] Ia I_22 := Ch_tr Ch_rf (Ch_wd h_22.1 (by decide) (by decide))
      have cI_22 : RX I_22 := h_22.2.2.1
      have qI_22 := RX_o cI_22
      have r304_I_22 : I_22 51 304 = Ia 51 304 := by rw [h_22.1.1 51 (by decide) (by decide)]
      have r305_I_22 : I_22 51 305 = Ia 51 305 := by rw [h_22.1.1 51 (by decide) (by decide)]
      have r307_I_22 : I_22 51 307 = Ia 51 307 := by rw [h_22.1.1 51 (by decide) (by decide)]
      have r308_I_22 : I_22 51 308 = Ia 51 308 := by rw [h_22.1.1 51 (by decide) (by decide)]
      have r309_I_22 : I_22 51 309 = Ia 51 309 := by rw [h_22.1.1 51 (by decide) (by decide)]
      have rf_I_22 : FU (I_22 51 304) = FU (Ia 51 304) := by rw [r304_I_22]
      have e51_22 : I_22 51 = Ia 51 := h_22.2.2.2.1
      have hq9_22 := h_22.2.2.2.2.1
      have hq8_22 := h_22.1.2 1 (by decide)
      have hq7 := hq.1
      have hrt9 := h_22.2.2.2.2.2
      have hqf : QF I_22 J_22 vv := ⟨by omega, by omega, fun _ => hrt9⟩
      unfold RT at hrt9
      rw [e51_22] at hrt9
      have hzl := hrt9.1
      have hmr := hrt9.2
      clear hrt9
      have efu : FU (I_22 51 304) = FU (Ia 51 304) := by rw [e51_22]
      have kq_I_22 : I_22 50 = Ia 50 ∧ I_22 49 1 = Ia 49 1 ∧ I_22 49 25 = I_22 49 25 := ⟨h_22.1.1 50 (by decide) (by decide), hq8_22, rfl⟩
      refine ww_aload_n hX (pc := 25) dX11_send_25 rfl ?_
      refine ww_aload_n hX (pc := 26) dX11_send_26 rfl ?_
      refine ww_getR hX (pc := 27) fX11_20 (by decide) (xs_49 hL) (xr_49_3 hL) dX11_send_27 ?_
      refine ww_sipush hX (pc := 30) (x := 307) dX11_send_30 (by decide) ?_
      refine ww_iald hX (pc := 33) (xs_51 hL) (by decide) (by omega) (by omega) dX11_send_33 ?_
      refine ww_toI (b := I_22 51 307) rfl ?_
      refine ww_iload_n hX (pc := 34) dX11_send_34 rfl ?_
      refine ww_iload_n hX (pc := 35) dX11_send_35 rfl ?_
      refine vI3 hX (pc := 36) sX11_311 (xs_49 hL) (c8_X11_nextOf l0 hL cI_22 (by omega) (by omega) (by omega) (by omega) (by omega) (by omega) (by rw [e51_22]; exact hO) (by rw [e51_22]; exact hcr) (by rw [e51_22]; exact fun t ht => (hmr t ht).2)) (by decide) (Nat.le_refl 0) (Nat.le_refl 0) (Nat.le_of_ble_eq_true rfl) dX11_send_36 (fun x_36 I_36 J_36 h_36 => ?_)
      obtain ⟨rfl, rfl, h_36⟩ := h_36
      rw [e51_22] at h_36
      have hz : NX (bR b (Ia 51 307) (Ia 51 304) (Ia 51 305) (Ia 51) (I_22 61) (J_22 62)) (Ia 51) (Ia 51 306) (Ia 51 307) (FU (Ia 51 304) + 1) a = x_36 := h_36.symm
      have hnr := NX_r (bt := bR b (Ia 51 307) (Ia 51 304) (Ia 51 305) (Ia 51) (I_22 61) (J_22 62)) (code := Ia 51) (g := Ia 51 306) (s := Ia 51 307) (N := (FU (Ia 51 304) + 1)) (x := a) (by omega)
      rw [← h_36] at hnr
      have hnr2 : -1 ≤ x_36 ∧ x_36 ≤ FU (Ia 51 304) := by
        rcases hnr with h9 | h9 <;> omega
      clear hnr
      refine ww_istore_n hX (pc := 39) (lv' := [some (kR (some 49)), some (kI a), some (kI b), some (kI x_36), none]) dX11_send_39 (by decide) rfl rfl ?_
      refine ww_iload_n hX (pc := 40) dX11_send_40 rfl ?_
      refine ww_iconst hX (pc := 41) (x := (-1)) dX11_send_41 rfl ?_
      refine ww_icmp_ne hX (pc := 42) (tgt := 52) dX11_send_42 (by decide) (fun h_42 => ?_) (fun h_42 => ?_)
      · simp only [w32_mod] at h_42
        refine ww_aload_n hX (pc := 52) dX11_send_52 rfl ?_
        refine ww_getR hX (pc := 53) fX11_20 (by decide) (xs_49 hL) (xr_49_3 hL) dX11_send_53 ?_
        refine ww_sipush hX (pc := 56) (x := 308) dX11_send_56 (by decide) ?_
        refine ww_iald hX (pc := 59) (xs_51 hL) (by decide) (by omega) (by omega) dX11_send_59 ?_
        refine ww_toI (b := I_22 51 308) rfl ?_
        refine ww_bipush hX (pc := 60) (x := 24) dX11_send_60 (by decide) ?_
        refine ww_icmp_ne hX (pc := 62) (tgt := 72) dX11_send_62 (by decide) (fun h_62 => ?_) (fun h_62 => ?_)
        · simp only [w32_mod] at h_62
          refine ww_iload_n hX (pc := 72) dX11_send_72 rfl ?_
          refine sI1 hX (pc := 73) sX11_259 (c7_X11_ones l0 (by omega) (by omega)) (by decide) (Nat.le_refl 0) (Nat.le_refl 0) (Nat.le_of_ble_eq_true rfl) dX11_send_73 (fun x_73 I_73 J_73 h_73 => ?_)
          obtain ⟨rfl, rfl, h_73⟩ := h_73
          have hp73 := pcn_r x_36.toNat
          refine ww_aload_n hX (pc := 76) dX11_send_76 rfl ?_
          refine ww_getR hX (pc := 77) fX11_20 (by decide) (xs_49 hL) (xr_49_3 hL) dX11_send_77 ?_
          refine ww_sipush hX (pc := 80) (x := 307) dX11_send_80 (by decide) ?_
          refine ww_iald hX (pc := 83) (xs_51 hL) (by decide) (by omega) (by omega) dX11_send_83 ?_
          refine ww_toI (b := I_22 51 307) rfl ?_
          refine sI1 hX (pc := 84) sX11_259 (c7_X11_ones l0 (by omega) (by omega)) (by decide) (Nat.le_refl 0) (Nat.le_refl 0) (Nat.le_of_ble_eq_true rfl) dX11_send_84 (fun x_84 I_84 J_84 h_84 => ?_)
          obtain ⟨rfl, rfl, h_84⟩ := h_84
          rw [e51_22] at h_84
          have hp84 := pcn_r (Ia 51 307).toNat
          refine ww_isub hX (pc := 87) dX11_send_87 ?_
          refine ww_nmI (fun v_88 hv_88 => ?_)
          refine ww_istore hX (pc := 88) (lv' := [some (kR (some 49)), some (kI a), some (kI b), some (kI x_36), some (kI v_88)]) dX11_send_88 (by decide) rfl rfl ?_
          refine ww_aload_n hX (pc := 90) dX11_send_90 rfl ?_
          refine ww_getR hX (pc := 91) fX11_20 (by decide) (xs_49 hL) (xr_49_3 hL) dX11_send_91 ?_
          refine ww_sipush hX (pc := 94) (x := 307) dX11_send_94 (by decide) ?_
          refine ww_iload_n hX (pc := 97) dX11_send_97 rfl ?_
          refine ww_iast hX (pc := 98) (xs_51 hL) (by decide) (by omega) (by omega) dX11_send_98 ?_
          refine ww_nmH (fun I_98 eI_98 => ?_)
          have kI_98 : Ch [50, 51, 61] [0, 1, 25] Ia I_98 := by rw [eI_98]; exact Ch_r kI_22 (by decide) (by decide)
          have cI_98 : RX I_98 := by rw [eI_98]; exact RX_307 cI_22 (by omega) (by omega)
          have qI_98 := RX_o cI_98
          have r304_I_98 : I_98 51 304 = I_22 51 304 := by rw [eI_98, up2_n _ _ (Or.inr (by decide))]
          have r305_I_98 : I_98 51 305 = I_22 51 305 := by rw [eI_98, up2_n _ _ (Or.inr (by decide))]
          have r308_I_98 : I_98 51 308 = I_22 51 308 := by rw [eI_98, up2_n _ _ (Or.inr (by decide))]
          have r309_I_98 : I_98 51 309 = I_22 51 309 := by rw [eI_98, up2_n _ _ (Or.inr (by decide))]
          have rf_I_98 : FU (I_98 51 304) = FU (I_22 51 304) := by rw [r304_I_98]
          have kq_I_98 : I_98 50 = Ia 50 ∧ I_98 49 1 = Ia 49 1 ∧ I_98 49 25 = I_22 49 25 := ⟨Eq.trans (by first | rw [eI_98, up2_off _ _ _ (by decide)] | rw [eI_98, up2_n _ _ (Or.inr (by decide))]) kq_I_22.1, Eq.trans (by first | rw [eI_98, up2_off _ _ _ (by decide)] | rw [eI_98, up2_n _ _ (Or.inr (by decide))]) kq_I_22.2.1, Eq.trans (by first | rw [eI_98, up2_off _ _ _ (by decide)] | rw [eI_98, up2_n _ _ (Or.inr (by decide))]) kq_I_22.2.2⟩
          have g98 : I_98 51 = up1 (Ia 51) 307 x_36 := by rw [eI_98, up2_row, e51_22]; try rfl
          refine ww_aload_n hX (pc := 99) dX11_send_99 rfl ?_
          refine ww_getR hX (pc := 100) fX11_20 (by decide) (xs_49 hL) (xr_49_3 hL) dX11_send_100 ?_
          refine ww_sipush hX (pc := 103) (x := 264) dX11_send_103 (by decide) ?_
          refine ww_aload_n hX (pc := 106) dX11_send_106 rfl ?_
          refine ww_getR hX (pc := 107) fX11_20 (by decide) (xs_49 hL) (xr_49_3 hL) dX11_send_107 ?_
          refine ww_sipush hX (pc := 110) (x := 308) dX11_send_110 (by decide) ?_
          refine ww_iald hX (pc := 113) (xs_51 hL) (by decide) (by omega) (by omega) dX11_send_113 ?_
          refine ww_toI (b := I_98 51 308) rfl ?_
          refine ww_iadd hX (pc := 114) dX11_send_114 ?_
          refine ww_iload_n hX (pc := 115) dX11_send_115 rfl ?_
          refine ww_iast hX (pc := 116) (xs_51 hL) (by decide) (by omega) (by omega) dX11_send_116 ?_
          refine ww_nmH (fun I_116 eI_116 => ?_)
          have kI_116 : Ch [50, 51, 61] [0, 1, 25] Ia I_116 := by rw [eI_116]; exact Ch_r kI_98 (by decide) (by decide)
          have cI_116 : RX I_116 := by rw [eI_116]; exact RX_lo cI_98 (by omega)
          have qI_116 := RX_o cI_116
          have r304_I_116 : I_116 51 304 = I_98 51 304 := by rw [eI_116, up2_n _ _ (Or.inr (by omega))]
          have r305_I_116 : I_116 51 305 = I_98 51 305 := by rw [eI_116, up2_n _ _ (Or.inr (by omega))]
          have r307_I_116 : I_116 51 307 = I_98 51 307 := by rw [eI_116, up2_n _ _ (Or.inr (by omega))]
          have r308_I_116 : I_116 51 308 = I_98 51 308 := by rw [eI_116, up2_n _ _ (Or.inr (by omega))]
          have r309_I_116 : I_116 51 309 = I_98 51 309 := by rw [eI_116, up2_n _ _ (Or.inr (by omega))]
          have rf_I_116 : FU (I_116 51 304) = FU (I_98 51 304) := by rw [r304_I_116]
          have kq_I_116 : I_116 50 = Ia 50 ∧ I_116 49 1 = Ia 49 1 ∧ I_116 49 25 = I_22 49 25 := ⟨Eq.trans (by first | rw [eI_116, up2_off _ _ _ (by decide)] | rw [eI_116, up2_n _ _ (Or.inr (by decide))]) kq_I_98.1, Eq.trans (by first | rw [eI_116, up2_off _ _ _ (by decide)] | rw [eI_116, up2_n _ _ (Or.inr (by decide))]) kq_I_98.2.1, Eq.trans (by first | rw [eI_116, up2_off _ _ _ (by decide)] | rw [eI_116, up2_n _ _ (Or.inr (by decide))]) kq_I_98.2.2⟩
          have g116 : I_116 51 = up1 (up1 (Ia 51) 307 x_36) (264 + Ia 51 308).toNat x_36 := by rw [eI_116, r308_I_98, r308_I_22, up2_row, g98]
          refine ww_aload_n hX (pc := 117) dX11_send_117 rfl ?_
          refine ww_getR hX (pc := 118) fX11_20 (by decide) (xs_49 hL) (xr_49_3 hL) dX11_send_118 ?_
          refine ww_sipush hX (pc := 121) (x := 308) dX11_send_121 (by decide) ?_
          refine ww_dup2 hX (pc := 124) dX11_send_124 ?_
          refine ww_iald hX (pc := 125) (xs_51 hL) (by decide) (by omega) (by omega) dX11_send_125 ?_
          refine ww_toI (b := I_116 51 308) rfl ?_
          refine ww_iconst hX (pc := 126) (x := 1) dX11_send_126 rfl ?_
          refine ww_iadd hX (pc := 127) dX11_send_127 ?_
          refine ww_iast hX (pc := 128) (xs_51 hL) (by decide) (by omega) (by omega) dX11_send_128 ?_
          refine ww_nmH (fun I_128 eI_128 => ?_)
          have kI_128 : Ch [50, 51, 61] [0, 1, 25] Ia I_128 := by rw [eI_128]; exact Ch_r kI_116 (by decide) (by decide)
          have cI_128 : RX I_128 := by rw [eI_128]; exact RX_308 cI_116 (by omega) (by omega)
          have qI_128 := RX_o cI_128
          have r304_I_128 : I_128 51 304 = I_116 51 304 := by rw [eI_128, up2_n _ _ (Or.inr (by decide))]
          have r305_I_128 : I_128 51 305 = I_116 51 305 := by rw [eI_128, up2_n _ _ (Or.inr (by decide))]
          have r307_I_128 : I_128 51 307 = I_116 51 307 := by rw [eI_128, up2_n _ _ (Or.inr (by decide))]
          have r309_I_128 : I_128 51 309 = I_116 51 309 := by rw [eI_128, up2_n _ _ (Or.inr (by decide))]
          have rf_I_128 : FU (I_128 51 304) = FU (I_116 51 304) := by rw [r304_I_128]
          have kq_I_128 : I_128 50 = Ia 50 ∧ I_128 49 1 = Ia 49 1 ∧ I_128 49 25 = I_22 49 25 := ⟨Eq.trans (by first | rw [eI_128, up2_off _ _ _ (by decide)] | rw [eI_128, up2_n _ _ (Or.inr (by decide))]) kq_I_116.1, Eq.trans (by first | rw [eI_128, up2_off _ _ _ (by decide)] | rw [eI_128, up2_n _ _ (Or.inr (by decide))]) kq_I_116.2.1, Eq.trans (by first | rw [eI_128, up2_off _ _ _ (by decide)] | rw [eI_128, up2_n _ _ (Or.inr (by decide))]) kq_I_116.2.2⟩
          have g128 : I_128 51 = up1 (up1 (up1 (Ia 51) 307 x_36) (264 + Ia 51 308).toNat x_36) 308 (Ia 51 308 + 1) := by rw [eI_128, r308_I_116, r308_I_98, r308_I_22, up2_row, g116]; rfl
          refine ww_aload_n hX (pc := 129) dX11_send_129 rfl ?_
          refine ww_iload hX (pc := 130) dX11_send_130 rfl ?_
          refine vI1 hX (pc := 132) sX11_109 (xs_49 hL) (c8_X11_good l0 hL cI_128 ) (by decide) (Nat.le_refl 0) (Nat.le_refl 0) (Nat.le_of_ble_eq_true rfl) dX11_send_132 (fun x_132 I_132 J_132 h_132 => ?_)
          have kJ_132 : Kp 49 73 Ja J_132 := Kp_tr kJ_22 h_132.2.1
          have kI_132 : Ch [50, 51, 61] [0, 1, 25] Ia I_132 := Ch_tr kI_128 (Ch_wd h_132.1 (by decide) (by decide))
          have cI_132 : RX I_132 := h_132.2.2.1
          have qI_132 := RX_o cI_132
          have r304_I_132 : I_132 51 304 = I_128 51 304 := by rw [h_132.1.1 51 (by decide) (by decide)]
          have r305_I_132 : I_132 51 305 = I_128 51 305 := by rw [h_132.1.1 51 (by decide) (by decide)]
          have r307_I_132 : I_132 51 307 = I_128 51 307 := by rw [h_132.1.1 51 (by decide) (by decide)]
          have r308_I_132 : I_132 51 308 = I_128 51 308 := by rw [h_132.1.1 51 (by decide) (by decide)]
          have r309_I_132 : I_132 51 309 = I_128 51 309 := by rw [h_132.1.1 51 (by decide) (by decide)]
          have rf_I_132 : FU (I_132 51 304) = FU (I_128 51 304) := by rw [r304_I_132]
          refine rI hX (pc := 135) hT (Nat.le_refl 0) (Nat.le_refl 0) dX11_send_135 ?_
          exact ⟨kI_132, kJ_132, cI_132, (QF_up hqf (by rw [h_132.2.2.2.2.2.1, kq_I_128.2.1, hq8_22]) ((h_132.1.2 25 (by decide)).trans kq_I_128.2.2) (Int.le_refl _)), (fun h9 => absurd (by omega) h9), (fun _ => ⟨_, _, hzl, hmr, by
                rw [hz]
                exact ⟨fun h9 => absurd h9 (by omega), fun _ h9 => absurd h9 (by omega), fun _ _ => ⟨by rw [h_132.2.2.2.1]; omega, h_132.2.2.2.2.1, (h_132.1.1 50 (by decide) (by decide)).trans kq_I_128.1, (h_132.1.1 51 (by decide) (by decide)).trans g128⟩⟩⟩)⟩
        · simp only [w32_mod] at h_62
          refine ww_aload_n hX (pc := 65) dX11_send_65 rfl ?_
          refine ww_bipush hX (pc := 66) (x := (-5)) dX11_send_66 (by decide) ?_
          refine vI1 hX (pc := 68) sX11_105 (xs_49 hL) (c8_X11_refuses l0 hL cI_22 (by omega) (by omega)) (by decide) (Nat.le_refl 0) (Nat.le_refl 0) (Nat.le_of_ble_eq_true rfl) dX11_send_68 (fun x_68 I_68 J_68 h_68 => ?_)
          have kJ_68 : Kp 49 73 Ja J_68 := Kp_tr kJ_22 h_68.2.1
          have kI_68 : Ch [50, 51, 61] [0, 1, 25] Ia I_68 := Ch_tr kI_22 (Ch_wd h_68.1 (by decide) (by decide))
          have cI_68 : RX I_68 := h_68.2.2.1
          have qI_68 := RX_o cI_68
          have r304_I_68 : I_68 51 304 = I_22 51 304 := by rw [h_68.1.1 51 (by decide) (by decide)]
          have r305_I_68 : I_68 51 305 = I_22 51 305 := by rw [h_68.1.1 51 (by decide) (by decide)]
          have r307_I_68 : I_68 51 307 = I_22 51 307 := by rw [h_68.1.1 51 (by decide) (by decide)]
          have r308_I_68 : I_68 51 308 = I_22 51 308 := by rw [h_68.1.1 51 (by decide) (by decide)]
          have r309_I_68 : I_68 51 309 = I_22 51 309 := by rw [h_68.1.1 51 (by decide) (by decide)]
          have rf_I_68 : FU (I_68 51 304) = FU (I_22 51 304) := by rw [r304_I_68]
          refine rI hX (pc := 71) hT (Nat.le_refl 0) (Nat.le_refl 0) dX11_send_71 ?_
          exact ⟨kI_68, kJ_68, cI_68, (QF_kp hqf (h_68.1.2 1 (by decide)) (h_68.1.2 25 (by decide)) (h_68.1.1 51 (by decide) (by decide)) (h_68.1.1 61 (by decide) (by decide)) (by rw [h_68.2.2.2.2.2.2]) (by omega)), (fun h9 => absurd (by omega) h9), (fun _ => ⟨_, _, hzl, hmr, by
                rw [hz]
                exact ⟨fun h9 => absurd h9 (by omega), fun _ _ => ⟨h_68.2.2.2.1, h_68.2.2.2.2.1, by rw [h_68.2.2.2.2.2.1, kq_I_22.1]; rfl, (h_68.1.1 51 (by decide) (by decide)).trans e51_22⟩, fun _ h9 => absurd (by omega) h9⟩⟩)⟩
      · simp only [w32_mod] at h_42
        refine ww_aload_n hX (pc := 45) dX11_send_45 rfl ?_
        refine ww_bipush hX (pc := 46) (x := (-3)) dX11_send_46 (by decide) ?_
        refine vI1 hX (pc := 48) sX11_105 (xs_49 hL) (c8_X11_refuses l0 hL cI_22 (by omega) (by omega)) (by decide) (Nat.le_refl 0) (Nat.le_refl 0) (Nat.le_of_ble_eq_true rfl) dX11_send_48 (fun x_48 I_48 J_48 h_48 => ?_)
        have kJ_48 : Kp 49 73 Ja J_48 := Kp_tr kJ_22 h_48.2.1
        have kI_48 : Ch [50, 51, 61] [0, 1, 25] Ia I_48 := Ch_tr kI_22 (Ch_wd h_48.1 (by decide) (by decide))
        have cI_48 : RX I_48 := h_48.2.2.1
        have qI_48 := RX_o cI_48
        have r304_I_48 : I_48 51 304 = I_22 51 304 := by rw [h_48.1.1 51 (by decide) (by decide)]
        have r305_I_48 : I_48 51 305 = I_22 51 305 := by rw [h_48.1.1 51 (by decide) (by decide)]
        have r307_I_48 : I_48 51 307 = I_22 51 307 := by rw [h_48.1.1 51 (by decide) (by decide)]
        have r308_I_48 : I_48 51 308 = I_22 51 308 := by rw [h_48.1.1 51 (by decide) (by decide)]
        have r309_I_48 : I_48 51 309 = I_22 51 309 := by rw [h_48.1.1 51 (by decide) (by decide)]
        have rf_I_48 : FU (I_48 51 304) = FU (I_22 51 304) := by rw [r304_I_48]
        refine rI hX (pc := 51) hT (Nat.le_refl 0) (Nat.le_refl 0) dX11_send_51 ?_
        exact ⟨kI_48, kJ_48, cI_48, (QF_kp hqf (h_48.1.2 1 (by decide)) (h_48.1.2 25 (by decide)) (h_48.1.1 51 (by decide) (by decide)) (h_48.1.1 61 (by decide) (by decide)) (by rw [h_48.2.2.2.2.2.2]) (by omega)), (fun h9 => absurd (by omega) h9), (fun _ => ⟨_, _, hzl, hmr, by
              rw [hz]
              exact ⟨fun _ => ⟨h_48.2.2.2.1, h_48.2.2.2.2.1, by rw [h_48.2.2.2.2.2.1, kq_I_22.1]; rfl, (h_48.1.1 51 (by decide) (by decide)).trans e51_22⟩, fun h9 => absurd (by omega) h9, fun h9 => absurd (by omega) h9⟩⟩)⟩
    · simp only [w32_mod] at h_12
      refine ww_aload_n hX (pc := 15) dX11_send_15 rfl ?_
      refine ww_iconst hX (pc := 16) (x := (-1)) dX11_send_16 rfl ?_
      refine vI1 hX (pc := 17) sX11_105 (xs_49 hL) (c8_X11_refuses l0 hL hQ (by omega) (by omega)) (by decide) (Nat.le_refl 0) (Nat.le_refl 0) (Nat.le_of_ble_eq_true rfl) dX11_send_17 (fun x_17 I_17 J_17 h_17 => ?_)
      have kJ_17 : Kp 49 73 Ja J_17 := Kp_tr (Kp_rf (a := 49) (b := 73)) h_17.2.1
      have kI_17 : Ch [50, 51, 61] [0, 1, 25] Ia I_17 := Ch_tr Ch_rf (Ch_wd h_17.1 (by decide) (by decide))
      have cI_17 : RX I_17 := h_17.2.2.1
      have qI_17 := RX_o cI_17
      have r304_I_17 : I_17 51 304 = Ia 51 304 := by rw [h_17.1.1 51 (by decide) (by decide)]
      have r305_I_17 : I_17 51 305 = Ia 51 305 := by rw [h_17.1.1 51 (by decide) (by decide)]
      have r307_I_17 : I_17 51 307 = Ia 51 307 := by rw [h_17.1.1 51 (by decide) (by decide)]
      have r308_I_17 : I_17 51 308 = Ia 51 308 := by rw [h_17.1.1 51 (by decide) (by decide)]
      have r309_I_17 : I_17 51 309 = Ia 51 309 := by rw [h_17.1.1 51 (by decide) (by decide)]
      have rf_I_17 : FU (I_17 51 304) = FU (Ia 51 304) := by rw [r304_I_17]
      refine rI hX (pc := 20) hT (Nat.le_refl 0) (Nat.le_refl 0) dX11_send_20 ?_
      exact ⟨kI_17, kJ_17, cI_17, (QF_kp hq (h_17.1.2 1 (by decide)) (h_17.1.2 25 (by decide)) (h_17.1.1 51 (by decide) (by decide)) (h_17.1.1 61 (by decide) (by decide)) (by rw [h_17.2.2.2.2.2.2]) (by omega)), (fun _ => ⟨h_17.2.2.2.1, h_17.2.2.2.2.1, h_17.2.2.2.2.2.1, h_17.1.1 51 (by decide) (by decide)⟩), (fun h9 => absurd h9 (by omega))⟩
