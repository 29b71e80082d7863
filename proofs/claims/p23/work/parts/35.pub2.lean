theorem CX_forget {I G : aI1} (h : CX I) (e : ∀ a, a ≠ 1 → a ≠ 2 → a ≠ 3 → G a = I a) (h5 : 1 ≤ G 1 5 ∧ G 1 5 ≤ 8) (h6 : 2 ≤ G 1 6 ∧ G 1 6 ≤ 8) (h8 : G 1 8 = 0) (h9 : G 1 9 = I 1 9) (h10 : G 1 10 = 0) (h11 : G 1 11 = 0) (h3 : ∀ s, s < 256 → G 3 s = -1) : CX G := by
  refine ⟨?_, LR_of h.2.1 (e _ (by decide) (by decide) (by decide)) (e _ (by decide) (by decide) (by decide)) (e _ (by decide) (by decide) (by decide)) (e _ (by decide) (by decide) (by decide)), FI_of h.2.2 (e _ (by decide) (by decide) (by decide))⟩
  have h := h.1
  have hf := FU_r h5.1 h5.2
  unfold XI at h ⊢
  rw [e 0 (by decide) (by decide) (by decide), e 8 (by decide) (by decide) (by decide), e 9 (by decide) (by decide) (by decide), h8, h9, h10, h11]
  exact ⟨h5, h6, by omega, h.2.2.2.1, by omega, by omega, h.2.2.2.2.2.2.1, h.2.2.2.2.2.2.2.1, h.2.2.2.2.2.2.2.2.1, fun s hs => by rw [h3 s hs]; omega, h.2.2.2.2.2.2.2.2.2.2⟩
theorem CX_code {I G : aI1} (h : CX I) (e : ∀ q, q ≠ 3 → (q < 37 ∨ 46 ≤ q) → G q = I q) (hf : FI G) (h3 : ∀ j, j < 256 → -1 ≤ G 3 j ∧ G 3 j ≤ 7) : CX G := by
  refine ⟨?_, LR_of h.2.1 (e _ (by decide) (by decide)) (e _ (by decide) (by decide)) (e _ (by decide) (by decide)) (e _ (by decide) (by decide)), hf⟩
  have h := h.1
  unfold XI at h ⊢
  rw [e 0 (by decide) (by decide), e 1 (by decide) (by decide), e 8 (by decide) (by decide), e 9 (by decide) (by decide)]
  exact ⟨h.1, h.2.1, h.2.2.1, h.2.2.2.1, h.2.2.2.2.1, h.2.2.2.2.2.1, h.2.2.2.2.2.2.1, h.2.2.2.2.2.2.2.1, h.2.2.2.2.2.2.2.2.1, h3, h.2.2.2.2.2.2.2.2.2.2⟩
set_option maxHeartbeats 4000000 in
set_option maxRecDepth 20000 in
theorem c_X10_lamps (l0 : Launch) {Ia Ja : aI1} {Ra : aR1} {Sa : aS1} (hL : LY Ra Sa) (hC : CX Ia) {a : Int} (ha0 : -2147483648 ≤ a) (ha1 : a < 2147483648)  : CT l0 10 0 0 mX10_lamps [kR (some 0), kI a] Ia Ja Ra Sa (cI (fun x I' J' => Kp 0 49 Ia I' ∧ Kp 0 49 Ja J' ∧ CX I') Ra Sa) := by
  refine ct_in pn_X10 (Nat.le_of_ble_eq_true rfl) (fun X hX hT hIn => ?_)
  have hX : aK l0 X cX10_lamps 3 RX10 (some .int) 10 0 0 := hX
  change WW X 0 [some (kR (some 0)), some (kI a), none] [] Ia Ja Ra Sa 0 0
  have hI := hC.1
  have hq := XI_o hI
  refine ww_iload_n hX (pc := 0) dX10_lamps_0 rfl ?_
  refine ww_iconst hX (pc := 1) (x := 1) dX10_lamps_1 rfl ?_
  refine ww_icmp_lt hX (pc := 2) (tgt := 11) dX10_lamps_2 (by decide) (fun h_2 => ?_) (fun h_2 => ?_)
  · simp only [w32_mod] at h_2
    refine ww_aload_n hX (pc := 11) dX10_lamps_11 rfl ?_
    refine ww_iconst hX (pc := 12) (x := (-1)) dX10_lamps_12 rfl ?_
    refine vI1 hX (pc := 13) sX10_89 (xs_0 hL) (c_X10_refuse l0 hL hC (by omega) (by omega)) (by decide) (Nat.le_refl 0) (Nat.le_refl 0) (Nat.le_of_ble_eq_true rfl) dX10_lamps_13 (fun x_13 I_13 J_13 h_13 => ?_)
    have kI_13 : Kp 0 49 Ia I_13 := Kp_tr (Kp_rf (a := 0) (b := 49)) (Kp_wd h_13.1 (by decide) (by decide))
    have kJ_13 : Kp 0 49 Ja J_13 := Kp_tr (Kp_rf (a := 0) (b := 49)) (Kp_wd h_13.2.1 (by decide) (by decide))
    have cI_13 : CX I_13 := h_13.2.2.1
    have qI_13 := XI_o cI_13.1
    refine rI hX (pc := 16) hT (Nat.le_refl 0) (Nat.le_refl 0) dX10_lamps_16 ?_
    exact ⟨kI_13, kJ_13, cI_13⟩
  · simp only [w32_mod] at h_2
    refine ww_iload_n hX (pc := 5) dX10_lamps_5 rfl ?_
    refine ww_bipush hX (pc := 6) (x := 8) dX10_lamps_6 (by decide) ?_
    refine ww_icmp_le hX (pc := 8) (tgt := 17) dX10_lamps_8 (by decide) (fun h_8 => ?_) (fun h_8 => ?_)
    · simp only [w32_mod] at h_8
      refine ww_aload_n hX (pc := 17) dX10_lamps_17 rfl ?_
      refine ww_getR hX (pc := 18) fX10_10 (by decide) (xs_0 hL) (xr_0_0 hL) dX10_lamps_18 ?_
      refine ww_getI hX (pc := 21) fX10_93 (by decide) (xs_1 hL) dX10_lamps_21 ?_
      refine ww_nmI (fun v_24 hv_24 => ?_)
      refine ww_istore_n hX (pc := 24) (lv' := [some (kR (some 0)), some (kI a), some (kI v_24)]) dX10_lamps_24 (by decide) rfl rfl ?_
      refine ww_aload_n hX (pc := 25) dX10_lamps_25 rfl ?_
      refine ww_getR hX (pc := 26) fX10_10 (by decide) (xs_0 hL) (xr_0_0 hL) dX10_lamps_26 ?_
      refine ww_iload_n hX (pc := 29) dX10_lamps_29 rfl ?_
      refine ww_putI hX (pc := 30) (fun h9 => absurd h9 (by decide)) gX10_93 rfl (xs_1 hL) dX10_lamps_30 ?_
      refine ww_nmH (fun I_30 eI_30 => ?_)
      have kI_30 : Kp 0 49 Ia I_30 := by rw [eI_30]; exact Kp_up (Kp_rf (a := 0) (b := 49)) _ _ (by decide)
      refine ww_aload_n hX (pc := 33) dX10_lamps_33 rfl ?_
      refine ww_getR hX (pc := 34) fX10_10 (by decide) (xs_0 hL) (xr_0_0 hL) dX10_lamps_34 ?_
      refine ww_iconst hX (pc := 37) (x := 0) dX10_lamps_37 rfl ?_
      refine ww_putI hX (pc := 38) (fun h9 => absurd h9 (by decide)) gX10_96 rfl (xs_1 hL) dX10_lamps_38 ?_
      refine ww_nmH (fun I_38 eI_38 => ?_)
      have kI_38 : Kp 0 49 Ia I_38 := by rw [eI_38]; exact Kp_up kI_30 _ _ (by decide)
      refine ww_aload_n hX (pc := 41) dX10_lamps_41 rfl ?_
      refine ww_getR hX (pc := 42) fX10_10 (by decide) (xs_0 hL) (xr_0_0 hL) dX10_lamps_42 ?_
      refine ww_getR hX (pc := 45) fX10_99 (by decide) (xs_1 hL) (xr_1_0 hL) dX10_lamps_45 ?_
      refine ww_iconst hX (pc := 48) (x := 1) dX10_lamps_48 rfl ?_
      refine sV2 hX (pc := 49) sX10_102 (c_J7_fill_53178 l0 (xs_2 hL) (by decide)) (by decide) (Nat.le_refl 0) (Nat.le_refl 0) (Nat.le_of_ble_eq_true rfl) dX10_lamps_49 (fun I_49 J_49 h_49 => ?_)
      obtain ⟨rfl, eI_49⟩ := h_49
      have kI_49 : Kp 0 49 Ia I_49 := by rw [eI_49]; exact Kp_upR kI_38 _ (by decide)
      refine ww_aload_n hX (pc := 52) dX10_lamps_52 rfl ?_
      refine ww_getR hX (pc := 53) fX10_10 (by decide) (xs_0 hL) (xr_0_0 hL) dX10_lamps_53 ?_
      refine vV0 hX (pc := 56) sX10_108 (xs_1 hL) (c_X1_forget l0 hL) (by decide) (Nat.le_refl 0) (Nat.le_refl 0) (Nat.le_of_ble_eq_true rfl) dX10_lamps_56 (fun I_56 J_56 h_56 => ?_)
      obtain ⟨rfl, eI_56⟩ := h_56
      have kI_56 : Kp 0 49 Ia I_56 := by rw [eI_56]; exact Kp_up (Kp_up (Kp_up (Kp_upR kI_49 _ (by decide)) _ _ (by decide)) _ _ (by decide)) _ _ (by decide)
      have cI_56 : CX I_56 := by
        refine CX_forget hC (fun a h1 h2 h3 => ?_) ?_ ?_ ?_ ?_ ?_ ?_ (fun s hs => ?_)
        · rw [eI_56, up2_off _ _ _ h1, up2_off _ _ _ h1, up2_off _ _ _ h1, upR_n _ _ h3, eI_49, upR_n _ _ h2, eI_38, up2_off _ _ _ h1, eI_30, up2_off _ _ _ h1]
        · rw [eI_56, up2_n _ _ (Or.inr (by decide)), up2_n _ _ (Or.inr (by decide)), up2_n _ _ (Or.inr (by decide)), upR_n _ _ (by decide), eI_49, upR_n _ _ (by decide), eI_38, up2_n _ _ (Or.inr (by decide)), eI_30, up2_s]; omega
        · rw [eI_56, up2_n _ _ (Or.inr (by decide)), up2_n _ _ (Or.inr (by decide)), up2_n _ _ (Or.inr (by decide)), upR_n _ _ (by decide), eI_49, upR_n _ _ (by decide), eI_38, up2_n _ _ (Or.inr (by decide)), eI_30, up2_n _ _ (Or.inr (by decide))]; omega
        · rw [eI_56, up2_n _ _ (Or.inr (by decide)), up2_n _ _ (Or.inr (by decide)), up2_s]
        · rw [eI_56, up2_n _ _ (Or.inr (by decide)), up2_n _ _ (Or.inr (by decide)), up2_n _ _ (Or.inr (by decide)), upR_n _ _ (by decide), eI_49, upR_n _ _ (by decide), eI_38, up2_n _ _ (Or.inr (by decide)), eI_30, up2_n _ _ (Or.inr (by decide))]
        · rw [eI_56, up2_n _ _ (Or.inr (by decide)), up2_s]
        · rw [eI_56, up2_s]
        · rw [eI_56, up2_off _ _ _ (by decide), up2_off _ _ _ (by decide), up2_off _ _ _ (by decide), upR_s, if_pos hs]
      refine ww_aload_n hX (pc := 59) dX10_lamps_59 rfl ?_
      refine vV0 hX (pc := 60) sX10_111 (xs_0 hL) (c_X10_codeChanged l0 hL cI_56) (by decide) (Nat.le_refl 0) (Nat.le_refl 0) (Nat.le_of_ble_eq_true rfl) dX10_lamps_60 (fun I_60 J_60 h_60 => ?_)
      have kI_60 : Kp 0 49 Ia I_60 := Kp_tr kI_56 (Kp_wd h_60.1 (by decide) (by decide))
      have kJ_60 : Kp 0 49 Ja J_60 := Kp_tr (Kp_rf (a := 0) (b := 49)) (Kp_wd h_60.2.1 (by decide) (by decide))
      have cI_60 : CX I_60 := h_60.2.2
      have qI_60 := XI_o cI_60.1
      refine ww_aload_n hX (pc := 63) dX10_lamps_63 rfl ?_
      refine ww_iload_n hX (pc := 64) dX10_lamps_64 rfl ?_
      refine vI1 hX (pc := 65) sX10_114 (xs_0 hL) (c_X10_accept l0 hL cI_60) (by decide) (Nat.le_refl 0) (Nat.le_refl 0) (Nat.le_of_ble_eq_true rfl) dX10_lamps_65 (fun x_65 I_65 J_65 h_65 => ?_)
      have kI_65 : Kp 0 49 Ia I_65 := Kp_tr kI_60 (Kp_wd h_65.1 (by decide) (by decide))
      have kJ_65 : Kp 0 49 Ja J_65 := Kp_tr kJ_60 (Kp_wd h_65.2.1 (by decide) (by decide))
      have cI_65 : CX I_65 := h_65.2.2.1
      have qI_65 := XI_o cI_65.1
      refine rI hX (pc := 68) hT (Nat.le_refl 0) (Nat.le_refl 0) dX10_lamps_68 ?_
      exact ⟨kI_65, kJ_65, cI_65⟩
    · simp only [w32_mod] at h_8
      refine ww_aload_n hX (pc := 11) dX10_lamps_11 rfl ?_
      refine ww_iconst hX (pc := 12) (x := (-1)) dX10_lamps_12 rfl ?_
      refine vI1 hX (pc := 13) sX10_89 (xs_0 hL) (c_X10_refuse l0 hL hC (by omega) (by omega)) (by decide) (Nat.le_refl 0) (Nat.le_refl 0) (Nat.le_of_ble_eq_true rfl) dX10_lamps_13 (fun x_13 I_13 J_13 h_13 => ?_)
      have kI_13 : Kp 0 49 Ia I_13 := Kp_tr (Kp_rf (a := 0) (b := 49)) (Kp_wd h_13.1 (by decide) (by decide))
      have kJ_13 : Kp 0 49 Ja J_13 := Kp_tr (Kp_rf (a := 0) (b := 49)) (Kp_wd h_13.2.1 (by decide) (by decide))
      have cI_13 : CX I_13 := h_13.2.2.1
      have qI_13 := XI_o cI_13.1
      refine rI hX (pc := 16) hT (Nat.le_refl 0) (Nat.le_refl 0) dX10_lamps_16 ?_
      exact ⟨kI_13, kJ_13, cI_13⟩
set_option maxHeartbeats 4000000 in
set_option maxRecDepth 20000 in
theorem c_X10_news (l0 : Launch) {Ia Ja : aI1} {Ra : aR1} {Sa : aS1} (hL : LY Ra Sa) (hC : CX Ia) {a : Int} (ha0 : -2147483648 ≤ a) (ha1 : a < 2147483648)  : CT l0 10 0 0 mX10_news [kR (some 0), kI a] Ia Ja Ra Sa (cI (fun x I' J' => Kp 0 49 Ia I' ∧ Kp 0 49 Ja J' ∧ CX I') Ra Sa) := by
  refine ct_in pn_X10 (Nat.le_of_ble_eq_true rfl) (fun X hX hT hIn => ?_)
  have hX : aK l0 X cX10_news 3 RX10 (some .int) 10 0 0 := hX
  change WW X 0 [some (kR (some 0)), some (kI a), none] [] Ia Ja Ra Sa 0 0
  have hI := hC.1
  have hq := XI_o hI
  refine ww_iload_n hX (pc := 0) dX10_news_0 rfl ?_
  refine ww_iconst hX (pc := 1) (x := 2) dX10_news_1 rfl ?_
  refine ww_icmp_lt hX (pc := 2) (tgt := 11) dX10_news_2 (by decide) (fun h_2 => ?_) (fun h_2 => ?_)
  · simp only [w32_mod] at h_2
    refine ww_aload_n hX (pc := 11) dX10_news_11 rfl ?_
    refine ww_iconst hX (pc := 12) (x := (-1)) dX10_news_12 rfl ?_
    refine vI1 hX (pc := 13) sX10_89 (xs_0 hL) (c_X10_refuse l0 hL hC (by omega) (by omega)) (by decide) (Nat.le_refl 0) (Nat.le_refl 0) (Nat.le_of_ble_eq_true rfl) dX10_news_13 (fun x_13 I_13 J_13 h_13 => ?_)
    have kI_13 : Kp 0 49 Ia I_13 := Kp_tr (Kp_rf (a := 0) (b := 49)) (Kp_wd h_13.1 (by decide) (by decide))
    have kJ_13 : Kp 0 49 Ja J_13 := Kp_tr (Kp_rf (a := 0) (b := 49)) (Kp_wd h_13.2.1 (by decide) (by decide))
    have cI_13 : CX I_13 := h_13.2.2.1
    have qI_13 := XI_o cI_13.1
    refine rI hX (pc := 16) hT (Nat.le_refl 0) (Nat.le_refl 0) dX10_news_16 ?_
    exact ⟨kI_13, kJ_13, cI_13⟩
  · simp only [w32_mod] at h_2
    refine ww_iload_n hX (pc := 5) dX10_news_5 rfl ?_
    refine ww_bipush hX (pc := 6) (x := 8) dX10_news_6 (by decide) ?_
    refine ww_icmp_le hX (pc := 8) (tgt := 17) dX10_news_8 (by decide) (fun h_8 => ?_) (fun h_8 => ?_)
    · simp only [w32_mod] at h_8
      refine ww_aload_n hX (pc := 17) dX10_news_17 rfl ?_
      refine ww_getR hX (pc := 18) fX10_10 (by decide) (xs_0 hL) (xr_0_0 hL) dX10_news_18 ?_
      refine ww_getI hX (pc := 21) fX10_117 (by decide) (xs_1 hL) dX10_news_21 ?_
      refine ww_nmI (fun v_24 hv_24 => ?_)
      refine ww_istore_n hX (pc := 24) (lv' := [some (kR (some 0)), some (kI a), some (kI v_24)]) dX10_news_24 (by decide) rfl rfl ?_
      refine ww_aload_n hX (pc := 25) dX10_news_25 rfl ?_
      refine ww_getR hX (pc := 26) fX10_10 (by decide) (xs_0 hL) (xr_0_0 hL) dX10_news_26 ?_
      refine ww_iload_n hX (pc := 29) dX10_news_29 rfl ?_
      refine ww_putI hX (pc := 30) (fun h9 => absurd h9 (by decide)) gX10_117 rfl (xs_1 hL) dX10_news_30 ?_
      refine ww_nmH (fun I_30 eI_30 => ?_)
      have kI_30 : Kp 0 49 Ia I_30 := by rw [eI_30]; exact Kp_up (Kp_rf (a := 0) (b := 49)) _ _ (by decide)
      have cI_30 : CX I_30 := by rw [eI_30]; exact CX_x hC (XI_1_6 hC.1 (by omega) (by omega)) (by decide)
      have qI_30 := XI_o cI_30.1
      have r5_I_30 : I_30 1 5 = Ia 1 5 := by rw [eI_30, up2_n _ _ (Or.inr (by decide))]
      skip
      have r8_I_30 : I_30 1 8 = Ia 1 8 := by rw [eI_30, up2_n _ _ (Or.inr (by decide))]
      have r9_I_30 : I_30 1 9 = Ia 1 9 := by rw [eI_30, up2_n _ _ (Or.inr (by decide))]
      have r10_I_30 : I_30 1 10 = Ia 1 10 := by rw [eI_30, up2_n _ _ (Or.inr (by decide))]
      have r11_I_30 : I_30 1 11 = Ia 1 11 := by rw [eI_30, up2_n _ _ (Or.inr (by decide))]
      have rf_I_30 : FU (I_30 1 5) = FU (Ia 1 5) := by rw [r5_I_30]
      refine ww_aload_n hX (pc := 33) dX10_news_33 rfl ?_
      refine ww_getR hX (pc := 34) fX10_10 (by decide) (xs_0 hL) (xr_0_0 hL) dX10_news_34 ?_
      refine vV0 hX (pc := 37) sX10_108 (xs_1 hL) (c_X1_forget l0 hL) (by decide) (Nat.le_refl 0) (Nat.le_refl 0) (Nat.le_of_ble_eq_true rfl) dX10_news_37 (fun I_37 J_37 h_37 => ?_)
      obtain ⟨rfl, eI_37⟩ := h_37
      have kI_37 : Kp 0 49 Ia I_37 := by rw [eI_37]; exact Kp_up (Kp_up (Kp_up (Kp_upR kI_30 _ (by decide)) _ _ (by decide)) _ _ (by decide)) _ _ (by decide)
      have cI_37 : CX I_37 := by
        refine CX_forget cI_30 (fun a h1 h2 h3 => ?_) ?_ ?_ ?_ ?_ ?_ ?_ (fun s hs => ?_)
        · rw [eI_37, up2_off _ _ _ h1, up2_off _ _ _ h1, up2_off _ _ _ h1, upR_n _ _ h3]
        · rw [eI_37, up2_n _ _ (Or.inr (by decide)), up2_n _ _ (Or.inr (by decide)), up2_n _ _ (Or.inr (by decide)), upR_n _ _ (by decide)]; omega
        · rw [eI_37, up2_n _ _ (Or.inr (by decide)), up2_n _ _ (Or.inr (by decide)), up2_n _ _ (Or.inr (by decide)), upR_n _ _ (by decide)]; omega
        · rw [eI_37, up2_n _ _ (Or.inr (by decide)), up2_n _ _ (Or.inr (by decide)), up2_s]
        · rw [eI_37, up2_n _ _ (Or.inr (by decide)), up2_n _ _ (Or.inr (by decide)), up2_n _ _ (Or.inr (by decide)), upR_n _ _ (by decide)]
        · rw [eI_37, up2_n _ _ (Or.inr (by decide)), up2_s]
        · rw [eI_37, up2_s]
        · rw [eI_37, up2_off _ _ _ (by decide), up2_off _ _ _ (by decide), up2_off _ _ _ (by decide), upR_s, if_pos hs]
      refine ww_aload_n hX (pc := 40) dX10_news_40 rfl ?_
      refine vV0 hX (pc := 41) sX10_111 (xs_0 hL) (c_X10_codeChanged l0 hL cI_37) (by decide) (Nat.le_refl 0) (Nat.le_refl 0) (Nat.le_of_ble_eq_true rfl) dX10_news_41 (fun I_41 J_41 h_41 => ?_)
      have kI_41 : Kp 0 49 Ia I_41 := Kp_tr kI_37 (Kp_wd h_41.1 (by decide) (by decide))
      have kJ_41 : Kp 0 49 Ja J_41 := Kp_tr (Kp_rf (a := 0) (b := 49)) (Kp_wd h_41.2.1 (by decide) (by decide))
      have cI_41 : CX I_41 := h_41.2.2
      have qI_41 := XI_o cI_41.1
      refine ww_aload_n hX (pc := 44) dX10_news_44 rfl ?_
      refine ww_iload_n hX (pc := 45) dX10_news_45 rfl ?_
      refine vI1 hX (pc := 46) sX10_114 (xs_0 hL) (c_X10_accept l0 hL cI_41) (by decide) (Nat.le_refl 0) (Nat.le_refl 0) (Nat.le_of_ble_eq_true rfl) dX10_news_46 (fun x_46 I_46 J_46 h_46 => ?_)
      have kI_46 : Kp 0 49 Ia I_46 := Kp_tr kI_41 (Kp_wd h_46.1 (by decide) (by decide))
      have kJ_46 : Kp 0 49 Ja J_46 := Kp_tr kJ_41 (Kp_wd h_46.2.1 (by decide) (by decide))
      have cI_46 : CX I_46 := h_46.2.2.1
      have qI_46 := XI_o cI_46.1
      refine rI hX (pc := 49) hT (Nat.le_refl 0) (Nat.le_refl 0) dX10_news_49 ?_
      exact ⟨kI_46, kJ_46, cI_46⟩
    · simp only [w32_mod] at h_8
      refine ww_aload_n hX (pc := 11) dX10_news_11 rfl ?_
      refine ww_iconst hX (pc := 12) (x := (-1)) dX10_news_12 rfl ?_
      refine vI1 hX (pc := 13) sX10_89 (xs_0 hL) (c_X10_refuse l0 hL hC (by omega) (by omega)) (by decide) (Nat.le_refl 0) (Nat.le_refl 0) (Nat.le_of_ble_eq_true rfl) dX10_news_13 (fun x_13 I_13 J_13 h_13 => ?_)
      have kI_13 : Kp 0 49 Ia I_13 := Kp_tr (Kp_rf (a := 0) (b := 49)) (Kp_wd h_13.1 (by decide) (by decide))
      have kJ_13 : Kp 0 49 Ja J_13 := Kp_tr (Kp_rf (a := 0) (b := 49)) (Kp_wd h_13.2.1 (by decide) (by decide))
      have cI_13 : CX I_13 := h_13.2.2.1
      have qI_13 := XI_o cI_13.1
      refine rI hX (pc := 16) hT (Nat.le_refl 0) (Nat.le_refl 0) dX10_news_16 ?_
      exact ⟨kI_13, kJ_13, cI_13⟩
set_option maxHeartbeats 4000000 in
set_option maxRecDepth 20000 in
theorem c_X10_drawn (l0 : Launch) {Ia Ja : aI1} {Ra : aR1} {Sa : aS1} (hL : LY Ra Sa) (hC : CX Ia) {a : Int} (ha0 : -2147483648 ≤ a) (ha1 : a < 2147483648)  : CT l0 10 0 0 mX10_drawn [kR (some 0), kI a] Ia Ja Ra Sa (cI (fun x I' J' => Kp 0 49 Ia I' ∧ Kp 0 49 Ja J' ∧ CX I') Ra Sa) := by
  refine ct_in pn_X10 (Nat.le_of_ble_eq_true rfl) (fun X hX hT hIn => ?_)
  have hX : aK l0 X cX10_drawn 2 RX10 (some .int) 10 0 0 := hX
  change WW X 0 [some (kR (some 0)), some (kI a)] [] Ia Ja Ra Sa 0 0
  have hI := hC.1
  have hq := XI_o hI
  refine ww_iload_n hX (pc := 0) dX10_drawn_0 rfl ?_
  refine ww_iconst hX (pc := 1) (x := (-1)) dX10_drawn_1 rfl ?_
  refine ww_icmp_ne hX (pc := 2) (tgt := 10) dX10_drawn_2 (by decide) (fun h_2 => ?_) (fun h_2 => ?_)
  · simp only [w32_mod] at h_2
    refine ww_iload_n hX (pc := 10) dX10_drawn_10 rfl ?_
    refine ww_if_lt hX (pc := 11) (tgt := 31) dX10_drawn_11 (by decide) (fun h_11 => ?_) (fun h_11 => ?_)
    · simp only [w32_mod] at h_11
      refine ww_iconst hX (pc := 31) (x := (-1)) dX10_drawn_31 rfl ?_
      refine rI hX (pc := 32) hT (Nat.le_refl 0) (Nat.le_refl 0) dX10_drawn_32 ?_
      exact ⟨(Kp_rf (a := 0) (b := 49)), (Kp_rf (a := 0) (b := 49)), hC⟩
    · simp only [w32_mod] at h_11
      refine ww_iload_n hX (pc := 14) dX10_drawn_14 rfl ?_
      refine ww_aload_n hX (pc := 15) dX10_drawn_15 rfl ?_
      refine ww_getI hX (pc := 16) fX10_298 (by decide) (xs_0 hL) dX10_drawn_16 ?_
      refine ww_icmp_ge hX (pc := 19) (tgt := 31) dX10_drawn_19 (by decide) (fun h_19 => ?_) (fun h_19 => ?_)
      · simp only [w32_mod] at h_19
        refine ww_iconst hX (pc := 31) (x := (-1)) dX10_drawn_31 rfl ?_
        refine rI hX (pc := 32) hT (Nat.le_refl 0) (Nat.le_refl 0) dX10_drawn_32 ?_
        exact ⟨(Kp_rf (a := 0) (b := 49)), (Kp_rf (a := 0) (b := 49)), hC⟩
      · simp only [w32_mod] at h_19
        refine ww_aload_n hX (pc := 22) dX10_drawn_22 rfl ?_
        refine ww_getR hX (pc := 23) fX10_79 (by decide) (xs_0 hL) (xr_0_10 hL) dX10_drawn_23 ?_
        refine ww_iload_n hX (pc := 26) dX10_drawn_26 rfl ?_
        refine ww_iald hX (pc := 27) (xs_47 hL) (by decide) (by omega) (by omega) dX10_drawn_27 ?_
        refine ww_goto hX (pc := 28) (tgt := 32) dX10_drawn_28 (by decide) ?_
        refine rI hX (pc := 32) hT (Nat.le_refl 0) (Nat.le_refl 0) dX10_drawn_32 ?_
        exact ⟨(Kp_rf (a := 0) (b := 49)), (Kp_rf (a := 0) (b := 49)), hC⟩
  · simp only [w32_mod] at h_2
    refine ww_aload_n hX (pc := 5) dX10_drawn_5 rfl ?_
    refine ww_getI hX (pc := 6) fX10_85 (by decide) (xs_0 hL) dX10_drawn_6 ?_
    refine rI hX (pc := 9) hT (Nat.le_refl 0) (Nat.le_refl 0) dX10_drawn_9 ?_
    exact ⟨(Kp_rf (a := 0) (b := 49)), (Kp_rf (a := 0) (b := 49)), hC⟩
set_option maxHeartbeats 4000000 in
set_option maxRecDepth 20000 in
theorem c_X10_want (l0 : Launch) {Ia Ja : aI1} {Ra : aR1} {Sa : aS1} (hL : LY Ra Sa) (hC : CX Ia) {a : Int} (ha0 : -2147483648 ≤ a) (ha1 : a < 2147483648)  : CT l0 10 0 0 mX10_want [kR (some 0), kI a] Ia Ja Ra Sa (cI (fun x I' J' => Kp 0 49 Ia I' ∧ Kp 0 49 Ja J' ∧ CX I') Ra Sa) := by
  refine ct_in pn_X10 (Nat.le_of_ble_eq_true rfl) (fun X hX hT hIn => ?_)
  have hX : aK l0 X cX10_want 2 RX10 (some .int) 10 0 0 := hX
  change WW X 0 [some (kR (some 0)), some (kI a)] [] Ia Ja Ra Sa 0 0
  have hI := hC.1
  have hq := XI_o hI
  refine ww_aload_n hX (pc := 0) dX10_want_0 rfl ?_
  refine ww_getR hX (pc := 1) fX10_10 (by decide) (xs_0 hL) (xr_0_0 hL) dX10_want_1 ?_
  refine ww_iload_n hX (pc := 4) dX10_want_4 rfl ?_
  refine vI1 hX (pc := 5) sX10_134 (xs_1 hL) (c_X1_isNews l0 hL hC.1 (by omega)) (by decide) (Nat.le_refl 0) (Nat.le_refl 0) (Nat.le_of_ble_eq_true rfl) dX10_want_5 (fun x_5 I_5 J_5 h_5 => ?_)
  obtain ⟨rfl, rfl, h_5⟩ := h_5
  refine ww_if_ne hX (pc := 8) (tgt := 17) dX10_want_8 (by decide) (fun h_8 => ?_) (fun h_8 => ?_)
  · simp only [w32_mod] at h_8
    refine ww_aload_n hX (pc := 17) dX10_want_17 rfl ?_
    refine ww_getR hX (pc := 18) fX10_10 (by decide) (xs_0 hL) (xr_0_0 hL) dX10_want_18 ?_
    refine ww_getI hX (pc := 21) fX10_275 (by decide) (xs_1 hL) dX10_want_21 ?_
    refine ww_bipush hX (pc := 24) (x := 16) dX10_want_24 (by decide) ?_
    refine ww_icmp_lt hX (pc := 26) (tgt := 36) dX10_want_26 (by decide) (fun h_26 => ?_) (fun h_26 => ?_)
    · simp only [w32_mod] at h_26
      refine ww_aload_n hX (pc := 36) dX10_want_36 rfl ?_
      refine ww_getR hX (pc := 37) fX10_10 (by decide) (xs_0 hL) (xr_0_0 hL) dX10_want_37 ?_
      refine ww_getR hX (pc := 40) fX10_278 (by decide) (xs_1 hL) (xr_1_4 hL) dX10_want_40 ?_
      refine ww_aload_n hX (pc := 43) dX10_want_43 rfl ?_
      refine ww_getR hX (pc := 44) fX10_10 (by decide) (xs_0 hL) (xr_0_0 hL) dX10_want_44 ?_
      refine ww_getI hX (pc := 47) fX10_275 (by decide) (xs_1 hL) dX10_want_47 ?_
      refine ww_iload_n hX (pc := 50) dX10_want_50 rfl ?_
      refine ww_iast hX (pc := 51) (xs_6 hL) (by decide) (by omega) (by omega) dX10_want_51 ?_
      refine ww_nmH (fun I_51 eI_51 => ?_)
      have kI_51 : Kp 0 49 Ia I_51 := by rw [eI_51]; exact Kp_up (Kp_rf (a := 0) (b := 49)) _ _ (by decide)
      have cI_51 : CX I_51 := by rw [eI_51]; exact CX_up hC (by decide)
      have qI_51 := XI_o cI_51.1
      have r5_I_51 : I_51 1 5 = Ia 1 5 := by rw [eI_51, up2_off _ _ _ (by decide)]
      have r6_I_51 : I_51 1 6 = Ia 1 6 := by rw [eI_51, up2_off _ _ _ (by decide)]
      have r8_I_51 : I_51 1 8 = Ia 1 8 := by rw [eI_51, up2_off _ _ _ (by decide)]
      have r9_I_51 : I_51 1 9 = Ia 1 9 := by rw [eI_51, up2_off _ _ _ (by decide)]
      have r10_I_51 : I_51 1 10 = Ia 1 10 := by rw [eI_51, up2_off _ _ _ (by decide)]
      have r11_I_51 : I_51 1 11 = Ia 1 11 := by rw [eI_51, up2_off _ _ _ (by decide)]
      have rf_I_51 : FU (I_51 1 5) = FU (Ia 1 5) := by rw [r5_I_51]
      refine ww_aload_n hX (pc := 52) dX10_want_52 rfl ?_
      refine ww_getR hX (pc := 53) fX10_10 (by decide) (xs_0 hL) (xr_0_0 hL) dX10_want_53 ?_
      refine ww_dupR hX (pc := 56) dX10_want_56 ?_
      refine ww_getI hX (pc := 57) fX10_275 (by decide) (xs_1 hL) dX10_want_57 ?_
      refine ww_iconst hX (pc := 60) (x := 1) dX10_want_60 rfl ?_
      refine ww_iadd hX (pc := 61) dX10_want_61 ?_
      refine ww_putI hX (pc := 62) (fun h9 => absurd h9 (by decide)) gX10_275 rfl (xs_1 hL) dX10_want_62 ?_
      refine ww_nmH (fun I_62 eI_62 => ?_)
      have kI_62 : Kp 0 49 Ia I_62 := by rw [eI_62]; exact Kp_up kI_51 _ _ (by decide)
      have cI_62 : CX I_62 := by rw [eI_62]; exact CX_x cI_51 (XI_1_11 cI_51.1 (by omega) (by omega)) (by decide)
      have qI_62 := XI_o cI_62.1
      have r5_I_62 : I_62 1 5 = I_51 1 5 := by rw [eI_62, up2_n _ _ (Or.inr (by decide))]
      have r6_I_62 : I_62 1 6 = I_51 1 6 := by rw [eI_62, up2_n _ _ (Or.inr (by decide))]
      have r8_I_62 : I_62 1 8 = I_51 1 8 := by rw [eI_62, up2_n _ _ (Or.inr (by decide))]
      have r9_I_62 : I_62 1 9 = I_51 1 9 := by rw [eI_62, up2_n _ _ (Or.inr (by decide))]
      have r10_I_62 : I_62 1 10 = I_51 1 10 := by rw [eI_62, up2_n _ _ (Or.inr (by decide))]
      skip
      have rf_I_62 : FU (I_62 1 5) = FU (I_51 1 5) := by rw [r5_I_62]
      refine ww_aload_n hX (pc := 65) dX10_want_65 rfl ?_
      refine ww_getR hX (pc := 66) fX10_64 (by decide) (xs_0 hL) (xr_0_7 hL) dX10_want_66 ?_
      refine ww_iconst hX (pc := 69) (x := 0) dX10_want_69 rfl ?_
      refine ww_putZ hX (pc := 70) (fun h9 => absurd h9 (by decide)) gX10_128 rfl (by decide) (xs_33 hL) dX10_want_70 ?_
      refine ww_nmH (fun I_70 eI_70 => ?_)
      have kI_70 : Kp 0 49 Ia I_70 := by rw [eI_70]; exact Kp_up kI_62 _ _ (by decide)
      have cI_70 : CX I_70 := by rw [eI_70]; exact CX_up cI_62 (by decide)
      have qI_70 := XI_o cI_70.1
      have r5_I_70 : I_70 1 5 = I_62 1 5 := by rw [eI_70, up2_off _ _ _ (by decide)]
      have r6_I_70 : I_70 1 6 = I_62 1 6 := by rw [eI_70, up2_off _ _ _ (by decide)]
      have r8_I_70 : I_70 1 8 = I_62 1 8 := by rw [eI_70, up2_off _ _ _ (by decide)]
      have r9_I_70 : I_70 1 9 = I_62 1 9 := by rw [eI_70, up2_off _ _ _ (by decide)]
      have r10_I_70 : I_70 1 10 = I_62 1 10 := by rw [eI_70, up2_off _ _ _ (by decide)]
      have r11_I_70 : I_70 1 11 = I_62 1 11 := by rw [eI_70, up2_off _ _ _ (by decide)]
      have rf_I_70 : FU (I_70 1 5) = FU (I_62 1 5) := by rw [r5_I_70]
      refine ww_aload_n hX (pc := 73) dX10_want_73 rfl ?_
      refine ww_aload_n hX (pc := 74) dX10_want_74 rfl ?_
      refine ww_getR hX (pc := 75) fX10_10 (by decide) (xs_0 hL) (xr_0_0 hL) dX10_want_75 ?_
      refine ww_getI hX (pc := 78) fX10_275 (by decide) (xs_1 hL) dX10_want_78 ?_
      refine vI1 hX (pc := 81) sX10_114 (xs_0 hL) (c_X10_accept l0 hL cI_70) (by decide) (Nat.le_refl 0) (Nat.le_refl 0) (Nat.le_of_ble_eq_true rfl) dX10_want_81 (fun x_81 I_81 J_81 h_81 => ?_)
      have kI_81 : Kp 0 49 Ia I_81 := Kp_tr kI_70 (Kp_wd h_81.1 (by decide) (by decide))
      have kJ_81 : Kp 0 49 Ja J_81 := Kp_tr (Kp_rf (a := 0) (b := 49)) (Kp_wd h_81.2.1 (by decide) (by decide))
      have cI_81 : CX I_81 := h_81.2.2.1
      have qI_81 := XI_o cI_81.1
      refine rI hX (pc := 84) hT (Nat.le_refl 0) (Nat.le_refl 0) dX10_want_84 ?_
      exact ⟨kI_81, kJ_81, cI_81⟩
    · simp only [w32_mod] at h_26
      refine ww_aload_n hX (pc := 29) dX10_want_29 rfl ?_
      refine ww_bipush hX (pc := 30) (x := (-5)) dX10_want_30 (by decide) ?_
      refine vI1 hX (pc := 32) sX10_89 (xs_0 hL) (c_X10_refuse l0 hL hC (by omega) (by omega)) (by decide) (Nat.le_refl 0) (Nat.le_refl 0) (Nat.le_of_ble_eq_true rfl) dX10_want_32 (fun x_32 I_32 J_32 h_32 => ?_)
      have kI_32 : Kp 0 49 Ia I_32 := Kp_tr (Kp_rf (a := 0) (b := 49)) (Kp_wd h_32.1 (by decide) (by decide))
      have kJ_32 : Kp 0 49 Ja J_32 := Kp_tr (Kp_rf (a := 0) (b := 49)) (Kp_wd h_32.2.1 (by decide) (by decide))
      have cI_32 : CX I_32 := h_32.2.2.1
      have qI_32 := XI_o cI_32.1
      refine rI hX (pc := 35) hT (Nat.le_refl 0) (Nat.le_refl 0) dX10_want_35 ?_
      exact ⟨kI_32, kJ_32, cI_32⟩
  · simp only [w32_mod] at h_8
    refine ww_aload_n hX (pc := 11) dX10_want_11 rfl ?_
    refine ww_iconst hX (pc := 12) (x := (-1)) dX10_want_12 rfl ?_
    refine vI1 hX (pc := 13) sX10_89 (xs_0 hL) (c_X10_refuse l0 hL hC (by omega) (by omega)) (by decide) (Nat.le_refl 0) (Nat.le_refl 0) (Nat.le_of_ble_eq_true rfl) dX10_want_13 (fun x_13 I_13 J_13 h_13 => ?_)
    have kI_13 : Kp 0 49 Ia I_13 := Kp_tr (Kp_rf (a := 0) (b := 49)) (Kp_wd h_13.1 (by decide) (by decide))
    have kJ_13 : Kp 0 49 Ja J_13 := Kp_tr (Kp_rf (a := 0) (b := 49)) (Kp_wd h_13.2.1 (by decide) (by decide))
    have cI_13 : CX I_13 := h_13.2.2.1
    have qI_13 := XI_o cI_13.1
    refine rI hX (pc := 16) hT (Nat.le_refl 0) (Nat.le_refl 0) dX10_want_16 ?_
    exact ⟨kI_13, kJ_13, cI_13⟩
set_option maxHeartbeats 4000000 in
set_option maxRecDepth 20000 in
theorem c_X10_send (l0 : Launch) {Ia Ja : aI1} {Ra : aR1} {Sa : aS1} (hL : LY Ra Sa) (hC : CX Ia) {a b : Int} (ha0 : -2147483648 ≤ a) (ha1 : a < 2147483648) (hb0 : -2147483648 ≤ b) (hb1 : b < 2147483648)  : CT l0 10 0 0 mX10_send [kR (some 0), kI a, kI b] Ia Ja Ra Sa (cI (fun x I' J' => Kp 0 49 Ia I' ∧ Kp 0 49 Ja J' ∧ CX I') Ra Sa) := by
  refine ct_in pn_X10 (Nat.le_of_ble_eq_true rfl) (fun X hX hT hIn => ?_)
  have hX : aK l0 X cX10_send 5 RX10 (some .int) 10 0 0 := hX
  change WW X 0 [some (kR (some 0)), some (kI a), some (kI b), none, none] [] Ia Ja Ra Sa 0 0
  have hI := hC.1
  have hq := XI_o hI
  refine ww_aload_n hX (pc := 0) dX10_send_0 rfl ?_
  refine ww_getR hX (pc := 1) fX10_10 (by decide) (xs_0 hL) (xr_0_0 hL) dX10_send_1 ?_
  refine ww_iload_n hX (pc := 4) dX10_send_4 rfl ?_
  refine vI1 hX (pc := 5) sX10_134 (xs_1 hL) (c_X1_isNews l0 hL hC.1 (by omega)) (by decide) (Nat.le_refl 0) (Nat.le_refl 0) (Nat.le_of_ble_eq_true rfl) dX10_send_5 (fun x_5 I_5 J_5 h_5 => ?_)
  obtain ⟨rfl, rfl, h_5⟩ := h_5
  refine ww_if_eq hX (pc := 8) (tgt := 18) dX10_send_8 (by decide) (fun h_8 => ?_) (fun h_8 => ?_)
  · simp only [w32_mod] at h_8
    refine ww_aload_n hX (pc := 18) dX10_send_18 rfl ?_
    refine ww_iconst hX (pc := 19) (x := (-1)) dX10_send_19 rfl ?_
    refine vI1 hX (pc := 20) sX10_89 (xs_0 hL) (c_X10_refuse l0 hL hC (by omega) (by omega)) (by decide) (Nat.le_refl 0) (Nat.le_refl 0) (Nat.le_of_ble_eq_true rfl) dX10_send_20 (fun x_20 I_20 J_20 h_20 => ?_)
    have kI_20 : Kp 0 49 Ia I_20 := Kp_tr (Kp_rf (a := 0) (b := 49)) (Kp_wd h_20.1 (by decide) (by decide))
    have kJ_20 : Kp 0 49 Ja J_20 := Kp_tr (Kp_rf (a := 0) (b := 49)) (Kp_wd h_20.2.1 (by decide) (by decide))
    have cI_20 : CX I_20 := h_20.2.2.1
    have qI_20 := XI_o cI_20.1
    refine rI hX (pc := 23) hT (Nat.le_refl 0) (Nat.le_refl 0) dX10_send_23 ?_
    exact ⟨kI_20, kJ_20, cI_20⟩
  · simp only [w32_mod] at h_8
    refine ww_iload_n hX (pc := 11) dX10_send_11 rfl ?_
    refine sI1 hX (pc := 12) sX10_188 (c_X10_isManner l0 (by omega) (by omega)) (by decide) (Nat.le_refl 0) (Nat.le_refl 0) (Nat.le_of_ble_eq_true rfl) dX10_send_12 (fun x_12 I_12 J_12 h_12 => ?_)
    obtain ⟨rfl, rfl, h_12⟩ := h_12
    refine ww_if_ne hX (pc := 15) (tgt := 24) dX10_send_15 (by decide) (fun h_15 => ?_) (fun h_15 => ?_)
    · simp only [w32_mod] at h_15
      refine ww_aload_n hX (pc := 24) dX10_send_24 rfl ?_
      refine ww_getR hX (pc := 25) fX10_48 (by decide) (xs_0 hL) (xr_0_5 hL) dX10_send_25 ?_
      refine ww_iload_n hX (pc := 28) dX10_send_28 rfl ?_
      refine vV1 hX (pc := 29) sX10_191 (xs_18 hL) (c_X4_prepare l0 hL hC.1) (by decide) (Nat.le_refl 0) (Nat.le_refl 0) (Nat.le_of_ble_eq_true rfl) dX10_send_29 (fun I_29 J_29 h_29 => ?_)
      have kI_29 : Kp 0 49 Ia I_29 := Kp_tr (Kp_rf (a := 0) (b := 49)) (Kp_wd h_29.1 (by decide) (by decide))
      have kJ_29 : Kp 0 49 Ja J_29 := Kp_tr (Kp_rf (a := 0) (b := 49)) (Kp_wd h_29.2.1 (by decide) (by decide))
      have cI_29 : CX I_29 := CX_kp hC h_29.1 (by decide) (by decide)
      have qI_29 := XI_o cI_29.1
      have r5_I_29 : I_29 1 5 = Ia 1 5 := by rw [h_29.1 1 (by decide)]
      have r6_I_29 : I_29 1 6 = Ia 1 6 := by rw [h_29.1 1 (by decide)]
      have r8_I_29 : I_29 1 8 = Ia 1 8 := by rw [h_29.1 1 (by decide)]
      have r9_I_29 : I_29 1 9 = Ia 1 9 := by rw [h_29.1 1 (by decide)]
      have r10_I_29 : I_29 1 10 = Ia 1 10 := by rw [h_29.1 1 (by decide)]
      have r11_I_29 : I_29 1 11 = Ia 1 11 := by rw [h_29.1 1 (by decide)]
      have rf_I_29 : FU (I_29 1 5) = FU (Ia 1 5) := by rw [r5_I_29]
      refine ww_aload_n hX (pc := 32) dX10_send_32 rfl ?_
      refine ww_getR hX (pc := 33) fX10_48 (by decide) (xs_0 hL) (xr_0_5 hL) dX10_send_33 ?_
      refine ww_aload_n hX (pc := 36) dX10_send_36 rfl ?_
      refine ww_getR hX (pc := 37) fX10_10 (by decide) (xs_0 hL) (xr_0_0 hL) dX10_send_37 ?_
      refine ww_getI hX (pc := 40) fX10_236 (by decide) (xs_1 hL) dX10_send_40 ?_
      refine ww_iload_n hX (pc := 43) dX10_send_43 rfl ?_
      refine ww_iload_n hX (pc := 44) dX10_send_44 rfl ?_
      refine vI3 hX (pc := 45) sX10_194 (xs_18 hL) (c_X4_choose l0 hL cI_29.1 (by omega) (by omega) (by omega) (by omega)) (by decide) (Nat.le_refl 0) (Nat.le_refl 0) (Nat.le_of_ble_eq_true rfl) dX10_send_45 (fun x_45 I_45 J_45 h_45 => ?_)
      have kI_45 : Kp 0 49 Ia I_45 := Kp_tr kI_29 (Kp_wd h_45.1 (by decide) (by decide))
      have kJ_45 : Kp 0 49 Ja J_45 := Kp_tr kJ_29 (Kp_wd h_45.2.1 (by decide) (by decide))
      have cI_45 : CX I_45 := CX_kp cI_29 h_45.1 (by decide) (by decide)
      have qI_45 := XI_o cI_45.1
      have r5_I_45 : I_45 1 5 = I_29 1 5 := by rw [h_45.1 1 (by decide)]
      have r6_I_45 : I_45 1 6 = I_29 1 6 := by rw [h_45.1 1 (by decide)]
      have r8_I_45 : I_45 1 8 = I_29 1 8 := by rw [h_45.1 1 (by decide)]
      have r9_I_45 : I_45 1 9 = I_29 1 9 := by rw [h_45.1 1 (by decide)]
      have r10_I_45 : I_45 1 10 = I_29 1 10 := by rw [h_45.1 1 (by decide)]
      have r11_I_45 : I_45 1 11 = I_29 1 11 := by rw [h_45.1 1 (by decide)]
      have rf_I_45 : FU (I_45 1 5) = FU (I_29 1 5) := by rw [r5_I_45]
      refine ww_istore_n hX (pc := 48) (lv' := [some (kR (some 0)), some (kI a), some (kI b), some (kI x_45), none]) dX10_send_48 (by decide) rfl rfl ?_
      refine ww_iload_n hX (pc := 49) dX10_send_49 rfl ?_
      refine ww_iconst hX (pc := 50) (x := (-1)) dX10_send_50 rfl ?_
      refine ww_icmp_ne hX (pc := 51) (tgt := 61) dX10_send_51 (by decide) (fun h_51 => ?_) (fun h_51 => ?_)
      · simp only [w32_mod] at h_51
        refine ww_aload_n hX (pc := 61) dX10_send_61 rfl ?_
        refine ww_getR hX (pc := 62) fX10_10 (by decide) (xs_0 hL) (xr_0_0 hL) dX10_send_62 ?_
        refine ww_getI hX (pc := 65) fX10_239 (by decide) (xs_1 hL) dX10_send_65 ?_
        refine ww_bipush hX (pc := 68) (x := 24) dX10_send_68 (by decide) ?_
        refine ww_icmp_lt hX (pc := 70) (tgt := 80) dX10_send_70 (by decide) (fun h_70 => ?_) (fun h_70 => ?_)
        · simp only [w32_mod] at h_70
          refine ww_iload_n hX (pc := 80) dX10_send_80 rfl ?_
          refine ww_aload_n hX (pc := 81) dX10_send_81 rfl ?_
          refine ww_getR hX (pc := 82) fX10_10 (by decide) (xs_0 hL) (xr_0_0 hL) dX10_send_82 ?_
          refine ww_getI hX (pc := 85) fX10_236 (by decide) (xs_1 hL) dX10_send_85 ?_
          refine ww_ixor hX (pc := 88) dX10_send_88 ?_
          refine sI1 hX (pc := 89) sX10_242 (c_J6_bitCount_0f7a4 l0) (by decide) (Nat.le_refl 0) (Nat.le_refl 0) (Nat.le_of_ble_eq_true rfl) dX10_send_89 (fun x_89 I_89 J_89 h_89 => ?_)
          obtain ⟨rfl, rfl, h_89⟩ := h_89
          refine ww_istore hX (pc := 92) (lv' := [some (kR (some 0)), some (kI a), some (kI b), some (kI x_45), some (kI x_89)]) dX10_send_92 (by decide) rfl rfl ?_
          refine ww_aload_n hX (pc := 94) dX10_send_94 rfl ?_
          refine ww_getR hX (pc := 95) fX10_10 (by decide) (xs_0 hL) (xr_0_0 hL) dX10_send_95 ?_
          refine ww_getR hX (pc := 98) fX10_247 (by decide) (xs_1 hL) (xr_1_3 hL) dX10_send_98 ?_
          refine ww_aload_n hX (pc := 101) dX10_send_101 rfl ?_
          refine ww_getR hX (pc := 102) fX10_10 (by decide) (xs_0 hL) (xr_0_0 hL) dX10_send_102 ?_
          refine ww_getI hX (pc := 105) fX10_239 (by decide) (xs_1 hL) dX10_send_105 ?_
          refine ww_iload_n hX (pc := 108) dX10_send_108 rfl ?_
          refine ww_iast hX (pc := 109) (xs_5 hL) (by decide) (by omega) (by omega) dX10_send_109 ?_
          refine ww_nmH (fun I_109 eI_109 => ?_)
          have kI_109 : Kp 0 49 Ia I_109 := by rw [eI_109]; exact Kp_up kI_45 _ _ (by decide)
          have cI_109 : CX I_109 := by rw [eI_109]; exact CX_up cI_45 (by decide)
          have qI_109 := XI_o cI_109.1
          have r5_I_109 : I_109 1 5 = I_45 1 5 := by rw [eI_109, up2_off _ _ _ (by decide)]
          have r6_I_109 : I_109 1 6 = I_45 1 6 := by rw [eI_109, up2_off _ _ _ (by decide)]
          have r8_I_109 : I_109 1 8 = I_45 1 8 := by rw [eI_109, up2_off _ _ _ (by decide)]
          have r9_I_109 : I_109 1 9 = I_45 1 9 := by rw [eI_109, up2_off _ _ _ (by decide)]
          have r10_I_109 : I_109 1 10 = I_45 1 10 := by rw [eI_109, up2_off _ _ _ (by decide)]
          have r11_I_109 : I_109 1 11 = I_45 1 11 := by rw [eI_109, up2_off _ _ _ (by decide)]
          have rf_I_109 : FU (I_109 1 5) = FU (I_45 1 5) := by rw [r5_I_109]
          refine ww_aload_n hX (pc := 110) dX10_send_110 rfl ?_
          refine ww_getR hX (pc := 111) fX10_10 (by decide) (xs_0 hL) (xr_0_0 hL) dX10_send_111 ?_
          refine ww_dupR hX (pc := 114) dX10_send_114 ?_
          refine ww_getI hX (pc := 115) fX10_239 (by decide) (xs_1 hL) dX10_send_115 ?_
          refine ww_iconst hX (pc := 118) (x := 1) dX10_send_118 rfl ?_
          refine ww_iadd hX (pc := 119) dX10_send_119 ?_
          refine ww_putI hX (pc := 120) (fun h9 => absurd h9 (by decide)) gX10_239 rfl (xs_1 hL) dX10_send_120 ?_
          refine ww_nmH (fun I_120 eI_120 => ?_)
          have kI_120 : Kp 0 49 Ia I_120 := by rw [eI_120]; exact Kp_up kI_109 _ _ (by decide)
          have cI_120 : CX I_120 := by rw [eI_120]; exact CX_x cI_109 (XI_1_10 cI_109.1 (by omega) (by omega)) (by decide)
          have qI_120 := XI_o cI_120.1
          have r5_I_120 : I_120 1 5 = I_109 1 5 := by rw [eI_120, up2_n _ _ (Or.inr (by decide))]
          have r6_I_120 : I_120 1 6 = I_109 1 6 := by rw [eI_120, up2_n _ _ (Or.inr (by decide))]
          have r8_I_120 : I_120 1 8 = I_109 1 8 := by rw [eI_120, up2_n _ _ (Or.inr (by decide))]
          have r9_I_120 : I_120 1 9 = I_109 1 9 := by rw [eI_120, up2_n _ _ (Or.inr (by decide))]
          skip
          have r11_I_120 : I_120 1 11 = I_109 1 11 := by rw [eI_120, up2_n _ _ (Or.inr (by decide))]
          have rf_I_120 : FU (I_120 1 5) = FU (I_109 1 5) := by rw [r5_I_120]
          refine ww_aload_n hX (pc := 123) dX10_send_123 rfl ?_
          refine ww_getR hX (pc := 124) fX10_10 (by decide) (xs_0 hL) (xr_0_0 hL) dX10_send_124 ?_
          refine ww_iload_n hX (pc := 127) dX10_send_127 rfl ?_
          refine ww_putI hX (pc := 128) (fun h9 => absurd h9 (by decide)) gX10_236 rfl (xs_1 hL) dX10_send_128 ?_
          refine ww_nmH (fun I_128 eI_128 => ?_)
          have kI_128 : Kp 0 49 Ia I_128 := by rw [eI_128]; exact Kp_up kI_120 _ _ (by decide)
          have cI_128 : CX I_128 := by rw [eI_128]; exact CX_x cI_120 (XI_1_8 cI_120.1 (by omega) (by omega)) (by decide)
          have qI_128 := XI_o cI_128.1
          have r5_I_128 : I_128 1 5 = I_120 1 5 := by rw [eI_128, up2_n _ _ (Or.inr (by decide))]
          have r6_I_128 : I_128 1 6 = I_120 1 6 := by rw [eI_128, up2_n _ _ (Or.inr (by decide))]
          skip
          have r9_I_128 : I_128 1 9 = I_120 1 9 := by rw [eI_128, up2_n _ _ (Or.inr (by decide))]
          have r10_I_128 : I_128 1 10 = I_120 1 10 := by rw [eI_128, up2_n _ _ (Or.inr (by decide))]
          have r11_I_128 : I_128 1 11 = I_120 1 11 := by rw [eI_128, up2_n _ _ (Or.inr (by decide))]
          have rf_I_128 : FU (I_128 1 5) = FU (I_120 1 5) := by rw [r5_I_128]
          refine ww_aload_n hX (pc := 131) dX10_send_131 rfl ?_
          refine ww_iload hX (pc := 132) dX10_send_132 rfl ?_
          refine vI1 hX (pc := 134) sX10_114 (xs_0 hL) (c_X10_accept l0 hL cI_128) (by decide) (Nat.le_refl 0) (Nat.le_refl 0) (Nat.le_of_ble_eq_true rfl) dX10_send_134 (fun x_134 I_134 J_134 h_134 => ?_)
          have kI_134 : Kp 0 49 Ia I_134 := Kp_tr kI_128 (Kp_wd h_134.1 (by decide) (by decide))
          have kJ_134 : Kp 0 49 Ja J_134 := Kp_tr kJ_45 (Kp_wd h_134.2.1 (by decide) (by decide))
          have cI_134 : CX I_134 := h_134.2.2.1
          have qI_134 := XI_o cI_134.1
          refine rI hX (pc := 137) hT (Nat.le_refl 0) (Nat.le_refl 0) dX10_send_137 ?_
          exact ⟨kI_134, kJ_134, cI_134⟩
        · simp only [w32_mod] at h_70
          refine ww_aload_n hX (pc := 73) dX10_send_73 rfl ?_
          refine ww_bipush hX (pc := 74) (x := (-5)) dX10_send_74 (by decide) ?_
          refine vI1 hX (pc := 76) sX10_89 (xs_0 hL) (c_X10_refuse l0 hL cI_45 (by omega) (by omega)) (by decide) (Nat.le_refl 0) (Nat.le_refl 0) (Nat.le_of_ble_eq_true rfl) dX10_send_76 (fun x_76 I_76 J_76 h_76 => ?_)
          have kI_76 : Kp 0 49 Ia I_76 := Kp_tr kI_45 (Kp_wd h_76.1 (by decide) (by decide))
          have kJ_76 : Kp 0 49 Ja J_76 := Kp_tr kJ_45 (Kp_wd h_76.2.1 (by decide) (by decide))
          have cI_76 : CX I_76 := h_76.2.2.1
          have qI_76 := XI_o cI_76.1
          refine rI hX (pc := 79) hT (Nat.le_refl 0) (Nat.le_refl 0) dX10_send_79 ?_
          exact ⟨kI_76, kJ_76, cI_76⟩
      · simp only [w32_mod] at h_51
        refine ww_aload_n hX (pc := 54) dX10_send_54 rfl ?_
        refine ww_bipush hX (pc := 55) (x := (-3)) dX10_send_55 (by decide) ?_
        refine vI1 hX (pc := 57) sX10_89 (xs_0 hL) (c_X10_refuse l0 hL cI_45 (by omega) (by omega)) (by decide) (Nat.le_refl 0) (Nat.le_refl 0) (Nat.le_of_ble_eq_true rfl) dX10_send_57 (fun x_57 I_57 J_57 h_57 => ?_)
        have kI_57 : Kp 0 49 Ia I_57 := Kp_tr kI_45 (Kp_wd h_57.1 (by decide) (by decide))
        have kJ_57 : Kp 0 49 Ja J_57 := Kp_tr kJ_45 (Kp_wd h_57.2.1 (by decide) (by decide))
        have cI_57 : CX I_57 := h_57.2.2.1
        have qI_57 := XI_o cI_57.1
        refine rI hX (pc := 60) hT (Nat.le_refl 0) (Nat.le_refl 0) dX10_send_60 ?_
        exact ⟨kI_57, kJ_57, cI_57⟩
    · simp only [w32_mod] at h_15
      refine ww_aload_n hX (pc := 18) dX10_send_18 rfl ?_
      refine ww_iconst hX (pc := 19) (x := (-1)) dX10_send_19 rfl ?_
      refine vI1 hX (pc := 20) sX10_89 (xs_0 hL) (c_X10_refuse l0 hL hC (by omega) (by omega)) (by decide) (Nat.le_refl 0) (Nat.le_refl 0) (Nat.le_of_ble_eq_true rfl) dX10_send_20 (fun x_20 I_20 J_20 h_20 => ?_)
      have kI_20 : Kp 0 49 Ia I_20 := Kp_tr (Kp_rf (a := 0) (b := 49)) (Kp_wd h_20.1 (by decide) (by decide))
      have kJ_20 : Kp 0 49 Ja J_20 := Kp_tr (Kp_rf (a := 0) (b := 49)) (Kp_wd h_20.2.1 (by decide) (by decide))
      have cI_20 : CX I_20 := h_20.2.2.1
      have qI_20 := XI_o cI_20.1
      refine rI hX (pc := 23) hT (Nat.le_refl 0) (Nat.le_refl 0) dX10_send_23 ?_
      exact ⟨kI_20, kJ_20, cI_20⟩
set_option maxHeartbeats 4000000 in
set_option maxRecDepth 20000 in
theorem c_X10_make (l0 : Launch) {Ia Ja : aI1} {Ra : aR1} {Sa : aS1} (hL : LY Ra Sa) (hC : CX Ia) {a b c : Int} (ha0 : -2147483648 ≤ a) (ha1 : a < 2147483648) (hb0 : -2147483648 ≤ b) (hb1 : b < 2147483648) (hc0 : -2147483648 ≤ c) (hc1 : c < 2147483648)  : CT l0 10 0 0 mX10_make [kR (some 0), kI a, kI b, kI c] Ia Ja Ra Sa (cI (fun x I' J' => Kp 0 49 Ia I' ∧ Kp 0 49 Ja J' ∧ CX I') Ra Sa) := by
  refine ct_in pn_X10 (Nat.le_of_ble_eq_true rfl) (fun X hX hT hIn => ?_)
  have hX : aK l0 X cX10_make 4 RX10 (some .int) 10 0 0 := hX
  change WW X 0 [some (kR (some 0)), some (kI a), some (kI b), some (kI c)] [] Ia Ja Ra Sa 0 0
  have hI := hC.1
  have hq := XI_o hI
  refine ww_iload_n hX (pc := 0) dX10_make_0 rfl ?_
  refine ww_iload_n hX (pc := 1) dX10_make_1 rfl ?_
  refine ww_iload_n hX (pc := 2) dX10_make_2 rfl ?_
  refine sI3 hX (pc := 3) sX10_225 (c_X2_isSearched l0 (by omega) (by omega) (by omega) (by omega) (by omega) (by omega)) (by decide) (Nat.le_refl 0) (Nat.le_refl 0) (Nat.le_of_ble_eq_true rfl) dX10_make_3 (fun x_3 I_3 J_3 h_3 => ?_)
  obtain ⟨rfl, rfl, h_3⟩ := h_3
  refine ww_if_ne hX (pc := 6) (tgt := 15) dX10_make_6 (by decide) (fun h_6 => ?_) (fun h_6 => ?_)
  · simp only [w32_mod] at h_6
    refine ww_iload_n hX (pc := 15) dX10_make_15 rfl ?_
    refine ww_aload_n hX (pc := 16) dX10_make_16 rfl ?_
    refine ww_getR hX (pc := 17) fX10_10 (by decide) (xs_0 hL) (xr_0_0 hL) dX10_make_17 ?_
    refine ww_getI hX (pc := 20) fX10_93 (by decide) (xs_1 hL) dX10_make_20 ?_
    refine ww_icmp_ne hX (pc := 23) (tgt := 50) dX10_make_23 (by decide) (fun h_23 => ?_) (fun h_23 => ?_)
    · simp only [w32_mod] at h_23
      refine ww_aload_n hX (pc := 50) dX10_make_50 rfl ?_
      refine ww_bipush hX (pc := 51) (x := (-3)) dX10_make_51 (by decide) ?_
      refine vI1 hX (pc := 53) sX10_89 (xs_0 hL) (c_X10_refuse l0 hL hC (by omega) (by omega)) (by decide) (Nat.le_refl 0) (Nat.le_refl 0) (Nat.le_of_ble_eq_true rfl) dX10_make_53 (fun x_53 I_53 J_53 h_53 => ?_)
      have kI_53 : Kp 0 49 Ia I_53 := Kp_tr (Kp_rf (a := 0) (b := 49)) (Kp_wd h_53.1 (by decide) (by decide))
      have kJ_53 : Kp 0 49 Ja J_53 := Kp_tr (Kp_rf (a := 0) (b := 49)) (Kp_wd h_53.2.1 (by decide) (by decide))
      have cI_53 : CX I_53 := h_53.2.2.1
      have qI_53 := XI_o cI_53.1
      refine rI hX (pc := 56) hT (Nat.le_refl 0) (Nat.le_refl 0) dX10_make_56 ?_
      exact ⟨kI_53, kJ_53, cI_53⟩
    · simp only [w32_mod] at h_23
      refine ww_iload_n hX (pc := 26) dX10_make_26 rfl ?_
      refine ww_aload_n hX (pc := 27) dX10_make_27 rfl ?_
      refine ww_getR hX (pc := 28) fX10_10 (by decide) (xs_0 hL) (xr_0_0 hL) dX10_make_28 ?_
      refine ww_getI hX (pc := 31) fX10_117 (by decide) (xs_1 hL) dX10_make_31 ?_
      refine ww_icmp_ne hX (pc := 34) (tgt := 50) dX10_make_34 (by decide) (fun h_34 => ?_) (fun h_34 => ?_)
      · simp only [w32_mod] at h_34
        refine ww_aload_n hX (pc := 50) dX10_make_50 rfl ?_
        refine ww_bipush hX (pc := 51) (x := (-3)) dX10_make_51 (by decide) ?_
        refine vI1 hX (pc := 53) sX10_89 (xs_0 hL) (c_X10_refuse l0 hL hC (by omega) (by omega)) (by decide) (Nat.le_refl 0) (Nat.le_refl 0) (Nat.le_of_ble_eq_true rfl) dX10_make_53 (fun x_53 I_53 J_53 h_53 => ?_)
        have kI_53 : Kp 0 49 Ia I_53 := Kp_tr (Kp_rf (a := 0) (b := 49)) (Kp_wd h_53.1 (by decide) (by decide))
        have kJ_53 : Kp 0 49 Ja J_53 := Kp_tr (Kp_rf (a := 0) (b := 49)) (Kp_wd h_53.2.1 (by decide) (by decide))
        have cI_53 : CX I_53 := h_53.2.2.1
        have qI_53 := XI_o cI_53.1
        refine rI hX (pc := 56) hT (Nat.le_refl 0) (Nat.le_refl 0) dX10_make_56 ?_
        exact ⟨kI_53, kJ_53, cI_53⟩
      · simp only [w32_mod] at h_34
        refine ww_aload_n hX (pc := 37) dX10_make_37 rfl ?_
        refine ww_getR hX (pc := 38) fX10_71 (by decide) (xs_0 hL) (xr_0_8 hL) dX10_make_38 ?_
        refine ww_iload_n hX (pc := 41) dX10_make_41 rfl ?_
        refine ww_iload_n hX (pc := 42) dX10_make_42 rfl ?_
        refine ww_iload_n hX (pc := 43) dX10_make_43 rfl ?_
        refine vI3 hX (pc := 44) sX10_229 (xs_37 hL) (c2_X2_countCodes l0 hL (by omega) (by omega) (by omega) (by omega) (by omega) (by omega) hC.2.2) (by decide) (Nat.le_refl 0) (Nat.le_refl 0) (Nat.le_of_ble_eq_true rfl) dX10_make_44 (fun x_44 I_44 J_44 h_44 => ?_)
        have kI_44 : Kp 0 49 Ia I_44 := Kp_tr (Kp_rf (a := 0) (b := 49)) (Kp_wd h_44.1 (by decide) (by decide))
        have kJ_44 : Kp 0 49 Ja J_44 := Kp_tr (Kp_rf (a := 0) (b := 49)) (Kp_wd h_44.2.1 (by decide) (by decide))
        have cI_44 : CX I_44 := CX_cs hC h_44.1 h_44.2.2.2
        have qI_44 := XI_o cI_44.1
        have r5_I_44 : I_44 1 5 = Ia 1 5 := by rw [h_44.1 1 (by decide)]
        have r6_I_44 : I_44 1 6 = Ia 1 6 := by rw [h_44.1 1 (by decide)]
        have r8_I_44 : I_44 1 8 = Ia 1 8 := by rw [h_44.1 1 (by decide)]
        have r9_I_44 : I_44 1 9 = Ia 1 9 := by rw [h_44.1 1 (by decide)]
        have r10_I_44 : I_44 1 10 = Ia 1 10 := by rw [h_44.1 1 (by decide)]
        have r11_I_44 : I_44 1 11 = Ia 1 11 := by rw [h_44.1 1 (by decide)]
        have rf_I_44 : FU (I_44 1 5) = FU (Ia 1 5) := by rw [r5_I_44]
        refine ww_if_ne hX (pc := 47) (tgt := 57) dX10_make_47 (by decide) (fun h_47 => ?_) (fun h_47 => ?_)
        · simp only [w32_mod] at h_47
          refine ww_aload_n hX (pc := 57) dX10_make_57 rfl ?_
          refine ww_getR hX (pc := 58) fX10_71 (by decide) (xs_0 hL) (xr_0_8 hL) dX10_make_58 ?_
          refine ww_iload_n hX (pc := 61) dX10_make_61 rfl ?_
          refine ww_iload_n hX (pc := 62) dX10_make_62 rfl ?_
          refine ww_iload_n hX (pc := 63) dX10_make_63 rfl ?_
          refine ww_aload_n hX (pc := 64) dX10_make_64 rfl ?_
          refine ww_getR hX (pc := 65) fX10_10 (by decide) (xs_0 hL) (xr_0_0 hL) dX10_make_65 ?_
          refine ww_getR hX (pc := 68) fX10_137 (by decide) (xs_1 hL) (xr_1_1 hL) dX10_make_68 ?_
          refine vV4 hX (pc := 71) sX10_232 (xs_37 hL) (c_X2_copyFirst l0 hL (by omega) (by omega) (by omega) (by omega) (by omega) (by omega) cI_44.2.2 cI_44.1.2.2.2.2.2.2.2.2.2.1) (by decide) (Nat.le_refl 0) (Nat.le_refl 0) (Nat.le_of_ble_eq_true rfl) dX10_make_71 (fun I_71 J_71 h_71 => ?_)
          have kI_71 : Kp 0 49 Ia I_71 := fun q hq => (h_71.1 q (by omega) (by omega)).trans (kI_44 q hq)
          have kJ_71 : Kp 0 49 Ja J_71 := Kp_tr kJ_44 (Kp_wd h_71.2.1 (by decide) (by decide))
          have cI_71 : CX I_71 := CX_code cI_44 h_71.1 h_71.2.2.1 h_71.2.2.2
          refine ww_aload_n hX (pc := 74) dX10_make_74 rfl ?_
          refine vV0 hX (pc := 75) sX10_111 (xs_0 hL) (c_X10_codeChanged l0 hL cI_71) (by decide) (Nat.le_refl 0) (Nat.le_refl 0) (Nat.le_of_ble_eq_true rfl) dX10_make_75 (fun I_75 J_75 h_75 => ?_)
          have kI_75 : Kp 0 49 Ia I_75 := Kp_tr kI_71 (Kp_wd h_75.1 (by decide) (by decide))
          have kJ_75 : Kp 0 49 Ja J_75 := Kp_tr kJ_71 (Kp_wd h_75.2.1 (by decide) (by decide))
          have cI_75 : CX I_75 := h_75.2.2
          have qI_75 := XI_o cI_75.1
          refine ww_aload_n hX (pc := 78) dX10_make_78 rfl ?_
          refine ww_iconst hX (pc := 79) (x := 0) dX10_make_79 rfl ?_
          refine vI1 hX (pc := 80) sX10_114 (xs_0 hL) (c_X10_accept l0 hL cI_75) (by decide) (Nat.le_refl 0) (Nat.le_refl 0) (Nat.le_of_ble_eq_true rfl) dX10_make_80 (fun x_80 I_80 J_80 h_80 => ?_)
          have kI_80 : Kp 0 49 Ia I_80 := Kp_tr kI_75 (Kp_wd h_80.1 (by decide) (by decide))
          have kJ_80 : Kp 0 49 Ja J_80 := Kp_tr kJ_75 (Kp_wd h_80.2.1 (by decide) (by decide))
          have cI_80 : CX I_80 := h_80.2.2.1
          have qI_80 := XI_o cI_80.1
          refine rI hX (pc := 83) hT (Nat.le_refl 0) (Nat.le_refl 0) dX10_make_83 ?_
          exact ⟨kI_80, kJ_80, cI_80⟩
        · simp only [w32_mod] at h_47
          refine ww_aload_n hX (pc := 50) dX10_make_50 rfl ?_
          refine ww_bipush hX (pc := 51) (x := (-3)) dX10_make_51 (by decide) ?_
          refine vI1 hX (pc := 53) sX10_89 (xs_0 hL) (c_X10_refuse l0 hL cI_44 (by omega) (by omega)) (by decide) (Nat.le_refl 0) (Nat.le_refl 0) (Nat.le_of_ble_eq_true rfl) dX10_make_53 (fun x_53 I_53 J_53 h_53 => ?_)
          have kI_53 : Kp 0 49 Ia I_53 := Kp_tr kI_44 (Kp_wd h_53.1 (by decide) (by decide))
          have kJ_53 : Kp 0 49 Ja J_53 := Kp_tr kJ_44 (Kp_wd h_53.2.1 (by decide) (by decide))
          have cI_53 : CX I_53 := h_53.2.2.1
          have qI_53 := XI_o cI_53.1
          refine rI hX (pc := 56) hT (Nat.le_refl 0) (Nat.le_refl 0) dX10_make_56 ?_
          exact ⟨kI_53, kJ_53, cI_53⟩
  · simp only [w32_mod] at h_6
    refine ww_aload_n hX (pc := 9) dX10_make_9 rfl ?_
    refine ww_iconst hX (pc := 10) (x := (-1)) dX10_make_10 rfl ?_
    refine vI1 hX (pc := 11) sX10_89 (xs_0 hL) (c_X10_refuse l0 hL hC (by omega) (by omega)) (by decide) (Nat.le_refl 0) (Nat.le_refl 0) (Nat.le_of_ble_eq_true rfl) dX10_make_11 (fun x_11 I_11 J_11 h_11 => ?_)
    have kI_11 : Kp 0 49 Ia I_11 := Kp_tr (Kp_rf (a := 0) (b := 49)) (Kp_wd h_11.1 (by decide) (by decide))
    have kJ_11 : Kp 0 49 Ja J_11 := Kp_tr (Kp_rf (a := 0) (b := 49)) (Kp_wd h_11.2.1 (by decide) (by decide))
    have cI_11 : CX I_11 := h_11.2.2.1
    have qI_11 := XI_o cI_11.1
    refine rI hX (pc := 14) hT (Nat.le_refl 0) (Nat.le_refl 0) dX10_make_14 ?_
    exact ⟨kI_11, kJ_11, cI_11⟩
set_option maxHeartbeats 4000000 in
set_option maxRecDepth 20000 in
theorem c_X10_trail (l0 : Launch) {Ia Ja : aI1} {Ra : aR1} {Sa : aS1} (hL : LY Ra Sa) (hC : CX Ia)  : CT l0 10 0 0 mX10_trail [kR (some 0)] Ia Ja Ra Sa (cI (fun x I' J' => Kp 0 49 Ia I' ∧ Kp 0 49 Ja J' ∧ CX I') Ra Sa) := by
  refine ct_in pn_X10 (Nat.le_of_ble_eq_true rfl) (fun X hX hT hIn => ?_)
  have hX : aK l0 X cX10_trail 2 RX10 (some .int) 10 0 0 := hX
  change WW X 0 [some (kR (some 0)), none] [] Ia Ja Ra Sa 0 0
  have hI := hC.1
  have hq := XI_o hI
  refine ww_aload_n hX (pc := 0) dX10_trail_0 rfl ?_
  refine ww_getR hX (pc := 1) fX10_23 (by decide) (xs_0 hL) (xr_0_2 hL) dX10_trail_1 ?_
  refine ww_getI hX (pc := 4) fX10_148 (by decide) (xs_8 hL) dX10_trail_4 ?_
  refine ww_if_ne hX (pc := 7) (tgt := 17) dX10_trail_7 (by decide) (fun h_7 => ?_) (fun h_7 => ?_)
  · simp only [w32_mod] at h_7
    refine ww_aload_n hX (pc := 17) dX10_trail_17 rfl ?_
    refine ww_aload_n hX (pc := 18) dX10_trail_18 rfl ?_
    refine ww_getR hX (pc := 19) fX10_23 (by decide) (xs_0 hL) (xr_0_2 hL) dX10_trail_19 ?_
    refine ww_getI hX (pc := 22) fX10_148 (by decide) (xs_8 hL) dX10_trail_22 ?_
    refine ww_bipush hX (pc := 25) (x := 30) dX10_trail_25 (by decide) ?_
    refine ww_mmin hX (pc := 27) tb_920 tb_579 tb_13 tb_580 (by decide) (Nat.le_refl 0) (Nat.le_refl 0) (Nat.le_of_ble_eq_true rfl) dX10_trail_27 ?_
    refine ww_toI (b := min (Ia 8 1) 30) (by rw [i_min_r (by omega) (by omega) (by omega) (by omega)]) ?_
    refine ww_putI hX (pc := 30) (fun h9 => absurd h9 (by decide)) gX10_256 rfl (xs_0 hL) dX10_trail_30 ?_
    refine ww_nmH (fun I_30 eI_30 => ?_)
    have kI_30 : Kp 0 49 Ia I_30 := by rw [eI_30]; exact Kp_up (Kp_rf (a := 0) (b := 49)) _ _ (by decide)
    have cI_30 : CX I_30 := by rw [eI_30]; exact CX_x hC (XI_0_12 hC.1 (by omega) (by omega)) (by decide)
    have qI_30 := XI_o cI_30.1
    have r5_I_30 : I_30 1 5 = Ia 1 5 := by rw [eI_30, up2_off _ _ _ (by decide)]
    have r6_I_30 : I_30 1 6 = Ia 1 6 := by rw [eI_30, up2_off _ _ _ (by decide)]
    have r8_I_30 : I_30 1 8 = Ia 1 8 := by rw [eI_30, up2_off _ _ _ (by decide)]
    have r9_I_30 : I_30 1 9 = Ia 1 9 := by rw [eI_30, up2_off _ _ _ (by decide)]
    have r10_I_30 : I_30 1 10 = Ia 1 10 := by rw [eI_30, up2_off _ _ _ (by decide)]
    have r11_I_30 : I_30 1 11 = Ia 1 11 := by rw [eI_30, up2_off _ _ _ (by decide)]
    have rf_I_30 : FU (I_30 1 5) = FU (Ia 1 5) := by rw [r5_I_30]
    refine ww_iconst hX (pc := 33) (x := 0) dX10_trail_33 rfl ?_
    refine ww_istore_n hX (pc := 34) (lv' := [some (kR (some 0)), some (kI 0)]) dX10_trail_34 (by decide) rfl rfl ?_
    have hl_35 : ∀ (n_35 : Nat) (i : Int) (I2 : aI1) (J2 : aI1), (30 - i).toNat = n_35 → (Kp 0 49 Ia I2 ∧ Kp 0 49 Ja J2 ∧ CX I2 ∧ (I2 1 5 = I_30 1 5 ∧ I2 1 6 = I_30 1 6) ∧ (0 ≤ i ∧ i ≤ 30)) → WW X 35 [some (kR (some 0)), some (kI i)] [] I2 J2 Ra Sa 0 0 := by
      intro n_35
      induction n_35 using Nat.strongRecOn with
      | ind n_35 ih_35 =>
        intro i I2 J2 hm_35 hv_35
        obtain ⟨kI2, kJ2, cI2, hI20, hi⟩ := hv_35
        have qI2 := XI_o cI2.1
        have rfI2 := congrArg FU hI20.1
        refine ww_iload_n hX (pc := 35) dX10_trail_35 rfl ?_
        refine ww_aload_n hX (pc := 36) dX10_trail_36 rfl ?_
        refine ww_getI hX (pc := 37) fX10_256 (by decide) (xs_0 hL) dX10_trail_37 ?_
        refine ww_icmp_ge hX (pc := 40) (tgt := 63) dX10_trail_40 (by decide) (fun h_40 => ?_) (fun h_40 => ?_)
        · simp only [w32_mod] at h_40
          refine ww_aload_n hX (pc := 63) dX10_trail_63 rfl ?_
          refine ww_getR hX (pc := 64) fX10_23 (by decide) (xs_0 hL) (xr_0_2 hL) dX10_trail_64 ?_
          refine ww_iconst hX (pc := 67) (x := 0) dX10_trail_67 rfl ?_
          refine ww_putI hX (pc := 68) (fun h9 => absurd h9 (by decide)) gX10_148 rfl (xs_8 hL) dX10_trail_68 ?_
          refine ww_nmH (fun I_68 eI_68 => ?_)
          have kI_68 : Kp 0 49 Ia I_68 := by rw [eI_68]; exact Kp_up kI2 _ _ (by decide)
          have cI_68 : CX I_68 := by rw [eI_68]; exact CX_x cI2 (XI_8_1 cI2.1 (by omega) (by omega)) (by decide)
          have qI_68 := XI_o cI_68.1
          have r5_I_68 : I_68 1 5 = I2 1 5 := by rw [eI_68, up2_off _ _ _ (by decide)]
          have r6_I_68 : I_68 1 6 = I2 1 6 := by rw [eI_68, up2_off _ _ _ (by decide)]
          have r8_I_68 : I_68 1 8 = I2 1 8 := by rw [eI_68, up2_off _ _ _ (by decide)]
          have r9_I_68 : I_68 1 9 = I2 1 9 := by rw [eI_68, up2_off _ _ _ (by decide)]
          have r10_I_68 : I_68 1 10 = I2 1 10 := by rw [eI_68, up2_off _ _ _ (by decide)]
          have r11_I_68 : I_68 1 11 = I2 1 11 := by rw [eI_68, up2_off _ _ _ (by decide)]
          have rf_I_68 : FU (I_68 1 5) = FU (I2 1 5) := by rw [r5_I_68]
          refine ww_aload_n hX (pc := 71) dX10_trail_71 rfl ?_
          refine ww_aload_n hX (pc := 72) dX10_trail_72 rfl ?_
          refine ww_getI hX (pc := 73) fX10_256 (by decide) (xs_0 hL) dX10_trail_73 ?_
          refine vI1 hX (pc := 76) sX10_114 (xs_0 hL) (c_X10_accept l0 hL cI_68) (by decide) (Nat.le_refl 0) (Nat.le_refl 0) (Nat.le_of_ble_eq_true rfl) dX10_trail_76 (fun x_76 I_76 J_76 h_76 => ?_)
          have kI_76 : Kp 0 49 Ia I_76 := Kp_tr kI_68 (Kp_wd h_76.1 (by decide) (by decide))
          have kJ_76 : Kp 0 49 Ja J_76 := Kp_tr kJ2 (Kp_wd h_76.2.1 (by decide) (by decide))
          have cI_76 : CX I_76 := h_76.2.2.1
          have qI_76 := XI_o cI_76.1
          refine rI hX (pc := 79) hT (Nat.le_refl 0) (Nat.le_refl 0) dX10_trail_79 ?_
          exact ⟨kI_76, kJ_76, cI_76⟩
        · simp only [w32_mod] at h_40
          refine ww_aload_n hX (pc := 43) dX10_trail_43 rfl ?_
          refine ww_getR hX (pc := 44) fX10_75 (by decide) (xs_0 hL) (xr_0_9 hL) dX10_trail_44 ?_
          refine ww_iload_n hX (pc := 47) dX10_trail_47 rfl ?_
          refine ww_aload_n hX (pc := 48) dX10_trail_48 rfl ?_
          refine ww_getR hX (pc := 49) fX10_23 (by decide) (xs_0 hL) (xr_0_2 hL) dX10_trail_49 ?_
          refine ww_iload_n hX (pc := 52) dX10_trail_52 rfl ?_
          refine vI1 hX (pc := 53) sX10_155 (xs_8 hL) (c_X9_byteAt l0 hL cI2.1 (by omega) (by omega)) (by decide) (Nat.le_refl 0) (Nat.le_refl 0) (Nat.le_of_ble_eq_true rfl) dX10_trail_53 (fun x_53 I_53 J_53 h_53 => ?_)
          obtain ⟨rfl, rfl, h_53⟩ := h_53
          refine ww_iast hX (pc := 56) (xs_46 hL) (by decide) (by omega) (by omega) dX10_trail_56 ?_
          refine ww_nmH (fun I_56 eI_56 => ?_)
          have kI_56 : Kp 0 49 Ia I_56 := by rw [eI_56]; exact Kp_up kI2 _ _ (by decide)
          have cI_56 : CX I_56 := by rw [eI_56]; exact CX_up cI2 (by decide)
          have qI_56 := XI_o cI_56.1
          have r5_I_56 : I_56 1 5 = I2 1 5 := by rw [eI_56, up2_off _ _ _ (by decide)]
          have r6_I_56 : I_56 1 6 = I2 1 6 := by rw [eI_56, up2_off _ _ _ (by decide)]
          have r8_I_56 : I_56 1 8 = I2 1 8 := by rw [eI_56, up2_off _ _ _ (by decide)]
          have r9_I_56 : I_56 1 9 = I2 1 9 := by rw [eI_56, up2_off _ _ _ (by decide)]
          have r10_I_56 : I_56 1 10 = I2 1 10 := by rw [eI_56, up2_off _ _ _ (by decide)]
          have r11_I_56 : I_56 1 11 = I2 1 11 := by rw [eI_56, up2_off _ _ _ (by decide)]
          have rf_I_56 : FU (I_56 1 5) = FU (I2 1 5) := by rw [r5_I_56]
          refine ww_iinc hX (pc := 57) (lv' := [some (kR (some 0)), some (kI (i + 1))]) dX10_trail_57 rfl (by decide) rfl rfl ?_
          refine ww_goto hX (pc := 60) (tgt := 35) dX10_trail_60 (by decide) ?_
          exact ih_35 _ (by omega) (i + 1) I_56 J2 rfl ⟨kI_56, kJ2, cI_56, ⟨by omega, by omega⟩, ⟨by omega, by omega⟩⟩
    exact hl_35 _ 0 I_30 Ja rfl ⟨kI_30, (Kp_rf (a := 0) (b := 49)), cI_30, ⟨by omega, by omega⟩, ⟨by omega, by omega⟩⟩
  · simp only [w32_mod] at h_7
    refine ww_aload_n hX (pc := 10) dX10_trail_10 rfl ?_
    refine ww_bipush hX (pc := 11) (x := (-6)) dX10_trail_11 (by decide) ?_
    refine vI1 hX (pc := 13) sX10_89 (xs_0 hL) (c_X10_refuse l0 hL hC (by omega) (by omega)) (by decide) (Nat.le_refl 0) (Nat.le_refl 0) (Nat.le_of_ble_eq_true rfl) dX10_trail_13 (fun x_13 I_13 J_13 h_13 => ?_)
    have kI_13 : Kp 0 49 Ia I_13 := Kp_tr (Kp_rf (a := 0) (b := 49)) (Kp_wd h_13.1 (by decide) (by decide))
    have kJ_13 : Kp 0 49 Ja J_13 := Kp_tr (Kp_rf (a := 0) (b := 49)) (Kp_wd h_13.2.1 (by decide) (by decide))
    have cI_13 : CX I_13 := h_13.2.2.1
    have qI_13 := XI_o cI_13.1
    refine rI hX (pc := 16) hT (Nat.le_refl 0) (Nat.le_refl 0) dX10_trail_16 ?_
    exact ⟨kI_13, kJ_13, cI_13⟩
set_option maxHeartbeats 4000000 in
set_option maxRecDepth 20000 in
theorem c_X10_row (l0 : Launch) {Ia Ja : aI1} {Ra : aR1} {Sa : aS1} (hL : LY Ra Sa) (hC : CX Ia)  : CT l0 10 0 0 mX10_row [kR (some 0)] Ia Ja Ra Sa (cI (fun x I' J' => Kp 0 49 Ia I' ∧ Kp 0 49 Ja J' ∧ CX I') Ra Sa) := by
  refine ct_in pn_X10 (Nat.le_of_ble_eq_true rfl) (fun X hX hT hIn => ?_)
  have hX : aK l0 X cX10_row 4 RX10 (some .int) 10 0 0 := hX
  change WW X 0 [some (kR (some 0)), none, none, none] [] Ia Ja Ra Sa 0 0
  have hI := hC.1
  have hq := XI_o hI
  refine ww_aload_n hX (pc := 0) dX10_row_0 rfl ?_
  refine ww_getR hX (pc := 1) fX10_23 (by decide) (xs_0 hL) (xr_0_2 hL) dX10_row_1 ?_
  refine ww_getI hX (pc := 4) fX10_148 (by decide) (xs_8 hL) dX10_row_4 ?_
  refine ww_if_ne hX (pc := 7) (tgt := 17) dX10_row_7 (by decide) (fun h_7 => ?_) (fun h_7 => ?_)
  · simp only [w32_mod] at h_7
    refine ww_aload_n hX (pc := 17) dX10_row_17 rfl ?_
    refine ww_getR hX (pc := 18) fX10_10 (by decide) (xs_0 hL) (xr_0_0 hL) dX10_row_18 ?_
    refine vI0 hX (pc := 21) sX10_151 (xs_1 hL) (c_X1_full l0 hL hC.1) (by decide) (Nat.le_refl 0) (Nat.le_refl 0) (Nat.le_of_ble_eq_true rfl) dX10_row_21 (fun x_21 I_21 J_21 h_21 => ?_)
    obtain ⟨rfl, rfl, h_21⟩ := h_21
    refine ww_istore_n hX (pc := 24) (lv' := [some (kR (some 0)), some (kI x_21), none, none]) dX10_row_24 (by decide) rfl rfl ?_
    refine ww_iconst hX (pc := 25) (x := 0) dX10_row_25 rfl ?_
    refine ww_istore_n hX (pc := 26) (lv' := [some (kR (some 0)), some (kI x_21), some (kI 0), none]) dX10_row_26 (by decide) rfl rfl ?_
    have hl_27 : ∀ (n_27 : Nat) (i : Int) (I2 : aI1) (J2 : aI1), (256 - i).toNat = n_27 → (Kp 0 49 Ia I2 ∧ Kp 0 49 Ja J2 ∧ CX I2 ∧ (I2 1 5 = Ia 1 5 ∧ I2 1 6 = Ia 1 6) ∧ (0 ≤ i ∧ i ≤ 256)) → WW X 27 [some (kR (some 0)), some (kI x_21), some (kI i), none] [] I2 J2 Ra Sa 0 0 := by
      intro n_27
      induction n_27 using Nat.strongRecOn with
      | ind n_27 ih_27 =>
        intro i I2 J2 hm_27 hv_27
        obtain ⟨kI2, kJ2, cI2, hI20, hi⟩ := hv_27
        have qI2 := XI_o cI2.1
        have rfI2 := congrArg FU hI20.1
        refine ww_iload_n hX (pc := 27) dX10_row_27 rfl ?_
        refine ww_iload_n hX (pc := 28) dX10_row_28 rfl ?_
        refine ww_icmp_gt hX (pc := 29) (tgt := 72) dX10_row_29 (by decide) (fun h_29 => ?_) (fun h_29 => ?_)
        · simp only [w32_mod] at h_29
          refine ww_aload_n hX (pc := 72) dX10_row_72 rfl ?_
          refine ww_iconst hX (pc := 73) (x := 0) dX10_row_73 rfl ?_
          refine ww_aload_n hX (pc := 74) dX10_row_74 rfl ?_
          refine ww_getR hX (pc := 75) fX10_23 (by decide) (xs_0 hL) (xr_0_2 hL) dX10_row_75 ?_
          refine ww_getI hX (pc := 78) fX10_148 (by decide) (xs_8 hL) dX10_row_78 ?_
          refine ww_iload_n hX (pc := 81) dX10_row_81 rfl ?_
          refine ww_isub hX (pc := 82) dX10_row_82 ?_
          refine ww_iconst hX (pc := 83) (x := 1) dX10_row_83 rfl ?_
          refine ww_isub hX (pc := 84) dX10_row_84 ?_
          refine ww_mmax hX (pc := 85) tb_459 tb_460 tb_13 tb_461 (by decide) (Nat.le_refl 0) (Nat.le_refl 0) (Nat.le_of_ble_eq_true rfl) dX10_row_85 ?_
          refine ww_putI hX (pc := 88) (fun h9 => absurd h9 (by decide)) gX10_164 rfl (xs_0 hL) dX10_row_88 ?_
          refine ww_nmH (fun I_88 eI_88 => ?_)
          have kI_88 : Kp 0 49 Ia I_88 := by rw [eI_88]; exact Kp_up kI2 _ _ (by decide)
          have cI_88 : CX I_88 := by rw [eI_88]; exact CX_x cI2 (XI_0 cI2.1 (by decide)) (by decide)
          have qI_88 := XI_o cI_88.1
          have r5_I_88 : I_88 1 5 = I2 1 5 := by rw [eI_88, up2_off _ _ _ (by decide)]
          have r6_I_88 : I_88 1 6 = I2 1 6 := by rw [eI_88, up2_off _ _ _ (by decide)]
          have r8_I_88 : I_88 1 8 = I2 1 8 := by rw [eI_88, up2_off _ _ _ (by decide)]
          have r9_I_88 : I_88 1 9 = I2 1 9 := by rw [eI_88, up2_off _ _ _ (by decide)]
          have r10_I_88 : I_88 1 10 = I2 1 10 := by rw [eI_88, up2_off _ _ _ (by decide)]
          have r11_I_88 : I_88 1 11 = I2 1 11 := by rw [eI_88, up2_off _ _ _ (by decide)]
          have rf_I_88 : FU (I_88 1 5) = FU (I2 1 5) := by rw [r5_I_88]
          refine ww_aload_n hX (pc := 91) dX10_row_91 rfl ?_
          refine ww_getR hX (pc := 92) fX10_23 (by decide) (xs_0 hL) (xr_0_2 hL) dX10_row_92 ?_
          refine ww_iconst hX (pc := 95) (x := 0) dX10_row_95 rfl ?_
          refine ww_putI hX (pc := 96) (fun h9 => absurd h9 (by decide)) gX10_148 rfl (xs_8 hL) dX10_row_96 ?_
          refine ww_nmH (fun I_96 eI_96 => ?_)
          have kI_96 : Kp 0 49 Ia I_96 := by rw [eI_96]; exact Kp_up kI_88 _ _ (by decide)
          have cI_96 : CX I_96 := by rw [eI_96]; exact CX_x cI_88 (XI_8_1 cI_88.1 (by omega) (by omega)) (by decide)
          have qI_96 := XI_o cI_96.1
          have r5_I_96 : I_96 1 5 = I_88 1 5 := by rw [eI_96, up2_off _ _ _ (by decide)]
          have r6_I_96 : I_96 1 6 = I_88 1 6 := by rw [eI_96, up2_off _ _ _ (by decide)]
          have r8_I_96 : I_96 1 8 = I_88 1 8 := by rw [eI_96, up2_off _ _ _ (by decide)]
          have r9_I_96 : I_96 1 9 = I_88 1 9 := by rw [eI_96, up2_off _ _ _ (by decide)]
          have r10_I_96 : I_96 1 10 = I_88 1 10 := by rw [eI_96, up2_off _ _ _ (by decide)]
          have r11_I_96 : I_96 1 11 = I_88 1 11 := by rw [eI_96, up2_off _ _ _ (by decide)]
          have rf_I_96 : FU (I_96 1 5) = FU (I_88 1 5) := by rw [r5_I_96]
          refine ww_aload_n hX (pc := 99) dX10_row_99 rfl ?_
          refine vV0 hX (pc := 100) sX10_111 (xs_0 hL) (c_X10_codeChanged l0 hL cI_96) (by decide) (Nat.le_refl 0) (Nat.le_refl 0) (Nat.le_of_ble_eq_true rfl) dX10_row_100 (fun I_100 J_100 h_100 => ?_)
          have kI_100 : Kp 0 49 Ia I_100 := Kp_tr kI_96 (Kp_wd h_100.1 (by decide) (by decide))
          have kJ_100 : Kp 0 49 Ja J_100 := Kp_tr kJ2 (Kp_wd h_100.2.1 (by decide) (by decide))
          have cI_100 : CX I_100 := h_100.2.2
          have qI_100 := XI_o cI_100.1
          refine ww_aload_n hX (pc := 103) dX10_row_103 rfl ?_
          refine ww_aload_n hX (pc := 104) dX10_row_104 rfl ?_
          refine ww_getR hX (pc := 105) fX10_10 (by decide) (xs_0 hL) (xr_0_0 hL) dX10_row_105 ?_
          refine vI0 hX (pc := 108) sX10_167 (xs_1 hL) (c_X1_readCount l0 hL cI_100.1) (by decide) (Nat.le_refl 0) (Nat.le_refl 0) (Nat.le_of_ble_eq_true rfl) dX10_row_108 (fun x_108 I_108 J_108 h_108 => ?_)
          obtain ⟨rfl, rfl, h_108⟩ := h_108
          refine vI1 hX (pc := 111) sX10_114 (xs_0 hL) (c_X10_accept l0 hL cI_100) (by decide) (Nat.le_refl 0) (Nat.le_refl 0) (Nat.le_of_ble_eq_true rfl) dX10_row_111 (fun x_111 I_111 J_111 h_111 => ?_)
          have kI_111 : Kp 0 49 Ia I_111 := Kp_tr kI_100 (Kp_wd h_111.1 (by decide) (by decide))
          have kJ_111 : Kp 0 49 Ja J_111 := Kp_tr kJ_100 (Kp_wd h_111.2.1 (by decide) (by decide))
          have cI_111 : CX I_111 := h_111.2.2.1
          have qI_111 := XI_o cI_111.1
          refine rI hX (pc := 114) hT (Nat.le_refl 0) (Nat.le_refl 0) dX10_row_114 ?_
          exact ⟨kI_111, kJ_111, cI_111⟩
        · simp only [w32_mod] at h_29
          refine ww_aload_n hX (pc := 32) dX10_row_32 rfl ?_
          refine ww_getR hX (pc := 33) fX10_23 (by decide) (xs_0 hL) (xr_0_2 hL) dX10_row_33 ?_
          refine ww_iload_n hX (pc := 36) dX10_row_36 rfl ?_
          refine vI1 hX (pc := 37) sX10_155 (xs_8 hL) (c_X9_byteAt l0 hL cI2.1 (by omega) (by omega)) (by decide) (Nat.le_refl 0) (Nat.le_refl 0) (Nat.le_of_ble_eq_true rfl) dX10_row_37 (fun x_37 I_37 J_37 h_37 => ?_)
          obtain ⟨rfl, rfl, h_37⟩ := h_37
          refine ww_istore_n hX (pc := 40) (lv' := [some (kR (some 0)), some (kI x_21), some (kI i), some (kI x_37)]) dX10_row_40 (by decide) rfl rfl ?_
          refine ww_aload_n hX (pc := 41) dX10_row_41 rfl ?_
          refine ww_getR hX (pc := 42) fX10_10 (by decide) (xs_0 hL) (xr_0_0 hL) dX10_row_42 ?_
          refine ww_getR hX (pc := 45) fX10_137 (by decide) (xs_1 hL) (xr_1_1 hL) dX10_row_45 ?_
          refine ww_iload_n hX (pc := 48) dX10_row_48 rfl ?_
          refine ww_aload_n hX (pc := 49) dX10_row_49 rfl ?_
          refine ww_getR hX (pc := 50) fX10_10 (by decide) (xs_0 hL) (xr_0_0 hL) dX10_row_50 ?_
          refine ww_iload_n hX (pc := 53) dX10_row_53 rfl ?_
          refine vI1 hX (pc := 54) sX10_134 (xs_1 hL) (c_X1_isNews l0 hL cI2.1 (by omega)) (by decide) (Nat.le_refl 0) (Nat.le_refl 0) (Nat.le_of_ble_eq_true rfl) dX10_row_54 (fun x_54 I_54 J_54 h_54 => ?_)
          obtain ⟨rfl, rfl, h_54⟩ := h_54
          refine ww_if_eq hX (pc := 57) (tgt := 64) dX10_row_57 (by decide) (fun h_57 => ?_) (fun h_57 => ?_)
          · simp only [w32_mod] at h_57
            refine ww_iconst hX (pc := 64) (x := (-1)) dX10_row_64 rfl ?_
            refine ww_iast hX (pc := 65) (xs_3 hL) (by decide) (by omega) (by omega) dX10_row_65 ?_
            refine ww_nmH (fun I_65 eI_65 => ?_)
            have kI_65 : Kp 0 49 Ia I_65 := by rw [eI_65]; exact Kp_up kI2 _ _ (by decide)
            have cI_65 : CX I_65 := by rw [eI_65]; exact CX_x cI2 (XI_3 cI2.1 (by omega) (by omega)) (by decide)
            have qI_65 := XI_o cI_65.1
            have r5_I_65 : I_65 1 5 = I2 1 5 := by rw [eI_65, up2_off _ _ _ (by decide)]
            have r6_I_65 : I_65 1 6 = I2 1 6 := by rw [eI_65, up2_off _ _ _ (by decide)]
            have r8_I_65 : I_65 1 8 = I2 1 8 := by rw [eI_65, up2_off _ _ _ (by decide)]
            have r9_I_65 : I_65 1 9 = I2 1 9 := by rw [eI_65, up2_off _ _ _ (by decide)]
            have r10_I_65 : I_65 1 10 = I2 1 10 := by rw [eI_65, up2_off _ _ _ (by decide)]
            have r11_I_65 : I_65 1 11 = I2 1 11 := by rw [eI_65, up2_off _ _ _ (by decide)]
            have rf_I_65 : FU (I_65 1 5) = FU (I2 1 5) := by rw [r5_I_65]
            refine ww_iinc hX (pc := 66) (lv' := [some (kR (some 0)), some (kI x_21), some (kI (i + 1)), some (kI x_37)]) dX10_row_66 rfl (by decide) rfl rfl ?_
            refine ww_goto hX (pc := 69) (tgt := 27) dX10_row_69 (by decide) ?_
            refine ww_sub [some (kR (some 0)), some (kI x_21), some (kI (i + 1)), none] (aLe_s (aLe_s (aLe_s (aLe_n aLe_0)))) ?_
            exact ih_27 _ (by omega) (i + 1) I_65 J2 rfl ⟨kI_65, kJ2, cI_65, ⟨by omega, by omega⟩, ⟨by omega, by omega⟩⟩
          · simp only [w32_mod] at h_57
            refine ww_iload_n hX (pc := 60) dX10_row_60 rfl ?_
            refine ww_goto hX (pc := 61) (tgt := 65) dX10_row_61 (by decide) ?_
            refine ww_iast hX (pc := 65) (xs_3 hL) (by decide) (by omega) (by omega) dX10_row_65 ?_
            refine ww_nmH (fun I_65 eI_65 => ?_)
            have kI_65 : Kp 0 49 Ia I_65 := by rw [eI_65]; exact Kp_up kI2 _ _ (by decide)
            have cI_65 : CX I_65 := by rw [eI_65]; exact CX_x cI2 (XI_3 cI2.1 (by omega) (by omega)) (by decide)
            have qI_65 := XI_o cI_65.1
            have r5_I_65 : I_65 1 5 = I2 1 5 := by rw [eI_65, up2_off _ _ _ (by decide)]
            have r6_I_65 : I_65 1 6 = I2 1 6 := by rw [eI_65, up2_off _ _ _ (by decide)]
            have r8_I_65 : I_65 1 8 = I2 1 8 := by rw [eI_65, up2_off _ _ _ (by decide)]
            have r9_I_65 : I_65 1 9 = I2 1 9 := by rw [eI_65, up2_off _ _ _ (by decide)]
            have r10_I_65 : I_65 1 10 = I2 1 10 := by rw [eI_65, up2_off _ _ _ (by decide)]
            have r11_I_65 : I_65 1 11 = I2 1 11 := by rw [eI_65, up2_off _ _ _ (by decide)]
            have rf_I_65 : FU (I_65 1 5) = FU (I2 1 5) := by rw [r5_I_65]
            refine ww_iinc hX (pc := 66) (lv' := [some (kR (some 0)), some (kI x_21), some (kI (i + 1)), some (kI x_37)]) dX10_row_66 rfl (by decide) rfl rfl ?_
            refine ww_goto hX (pc := 69) (tgt := 27) dX10_row_69 (by decide) ?_
            refine ww_sub [some (kR (some 0)), some (kI x_21), some (kI (i + 1)), none] (aLe_s (aLe_s (aLe_s (aLe_n aLe_0)))) ?_
            exact ih_27 _ (by omega) (i + 1) I_65 J2 rfl ⟨kI_65, kJ2, cI_65, ⟨by omega, by omega⟩, ⟨by omega, by omega⟩⟩
    exact hl_27 _ 0 Ia Ja rfl ⟨(Kp_rf (a := 0) (b := 49)), (Kp_rf (a := 0) (b := 49)), hC, ⟨by omega, by omega⟩, ⟨by omega, by omega⟩⟩
  · simp only [w32_mod] at h_7
    refine ww_aload_n hX (pc := 10) dX10_row_10 rfl ?_
    refine ww_bipush hX (pc := 11) (x := (-6)) dX10_row_11 (by decide) ?_
    refine vI1 hX (pc := 13) sX10_89 (xs_0 hL) (c_X10_refuse l0 hL hC (by omega) (by omega)) (by decide) (Nat.le_refl 0) (Nat.le_refl 0) (Nat.le_of_ble_eq_true rfl) dX10_row_13 (fun x_13 I_13 J_13 h_13 => ?_)
    have kI_13 : Kp 0 49 Ia I_13 := Kp_tr (Kp_rf (a := 0) (b := 49)) (Kp_wd h_13.1 (by decide) (by decide))
    have kJ_13 : Kp 0 49 Ja J_13 := Kp_tr (Kp_rf (a := 0) (b := 49)) (Kp_wd h_13.2.1 (by decide) (by decide))
    have cI_13 : CX I_13 := h_13.2.2.1
    have qI_13 := XI_o cI_13.1
    refine rI hX (pc := 16) hT (Nat.le_refl 0) (Nat.le_refl 0) dX10_row_16 ?_
    exact ⟨kI_13, kJ_13, cI_13⟩
