section
/-- cells from c on keep what the coast keeps in I, R -/
def ImC (I I' : aI1) (R R' : aR1) (c : Nat) : Prop := (∀ j, 5 ≤ j → j ≤ 11 → I' c j = I 1 j) ∧ (∀ j, j < 8 → I' (c + 1) j = I 2 j) ∧ (∀ s, s < 256 → I' (c + 2) s = I 3 s) ∧ (∀ j, j < 24 → I' (c + 4) j = I 5 j) ∧ (∀ j, j < 16 → I' (c + 5) j = I 6 j) ∧ (∀ i, i < 6 → R' (c + 3) i = R 4 i)
/-- the coast is again what cells from c on keep -/
def BkC (I I' : aI1) (R R' : aR1) (c : Nat) : Prop := (∀ j, 5 ≤ j → j ≤ 11 → I' 1 j = I c j) ∧ (∀ j, j < 8 → I' 2 j = I (c + 1) j) ∧ (∀ s, s < 256 → I' 3 s = I (c + 2) s) ∧ (∀ j, j < 24 → I' 5 j = I (c + 4) j) ∧ (∀ j, j < 16 → I' 6 j = I (c + 5) j) ∧ (∀ i, i < 6 → R' 4 i = R (c + 3) i)
set_option maxHeartbeats 4000000 in
set_option maxRecDepth 20000 in
theorem c5_X10_back (l0 : Launch) {Ia Ja : aI1} {Ra : aR1} {Sa : aS1} (hCI : CI Ia Ra Sa) {a : Int} (ha0 : -2147483648 ≤ a) (ha1 : a < 2147483648)  : CT l0 12 0 0 mX10_back [kR (some 0), kI a] Ia Ja Ra Sa (dI (fun x I' J' R' S' => CI I' R' S' ∧ (∀ k, 49 ≤ k → k < 73 → I' k = Ia k ∧ J' k = Ja k ∧ R' k = Ra k) ∧ Fw [1, 2, 3, 5, 6, 18, 19, 20, 21, 22, 23, 24, 25, 26, 27, 28, 29, 30, 31, 32, 33, 34, 35, 36, 48] [(0, 16)] Ia I' ∧ (¬ (0 ≤ a ∧ a < 2) → x = -1 ∧ RFc Ia I' (-1)) ∧ (¬ (0 ≤ a ∧ a < 2) → R' 7 = Ra 7 ∧ R' 4 = Ra 4 ∧ (∀ k, 73 ≤ k → I' k = Ia k ∧ R' k = Ra k)) ∧ ((0 ≤ a ∧ a < 2) → Ra 7 a.toNat = none → x = -2 ∧ RFc Ia I' (-2) ∧ R' 7 = Ra 7 ∧ R' 4 = Ra 4 ∧ (∀ k, 73 ≤ k → I' k = Ia k ∧ R' k = Ra k)) ∧ ((0 ≤ a ∧ a < 2) → ∀ c, Ra 7 a.toNat = some c → x = 0 ∧ Fw [1, 2, 3, 5, 6, 18, 19, 20, 21, 22, 23, 24, 25, 26, 27, 28, 29, 30, 31, 32, 33, 34, 35, 36] [(0, 16)] Ia I' ∧ I' 0 16 = 0 ∧ BkC Ia I' Ra R' c ∧ R' 7 = Ra 7 ∧ (∀ k, 73 ≤ k → I' k = Ia k ∧ R' k = Ra k)))) := by
  refine ct_in pn_X10 (Nat.le_of_ble_eq_true rfl) (fun X hX hT hIn => ?_)
  have hX : aK l0 X cX10_back 3 RX10 (some .int) 12 0 0 := hX
  change WW X 0 [some (kR (some 0)), some (kI a), none] [] Ia Ja Ra Sa 0 0
  have hL := hCI.1
  have hC := hCI.2.1
  have hI := hC.1
  have hq := XI_o hI
  refine ww_iload_n hX (pc := 0) dX10_back_0 rfl ?_
  refine ww_if_lt hX (pc := 1) (tgt := 9) dX10_back_1 (by decide) (fun h_1 => ?_) (fun h_1 => ?_)
  · simp only [w32_mod] at h_1
    refine ww_aload_n hX (pc := 9) dX10_back_9 rfl ?_
    refine ww_iconst hX (pc := 10) (x := (-1)) dX10_back_10 rfl ?_
    refine vI1 hX (pc := 11) sX10_89 (xs_0 hL) (c5_X10_refuse l0 hL hC (by omega) (by omega)) (by decide) (by omega) (by omega) (Nat.le_of_ble_eq_true rfl) dX10_back_11 (fun x_11 I_11 J_11 h_11 => ?_)
    have kI_11 : Kp 0 49 Ia I_11 := Kp_tr (Kp_rf (a := 0) (b := 49)) (Kp_wd h_11.1 (by decide) (by decide))
    have kJ_11 : Kp 0 49 Ja J_11 := Kp_tr (Kp_rf (a := 0) (b := 49)) (Kp_wd h_11.2.1 (by decide) (by decide))
    have cI_11 : CX I_11 := h_11.2.2.1
    have qI_11 := XI_o cI_11.1
    have wI_11 : Fw [1, 2, 3, 5, 6, 18, 19, 20, 21, 22, 23, 24, 25, 26, 27, 28, 29, 30, 31, 32, 33, 34, 35, 36, 48] [(0, 16)] Ia I_11 := Fw_tr Fw_rf (Fw_wd h_11.2.2.2.1 (by decide) (by decide))
    have r5_I_11 : I_11 1 5 = Ia 1 5 := h_11.2.2.2.1 1 5 (by decide) (by decide) (by decide)
    have r6_I_11 : I_11 1 6 = Ia 1 6 := h_11.2.2.2.1 1 6 (by decide) (by decide) (by decide)
    have r7_I_11 : I_11 1 7 = Ia 1 7 := h_11.2.2.2.1 1 7 (by decide) (by decide) (by decide)
    have r8_I_11 : I_11 1 8 = Ia 1 8 := h_11.2.2.2.1 1 8 (by decide) (by decide) (by decide)
    have r9_I_11 : I_11 1 9 = Ia 1 9 := h_11.2.2.2.1 1 9 (by decide) (by decide) (by decide)
    have r10_I_11 : I_11 1 10 = Ia 1 10 := h_11.2.2.2.1 1 10 (by decide) (by decide) (by decide)
    have r11_I_11 : I_11 1 11 = Ia 1 11 := h_11.2.2.2.1 1 11 (by decide) (by decide) (by decide)
    have r81_I_11 : I_11 8 1 = Ia 8 1 := h_11.2.2.2.1 8 1 (by decide) (by decide) (by decide)
    have rf_I_11 : FU (I_11 1 5) = FU (Ia 1 5) := by rw [r5_I_11]
    have xv_I_11 := h_11.2.2.2.2
    exact ww_iret hX (pc := 14) hT (by omega) (by omega) dX10_back_14 ⟨_, rfl, CI_low hCI kI_11 cI_11, fun k h1 h2 => ⟨kI_11 k (by omega), kJ_11 k (by omega), rfl⟩, (Fw_wd wI_11 (by decide) (by decide)), (fun _ => ⟨xv_I_11.1, h_11.2.2.2.1, xv_I_11.2⟩), (fun _ => ⟨rfl, rfl, fun k hk => ⟨kI_11 k (by omega), rfl⟩⟩), (fun h9 => absurd h9 (by omega)), (fun h9 => absurd h9 (by omega))⟩
  · simp only [w32_mod] at h_1
    refine ww_iload_n hX (pc := 4) dX10_back_4 rfl ?_
    refine ww_iconst hX (pc := 5) (x := 2) dX10_back_5 rfl ?_
    refine ww_icmp_lt hX (pc := 6) (tgt := 15) dX10_back_6 (by decide) (fun h_6 => ?_) (fun h_6 => ?_)
    · simp only [w32_mod] at h_6
      refine ww_aload_n hX (pc := 15) dX10_back_15 rfl ?_
      refine ww_getR hX (pc := 16) fX10_16 (by decide) (xs_0 hL) (xr_0_1 hL) dX10_back_16 ?_
      refine ww_iload_n hX (pc := 19) dX10_back_19 rfl ?_
      refine ww_aald hX (pc := 20) (Or.inr rfl) (xs_7 hL) (by decide) (by omega) (by omega) dX10_back_20 ?_
      cases hlw : Ra 7 a.toNat with
      | none =>
        refine ww_astore_nN hX (pc := 21) (lv' := [some (kR (some 0)), some (kI a), some (kR none)]) dX10_back_21 (by decide) rfl rfl ?_
        refine ww_aload_nN hX (pc := 22) dX10_back_22 rfl ?_
        refine ww_ifnonnullN hX (pc := 23) dX10_back_23 ?_
        refine ww_aload_n hX (pc := 26) dX10_back_26 rfl ?_
        refine ww_bipush hX (pc := 27) (x := (-2)) dX10_back_27 (by decide) ?_
        refine vI1 hX (pc := 29) sX10_89 (xs_0 hL) (c5_X10_refuse l0 hL hC (by omega) (by omega)) (by decide) (by omega) (by omega) (Nat.le_of_ble_eq_true rfl) dX10_back_29 (fun x_29 I_29 J_29 h_29 => ?_)
        have kI_29 : Kp 0 49 Ia I_29 := Kp_tr (Kp_rf (a := 0) (b := 49)) (Kp_wd h_29.1 (by decide) (by decide))
        have kJ_29 : Kp 0 49 Ja J_29 := Kp_tr (Kp_rf (a := 0) (b := 49)) (Kp_wd h_29.2.1 (by decide) (by decide))
        have cI_29 : CX I_29 := h_29.2.2.1
        have qI_29 := XI_o cI_29.1
        have wI_29 : Fw [1, 2, 3, 5, 6, 18, 19, 20, 21, 22, 23, 24, 25, 26, 27, 28, 29, 30, 31, 32, 33, 34, 35, 36, 48] [(0, 16)] Ia I_29 := Fw_tr Fw_rf (Fw_wd h_29.2.2.2.1 (by decide) (by decide))
        have r5_I_29 : I_29 1 5 = Ia 1 5 := h_29.2.2.2.1 1 5 (by decide) (by decide) (by decide)
        have r6_I_29 : I_29 1 6 = Ia 1 6 := h_29.2.2.2.1 1 6 (by decide) (by decide) (by decide)
        have r7_I_29 : I_29 1 7 = Ia 1 7 := h_29.2.2.2.1 1 7 (by decide) (by decide) (by decide)
        have r8_I_29 : I_29 1 8 = Ia 1 8 := h_29.2.2.2.1 1 8 (by decide) (by decide) (by decide)
        have r9_I_29 : I_29 1 9 = Ia 1 9 := h_29.2.2.2.1 1 9 (by decide) (by decide) (by decide)
        have r10_I_29 : I_29 1 10 = Ia 1 10 := h_29.2.2.2.1 1 10 (by decide) (by decide) (by decide)
        have r11_I_29 : I_29 1 11 = Ia 1 11 := h_29.2.2.2.1 1 11 (by decide) (by decide) (by decide)
        have r81_I_29 : I_29 8 1 = Ia 8 1 := h_29.2.2.2.1 8 1 (by decide) (by decide) (by decide)
        have rf_I_29 : FU (I_29 1 5) = FU (Ia 1 5) := by rw [r5_I_29]
        have xv_I_29 := h_29.2.2.2.2
        exact ww_iret hX (pc := 32) hT (by omega) (by omega) dX10_back_32 ⟨_, rfl, CI_low hCI kI_29 cI_29, fun k h1 h2 => ⟨kI_29 k (by omega), kJ_29 k (by omega), rfl⟩, (Fw_wd wI_29 (by decide) (by decide)), (fun h9 => absurd (by omega) h9), (fun h9 => absurd (by omega) h9), (fun _ _ => ⟨xv_I_29.1, ⟨h_29.2.2.2.1, xv_I_29.2⟩, rfl, rfl, fun k hk => ⟨kI_29 k (by omega), rfl⟩⟩), (fun _ c9 hc9 => (by rw [hlw] at hc9; cases hc9))⟩
      | some c =>
        obtain ⟨hc73, hcs, hcr, hcl⟩ := hCI.2.2.2 a.toNat (by omega) c hlw
        refine ww_astore_n hX (pc := 21) (lv' := [some (kR (some 0)), some (kI a), some (kR (some c))]) dX10_back_21 (by decide) rfl rfl ?_
        refine ww_aload_n hX (pc := 22) dX10_back_22 rfl ?_
        refine ww_ifnonnullS hX (pc := 23) (tgt := 33) dX10_back_23 (by decide) ?_
        refine ww_aload_n hX (pc := 33) dX10_back_33 rfl ?_
        refine ww_getR hX (pc := 34) fX10_10 (by decide) (xs_0 hL) (xr_0_0 hL) dX10_back_34 ?_
        refine ww_aload_n hX (pc := 37) dX10_back_37 rfl ?_
        refine ww_callV hX (pc := 38) (av := [kR (some c)]) sX10_301 (xs_1 hL) (c_X1_copyFrom l0 (o := 1) (q := c) (CoSh_1 hL) hcs (by omega) (fun i hi w hw => ⟨0, (hcl i hi w hw).2.1⟩)) rfl (by decide) (by omega) (by omega) (Nat.le_of_ble_eq_true rfl) dX10_back_38 (fun r_38 I_38 J_38 R_38 S_38 h_38 => ?_)
        obtain ⟨rfl, rfl, e38, eR38, rfl, he38⟩ := h_38
        change WW X 41 [some (kR (some 0)), some (kI a), some (kR (some c))] [] I_38 Ja R_38 Sa _ _
        have hL38 : LY R_38 Sa := LY_ext hL (fun k h1 h4 h7 => eR38 k h4) SX_rf
        have kI_38 : Kp 0 49 Ia I_38 := fun k hk => e38 k (by omega) (by omega) (by omega) (by omega) (by omega)
        have cI_38 : CX I_38 := CX_copy hC hcr e38 he38
        have CI38 : CI I_38 R_38 Sa := ⟨hL38, cI_38, LawsOK_hi hcl (fun i hi => he38.2.2.1 i hi) (fun k h1 _ => kI_38 k (by omega)) (fun k h1 _ => eR38 k (by omega)) SX_rf, fun i hi c' hc' => CoastOK_hi (hCI.2.2.2 i hi c' (by rw [← eR38 7 (by decide)]; exact hc')) (fun k h1 _ => kI_38 k (by omega)) (fun k h1 _ => eR38 k (by omega)) SX_rf⟩
        have wI_38 : Fw [1, 2, 3, 5, 6, 18, 19, 20, 21, 22, 23, 24, 25, 26, 27, 28, 29, 30, 31, 32, 33, 34, 35, 36] [(0, 16)] Ia I_38 := Fw_of Fw_rf (fun k h1 h2 => e38 k (fun e9 => h2 (by rw [e9]; decide)) (fun e9 => h2 (by rw [e9]; decide)) (fun e9 => h2 (by rw [e9]; decide)) (fun e9 => h2 (by rw [e9]; decide)) (fun e9 => h2 (by rw [e9]; decide)))
        refine ww_aload_n hX (pc := 41) dX10_back_41 rfl ?_
        refine vV0 hX (pc := 42) sX10_111 (xs_0 hL38) (c5_X10_codeChanged l0 hL38 cI_38) (by decide) (by omega) (by omega) (Nat.le_of_ble_eq_true rfl) dX10_back_42 (fun I_42 J_42 h_42 => ?_)
        have kI_42 : Kp 0 49 Ia I_42 := Kp_tr kI_38 (Kp_wd h_42.1 (by decide) (by decide))
        have kJ_42 : Kp 0 49 Ja J_42 := Kp_tr (Kp_rf (a := 0) (b := 49)) (Kp_wd h_42.2.1 (by decide) (by decide))
        have cI_42 : CX I_42 := h_42.2.2.1
        have qI_42 := XI_o cI_42.1
        have wI_42 : Fw [1, 2, 3, 5, 6, 18, 19, 20, 21, 22, 23, 24, 25, 26, 27, 28, 29, 30, 31, 32, 33, 34, 35, 36] [(0, 16)] Ia I_42 := Fw_tr wI_38 (Fw_wd h_42.2.2.2.1 (by decide) (by decide))
        have r5_I_42 : I_42 1 5 = I_38 1 5 := h_42.2.2.2.1 1 5 (by decide) (by decide) (by decide)
        have r6_I_42 : I_42 1 6 = I_38 1 6 := h_42.2.2.2.1 1 6 (by decide) (by decide) (by decide)
        have r7_I_42 : I_42 1 7 = I_38 1 7 := h_42.2.2.2.1 1 7 (by decide) (by decide) (by decide)
        have r8_I_42 : I_42 1 8 = I_38 1 8 := h_42.2.2.2.1 1 8 (by decide) (by decide) (by decide)
        have r9_I_42 : I_42 1 9 = I_38 1 9 := h_42.2.2.2.1 1 9 (by decide) (by decide) (by decide)
        have r10_I_42 : I_42 1 10 = I_38 1 10 := h_42.2.2.2.1 1 10 (by decide) (by decide) (by decide)
        have r11_I_42 : I_42 1 11 = I_38 1 11 := h_42.2.2.2.1 1 11 (by decide) (by decide) (by decide)
        have r81_I_42 : I_42 8 1 = I_38 8 1 := h_42.2.2.2.1 8 1 (by decide) (by decide) (by decide)
        have rf_I_42 : FU (I_42 1 5) = FU (I_38 1 5) := by rw [r5_I_42]
        refine ww_aload_n hX (pc := 45) dX10_back_45 rfl ?_
        refine ww_iconst hX (pc := 46) (x := 0) dX10_back_46 rfl ?_
        refine vI1 hX (pc := 47) sX10_114 (xs_0 hL38) (c5_X10_accept l0 hL38 cI_42) (by decide) (by omega) (by omega) (Nat.le_of_ble_eq_true rfl) dX10_back_47 (fun x_47 I_47 J_47 h_47 => ?_)
        have kI_47 : Kp 0 49 Ia I_47 := Kp_tr kI_42 (Kp_wd h_47.1 (by decide) (by decide))
        have kJ_47 : Kp 0 49 Ja J_47 := Kp_tr kJ_42 (Kp_wd h_47.2.1 (by decide) (by decide))
        have cI_47 : CX I_47 := h_47.2.2.1
        have qI_47 := XI_o cI_47.1
        have wI_47 : Fw [1, 2, 3, 5, 6, 18, 19, 20, 21, 22, 23, 24, 25, 26, 27, 28, 29, 30, 31, 32, 33, 34, 35, 36] [(0, 16)] Ia I_47 := Fw_tr wI_42 (Fw_wd h_47.2.2.2.1 (by decide) (by decide))
        have r5_I_47 : I_47 1 5 = I_42 1 5 := h_47.2.2.2.1 1 5 (by decide) (by decide) (by decide)
        have r6_I_47 : I_47 1 6 = I_42 1 6 := h_47.2.2.2.1 1 6 (by decide) (by decide) (by decide)
        have r7_I_47 : I_47 1 7 = I_42 1 7 := h_47.2.2.2.1 1 7 (by decide) (by decide) (by decide)
        have r8_I_47 : I_47 1 8 = I_42 1 8 := h_47.2.2.2.1 1 8 (by decide) (by decide) (by decide)
        have r9_I_47 : I_47 1 9 = I_42 1 9 := h_47.2.2.2.1 1 9 (by decide) (by decide) (by decide)
        have r10_I_47 : I_47 1 10 = I_42 1 10 := h_47.2.2.2.1 1 10 (by decide) (by decide) (by decide)
        have r11_I_47 : I_47 1 11 = I_42 1 11 := h_47.2.2.2.1 1 11 (by decide) (by decide) (by decide)
        have r81_I_47 : I_47 8 1 = I_42 8 1 := h_47.2.2.2.1 8 1 (by decide) (by decide) (by decide)
        have rf_I_47 : FU (I_47 1 5) = FU (I_42 1 5) := by rw [r5_I_47]
        have xv_I_47 := h_47.2.2.2.2
        exact ww_iret hX (pc := 50) hT (by omega) (by omega) dX10_back_50 ⟨_, rfl, CI_low CI38 (fun k hk => (kI_47 k hk).trans (kI_38 k hk).symm) cI_47, fun k h1 h2 => ⟨kI_47 k (by omega), kJ_47 k (by omega), (eR38 k (by omega))⟩, (Fw_wd wI_47 (by decide) (by decide)), (fun h9 => absurd (by omega) h9), (fun h9 => absurd (by omega) h9), (fun _ h9 => (by rw [hlw] at h9; cases h9)), (fun _ c9 hc9 => (by
      rw [hlw] at hc9
      cases hc9
      have y1 := (Fw_row h_47.2.2.2.1 1 (by decide) (by decide) (by decide)).trans (Fw_row h_42.2.2.2.1 1 (by decide) (by decide) (by decide))
      have y2 := (Fw_row h_47.2.2.2.1 2 (by decide) (by decide) (by decide)).trans (Fw_row h_42.2.2.2.1 2 (by decide) (by decide) (by decide))
      have y3 := (Fw_row h_47.2.2.2.1 3 (by decide) (by decide) (by decide)).trans (Fw_row h_42.2.2.2.1 3 (by decide) (by decide) (by decide))
      have y5 := (Fw_row h_47.2.2.2.1 5 (by decide) (by decide) (by decide)).trans (Fw_row h_42.2.2.2.1 5 (by decide) (by decide) (by decide))
      have y6 := (Fw_row h_47.2.2.2.1 6 (by decide) (by decide) (by decide)).trans (Fw_row h_42.2.2.2.1 6 (by decide) (by decide) (by decide))
      exact ⟨xv_I_47.1, wI_47, xv_I_47.2, ⟨by rw [y1]; exact he38.2.2.2.2.2, by rw [y2]; exact he38.1, by rw [y3]; exact he38.2.1, by rw [y5]; exact he38.2.2.2.1, by rw [y6]; exact he38.2.2.2.2.1, he38.2.2.1⟩, eR38 7 (by decide), fun k hk => ⟨kI_47 k (by omega), eR38 k (by omega)⟩⟩))⟩
    · simp only [w32_mod] at h_6
      refine ww_aload_n hX (pc := 9) dX10_back_9 rfl ?_
      refine ww_iconst hX (pc := 10) (x := (-1)) dX10_back_10 rfl ?_
      refine vI1 hX (pc := 11) sX10_89 (xs_0 hL) (c5_X10_refuse l0 hL hC (by omega) (by omega)) (by decide) (by omega) (by omega) (Nat.le_of_ble_eq_true rfl) dX10_back_11 (fun x_11 I_11 J_11 h_11 => ?_)
      have kI_11 : Kp 0 49 Ia I_11 := Kp_tr (Kp_rf (a := 0) (b := 49)) (Kp_wd h_11.1 (by decide) (by decide))
      have kJ_11 : Kp 0 49 Ja J_11 := Kp_tr (Kp_rf (a := 0) (b := 49)) (Kp_wd h_11.2.1 (by decide) (by decide))
      have cI_11 : CX I_11 := h_11.2.2.1
      have qI_11 := XI_o cI_11.1
      have wI_11 : Fw [1, 2, 3, 5, 6, 18, 19, 20, 21, 22, 23, 24, 25, 26, 27, 28, 29, 30, 31, 32, 33, 34, 35, 36, 48] [(0, 16)] Ia I_11 := Fw_tr Fw_rf (Fw_wd h_11.2.2.2.1 (by decide) (by decide))
      have r5_I_11 : I_11 1 5 = Ia 1 5 := h_11.2.2.2.1 1 5 (by decide) (by decide) (by decide)
      have r6_I_11 : I_11 1 6 = Ia 1 6 := h_11.2.2.2.1 1 6 (by decide) (by decide) (by decide)
      have r7_I_11 : I_11 1 7 = Ia 1 7 := h_11.2.2.2.1 1 7 (by decide) (by decide) (by decide)
      have r8_I_11 : I_11 1 8 = Ia 1 8 := h_11.2.2.2.1 1 8 (by decide) (by decide) (by decide)
      have r9_I_11 : I_11 1 9 = Ia 1 9 := h_11.2.2.2.1 1 9 (by decide) (by decide) (by decide)
      have r10_I_11 : I_11 1 10 = Ia 1 10 := h_11.2.2.2.1 1 10 (by decide) (by decide) (by decide)
      have r11_I_11 : I_11 1 11 = Ia 1 11 := h_11.2.2.2.1 1 11 (by decide) (by decide) (by decide)
      have r81_I_11 : I_11 8 1 = Ia 8 1 := h_11.2.2.2.1 8 1 (by decide) (by decide) (by decide)
      have rf_I_11 : FU (I_11 1 5) = FU (Ia 1 5) := by rw [r5_I_11]
      have xv_I_11 := h_11.2.2.2.2
      exact ww_iret hX (pc := 14) hT (by omega) (by omega) dX10_back_14 ⟨_, rfl, CI_low hCI kI_11 cI_11, fun k h1 h2 => ⟨kI_11 k (by omega), kJ_11 k (by omega), rfl⟩, (Fw_wd wI_11 (by decide) (by decide)), (fun _ => ⟨xv_I_11.1, h_11.2.2.2.1, xv_I_11.2⟩), (fun _ => ⟨rfl, rfl, fun k hk => ⟨kI_11 k (by omega), rfl⟩⟩), (fun h9 => absurd h9 (by omega)), (fun h9 => absurd h9 (by omega))⟩
set_option maxHeartbeats 4000000 in
set_option maxRecDepth 20000 in
theorem c5_X10_image (l0 : Launch) {Ia Ja : aI1} {Ra : aR1} {Sa : aS1} (hCI : CI Ia Ra Sa) {a : Int} (ha0 : -2147483648 ≤ a) (ha1 : a < 2147483648) (hDI : ∀ i j, i < 2 → j < 2 → ∀ c, Ra 7 i = some c → Ra 7 j = some c → i = j)  : CT l0 12 6 322 mX10_image [kR (some 0), kI a] Ia Ja Ra Sa (dI (fun x I' J' R' S' => CI I' R' S' ∧ (∀ k, 49 ≤ k → k < 73 → I' k = Ia k ∧ J' k = Ja k ∧ R' k = Ra k) ∧ Fw [48] [(0, 16)] Ia I' ∧ (¬ (0 ≤ a ∧ a < 2) → x = -1 ∧ RFc Ia I' (-1)) ∧ (¬ (0 ≤ a ∧ a < 2) → R' 7 = Ra 7 ∧ R' 4 = Ra 4 ∧ (∀ k, 73 ≤ k → I' k = Ia k ∧ R' k = Ra k)) ∧ ((0 ≤ a ∧ a < 2) → x = 0 ∧ Fw [] [(0, 16)] Ia I' ∧ I' 0 16 = 0 ∧ ∃ c, R' 7 a.toNat = some c ∧ ImC Ia I' Ra R' c ∧ (∀ j, j ≠ a.toNat → R' 7 j = Ra 7 j) ∧ (∀ j, j < 2 → j ≠ a.toNat → ∀ c', Ra 7 j = some c' → (∀ k, k < 6 → I' (c' + k) = Ia (c' + k)) ∧ R' (c' + 3) = Ra (c' + 3)) ∧ ((Ra 7 a.toNat = some c ∧ R' 7 = Ra 7) ∨ c = Sa.length) ∧ R' 4 = Ra 4))) := by
  refine ct_in pn_X10 (Nat.le_of_ble_eq_true rfl) (fun X hX hT hIn => ?_)
  have hX : aK l0 X cX10_image 3 RX10 (some .int) 12 6 322 := hX
  change WW X 0 [some (kR (some 0)), some (kI a), none] [] Ia Ja Ra Sa 0 0
  have hL := hCI.1
  have hC := hCI.2.1
  have hI := hC.1
  have hq := XI_o hI
  obtain ⟨z, hz⟩ : ∃ z, Sa.length = z := ⟨_, rfl⟩
  have hz73 : 73 ≤ z := by rw [← hz]; exact (List.getElem?_eq_some_iff.mp (xs_72 hL)).1
  refine ww_iload_n hX (pc := 0) dX10_image_0 rfl ?_
  refine ww_if_lt hX (pc := 1) (tgt := 9) dX10_image_1 (by decide) (fun h_1 => ?_) (fun h_1 => ?_)
  · simp only [w32_mod] at h_1
    refine ww_aload_n hX (pc := 9) dX10_image_9 rfl ?_
    refine ww_iconst hX (pc := 10) (x := (-1)) dX10_image_10 rfl ?_
    refine vI1 hX (pc := 11) sX10_89 (xs_0 hL) (c5_X10_refuse l0 hL hC (by omega) (by omega)) (by decide) (by omega) (by omega) (Nat.le_of_ble_eq_true rfl) dX10_image_11 (fun x_11 I_11 J_11 h_11 => ?_)
    have kI_11 : Kp 0 49 Ia I_11 := Kp_tr (Kp_rf (a := 0) (b := 49)) (Kp_wd h_11.1 (by decide) (by decide))
    have kJ_11 : Kp 0 49 Ja J_11 := Kp_tr (Kp_rf (a := 0) (b := 49)) (Kp_wd h_11.2.1 (by decide) (by decide))
    have cI_11 : CX I_11 := h_11.2.2.1
    have qI_11 := XI_o cI_11.1
    have wI_11 : Fw [48] [(0, 16)] Ia I_11 := Fw_tr Fw_rf (Fw_wd h_11.2.2.2.1 (by decide) (by decide))
    have r5_I_11 : I_11 1 5 = Ia 1 5 := h_11.2.2.2.1 1 5 (by decide) (by decide) (by decide)
    have r6_I_11 : I_11 1 6 = Ia 1 6 := h_11.2.2.2.1 1 6 (by decide) (by decide) (by decide)
    have r7_I_11 : I_11 1 7 = Ia 1 7 := h_11.2.2.2.1 1 7 (by decide) (by decide) (by decide)
    have r8_I_11 : I_11 1 8 = Ia 1 8 := h_11.2.2.2.1 1 8 (by decide) (by decide) (by decide)
    have r9_I_11 : I_11 1 9 = Ia 1 9 := h_11.2.2.2.1 1 9 (by decide) (by decide) (by decide)
    have r10_I_11 : I_11 1 10 = Ia 1 10 := h_11.2.2.2.1 1 10 (by decide) (by decide) (by decide)
    have r11_I_11 : I_11 1 11 = Ia 1 11 := h_11.2.2.2.1 1 11 (by decide) (by decide) (by decide)
    have r81_I_11 : I_11 8 1 = Ia 8 1 := h_11.2.2.2.1 8 1 (by decide) (by decide) (by decide)
    have rf_I_11 : FU (I_11 1 5) = FU (Ia 1 5) := by rw [r5_I_11]
    have xv_I_11 := h_11.2.2.2.2
    exact ww_iret hX (pc := 14) hT (by omega) (by omega) dX10_image_14 ⟨_, rfl, CI_low hCI kI_11 cI_11, fun k h1 h2 => ⟨kI_11 k (by omega), kJ_11 k (by omega), rfl⟩, (Fw_wd wI_11 (by decide) (by decide)), (fun _ => ⟨xv_I_11.1, h_11.2.2.2.1, xv_I_11.2⟩), (fun _ => ⟨rfl, rfl, fun k hk => ⟨kI_11 k (by omega), rfl⟩⟩), (fun h9 => absurd h9 (by omega))⟩
  · simp only [w32_mod] at h_1
    refine ww_iload_n hX (pc := 4) dX10_image_4 rfl ?_
    refine ww_iconst hX (pc := 5) (x := 2) dX10_image_5 rfl ?_
    refine ww_icmp_lt hX (pc := 6) (tgt := 15) dX10_image_6 (by decide) (fun h_6 => ?_) (fun h_6 => ?_)
    · simp only [w32_mod] at h_6
      refine ww_aload_n hX (pc := 15) dX10_image_15 rfl ?_
      refine ww_getR hX (pc := 16) fX10_16 (by decide) (xs_0 hL) (xr_0_1 hL) dX10_image_16 ?_
      refine ww_iload_n hX (pc := 19) dX10_image_19 rfl ?_
      refine ww_aald hX (pc := 20) (Or.inr rfl) (xs_7 hL) (by decide) (by omega) (by omega) dX10_image_20 ?_
      cases hlw : Ra 7 a.toNat with
      | none =>
        refine ww_astore_nN hX (pc := 21) (lv' := [some (kR (some 0)), some (kI a), some (kR none)]) dX10_image_21 (by decide) rfl rfl ?_
        refine ww_aload_nN hX (pc := 22) dX10_image_22 rfl ?_
        refine ww_ifnonnullN hX (pc := 23) dX10_image_23 ?_
        refine ww_newz hX (pc := 26) 12 (z := z) hz cl_1 tb_29 tb_30 tb_2 rfl (by omega) (by omega) dX10_image_26 ?_
        refine ww_dupR hX (pc := 29) dX10_image_29 ?_
        refine ww_callI hX (pc := 30) (av := []) sX10_9 (c_X1_init l0 (o := z) (z := z + 1) (lz hz) (sz_n hz)) rfl (by decide) (by omega) (by omega) (Nat.le_of_ble_eq_true rfl) dX10_image_30 (fun r_30 I_30 J_30 R_30 S_30 h_30 => ?_)
        obtain ⟨rfl, h30I, h30J, h30R, h30S⟩ := h_30
        have eI30 : ∀ k, k < z → I_30 k = Ia k := fun k hk => by rw [← h30I, nI1_off (by omega) (by omega), upR_n _ _ (by omega)]
        have eJ30 : ∀ k, k < z → J_30 k = Ja k := fun k hk => by rw [← h30J]; unfold nJ_X1; rw [upR_n _ _ (by omega)]
        have eR30 : ∀ k, k < z → R_30 k = Ra k := fun k hk => by rw [← h30R, nR1_off (by omega) (by omega), upR_n _ _ (by omega)]
        have hcs30 : CoSh R_30 S_30 z := by
          rw [← h30R, ← h30S]
          refine ⟨sz_l (sz_l (sz_l (sz_l (sz_l (sz_n hz))))), sz_l (sz_l (sz_l (sz_l (sz_n (lz hz))))), sz_l (sz_l (sz_l (sz_n (lz (lz hz))))), sz_l (sz_l (sz_n (lz (lz (lz hz))))), sz_l (sz_n (lz (lz (lz (lz hz))))), sz_n (lz (lz (lz (lz (lz hz))))), ?_, ?_, ?_, ?_, ?_⟩
          all_goals unfold nR_X1
          · rw [up2_n _ _ (Or.inr (by decide)), up2_n _ _ (Or.inr (by decide)), up2_n _ _ (Or.inr (by decide)), upR_n _ _ (by omega), up2_n _ _ (Or.inr (by decide)), up2_s]
          · rw [up2_n _ _ (Or.inr (by decide)), up2_n _ _ (Or.inr (by decide)), up2_n _ _ (Or.inr (by decide)), upR_n _ _ (by omega), up2_s]
          · rw [up2_n _ _ (Or.inr (by decide)), up2_n _ _ (Or.inr (by decide)), up2_s]
          · rw [up2_n _ _ (Or.inr (by decide)), up2_s]
          · rw [up2_s]
        have hSX30 : SX Sa S_30 := by rw [← h30S]; exact SX_app (SX_app (SX_app (SX_app (SX_app (SX_app SX_rf)))))
        have hlen30 : S_30.length = z + 6 := by rw [← h30S]; exact lz (lz (lz (lz (lz (lz hz)))))
        have hL30 : LY R_30 S_30 := LY_ext hL (fun k h1 _ _ => eR30 k (by omega)) hSX30
        change WW X 33 [some (kR (some 0)), some (kI a), some (kR none)] [kR (some z)] I_30 J_30 R_30 S_30 _ _
        refine ww_astore_n hX (pc := 33) (lv' := [some (kR (some 0)), some (kI a), some (kR (some z))]) dX10_image_33 (by decide) rfl rfl ?_
        refine ww_aload_n hX (pc := 34) dX10_image_34 rfl ?_
        refine ww_getR hX (pc := 35) fX10_16 (by decide) (xs_0 hL30) (xr_0_1 hL30) dX10_image_35 ?_
        refine ww_iload_n hX (pc := 38) dX10_image_38 rfl ?_
        refine ww_aload_n hX (pc := 39) dX10_image_39 rfl ?_
        refine ww_aast5 hX (pc := 40) (xs_7 hL30) (by decide) (by omega) (by omega) hcs30.1 dX10_image_40 ?_
        have hx40 : ∃ R9, R9 = up2 R_30 7 a.toNat (some z) := ⟨_, rfl⟩
        obtain ⟨R_40, eR40⟩ := hx40
        rw [← eR40]
        have fR40 : ∀ k, k ≠ 7 → R_40 k = R_30 k := fun k hk => by rw [eR40, up2_off _ _ _ hk]
        have hLx : LY R_40 S_30 := LY_ext hL30 (fun k h1 _ h7 => fR40 k h7) SX_rf
        have hCx : CX I_30 := CX_lo hC (fun k hk => eI30 k (by omega))
        have hWx : LawsOK I_30 R_40 S_30 4 := LawsOK_hi hCI.2.2.1 (fun i hi => by rw [fR40 4 (by decide), eR30 4 (by omega)]) (fun k h1 h2 => eI30 k (by omega)) (fun k h1 h2 => by rw [fR40 k (by omega), eR30 k (by omega)]) hSX30
        have hMx : ∀ i, i < 2 → ∀ c', R_40 7 i = some c' → c' = z ∨ CoastOK I_30 R_40 S_30 c' := fun i hi c' hc' => by
          by_cases hia : i = a.toNat
          · rw [eR40, hia, up2_s] at hc'
            exact Or.inl (Option.some.inj hc').symm
          · rw [eR40, up2_n _ _ (Or.inr hia), eR30 7 (by omega)] at hc'
            exact Or.inr (CoastOK_hi (hCI.2.2.2 i hi c' hc') (fun k h1 h2 => eI30 k (by omega)) (fun k h1 h2 => by rw [fR40 k (by omega), eR30 k (by omega)]) hSX30)
        have hcx : CoSh R_40 S_30 z := CoSh_ext hcs30 (fR40 z (by omega)) SX_rf
        refine ww_aload_n hX (pc := 41) dX10_image_41 rfl ?_
        refine ww_aload_n hX (pc := 42) dX10_image_42 rfl ?_
        refine ww_getR hX (pc := 43) fX10_10 (by decide) (xs_0 hLx) (xr_0_0 hLx) dX10_image_43 ?_
        refine ww_callV hX (pc := 46) (av := [kR (some 1)]) sX10_301 hcx.1 (c_X1_copyFrom l0 (o := z) (q := 1) hcx (CoSh_1 hLx) (by omega) (fun i hi w hw => ⟨0, (hWx i hi w hw).2.1⟩)) rfl (by decide) (by omega) (by omega) (Nat.le_of_ble_eq_true rfl) dX10_image_46 (fun r_46 I_46 J_46 R_46 S_46 h_46 => ?_)
        obtain ⟨rfl, rfl, e46, eR46, rfl, he46⟩ := h_46
        change WW X 49 [some (kR (some 0)), some (kI a), some (kR (some z))] [] I_46 J_30 R_46 S_30 _ _
        have CI46 : CI I_46 R_46 S_30 := CI_img hLx hCx hWx hMx (by omega) hcx e46 eR46 he46
        have hL46 := CI46.1
        have cI_46 := CI46.2.1
        refine ww_aload_n hX (pc := 49) dX10_image_49 rfl ?_
        refine ww_iconst hX (pc := 50) (x := 0) dX10_image_50 rfl ?_
        refine vI1 hX (pc := 51) sX10_114 (xs_0 hL46) (c5_X10_accept l0 hL46 cI_46) (by decide) (by omega) (by omega) (Nat.le_of_ble_eq_true rfl) dX10_image_51 (fun x_51 I_51 J_51 h_51 => ?_)
        have wI_51 : Fw [] [(0, 16)] Ia I_51 := Fw_tr (Fw_of Fw_rf (fun k h1 h2 => (e46 k (by omega) (by omega) (by omega) (by omega) (by omega)).trans (eI30 k (by omega)))) (Fw_wd h_51.2.2.2.1 (by decide) (by decide))
        have hk51 : ∀ k, 73 ≤ k → I_51 k = I_46 k := fun k hk => h_51.1 k (by omega)
        have n1 : I_30 1 = Ia 1 := eI30 1 (by omega)
        have n2 : I_30 2 = Ia 2 := eI30 2 (by omega)
        have n3 : I_30 3 = Ia 3 := eI30 3 (by omega)
        have n5 : I_30 5 = Ia 5 := eI30 5 (by omega)
        have n6 : I_30 6 = Ia 6 := eI30 6 (by omega)
        have nr4 : R_40 4 = Ra 4 := (fR40 4 (by decide)).trans (eR30 4 (by omega))
        have im51 : ImC Ia I_51 Ra R_46 z := ⟨by rw [hk51 _ (by omega), ← n1]; exact he46.2.2.2.2.2, by rw [hk51 _ (by omega), ← n2]; exact he46.1, by rw [hk51 _ (by omega), ← n3]; exact he46.2.1, by rw [hk51 _ (by omega), ← n5]; exact he46.2.2.2.1, by rw [hk51 _ (by omega), ← n6]; exact he46.2.2.2.2.1, by rw [← nr4]; exact he46.2.2.1⟩
        exact ww_iret hX (pc := 54) hT (by omega) (by omega) dX10_image_54 ⟨_, rfl, CI_low CI46 h_51.1 h_51.2.2.1, fun k h1 h2 => ⟨(h_51.1 k (by omega)).trans ((e46 k (by omega) (by omega) (by omega) (by omega) (by omega)).trans (eI30 k (by omega))), (h_51.2.1 k (by omega)).trans (eJ30 k (by omega)), (eR46 k (by omega)).trans ((fR40 k (by omega)).trans (eR30 k (by omega)))⟩, Fw_wd wI_51 (by decide) (by decide), (fun h9 => absurd (by omega) h9), (fun h9 => absurd (by omega) h9), (fun _ => ⟨h_51.2.2.2.2.1, wI_51, h_51.2.2.2.2.2, z, (by rw [eR46 7 (by omega), eR40, up2_s]), im51, (fun j hj => by rw [eR46 7 (by omega), eR40, up2_n _ _ (Or.inr hj), eR30 7 (by omega)]), (fun j hj _ c' hc' => by
      have hk9 := hCI.2.2.2 j hj c' hc'
      have hl9 := (List.getElem?_eq_some_iff.mp hk9.2.1.2.2.2.2.2.1).1
      have h739 := hk9.1
      exact ⟨fun k hk => by rw [hk51 _ (by omega), e46 _ (by omega) (by omega) (by omega) (by omega) (by omega), eI30 _ (by omega)], by rw [eR46 _ (by omega), fR40 _ (by omega), eR30 _ (by omega)]⟩), Or.inr hz.symm, (by rw [eR46 4 (by omega)]; exact nr4)⟩)⟩
      | some c =>
        obtain ⟨hc73, hcs, hcr, hcl⟩ := hCI.2.2.2 a.toNat (by omega) c hlw
        refine ww_astore_n hX (pc := 21) (lv' := [some (kR (some 0)), some (kI a), some (kR (some c))]) dX10_image_21 (by decide) rfl rfl ?_
        refine ww_aload_n hX (pc := 22) dX10_image_22 rfl ?_
        refine ww_ifnonnullS hX (pc := 23) (tgt := 41) dX10_image_23 (by decide) ?_
        refine ww_aload_n hX (pc := 41) dX10_image_41 rfl ?_
        refine ww_aload_n hX (pc := 42) dX10_image_42 rfl ?_
        refine ww_getR hX (pc := 43) fX10_10 (by decide) (xs_0 hL) (xr_0_0 hL) dX10_image_43 ?_
        have hLx := hL
        have hCx := hC
        have hWx := hCI.2.2.1
        have hMx : ∀ i, i < 2 → ∀ c', Ra 7 i = some c' → c' = c ∨ CoastOK Ia Ra Sa c' := fun i hi c' hc' => Or.inr (hCI.2.2.2 i hi c' hc')
        have hcx := hcs
        refine ww_callV hX (pc := 46) (av := [kR (some 1)]) sX10_301 hcx.1 (c_X1_copyFrom l0 (o := c) (q := 1) hcx (CoSh_1 hLx) (by omega) (fun i hi w hw => ⟨0, (hWx i hi w hw).2.1⟩)) rfl (by decide) (by omega) (by omega) (Nat.le_of_ble_eq_true rfl) dX10_image_46 (fun r_46 I_46 J_46 R_46 S_46 h_46 => ?_)
        obtain ⟨rfl, rfl, e46, eR46, rfl, he46⟩ := h_46
        change WW X 49 [some (kR (some 0)), some (kI a), some (kR (some c))] [] I_46 Ja R_46 Sa _ _
        have CI46 : CI I_46 R_46 Sa := CI_img hLx hCx hWx hMx (by omega) hcx e46 eR46 he46
        have hL46 := CI46.1
        have cI_46 := CI46.2.1
        refine ww_aload_n hX (pc := 49) dX10_image_49 rfl ?_
        refine ww_iconst hX (pc := 50) (x := 0) dX10_image_50 rfl ?_
        refine vI1 hX (pc := 51) sX10_114 (xs_0 hL46) (c5_X10_accept l0 hL46 cI_46) (by decide) (by omega) (by omega) (Nat.le_of_ble_eq_true rfl) dX10_image_51 (fun x_51 I_51 J_51 h_51 => ?_)
        have wI_51 : Fw [] [(0, 16)] Ia I_51 := Fw_tr (Fw_of Fw_rf (fun k h1 h2 => (e46 k (by omega) (by omega) (by omega) (by omega) (by omega)).trans rfl)) (Fw_wd h_51.2.2.2.1 (by decide) (by decide))
        have hk51 : ∀ k, 73 ≤ k → I_51 k = I_46 k := fun k hk => h_51.1 k (by omega)
        have n1 : Ia 1 = Ia 1 := rfl
        have n2 : Ia 2 = Ia 2 := rfl
        have n3 : Ia 3 = Ia 3 := rfl
        have n5 : Ia 5 = Ia 5 := rfl
        have n6 : Ia 6 = Ia 6 := rfl
        have nr4 : Ra 4 = Ra 4 := rfl
        have im51 : ImC Ia I_51 Ra R_46 c := ⟨by rw [hk51 _ (by omega), ← n1]; exact he46.2.2.2.2.2, by rw [hk51 _ (by omega), ← n2]; exact he46.1, by rw [hk51 _ (by omega), ← n3]; exact he46.2.1, by rw [hk51 _ (by omega), ← n5]; exact he46.2.2.2.1, by rw [hk51 _ (by omega), ← n6]; exact he46.2.2.2.2.1, by rw [← nr4]; exact he46.2.2.1⟩
        exact ww_iret hX (pc := 54) hT (by omega) (by omega) dX10_image_54 ⟨_, rfl, CI_low CI46 h_51.1 h_51.2.2.1, fun k h1 h2 => ⟨(h_51.1 k (by omega)).trans ((e46 k (by omega) (by omega) (by omega) (by omega) (by omega)).trans rfl), (h_51.2.1 k (by omega)).trans rfl, (eR46 k (by omega)).trans rfl⟩, Fw_wd wI_51 (by decide) (by decide), (fun h9 => absurd (by omega) h9), (fun h9 => absurd (by omega) h9), (fun _ => ⟨h_51.2.2.2.2.1, wI_51, h_51.2.2.2.2.2, c, (by rw [eR46 7 (by omega)]; exact hlw), im51, (fun j hj => by rw [eR46 7 (by omega)]), (fun j hj hne c' hc' => by
      have hk9 := hCI.2.2.2 j hj c' hc'
      have hcc : c' ≠ c := fun q9 => hne (hDI j a.toNat hj (by omega) c (by rw [hc', q9]) hlw)
      have ho9 := coast_off hk9.2.1 hcs hcc
      have h739 := hk9.1
      exact ⟨fun k hk => by rw [hk51 _ (by omega), e46 _ (by omega) (by omega) (by omega) (by omega) (by omega)], by rw [eR46 _ (by omega)]⟩), Or.inl ⟨hlw, eR46 7 (by omega)⟩, (eR46 4 (by omega))⟩)⟩
    · simp only [w32_mod] at h_6
      refine ww_aload_n hX (pc := 9) dX10_image_9 rfl ?_
      refine ww_iconst hX (pc := 10) (x := (-1)) dX10_image_10 rfl ?_
      refine vI1 hX (pc := 11) sX10_89 (xs_0 hL) (c5_X10_refuse l0 hL hC (by omega) (by omega)) (by decide) (by omega) (by omega) (Nat.le_of_ble_eq_true rfl) dX10_image_11 (fun x_11 I_11 J_11 h_11 => ?_)
      have kI_11 : Kp 0 49 Ia I_11 := Kp_tr (Kp_rf (a := 0) (b := 49)) (Kp_wd h_11.1 (by decide) (by decide))
      have kJ_11 : Kp 0 49 Ja J_11 := Kp_tr (Kp_rf (a := 0) (b := 49)) (Kp_wd h_11.2.1 (by decide) (by decide))
      have cI_11 : CX I_11 := h_11.2.2.1
      have qI_11 := XI_o cI_11.1
      have wI_11 : Fw [48] [(0, 16)] Ia I_11 := Fw_tr Fw_rf (Fw_wd h_11.2.2.2.1 (by decide) (by decide))
      have r5_I_11 : I_11 1 5 = Ia 1 5 := h_11.2.2.2.1 1 5 (by decide) (by decide) (by decide)
      have r6_I_11 : I_11 1 6 = Ia 1 6 := h_11.2.2.2.1 1 6 (by decide) (by decide) (by decide)
      have r7_I_11 : I_11 1 7 = Ia 1 7 := h_11.2.2.2.1 1 7 (by decide) (by decide) (by decide)
      have r8_I_11 : I_11 1 8 = Ia 1 8 := h_11.2.2.2.1 1 8 (by decide) (by decide) (by decide)
      have r9_I_11 : I_11 1 9 = Ia 1 9 := h_11.2.2.2.1 1 9 (by decide) (by decide) (by decide)
      have r10_I_11 : I_11 1 10 = Ia 1 10 := h_11.2.2.2.1 1 10 (by decide) (by decide) (by decide)
      have r11_I_11 : I_11 1 11 = Ia 1 11 := h_11.2.2.2.1 1 11 (by decide) (by decide) (by decide)
      have r81_I_11 : I_11 8 1 = Ia 8 1 := h_11.2.2.2.1 8 1 (by decide) (by decide) (by decide)
      have rf_I_11 : FU (I_11 1 5) = FU (Ia 1 5) := by rw [r5_I_11]
      have xv_I_11 := h_11.2.2.2.2
      exact ww_iret hX (pc := 14) hT (by omega) (by omega) dX10_image_14 ⟨_, rfl, CI_low hCI kI_11 cI_11, fun k h1 h2 => ⟨kI_11 k (by omega), kJ_11 k (by omega), rfl⟩, (Fw_wd wI_11 (by decide) (by decide)), (fun _ => ⟨xv_I_11.1, h_11.2.2.2.1, xv_I_11.2⟩), (fun _ => ⟨rfl, rfl, fun k hk => ⟨kI_11 k (by omega), rfl⟩⟩), (fun h9 => absurd h9 (by omega))⟩
theorem mem_10 {rs : List Nat} {k : Nat} (h1 : 10 ≤ k) (h2 : k < 15) (h : ∀ k, k < 15 → 10 ≤ k → k ∈ rs) : k ∈ rs := h k h2 h1
set_option maxHeartbeats 4000000 in
set_option maxRecDepth 20000 in
theorem c5_X10_law (l0 : Launch) {Ia Ja : aI1} {Ra : aR1} {Sa : aS1} (hCI : CI Ia Ra Sa)  : CT l0 300 3 428 mX10_law [kR (some 0)] Ia Ja Ra Sa (dI (fun x I' J' R' S' => CI I' R' S' ∧ (∀ k, 49 ≤ k → k < 73 → I' k = Ia k ∧ J' k = Ja k ∧ R' k = Ra k) ∧ Fw [10, 11, 12, 13, 14, 48] [(0, 16), (1, 9), (8, 1)] Ia I' ∧ R' 7 = Ra 7 ∧ (∀ k, 73 ≤ k → k < Sa.length → I' k = Ia k ∧ R' k = Ra k) ∧ I' 8 1 = 0)) := by
  refine ct_in pn_X10 (Nat.le_of_ble_eq_true rfl) (fun X hX hT hIn => ?_)
  have hX : aK l0 X cX10_law 3 RX10 (some .int) 300 3 428 := hX
  change WW X 0 [some (kR (some 0)), none, none] [] Ia Ja Ra Sa 0 0
  have hL := hCI.1
  have hC := hCI.2.1
  have hI := hC.1
  have hq := XI_o hI
  obtain ⟨z, hz⟩ : ∃ z, Sa.length = z := ⟨_, rfl⟩
  have hz73 : 73 ≤ z := by rw [← hz]; exact (List.getElem?_eq_some_iff.mp (xs_72 hL)).1
  refine ww_aload_n hX (pc := 0) dX10_law_0 rfl ?_
  refine ww_getR hX (pc := 1) fX10_10 (by decide) (xs_0 hL) (xr_0_0 hL) dX10_law_1 ?_
  refine ww_getI hX (pc := 4) fX10_170 (by decide) (xs_1 hL) dX10_law_4 ?_
  refine ww_bipush hX (pc := 7) (x := 6) dX10_law_7 (by decide) ?_
  refine ww_icmp_lt hX (pc := 9) (tgt := 27) dX10_law_9 (by decide) (fun h_9 => ?_) (fun h_9 => ?_)
  · simp only [w32_mod] at h_9
    refine ww_aload_n hX (pc := 27) dX10_law_27 rfl ?_
    refine ww_getR hX (pc := 28) fX10_32 (by decide) (xs_0 hL) (xr_0_3 hL) dX10_law_28 ?_
    refine ww_callV hX (pc := 31) (av := []) sX10_173 (xs_10 hL) (c_X7_understand l0 hL hI hC.2.1 hz hz73) rfl (by decide) (by omega) (by omega) (Nat.le_of_ble_eq_true rfl) dX10_law_31 (fun r_31 I_31 J_31 R_31 S_31 h_31 => ?_)
    obtain ⟨x_31, rfl, eI31, eJ31, lr31, eR31, h31⟩ := h_31
    have cI_31 : CX I_31 := ⟨XI_of hI (eI31 0 (by omega) (by decide)) (eI31 1 (by omega) (by decide)) (eI31 3 (by omega) (by decide)) (eI31 8 (by omega) (by decide)) (eI31 9 (by omega) (by decide)), lr31, FI_of hC.2.2 (eI31 44 (by omega) (by decide))⟩
    have qI_31 := XI_o cI_31.1
    have wI_31 : Fw [10, 11, 12, 13, 14] [(0, 16), (1, 9), (8, 1)] Ia I_31 := Fw_of Fw_rf (fun k h1 h2 => eI31 k (by omega) (Decidable.byContradiction (fun e9 => h2 (mem_10 (by omega) (by omega) (by decide)))))
    have r9_31 : I_31 1 9 = Ia 1 9 := by rw [eI31 1 (by omega) (by decide)]
    have hSX31 : SX Sa S_31 ∧ Sa.length ≤ S_31.length ∧ S_31.length ≤ Sa.length + 3 := by
      rcases h31 with ⟨_, rfl⟩ | ⟨_, N1, N2, _, _, rfl, _⟩
      · exact ⟨SX_rf, by omega, by omega⟩
      · exact ⟨SX_app (SX_app (SX_app SX_rf)), by simp, by simp⟩
    obtain ⟨hSX31, hl31, hl32⟩ := hSX31
    have hL31 : LY R_31 S_31 := LY_ext hL (fun k h1 _ _ => eR31 k (by omega)) hSX31
    have CI31 : CI I_31 R_31 S_31 := ⟨hL31, cI_31, LawsOK_hi hCI.2.2.1 (fun i hi => by rw [eR31 4 (by omega)]) (fun k h1 h2 => eI31 k (by omega) (by omega)) (fun k h1 h2 => eR31 k (by omega)) hSX31, fun i hi c' hc' => CoastOK_hi (hCI.2.2.2 i hi c' (by rw [← eR31 7 (by omega)]; exact hc')) (fun k h1 h2 => eI31 k (by omega) (by omega)) (fun k h1 h2 => eR31 k (by omega)) hSX31⟩
    have h31' : x_31 = none ∨ (x_31 = some z ∧ LawOK I_31 R_31 S_31 z) := by
      rcases h31 with ⟨h, _⟩ | ⟨h, N1, N2, _, _, _, hlo⟩
      · exact Or.inl h
      · exact Or.inr ⟨h, hlo⟩
    clear h31
    rcases h31' with rfl | ⟨rfl, hlo⟩
    · change WW X 34 [some (kR (some 0)), none, none] [kR none] I_31 J_31 R_31 S_31 _ _
      refine ww_astore_nN hX (pc := 34) (lv' := [some (kR (some 0)), some (kR none), none]) dX10_law_34 (by decide) rfl rfl ?_
      refine ww_aload_n hX (pc := 35) dX10_law_35 rfl ?_
      refine ww_getR hX (pc := 36) fX10_23 (by decide) (xs_0 hL31) (xr_0_2 hL31) dX10_law_36 ?_
      refine ww_iconst hX (pc := 39) (x := 0) dX10_law_39 rfl ?_
      refine ww_putI hX (pc := 40) (fun h9 => absurd h9 (by decide)) gX10_148 rfl (xs_8 hL31) dX10_law_40 ?_
      refine ww_nmH (fun I_40 eI_40 => ?_)
      have kI_40 : Kp 0 49 I_31 I_40 := by rw [eI_40]; exact Kp_up (Kp_rf (a := 0) (b := 49)) _ _ (by decide)
      have cI_40 : CX I_40 := by rw [eI_40]; exact CX_x cI_31 (XI_8_1 cI_31.1 (by omega) (by omega)) (by decide)
      have qI_40 := XI_o cI_40.1
      have r5_I_40 : I_40 1 5 = I_31 1 5 := by rw [eI_40, up2_off _ _ _ (by decide)]
      have r6_I_40 : I_40 1 6 = I_31 1 6 := by rw [eI_40, up2_off _ _ _ (by decide)]
      have r8_I_40 : I_40 1 8 = I_31 1 8 := by rw [eI_40, up2_off _ _ _ (by decide)]
      have r9_I_40 : I_40 1 9 = I_31 1 9 := by rw [eI_40, up2_off _ _ _ (by decide)]
      have r10_I_40 : I_40 1 10 = I_31 1 10 := by rw [eI_40, up2_off _ _ _ (by decide)]
      have r11_I_40 : I_40 1 11 = I_31 1 11 := by rw [eI_40, up2_off _ _ _ (by decide)]
      have rf_I_40 : FU (I_40 1 5) = FU (I_31 1 5) := by rw [r5_I_40]
      have wI_40 : Fw [10, 11, 12, 13, 14] [(0, 16), (1, 9), (8, 1)] Ia I_40 := by rw [eI_40]; exact Fw_up wI_31 (Or.inr (by decide))
      have r7_I_40 : I_40 1 7 = I_31 1 7 := by rw [eI_40, up2_n _ _ (Or.inl (by decide))]
      have z81 : I_40 8 1 = 0 := by rw [eI_40, up2_s]
      refine ww_aload_nN hX (pc := 43) dX10_law_43 rfl ?_
      refine ww_ifnonnullN hX (pc := 44) dX10_law_44 ?_
      refine ww_aload_n hX (pc := 47) dX10_law_47 rfl ?_
      refine ww_bipush hX (pc := 48) (x := (-6)) dX10_law_48 (by decide) ?_
      refine vI1 hX (pc := 50) sX10_89 (xs_0 hL31) (c5_X10_refuse l0 hL31 cI_40 (by omega) (by omega)) (by decide) (by omega) (by omega) (Nat.le_of_ble_eq_true rfl) dX10_law_50 (fun x_50 I_50 J_50 h_50 => ?_)
      have kI_50 : Kp 0 49 I_31 I_50 := Kp_tr kI_40 (Kp_wd h_50.1 (by decide) (by decide))
      have kJ_50 : Kp 0 49 J_31 J_50 := Kp_tr (Kp_rf (a := 0) (b := 49)) (Kp_wd h_50.2.1 (by decide) (by decide))
      have cI_50 : CX I_50 := h_50.2.2.1
      have qI_50 := XI_o cI_50.1
      have wI_50 : Fw [10, 11, 12, 13, 14, 48] [(0, 16), (1, 9), (8, 1)] Ia I_50 := Fw_tr (Fw_wd wI_40 (by decide) (by decide)) (Fw_wd h_50.2.2.2.1 (by decide) (by decide))
      have r5_I_50 : I_50 1 5 = I_40 1 5 := h_50.2.2.2.1 1 5 (by decide) (by decide) (by decide)
      have r6_I_50 : I_50 1 6 = I_40 1 6 := h_50.2.2.2.1 1 6 (by decide) (by decide) (by decide)
      have r7_I_50 : I_50 1 7 = I_40 1 7 := h_50.2.2.2.1 1 7 (by decide) (by decide) (by decide)
      have r8_I_50 : I_50 1 8 = I_40 1 8 := h_50.2.2.2.1 1 8 (by decide) (by decide) (by decide)
      have r9_I_50 : I_50 1 9 = I_40 1 9 := h_50.2.2.2.1 1 9 (by decide) (by decide) (by decide)
      have r10_I_50 : I_50 1 10 = I_40 1 10 := h_50.2.2.2.1 1 10 (by decide) (by decide) (by decide)
      have r11_I_50 : I_50 1 11 = I_40 1 11 := h_50.2.2.2.1 1 11 (by decide) (by decide) (by decide)
      have r81_I_50 : I_50 8 1 = I_40 8 1 := h_50.2.2.2.1 8 1 (by decide) (by decide) (by decide)
      have rf_I_50 : FU (I_50 1 5) = FU (I_40 1 5) := by rw [r5_I_50]
      have xv_I_50 := h_50.2.2.2.2
      have z81 : I_50 8 1 = 0 := r81_I_50.trans z81
      exact ww_iret hX (pc := 53) hT (by omega) (by omega) dX10_law_53 ⟨_, rfl, CI_low CI31 kI_50 cI_50, fun k h1 h2 => ⟨(kI_50 k (by omega)).trans (eI31 k (by omega) (by omega)), (kJ_50 k (by omega)).trans (eJ31 k (by omega) (by omega)), (eR31 k (by omega))⟩, (Fw_wd wI_50 (by decide) (by decide)), (eR31 7 (by omega)), (fun k h1 h2 => ⟨(kI_50 k (by omega)).trans (eI31 k (by omega) (by omega)), (eR31 k (by omega))⟩), z81⟩
    · change WW X 34 [some (kR (some 0)), none, none] [kR (some z)] I_31 J_31 R_31 S_31 _ _
      refine ww_astore_n hX (pc := 34) (lv' := [some (kR (some 0)), some (kR (some z)), none]) dX10_law_34 (by decide) rfl rfl ?_
      refine ww_aload_n hX (pc := 35) dX10_law_35 rfl ?_
      refine ww_getR hX (pc := 36) fX10_23 (by decide) (xs_0 hL31) (xr_0_2 hL31) dX10_law_36 ?_
      refine ww_iconst hX (pc := 39) (x := 0) dX10_law_39 rfl ?_
      refine ww_putI hX (pc := 40) (fun h9 => absurd h9 (by decide)) gX10_148 rfl (xs_8 hL31) dX10_law_40 ?_
      refine ww_nmH (fun I_40 eI_40 => ?_)
      have kI_40 : Kp 0 49 I_31 I_40 := by rw [eI_40]; exact Kp_up (Kp_rf (a := 0) (b := 49)) _ _ (by decide)
      have cI_40 : CX I_40 := by rw [eI_40]; exact CX_x cI_31 (XI_8_1 cI_31.1 (by omega) (by omega)) (by decide)
      have qI_40 := XI_o cI_40.1
      have r5_I_40 : I_40 1 5 = I_31 1 5 := by rw [eI_40, up2_off _ _ _ (by decide)]
      have r6_I_40 : I_40 1 6 = I_31 1 6 := by rw [eI_40, up2_off _ _ _ (by decide)]
      have r8_I_40 : I_40 1 8 = I_31 1 8 := by rw [eI_40, up2_off _ _ _ (by decide)]
      have r9_I_40 : I_40 1 9 = I_31 1 9 := by rw [eI_40, up2_off _ _ _ (by decide)]
      have r10_I_40 : I_40 1 10 = I_31 1 10 := by rw [eI_40, up2_off _ _ _ (by decide)]
      have r11_I_40 : I_40 1 11 = I_31 1 11 := by rw [eI_40, up2_off _ _ _ (by decide)]
      have rf_I_40 : FU (I_40 1 5) = FU (I_31 1 5) := by rw [r5_I_40]
      have wI_40 : Fw [10, 11, 12, 13, 14] [(0, 16), (1, 9), (8, 1)] Ia I_40 := by rw [eI_40]; exact Fw_up wI_31 (Or.inr (by decide))
      have r7_I_40 : I_40 1 7 = I_31 1 7 := by rw [eI_40, up2_n _ _ (Or.inl (by decide))]
      have z81 : I_40 8 1 = 0 := by rw [eI_40, up2_s]
      refine ww_aload_n hX (pc := 43) dX10_law_43 rfl ?_
      refine ww_ifnonnullS hX (pc := 44) (tgt := 54) dX10_law_44 (by decide) ?_
      refine ww_aload_n hX (pc := 54) dX10_law_54 rfl ?_
      refine ww_getR hX (pc := 55) fX10_10 (by decide) (xs_0 hL31) (xr_0_0 hL31) dX10_law_55 ?_
      refine ww_getI hX (pc := 58) fX10_170 (by decide) (xs_1 hL31) dX10_law_58 ?_
      refine ww_nmI (fun v_61 hv_61 => ?_)
      refine ww_istore_n hX (pc := 61) (lv' := [some (kR (some 0)), some (kR (some z)), some (kI v_61)]) dX10_law_61 (by decide) rfl rfl ?_
      refine ww_aload_n hX (pc := 62) dX10_law_62 rfl ?_
      refine ww_getR hX (pc := 63) fX10_10 (by decide) (xs_0 hL31) (xr_0_0 hL31) dX10_law_63 ?_
      refine ww_getR hX (pc := 66) fX10_177 (by decide) (xs_1 hL31) (xr_1_2 hL31) dX10_law_66 ?_
      refine ww_iload_n hX (pc := 69) dX10_law_69 rfl ?_
      refine ww_aload_n hX (pc := 70) dX10_law_70 rfl ?_
      refine ww_aast4 hX (pc := 71) (xs_4 hL31) (by decide) (by omega) (by omega) hlo.2.1 dX10_law_71 ?_
      have hx71 : ∃ R9, R9 = up2 R_31 4 v_61.toNat (some z) := ⟨_, rfl⟩
      obtain ⟨R_71, eR71⟩ := hx71
      rw [← eR71]
      have fR71 : ∀ k, k ≠ 4 → R_71 k = R_31 k := fun k hk => by rw [eR71, up2_off _ _ _ hk]
      have hL71 : LY R_71 S_31 := LY_ext hL31 (fun k h1 h4 _ => fR71 k h4) SX_rf
      have CI71 : CI I_31 R_71 S_31 := ⟨hL71, cI_31, fun i hi w hw => by
        by_cases hii : i = v_61.toNat
        · rw [eR71, hii, up2_s] at hw
          obtain rfl := Option.some.inj hw
          exact LawOK_ext hlo rfl rfl rfl (fR71 _ (by omega)) SX_rf
        · rw [eR71, up2_n _ _ (Or.inr hii)] at hw
          have hlw := CI31.2.2.1 i hi w hw
          have hlw73 := hlw.1
          exact LawOK_ext hlw rfl rfl rfl (fR71 w (by omega)) SX_rf, fun i hi c' hc' => CoastOK_hi (hCI.2.2.2 i hi c' (by rw [fR71 7 (by decide), eR31 7 (by omega)] at hc'; exact hc')) (fun k h1 h2 => eI31 k (by omega) (by omega)) (fun k h1 h2 => by rw [fR71 k (by omega), eR31 k (by omega)]) hSX31⟩
      refine ww_aload_n hX (pc := 72) dX10_law_72 rfl ?_
      refine ww_getR hX (pc := 73) fX10_10 (by decide) (xs_0 hL71) (xr_0_0 hL71) dX10_law_73 ?_
      refine ww_iload_n hX (pc := 76) dX10_law_76 rfl ?_
      refine ww_iconst hX (pc := 77) (x := 1) dX10_law_77 rfl ?_
      refine ww_iadd hX (pc := 78) dX10_law_78 ?_
      refine ww_putI hX (pc := 79) (fun h9 => absurd h9 (by decide)) gX10_170 rfl (xs_1 hL71) dX10_law_79 ?_
      refine ww_nmH (fun I_79 eI_79 => ?_)
      have kI_79 : Kp 0 49 I_31 I_79 := by rw [eI_79]; exact Kp_up kI_40 _ _ (by decide)
      have cI_79 : CX I_79 := by rw [eI_79]; exact CX_x cI_40 (XI_1_9 cI_40.1 (by omega) (by omega)) (by decide)
      have qI_79 := XI_o cI_79.1
      have r5_I_79 : I_79 1 5 = I_40 1 5 := by rw [eI_79, up2_n _ _ (Or.inr (by decide))]
      have r6_I_79 : I_79 1 6 = I_40 1 6 := by rw [eI_79, up2_n _ _ (Or.inr (by decide))]
      have r8_I_79 : I_79 1 8 = I_40 1 8 := by rw [eI_79, up2_n _ _ (Or.inr (by decide))]
      skip
      have r10_I_79 : I_79 1 10 = I_40 1 10 := by rw [eI_79, up2_n _ _ (Or.inr (by decide))]
      have r11_I_79 : I_79 1 11 = I_40 1 11 := by rw [eI_79, up2_n _ _ (Or.inr (by decide))]
      have rf_I_79 : FU (I_79 1 5) = FU (I_40 1 5) := by rw [r5_I_79]
      have wI_79 : Fw [10, 11, 12, 13, 14] [(0, 16), (1, 9), (8, 1)] Ia I_79 := by rw [eI_79]; exact Fw_up wI_40 (Or.inr (by decide))
      have r7_I_79 : I_79 1 7 = I_40 1 7 := by rw [eI_79, up2_n _ _ (Or.inr (by decide))]
      have z81 : I_79 8 1 = 0 := by rw [eI_79, up2_off _ _ _ (by decide)]; exact z81
      refine ww_aload_n hX (pc := 82) dX10_law_82 rfl ?_
      refine ww_iload_n hX (pc := 83) dX10_law_83 rfl ?_
      refine vI1 hX (pc := 84) sX10_114 (xs_0 hL71) (c5_X10_accept l0 hL71 cI_79) (by decide) (by omega) (by omega) (Nat.le_of_ble_eq_true rfl) dX10_law_84 (fun x_84 I_84 J_84 h_84 => ?_)
      have kI_84 : Kp 0 49 I_31 I_84 := Kp_tr kI_79 (Kp_wd h_84.1 (by decide) (by decide))
      have kJ_84 : Kp 0 49 J_31 J_84 := Kp_tr (Kp_rf (a := 0) (b := 49)) (Kp_wd h_84.2.1 (by decide) (by decide))
      have cI_84 : CX I_84 := h_84.2.2.1
      have qI_84 := XI_o cI_84.1
      have wI_84 : Fw [10, 11, 12, 13, 14] [(0, 16), (1, 9), (8, 1)] Ia I_84 := Fw_tr wI_79 (Fw_wd h_84.2.2.2.1 (by decide) (by decide))
      have r5_I_84 : I_84 1 5 = I_79 1 5 := h_84.2.2.2.1 1 5 (by decide) (by decide) (by decide)
      have r6_I_84 : I_84 1 6 = I_79 1 6 := h_84.2.2.2.1 1 6 (by decide) (by decide) (by decide)
      have r7_I_84 : I_84 1 7 = I_79 1 7 := h_84.2.2.2.1 1 7 (by decide) (by decide) (by decide)
      have r8_I_84 : I_84 1 8 = I_79 1 8 := h_84.2.2.2.1 1 8 (by decide) (by decide) (by decide)
      have r9_I_84 : I_84 1 9 = I_79 1 9 := h_84.2.2.2.1 1 9 (by decide) (by decide) (by decide)
      have r10_I_84 : I_84 1 10 = I_79 1 10 := h_84.2.2.2.1 1 10 (by decide) (by decide) (by decide)
      have r11_I_84 : I_84 1 11 = I_79 1 11 := h_84.2.2.2.1 1 11 (by decide) (by decide) (by decide)
      have r81_I_84 : I_84 8 1 = I_79 8 1 := h_84.2.2.2.1 8 1 (by decide) (by decide) (by decide)
      have rf_I_84 : FU (I_84 1 5) = FU (I_79 1 5) := by rw [r5_I_84]
      have xv_I_84 := h_84.2.2.2.2
      have z81 : I_84 8 1 = 0 := r81_I_84.trans z81
      exact ww_iret hX (pc := 87) hT (by omega) (by omega) dX10_law_87 ⟨_, rfl, CI_low CI71 kI_84 cI_84, fun k h1 h2 => ⟨(kI_84 k (by omega)).trans (eI31 k (by omega) (by omega)), (kJ_84 k (by omega)).trans (eJ31 k (by omega) (by omega)), ((fR71 k (by omega)).trans (eR31 k (by omega)))⟩, (Fw_wd wI_84 (by decide) (by decide)), ((fR71 7 (by omega)).trans (eR31 7 (by omega))), (fun k h1 h2 => ⟨(kI_84 k (by omega)).trans (eI31 k (by omega) (by omega)), ((fR71 k (by omega)).trans (eR31 k (by omega)))⟩), z81⟩
  · simp only [w32_mod] at h_9
    refine ww_aload_n hX (pc := 12) dX10_law_12 rfl ?_
    refine ww_getR hX (pc := 13) fX10_23 (by decide) (xs_0 hL) (xr_0_2 hL) dX10_law_13 ?_
    refine ww_iconst hX (pc := 16) (x := 0) dX10_law_16 rfl ?_
    refine ww_putI hX (pc := 17) (fun h9 => absurd h9 (by decide)) gX10_148 rfl (xs_8 hL) dX10_law_17 ?_
    refine ww_nmH (fun I_17 eI_17 => ?_)
    have kI_17 : Kp 0 49 Ia I_17 := by rw [eI_17]; exact Kp_up (Kp_rf (a := 0) (b := 49)) _ _ (by decide)
    have cI_17 : CX I_17 := by rw [eI_17]; exact CX_x hC (XI_8_1 hC.1 (by omega) (by omega)) (by decide)
    have qI_17 := XI_o cI_17.1
    have r5_I_17 : I_17 1 5 = Ia 1 5 := by rw [eI_17, up2_off _ _ _ (by decide)]
    have r6_I_17 : I_17 1 6 = Ia 1 6 := by rw [eI_17, up2_off _ _ _ (by decide)]
    have r8_I_17 : I_17 1 8 = Ia 1 8 := by rw [eI_17, up2_off _ _ _ (by decide)]
    have r9_I_17 : I_17 1 9 = Ia 1 9 := by rw [eI_17, up2_off _ _ _ (by decide)]
    have r10_I_17 : I_17 1 10 = Ia 1 10 := by rw [eI_17, up2_off _ _ _ (by decide)]
    have r11_I_17 : I_17 1 11 = Ia 1 11 := by rw [eI_17, up2_off _ _ _ (by decide)]
    have rf_I_17 : FU (I_17 1 5) = FU (Ia 1 5) := by rw [r5_I_17]
    have wI_17 : Fw [10, 11, 12, 13, 14] [(0, 16), (1, 9), (8, 1)] Ia I_17 := by rw [eI_17]; exact Fw_up Fw_rf (Or.inr (by decide))
    have r7_I_17 : I_17 1 7 = Ia 1 7 := by rw [eI_17, up2_n _ _ (Or.inl (by decide))]
    have z81 : I_17 8 1 = 0 := by rw [eI_17, up2_s]
    refine ww_aload_n hX (pc := 20) dX10_law_20 rfl ?_
    refine ww_bipush hX (pc := 21) (x := (-5)) dX10_law_21 (by decide) ?_
    refine vI1 hX (pc := 23) sX10_89 (xs_0 hL) (c5_X10_refuse l0 hL cI_17 (by omega) (by omega)) (by decide) (by omega) (by omega) (Nat.le_of_ble_eq_true rfl) dX10_law_23 (fun x_23 I_23 J_23 h_23 => ?_)
    have kI_23 : Kp 0 49 Ia I_23 := Kp_tr kI_17 (Kp_wd h_23.1 (by decide) (by decide))
    have kJ_23 : Kp 0 49 Ja J_23 := Kp_tr (Kp_rf (a := 0) (b := 49)) (Kp_wd h_23.2.1 (by decide) (by decide))
    have cI_23 : CX I_23 := h_23.2.2.1
    have qI_23 := XI_o cI_23.1
    have wI_23 : Fw [10, 11, 12, 13, 14, 48] [(0, 16), (1, 9), (8, 1)] Ia I_23 := Fw_tr (Fw_wd wI_17 (by decide) (by decide)) (Fw_wd h_23.2.2.2.1 (by decide) (by decide))
    have r5_I_23 : I_23 1 5 = I_17 1 5 := h_23.2.2.2.1 1 5 (by decide) (by decide) (by decide)
    have r6_I_23 : I_23 1 6 = I_17 1 6 := h_23.2.2.2.1 1 6 (by decide) (by decide) (by decide)
    have r7_I_23 : I_23 1 7 = I_17 1 7 := h_23.2.2.2.1 1 7 (by decide) (by decide) (by decide)
    have r8_I_23 : I_23 1 8 = I_17 1 8 := h_23.2.2.2.1 1 8 (by decide) (by decide) (by decide)
    have r9_I_23 : I_23 1 9 = I_17 1 9 := h_23.2.2.2.1 1 9 (by decide) (by decide) (by decide)
    have r10_I_23 : I_23 1 10 = I_17 1 10 := h_23.2.2.2.1 1 10 (by decide) (by decide) (by decide)
    have r11_I_23 : I_23 1 11 = I_17 1 11 := h_23.2.2.2.1 1 11 (by decide) (by decide) (by decide)
    have r81_I_23 : I_23 8 1 = I_17 8 1 := h_23.2.2.2.1 8 1 (by decide) (by decide) (by decide)
    have rf_I_23 : FU (I_23 1 5) = FU (I_17 1 5) := by rw [r5_I_23]
    have xv_I_23 := h_23.2.2.2.2
    have z81 : I_23 8 1 = 0 := r81_I_23.trans z81
    exact ww_iret hX (pc := 26) hT (by omega) (by omega) dX10_law_26 ⟨_, rfl, CI_low hCI kI_23 cI_23, fun k h1 h2 => ⟨kI_23 k (by omega), kJ_23 k (by omega), rfl⟩, (Fw_wd wI_23 (by decide) (by decide)), rfl, (fun k h1 h2 => ⟨kI_23 k (by omega), rfl⟩), z81⟩
end
section
theorem FU_2 {a : Int} (h0 : 1 ≤ a) (h1 : a ≤ 3) : (FU a + 1).toNat = 2 ^ a.toNat := by
  rcases (show a = 1 ∨ a = 2 ∨ a = 3 by omega) with rfl | rfl | rfl <;> decide
set_option maxHeartbeats 4000000 in
set_option maxRecDepth 20000 in
theorem c5_X11_codes (l0 : Launch) {Ia Ja : aI1} {Ra : aR1} {Sa : aS1} (hL : LY Ra Sa) (hQ : RX Ia) {a b c : Int} (ha0 : -2147483648 ≤ a) (ha1 : a < 2147483648) (hb0 : -2147483648 ≤ b) (hb1 : b < 2147483648) (hc0 : -2147483648 ≤ c) (hc1 : c < 2147483648)  : CT l0 4 0 0 mX11_codes [kR (some 49), kI a, kI b, kI c] Ia Ja Ra Sa (cI (fun x I' J' => Ch [51, 61, 65, 66] [25, 31] Ia I' ∧ Kp 49 73 Ja J' ∧ RX I' ∧ (¬ (1 ≤ a ∧ a ≤ 3 ∧ 2 ≤ b ∧ b ≤ 4 ∧ 0 ≤ c ∧ c ≤ 8) → x = -1) ∧ ((1 ≤ a ∧ a ≤ 3 ∧ 2 ≤ b ∧ b ≤ 4 ∧ 0 ≤ c ∧ c ≤ 8) → x = TBX a b c) ∧ (∀ j : Nat, 256 ≤ j → I' 51 j = Ia 51 j)) Ra Sa) := by
  refine ct_in pn_X11 (Nat.le_of_ble_eq_true rfl) (fun X hX hT hIn => ?_)
  have hX : aK l0 X cX11_codes 4 RX11 (some .int) 4 0 0 := hX
  change WW X 0 [some (kR (some 49)), some (kI a), some (kI b), some (kI c)] [] Ia Ja Ra Sa 0 0
  have qIa := RX_o hQ
  refine ww_iload_n hX (pc := 0) dX11_codes_0 rfl ?_
  refine ww_iload_n hX (pc := 1) dX11_codes_1 rfl ?_
  refine ww_iload_n hX (pc := 2) dX11_codes_2 rfl ?_
  refine sI3 hX (pc := 3) sX11_327 (c_X11_areCodes l0 (by omega) (by omega) (by omega) (by omega) (by omega) (by omega)) (by decide) (Nat.le_refl 0) (Nat.le_refl 0) (Nat.le_of_ble_eq_true rfl) dX11_codes_3 (fun x_3 I_3 J_3 h_3 => ?_)
  obtain ⟨rfl, rfl, h_3⟩ := h_3
  refine ww_if_ne hX (pc := 6) (tgt := 11) dX11_codes_6 (by decide) (fun h_6 => ?_) (fun h_6 => ?_)
  · simp only [w32_mod] at h_6
    have k_3 := h_3.2.mp (by omega)
    clear h_3
    refine ww_aload_n hX (pc := 11) dX11_codes_11 rfl ?_
    refine ww_iload_n hX (pc := 12) dX11_codes_12 rfl ?_
    refine ww_iload_n hX (pc := 13) dX11_codes_13 rfl ?_
    refine ww_iload_n hX (pc := 14) dX11_codes_14 rfl ?_
    refine vV3 hX (pc := 15) sX11_330 (xs_49 hL) (c5_X11_codes0 l0 hL hQ (by omega) (by omega) (by omega) (by omega) (by omega) (by omega)) (by decide) (Nat.le_refl 0) (Nat.le_refl 0) (Nat.le_of_ble_eq_true rfl) dX11_codes_15 (fun I_15 J_15 h_15 => ?_)
    have kJ_15 : Kp 49 73 Ja J_15 := Kp_tr (Kp_rf (a := 49) (b := 73)) h_15.2.1
    have kI_15 : Ch [51, 61, 65, 66] [25, 31] Ia I_15 := Ch_tr Ch_rf (Ch_wd h_15.1 (by decide) (by decide))
    have cI_15 : RX I_15 := h_15.2.2.1
    have qI_15 := RX_o cI_15
    have xv15 := h_15.2.2.2
    have ht15 : I_15 49 31 = TBX a b c := by
      rw [h_15.2.2.2.2.2.2.1, FU_2 (by omega) (by omega)]
      exact codes_eq (by omega) (by omega) (by omega) (by omega) (by omega)
    have oc15 : ∀ j : Nat, 256 ≤ j → I_15 51 j = Ia 51 j := fun j h1 => by
      by_cases e4 : j = 304
      · rw [e4]; exact h_15.2.2.2.1
      · by_cases e5 : j = 305
        · rw [e5]; exact h_15.2.2.2.2.1
        · exact h_15.2.2.2.2.2.2.2 j h1 e4 e5
    have o_I_15 : ∀ j : Nat, 256 ≤ j → I_15 51 j = Ia 51 j := fun j h1 => (oc15 j h1).trans ((fun _ _ => rfl) j h1)
    refine ww_aload_n hX (pc := 18) dX11_codes_18 rfl ?_
    refine ww_getI hX (pc := 19) fX11_324 (by decide) (xs_49 hL) dX11_codes_19 ?_
    refine rI hX (pc := 22) hT (Nat.le_refl 0) (Nat.le_refl 0) dX11_codes_22 ?_
    exact ⟨kI_15, kJ_15, cI_15, by omega, by omega, o_I_15⟩
  · simp only [w32_mod] at h_6
    refine ww_iconst hX (pc := 9) (x := (-1)) dX11_codes_9 rfl ?_
    refine rI hX (pc := 10) hT (Nat.le_refl 0) (Nat.le_refl 0) dX11_codes_10 ?_
    exact ⟨Ch_rf, (Kp_rf (a := 49) (b := 73)), hQ, by omega, by omega, (fun _ _ => rfl)⟩
set_option maxHeartbeats 4000000 in
set_option maxRecDepth 20000 in
theorem c5_X11_make (l0 : Launch) {Ia Ja : aI1} {Ra : aR1} {Sa : aS1} (hL : LY Ra Sa) (hQ : RX Ia) {a b c : Int} (ha0 : -2147483648 ≤ a) (ha1 : a < 2147483648) (hb0 : -2147483648 ≤ b) (hb1 : b < 2147483648) (hc0 : -2147483648 ≤ c) (hc1 : c < 2147483648)  : CT l0 4 0 0 mX11_make [kR (some 49), kI a, kI b, kI c] Ia Ja Ra Sa (cI (fun x I' J' => Ch [50, 51, 61, 65, 66] [0, 1, 25, 31] Ia I' ∧ Kp 49 73 Ja J' ∧ RX I' ∧ I' 51 304 = Ia 51 304 ∧ I' 51 305 = Ia 51 305 ∧ I' 51 309 = Ia 51 309 ∧ (¬ (1 ≤ a ∧ a ≤ 3 ∧ 2 ≤ b ∧ b ≤ 4 ∧ 0 ≤ c ∧ c ≤ 8) → x = -1) ∧ ((1 ≤ a ∧ a ≤ 3 ∧ 2 ≤ b ∧ b ≤ 4 ∧ 0 ≤ c ∧ c ≤ 8) → ¬ (a = Ia 51 304 ∧ b = Ia 51 305 ∧ ¬ TBX a b c = 0) → x = -3) ∧ ((1 ≤ a ∧ a ≤ 3 ∧ 2 ≤ b ∧ b ≤ 4 ∧ 0 ≤ c ∧ c ≤ 8) → (a = Ia 51 304 ∧ b = Ia 51 305 ∧ ¬ TBX a b c = 0) → x = 0) ∧ (∀ j : Nat, 256 ≤ j → I' 51 j = Ia 51 j)) Ra Sa) := by
  refine ct_in pn_X11 (Nat.le_of_ble_eq_true rfl) (fun X hX hT hIn => ?_)
  have hX : aK l0 X cX11_make 5 RX11 (some .int) 4 0 0 := hX
  change WW X 0 [some (kR (some 49)), some (kI a), some (kI b), some (kI c), none] [] Ia Ja Ra Sa 0 0
  have qIa := RX_o hQ
  refine ww_iload_n hX (pc := 0) dX11_make_0 rfl ?_
  refine ww_iload_n hX (pc := 1) dX11_make_1 rfl ?_
  refine ww_iload_n hX (pc := 2) dX11_make_2 rfl ?_
  refine sI3 hX (pc := 3) sX11_327 (c_X11_areCodes l0 (by omega) (by omega) (by omega) (by omega) (by omega) (by omega)) (by decide) (Nat.le_refl 0) (Nat.le_refl 0) (Nat.le_of_ble_eq_true rfl) dX11_make_3 (fun x_3 I_3 J_3 h_3 => ?_)
  obtain ⟨rfl, rfl, h_3⟩ := h_3
  refine ww_if_ne hX (pc := 6) (tgt := 15) dX11_make_6 (by decide) (fun h_6 => ?_) (fun h_6 => ?_)
  · simp only [w32_mod] at h_6
    have k_3 := h_3.2.mp (by omega)
    clear h_3
    refine ww_iload_n hX (pc := 15) dX11_make_15 rfl ?_
    refine ww_aload_n hX (pc := 16) dX11_make_16 rfl ?_
    refine ww_getR hX (pc := 17) fX11_20 (by decide) (xs_49 hL) (xr_49_3 hL) dX11_make_17 ?_
    refine ww_sipush hX (pc := 20) (x := 304) dX11_make_20 (by decide) ?_
    refine ww_iald hX (pc := 23) (xs_51 hL) (by decide) (by omega) (by omega) dX11_make_23 ?_
    refine ww_toI (b := Ia 51 304) rfl ?_
    refine ww_icmp_ne hX (pc := 24) (tgt := 39) dX11_make_24 (by decide) (fun h_24 => ?_) (fun h_24 => ?_)
    · simp only [w32_mod] at h_24
      refine ww_aload_n hX (pc := 39) dX11_make_39 rfl ?_
      refine ww_bipush hX (pc := 40) (x := (-3)) dX11_make_40 (by decide) ?_
      refine vI1 hX (pc := 42) sX11_105 (xs_49 hL) (c_X11_refuses l0 hL hQ (by omega) (by omega)) (by decide) (Nat.le_refl 0) (Nat.le_refl 0) (Nat.le_of_ble_eq_true rfl) dX11_make_42 (fun x_42 I_42 J_42 h_42 => ?_)
      have kJ_42 : Kp 49 73 Ja J_42 := Kp_tr (Kp_rf (a := 49) (b := 73)) h_42.2.1
      have kI_42 : Ch [50, 51, 61, 65, 66] [0, 1, 25, 31] Ia I_42 := Ch_tr Ch_rf (Ch_wd h_42.1 (by decide) (by decide))
      have cI_42 : RX I_42 := h_42.2.2.1
      have qI_42 := RX_o cI_42
      have r304_I_42 : I_42 51 304 = Ia 51 304 := by rw [h_42.1.1 51 (by decide) (by decide)]
      have r305_I_42 : I_42 51 305 = Ia 51 305 := by rw [h_42.1.1 51 (by decide) (by decide)]
      have r309_I_42 : I_42 51 309 = Ia 51 309 := by rw [h_42.1.1 51 (by decide) (by decide)]
      have rf_I_42 : FU (I_42 51 304) = FU (Ia 51 304) := by rw [r304_I_42]
      have xv42 := h_42.2.2.2
      have o_I_42 : ∀ j : Nat, 256 ≤ j → I_42 51 j = Ia 51 j := fun j h1 => (congrFun (h_42.1.1 51 (by decide) (by decide)) j).trans ((fun _ _ => rfl) j h1)
      refine rI hX (pc := 45) hT (Nat.le_refl 0) (Nat.le_refl 0) dX11_make_45 ?_
      exact ⟨kI_42, kJ_42, cI_42, by omega, by omega, by omega, by omega, by omega, by omega, o_I_42⟩
    · simp only [w32_mod] at h_24
      refine ww_iload_n hX (pc := 27) dX11_make_27 rfl ?_
      refine ww_aload_n hX (pc := 28) dX11_make_28 rfl ?_
      refine ww_getR hX (pc := 29) fX11_20 (by decide) (xs_49 hL) (xr_49_3 hL) dX11_make_29 ?_
      refine ww_sipush hX (pc := 32) (x := 305) dX11_make_32 (by decide) ?_
      refine ww_iald hX (pc := 35) (xs_51 hL) (by decide) (by omega) (by omega) dX11_make_35 ?_
      refine ww_toI (b := Ia 51 305) rfl ?_
      refine ww_icmp_eq hX (pc := 36) (tgt := 46) dX11_make_36 (by decide) (fun h_36 => ?_) (fun h_36 => ?_)
      · simp only [w32_mod] at h_36
        refine ww_aload_n hX (pc := 46) dX11_make_46 rfl ?_
        refine ww_iload_n hX (pc := 47) dX11_make_47 rfl ?_
        refine ww_iload_n hX (pc := 48) dX11_make_48 rfl ?_
        refine ww_iload_n hX (pc := 49) dX11_make_49 rfl ?_
        refine vV3 hX (pc := 50) sX11_330 (xs_49 hL) (c5_X11_codes0 l0 hL hQ (by omega) (by omega) (by omega) (by omega) (by omega) (by omega)) (by decide) (Nat.le_refl 0) (Nat.le_refl 0) (Nat.le_of_ble_eq_true rfl) dX11_make_50 (fun I_50 J_50 h_50 => ?_)
        have kJ_50 : Kp 49 73 Ja J_50 := Kp_tr (Kp_rf (a := 49) (b := 73)) h_50.2.1
        have kI_50 : Ch [50, 51, 61, 65, 66] [0, 1, 25, 31] Ia I_50 := Ch_tr Ch_rf (Ch_wd h_50.1 (by decide) (by decide))
        have cI_50 : RX I_50 := h_50.2.2.1
        have qI_50 := RX_o cI_50
        have xv50 := h_50.2.2.2
        have hf7 : FU (I_50 51 304) ≤ 7 := FU_3 (by omega) (by omega)
        have ht50 : I_50 49 31 = TBX a b c := by
          rw [h_50.2.2.2.2.2.2.1, FU_2 (by omega) (by omega)]
          exact codes_eq (by omega) (by omega) (by omega) (by omega) (by omega)
        have hr50 := TBX_r a b c
        have oc50 : ∀ j : Nat, 256 ≤ j → I_50 51 j = Ia 51 j := fun j h1 => by
          by_cases e4 : j = 304
          · rw [e4]; exact h_50.2.2.2.1
          · by_cases e5 : j = 305
            · rw [e5]; exact h_50.2.2.2.2.1
            · exact h_50.2.2.2.2.2.2.2 j h1 e4 e5
        have o_I_50 : ∀ j : Nat, 256 ≤ j → I_50 51 j = Ia 51 j := fun j h1 => (oc50 j h1).trans ((fun _ _ => rfl) j h1)
        refine ww_aload_n hX (pc := 53) dX11_make_53 rfl ?_
        refine ww_getI hX (pc := 54) fX11_324 (by decide) (xs_49 hL) dX11_make_54 ?_
        refine ww_if_ne hX (pc := 57) (tgt := 67) dX11_make_57 (by decide) (fun h_57 => ?_) (fun h_57 => ?_)
        · simp only [w32_mod] at h_57
          refine ww_iconst hX (pc := 67) (x := 0) dX11_make_67 rfl ?_
          refine ww_istore hX (pc := 68) (lv' := [some (kR (some 49)), some (kI a), some (kI b), some (kI c), some (kI 0)]) dX11_make_68 (by decide) rfl rfl ?_
          have hl_70 : ∀ (n_70 : Nat) (i : Int) (I70 : aI1) (J70 : aI1), (8 - i).toNat = n_70 → (Ch [50, 51, 61, 65, 66] [0, 1, 25, 31] Ia I70 ∧ RX I70 ∧ Kp 49 73 Ja J70 ∧ I70 51 304 = I_50 51 304 ∧ I70 51 305 = I_50 51 305 ∧ I70 51 309 = I_50 51 309 ∧ (∀ j : Nat, 256 ≤ j → I70 51 j = Ia 51 j) ∧ (0 ≤ i ∧ i ≤ 8)) → WW X 70 [some (kR (some 49)), some (kI a), some (kI b), some (kI c), some (kI i)] [] I70 J70 Ra Sa 0 0 := by
            intro n_70
            induction n_70 using Nat.strongRecOn with
            | ind n_70 ih_70 =>
              intro i I70 J70 hm_70 hv_70
              have hq_70 := Sh0_i hm_70
              clear hm_70
              obtain ⟨kI70, cI70, kJ70, r304_I70, r305_I70, r309_I70, o_I70, hv⟩ := hv_70
              have qI70 := RX_o cI70
              have rf_I70 : FU (I70 51 304) = FU (I_50 51 304) := by rw [r304_I70]
              refine ww_iload hX (pc := 70) dX11_make_70 rfl ?_
              refine ww_aload_n hX (pc := 72) dX11_make_72 rfl ?_
              refine vI0 hX (pc := 73) sX11_112 (xs_49 hL) (c_X11_states l0 hL cI70 ) (by decide) (Nat.le_refl 0) (Nat.le_refl 0) (Nat.le_of_ble_eq_true rfl) dX11_make_73 (fun x_73 I_73 J_73 h_73 => ?_)
              obtain ⟨rfl, rfl, h_73⟩ := h_73
              refine ww_icmp_ge hX (pc := 76) (tgt := 101) dX11_make_76 (by decide) (fun h_76 => ?_) (fun h_76 => ?_)
              · simp only [w32_mod] at h_76
                refine ww_aload_n hX (pc := 101) dX11_make_101 rfl ?_
                refine ww_iconst hX (pc := 102) (x := 0) dX11_make_102 rfl ?_
                refine vI1 hX (pc := 103) sX11_109 (xs_49 hL) (c_X11_good l0 hL cI70 ) (by decide) (Nat.le_refl 0) (Nat.le_refl 0) (Nat.le_of_ble_eq_true rfl) dX11_make_103 (fun x_103 I_103 J_103 h_103 => ?_)
                have kJ_103 : Kp 49 73 Ja J_103 := Kp_tr kJ70 h_103.2.1
                have kI_103 : Ch [50, 51, 61, 65, 66] [0, 1, 25, 31] Ia I_103 := Ch_tr kI70 (Ch_wd h_103.1 (by decide) (by decide))
                have cI_103 : RX I_103 := h_103.2.2.1
                have qI_103 := RX_o cI_103
                have r304_I_103 : I_103 51 304 = I70 51 304 := by rw [h_103.1.1 51 (by decide) (by decide)]
                have r305_I_103 : I_103 51 305 = I70 51 305 := by rw [h_103.1.1 51 (by decide) (by decide)]
                have r309_I_103 : I_103 51 309 = I70 51 309 := by rw [h_103.1.1 51 (by decide) (by decide)]
                have rf_I_103 : FU (I_103 51 304) = FU (I70 51 304) := by rw [r304_I_103]
                have xv103 := h_103.2.2.2
                have o_I_103 : ∀ j : Nat, 256 ≤ j → I_103 51 j = Ia 51 j := fun j h1 => (congrFun (h_103.1.1 51 (by decide) (by decide)) j).trans (o_I70 j h1)
                refine rI hX (pc := 106) hT (Nat.le_refl 0) (Nat.le_refl 0) dX11_make_106 ?_
                exact ⟨kI_103, kJ_103, cI_103, by omega, by omega, by omega, by omega, by omega, by omega, o_I_103⟩
              · simp only [w32_mod] at h_76
                refine ww_aload_n hX (pc := 79) dX11_make_79 rfl ?_
                refine ww_getR hX (pc := 80) fX11_20 (by decide) (xs_49 hL) (xr_49_3 hL) dX11_make_80 ?_
                refine ww_iconst hX (pc := 83) (x := 0) dX11_make_83 rfl ?_
                refine ww_iload hX (pc := 84) dX11_make_84 rfl ?_
                refine ww_iadd hX (pc := 86) dX11_make_86 ?_
                refine ww_aload_n hX (pc := 87) dX11_make_87 rfl ?_
                refine ww_getR hX (pc := 88) fX11_74 (by decide) (xs_49 hL) (xr_49_30 hL) dX11_make_88 ?_
                refine ww_iload hX (pc := 91) dX11_make_91 rfl ?_
                refine ww_iald hX (pc := 93) (xs_66 hL) (by decide) (by omega) (by omega) dX11_make_93 ?_
                refine ww_iast hX (pc := 94) (xs_51 hL) (by decide) (by omega) (by omega) dX11_make_94 ?_
                refine ww_nmH (fun I_94 eI_94 => ?_)
                have kI_94 : Ch [50, 51, 61, 65, 66] [0, 1, 25, 31] Ia I_94 := by rw [eI_94]; exact Ch_r kI70 (by decide) (by decide)
                have cI_94 : RX I_94 := by rw [eI_94]; exact RX_lo cI70 (by omega)
                have qI_94 := RX_o cI_94
                have r304_I_94 : I_94 51 304 = I70 51 304 := by rw [eI_94, up2_n _ _ (Or.inr (by omega))]
                have r305_I_94 : I_94 51 305 = I70 51 305 := by rw [eI_94, up2_n _ _ (Or.inr (by omega))]
                have r309_I_94 : I_94 51 309 = I70 51 309 := by rw [eI_94, up2_n _ _ (Or.inr (by omega))]
                have rf_I_94 : FU (I_94 51 304) = FU (I70 51 304) := by rw [r304_I_94]
                have o_I_94 : ∀ j : Nat, 256 ≤ j → I_94 51 j = Ia 51 j := fun j h1 => (by rw [eI_94, up2_n _ _ (Or.inr (by omega))] : I_94 51 j = I70 51 j).trans (o_I70 j h1)
                refine ww_iinc hX (pc := 95) (lv' := [some (kR (some 49)), some (kI a), some (kI b), some (kI c), some (kI (i + 1))]) dX11_make_95 rfl (by decide) rfl rfl ?_
                refine ww_goto hX (pc := 98) (tgt := 70) dX11_make_98 (by decide) ?_
                exact ih_70 _ (by have hm9 := Sh0_e hq_70; omega) (i + 1) I_94 J70 rfl ⟨kI_94, cI_94, kJ70, by omega, by omega, by omega, o_I_94, by omega⟩
          exact hl_70 _ 0 I_50 J_50 rfl ⟨kI_50, cI_50, kJ_50, rfl, rfl, rfl, o_I_50, by omega⟩
        · simp only [w32_mod] at h_57
          refine ww_aload_n hX (pc := 60) dX11_make_60 rfl ?_
          refine ww_bipush hX (pc := 61) (x := (-3)) dX11_make_61 (by decide) ?_
          refine vI1 hX (pc := 63) sX11_105 (xs_49 hL) (c_X11_refuses l0 hL cI_50 (by omega) (by omega)) (by decide) (Nat.le_refl 0) (Nat.le_refl 0) (Nat.le_of_ble_eq_true rfl) dX11_make_63 (fun x_63 I_63 J_63 h_63 => ?_)
          have kJ_63 : Kp 49 73 Ja J_63 := Kp_tr kJ_50 h_63.2.1
          have kI_63 : Ch [50, 51, 61, 65, 66] [0, 1, 25, 31] Ia I_63 := Ch_tr kI_50 (Ch_wd h_63.1 (by decide) (by decide))
          have cI_63 : RX I_63 := h_63.2.2.1
          have qI_63 := RX_o cI_63
          have r304_I_63 : I_63 51 304 = I_50 51 304 := by rw [h_63.1.1 51 (by decide) (by decide)]
          have r305_I_63 : I_63 51 305 = I_50 51 305 := by rw [h_63.1.1 51 (by decide) (by decide)]
          have r309_I_63 : I_63 51 309 = I_50 51 309 := by rw [h_63.1.1 51 (by decide) (by decide)]
          have rf_I_63 : FU (I_63 51 304) = FU (I_50 51 304) := by rw [r304_I_63]
          have xv63 := h_63.2.2.2
          have o_I_63 : ∀ j : Nat, 256 ≤ j → I_63 51 j = Ia 51 j := fun j h1 => (congrFun (h_63.1.1 51 (by decide) (by decide)) j).trans (o_I_50 j h1)
          refine rI hX (pc := 66) hT (Nat.le_refl 0) (Nat.le_refl 0) dX11_make_66 ?_
          exact ⟨kI_63, kJ_63, cI_63, by omega, by omega, by omega, by omega, by omega, by omega, o_I_63⟩
      · simp only [w32_mod] at h_36
        refine ww_aload_n hX (pc := 39) dX11_make_39 rfl ?_
        refine ww_bipush hX (pc := 40) (x := (-3)) dX11_make_40 (by decide) ?_
        refine vI1 hX (pc := 42) sX11_105 (xs_49 hL) (c_X11_refuses l0 hL hQ (by omega) (by omega)) (by decide) (Nat.le_refl 0) (Nat.le_refl 0) (Nat.le_of_ble_eq_true rfl) dX11_make_42 (fun x_42 I_42 J_42 h_42 => ?_)
        have kJ_42 : Kp 49 73 Ja J_42 := Kp_tr (Kp_rf (a := 49) (b := 73)) h_42.2.1
        have kI_42 : Ch [50, 51, 61, 65, 66] [0, 1, 25, 31] Ia I_42 := Ch_tr Ch_rf (Ch_wd h_42.1 (by decide) (by decide))
        have cI_42 : RX I_42 := h_42.2.2.1
        have qI_42 := RX_o cI_42
        have r304_I_42 : I_42 51 304 = Ia 51 304 := by rw [h_42.1.1 51 (by decide) (by decide)]
        have r305_I_42 : I_42 51 305 = Ia 51 305 := by rw [h_42.1.1 51 (by decide) (by decide)]
        have r309_I_42 : I_42 51 309 = Ia 51 309 := by rw [h_42.1.1 51 (by decide) (by decide)]
        have rf_I_42 : FU (I_42 51 304) = FU (Ia 51 304) := by rw [r304_I_42]
        have xv42 := h_42.2.2.2
        have o_I_42 : ∀ j : Nat, 256 ≤ j → I_42 51 j = Ia 51 j := fun j h1 => (congrFun (h_42.1.1 51 (by decide) (by decide)) j).trans ((fun _ _ => rfl) j h1)
        refine rI hX (pc := 45) hT (Nat.le_refl 0) (Nat.le_refl 0) dX11_make_45 ?_
        exact ⟨kI_42, kJ_42, cI_42, by omega, by omega, by omega, by omega, by omega, by omega, o_I_42⟩
  · simp only [w32_mod] at h_6
    refine ww_aload_n hX (pc := 9) dX11_make_9 rfl ?_
    refine ww_iconst hX (pc := 10) (x := (-1)) dX11_make_10 rfl ?_
    refine vI1 hX (pc := 11) sX11_105 (xs_49 hL) (c_X11_refuses l0 hL hQ (by omega) (by omega)) (by decide) (Nat.le_refl 0) (Nat.le_refl 0) (Nat.le_of_ble_eq_true rfl) dX11_make_11 (fun x_11 I_11 J_11 h_11 => ?_)
    have kJ_11 : Kp 49 73 Ja J_11 := Kp_tr (Kp_rf (a := 49) (b := 73)) h_11.2.1
    have kI_11 : Ch [50, 51, 61, 65, 66] [0, 1, 25, 31] Ia I_11 := Ch_tr Ch_rf (Ch_wd h_11.1 (by decide) (by decide))
    have cI_11 : RX I_11 := h_11.2.2.1
    have qI_11 := RX_o cI_11
    have r304_I_11 : I_11 51 304 = Ia 51 304 := by rw [h_11.1.1 51 (by decide) (by decide)]
    have r305_I_11 : I_11 51 305 = Ia 51 305 := by rw [h_11.1.1 51 (by decide) (by decide)]
    have r309_I_11 : I_11 51 309 = Ia 51 309 := by rw [h_11.1.1 51 (by decide) (by decide)]
    have rf_I_11 : FU (I_11 51 304) = FU (Ia 51 304) := by rw [r304_I_11]
    have xv11 := h_11.2.2.2
    have o_I_11 : ∀ j : Nat, 256 ≤ j → I_11 51 j = Ia 51 j := fun j h1 => (congrFun (h_11.1.1 51 (by decide) (by decide)) j).trans ((fun _ _ => rfl) j h1)
    refine rI hX (pc := 14) hT (Nat.le_refl 0) (Nat.le_refl 0) dX11_make_14 ?_
    exact ⟨kI_11, kJ_11, cI_11, by omega, by omega, by omega, by omega, by omega, by omega, o_I_11⟩
end
