set_option maxHeartbeats 4000000 in
set_option maxRecDepth 20000 in
theorem c_X10_back (l0 : Launch) {Ia Ja : aI1} {Ra : aR1} {Sa : aS1} (hCI : CI Ia Ra Sa) {a : Int} (ha0 : -2147483648 ≤ a) (ha1 : a < 2147483648)  : CT l0 12 0 0 mX10_back [kR (some 0), kI a] Ia Ja Ra Sa (dI (fun x I' J' R' S' => CI I' R' S' ∧ (∀ k, 49 ≤ k → k < 73 → I' k = Ia k ∧ J' k = Ja k ∧ R' k = Ra k) ∧ Sa = S')) := by
  refine ct_in pn_X10 (Nat.le_of_ble_eq_true rfl) (fun X hX hT hIn => ?_)
  have hX : aK l0 X cX10_back 3 RX10 (some .int) 12 0 0 := hX
  change WW X 0 [some (kR (some 0)), some (kI a), none] [] Ia Ja Ra Sa 0 0
  have hL := hCI.1
  have hC := hCI.2.1
  have hI := hC.1
  have hq := XI_o hI
  refine ww_iload_n hX (pc := 0) dX10_back_0 rfl ?_
  refine ww_if_lt hX (pc := 1) (tgt := 9) dX10_back_1 (by decide) (fun h_1 => ?_) (fun h_1 => ?_)
  · simp only [w32_mod] at h_1
    refine ww_aload_n hX (pc := 9) dX10_back_9 rfl ?_
    refine ww_iconst hX (pc := 10) (x := (-1)) dX10_back_10 rfl ?_
    refine vI1 hX (pc := 11) sX10_89 (xs_0 hL) (c_X10_refuse l0 hL hC (by omega) (by omega)) (by decide) (by omega) (by omega) (Nat.le_of_ble_eq_true rfl) dX10_back_11 (fun x_11 I_11 J_11 h_11 => ?_)
    have kI_11 : Kp 0 49 Ia I_11 := Kp_tr (Kp_rf (a := 0) (b := 49)) (Kp_wd h_11.1 (by decide) (by decide))
    have kJ_11 : Kp 0 49 Ja J_11 := Kp_tr (Kp_rf (a := 0) (b := 49)) (Kp_wd h_11.2.1 (by decide) (by decide))
    have cI_11 : CX I_11 := h_11.2.2.1
    have qI_11 := XI_o cI_11.1
    exact ww_iret hX (pc := 14) hT (by omega) (by omega) dX10_back_14 ⟨_, rfl, CI_low hCI kI_11 cI_11, fun k h1 h2 => ⟨kI_11 k (by omega), kJ_11 k (by omega), rfl⟩, rfl⟩
  · simp only [w32_mod] at h_1
    refine ww_iload_n hX (pc := 4) dX10_back_4 rfl ?_
    refine ww_iconst hX (pc := 5) (x := 2) dX10_back_5 rfl ?_
    refine ww_icmp_lt hX (pc := 6) (tgt := 15) dX10_back_6 (by decide) (fun h_6 => ?_) (fun h_6 => ?_)
    · simp only [w32_mod] at h_6
      refine ww_aload_n hX (pc := 15) dX10_back_15 rfl ?_
      refine ww_getR hX (pc := 16) fX10_16 (by decide) (xs_0 hL) (xr_0_1 hL) dX10_back_16 ?_
      refine ww_iload_n hX (pc := 19) dX10_back_19 rfl ?_
      refine ww_aald hX (pc := 20) (Or.inr rfl) (xs_7 hL) (by decide) (by omega) (by omega) dX10_back_20 ?_
      cases hlw : Ra 7 a.toNat with
      | none =>
        refine ww_astore_nN hX (pc := 21) (lv' := [some (kR (some 0)), some (kI a), some (kR none)]) dX10_back_21 (by decide) rfl rfl ?_
        refine ww_aload_nN hX (pc := 22) dX10_back_22 rfl ?_
        refine ww_ifnonnullN hX (pc := 23) dX10_back_23 ?_
        refine ww_aload_n hX (pc := 26) dX10_back_26 rfl ?_
        refine ww_bipush hX (pc := 27) (x := (-2)) dX10_back_27 (by decide) ?_
        refine vI1 hX (pc := 29) sX10_89 (xs_0 hL) (c_X10_refuse l0 hL hC (by omega) (by omega)) (by decide) (by omega) (by omega) (Nat.le_of_ble_eq_true rfl) dX10_back_29 (fun x_29 I_29 J_29 h_29 => ?_)
        have kI_29 : Kp 0 49 Ia I_29 := Kp_tr (Kp_rf (a := 0) (b := 49)) (Kp_wd h_29.1 (by decide) (by decide))
        have kJ_29 : Kp 0 49 Ja J_29 := Kp_tr (Kp_rf (a := 0) (b := 49)) (Kp_wd h_29.2.1 (by decide) (by decide))
        have cI_29 : CX I_29 := h_29.2.2.1
        have qI_29 := XI_o cI_29.1
        exact ww_iret hX (pc := 32) hT (by omega) (by omega) dX10_back_32 ⟨_, rfl, CI_low hCI kI_29 cI_29, fun k h1 h2 => ⟨kI_29 k (by omega), kJ_29 k (by omega), rfl⟩, rfl⟩
      | some c =>
        obtain ⟨hc73, hcs, hcr, hcl⟩ := hCI.2.2.2 a.toNat (by omega) c hlw
        refine ww_astore_n hX (pc := 21) (lv' := [some (kR (some 0)), some (kI a), some (kR (some c))]) dX10_back_21 (by decide) rfl rfl ?_
        refine ww_aload_n hX (pc := 22) dX10_back_22 rfl ?_
        refine ww_ifnonnullS hX (pc := 23) (tgt := 33) dX10_back_23 (by decide) ?_
        refine ww_aload_n hX (pc := 33) dX10_back_33 rfl ?_
        refine ww_getR hX (pc := 34) fX10_10 (by decide) (xs_0 hL) (xr_0_0 hL) dX10_back_34 ?_
        refine ww_aload_n hX (pc := 37) dX10_back_37 rfl ?_
        refine ww_callV hX (pc := 38) (av := [kR (some c)]) sX10_301 (xs_1 hL) (c_X1_copyFrom l0 (o := 1) (q := c) (CoSh_1 hL) hcs (by omega) (fun i hi w hw => ⟨0, (hcl i hi w hw).2.1⟩)) rfl (by decide) (by omega) (by omega) (Nat.le_of_ble_eq_true rfl) dX10_back_38 (fun r_38 I_38 J_38 R_38 S_38 h_38 => ?_)
        obtain ⟨rfl, rfl, e38, eR38, rfl, he38⟩ := h_38
        change WW X 41 [some (kR (some 0)), some (kI a), some (kR (some c))] [] I_38 Ja R_38 Sa _ _
        have hL38 : LY R_38 Sa := LY_ext hL (fun k h1 h4 h7 => eR38 k h4) SX_rf
        have kI_38 : Kp 0 49 Ia I_38 := fun k hk => e38 k (by omega) (by omega) (by omega) (by omega) (by omega)
        have cI_38 : CX I_38 := CX_copy hC hcr e38 he38
        have CI38 : CI I_38 R_38 Sa := ⟨hL38, cI_38, LawsOK_hi hcl (fun i hi => he38.2.2.1 i hi) (fun k h1 _ => kI_38 k (by omega)) (fun k h1 _ => eR38 k (by omega)) SX_rf, fun i hi c' hc' => CoastOK_hi (hCI.2.2.2 i hi c' (by rw [← eR38 7 (by decide)]; exact hc')) (fun k h1 _ => kI_38 k (by omega)) (fun k h1 _ => eR38 k (by omega)) SX_rf⟩
        refine ww_aload_n hX (pc := 41) dX10_back_41 rfl ?_
        refine vV0 hX (pc := 42) sX10_111 (xs_0 hL38) (c_X10_codeChanged l0 hL38 cI_38) (by decide) (by omega) (by omega) (Nat.le_of_ble_eq_true rfl) dX10_back_42 (fun I_42 J_42 h_42 => ?_)
        have kI_42 : Kp 0 49 Ia I_42 := Kp_tr kI_38 (Kp_wd h_42.1 (by decide) (by decide))
        have kJ_42 : Kp 0 49 Ja J_42 := Kp_tr (Kp_rf (a := 0) (b := 49)) (Kp_wd h_42.2.1 (by decide) (by decide))
        have cI_42 : CX I_42 := h_42.2.2
        have qI_42 := XI_o cI_42.1
        refine ww_aload_n hX (pc := 45) dX10_back_45 rfl ?_
        refine ww_iconst hX (pc := 46) (x := 0) dX10_back_46 rfl ?_
        refine vI1 hX (pc := 47) sX10_114 (xs_0 hL38) (c_X10_accept l0 hL38 cI_42) (by decide) (by omega) (by omega) (Nat.le_of_ble_eq_true rfl) dX10_back_47 (fun x_47 I_47 J_47 h_47 => ?_)
        have kI_47 : Kp 0 49 Ia I_47 := Kp_tr kI_42 (Kp_wd h_47.1 (by decide) (by decide))
        have kJ_47 : Kp 0 49 Ja J_47 := Kp_tr kJ_42 (Kp_wd h_47.2.1 (by decide) (by decide))
        have cI_47 : CX I_47 := h_47.2.2.1
        have qI_47 := XI_o cI_47.1
        exact ww_iret hX (pc := 50) hT (by omega) (by omega) dX10_back_50 ⟨_, rfl, CI_low CI38 (fun k hk => (kI_47 k hk).trans (kI_38 k hk).symm) cI_47, fun k h1 h2 => ⟨kI_47 k (by omega), kJ_47 k (by omega), (eR38 k (by omega))⟩, rfl⟩
    · simp only [w32_mod] at h_6
      refine ww_aload_n hX (pc := 9) dX10_back_9 rfl ?_
      refine ww_iconst hX (pc := 10) (x := (-1)) dX10_back_10 rfl ?_
      refine vI1 hX (pc := 11) sX10_89 (xs_0 hL) (c_X10_refuse l0 hL hC (by omega) (by omega)) (by decide) (by omega) (by omega) (Nat.le_of_ble_eq_true rfl) dX10_back_11 (fun x_11 I_11 J_11 h_11 => ?_)
      have kI_11 : Kp 0 49 Ia I_11 := Kp_tr (Kp_rf (a := 0) (b := 49)) (Kp_wd h_11.1 (by decide) (by decide))
      have kJ_11 : Kp 0 49 Ja J_11 := Kp_tr (Kp_rf (a := 0) (b := 49)) (Kp_wd h_11.2.1 (by decide) (by decide))
      have cI_11 : CX I_11 := h_11.2.2.1
      have qI_11 := XI_o cI_11.1
      exact ww_iret hX (pc := 14) hT (by omega) (by omega) dX10_back_14 ⟨_, rfl, CI_low hCI kI_11 cI_11, fun k h1 h2 => ⟨kI_11 k (by omega), kJ_11 k (by omega), rfl⟩, rfl⟩
