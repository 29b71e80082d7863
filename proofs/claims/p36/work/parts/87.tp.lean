/-- taped: as much by both -/
def TP (I : aI1) (_ : aR1) : Prop := I 8 1 = I 49 10
theorem TP_k {I I' : aI1} {R R' : aR1} (h : TP I R) (h8 : I' 8 1 = I 8 1) (h10 : I' 49 10 = I 49 10) : TP I' R' := by
  have h9 : I 8 1 = I 49 10 := h
  show I' 8 1 = I' 49 10
  omega
set_option maxHeartbeats 4000000 in
set_option maxRecDepth 20000 in
theorem c3_X10_back (l0 : Launch) {Ia Ja : aI1} {Ra : aR1} {Sa : aS1} (hCI : CI Ia Ra Sa) {a : Int} (ha0 : -2147483648 ≤ a) (ha1 : a < 2147483648)  : CT l0 12 0 0 mX10_back [kR (some 0), kI a] Ia Ja Ra Sa (dI (fun x I' J' R' S' => CI I' R' S' ∧ (∀ k, 49 ≤ k → k < 73 → I' k = Ia k ∧ J' k = Ja k ∧ R' k = Ra k) ∧ I' 8 1 = Ia 8 1)) := by
  refine ct_in pn_X10 (Nat.le_of_ble_eq_true rfl) (fun X hX hT hIn => ?_)
  have hX : aK l0 X cX10_back 3 RX10 (some .int) 12 0 0 := hX
  change WW X 0 [some (kR (some 0)), some (kI a), none] [] Ia Ja Ra Sa 0 0
  have hL := hCI.1
  have hC := hCI.2.1
  have hI := hC.1
  have hq := XI_o hI
  refine ww_iload_n hX (pc := 0) dX10_back_0 rfl ?_
  refine ww_if_lt hX (pc := 1) (tgt := 9) dX10_back_1 (by decide) (fun h_1 => ?_) (fun h_1 => ?_)
  · simp only [w32_mod] at h_1
    refine ww_aload_n hX (pc := 9) dX10_back_9 rfl ?_
    refine ww_iconst hX (pc := 10) (x := (-1)) dX10_back_10 rfl ?_
    refine vI1 hX (pc := 11) sX10_89 (xs_0 hL) (c2_X10_refuse l0 hL hC (by omega) (by omega)) (by decide) (by omega) (by omega) (Nat.le_of_ble_eq_true rfl) dX10_back_11 (fun x_11 I_11 J_11 h_11 => ?_)
    have kI_11 : Kp 0 49 Ia I_11 := Kp_tr (Kp_rf (a := 0) (b := 49)) (Kp_wd h_11.1 (by decide) (by decide))
    have kJ_11 : Kp 0 49 Ja J_11 := Kp_tr (Kp_rf (a := 0) (b := 49)) (Kp_wd h_11.2.1 (by decide) (by decide))
    have cI_11 : CX I_11 := h_11.2.2.1
    have qI_11 := XI_o cI_11.1
    have kf_I_11 := h_11.2.2.2.2
    have xv_I_11 := h_11.2.2.2.1
    have rf_I_11 : FU (I_11 1 5) = FU (Ia 1 5) := by rw [kf_I_11.2.1]
    exact ww_iret hX (pc := 14) hT (by omega) (by omega) dX10_back_14 ⟨_, rfl, CI_low hCI kI_11 cI_11, fun k h1 h2 => ⟨kI_11 k (by omega), kJ_11 k (by omega), rfl⟩, by omega⟩
  · simp only [w32_mod] at h_1
    refine ww_iload_n hX (pc := 4) dX10_back_4 rfl ?_
    refine ww_iconst hX (pc := 5) (x := 2) dX10_back_5 rfl ?_
    refine ww_icmp_lt hX (pc := 6) (tgt := 15) dX10_back_6 (by decide) (fun h_6 => ?_) (fun h_6 => ?_)
    · simp only [w32_mod] at h_6
      refine ww_aload_n hX (pc := 15) dX10_back_15 rfl ?_
      refine ww_getR hX (pc := 16) fX10_16 (by decide) (xs_0 hL) (xr_0_1 hL) dX10_back_16 ?_
      refine ww_iload_n hX (pc := 19) dX10_back_19 rfl ?_
      refine ww_aald hX (pc := 20) (Or.inr rfl) (xs_7 hL) (by decide) (by omega) (by omega) dX10_back_20 ?_
      cases hlw : Ra 7 a.toNat with
      | none =>
        refine ww_astore_nN hX (pc := 21) (lv' := [some (kR (some 0)), some (kI a), some (kR none)]) dX10_back_21 (by decide) rfl rfl ?_
        refine ww_aload_nN hX (pc := 22) dX10_back_22 rfl ?_
        refine ww_ifnonnullN hX (pc := 23) dX10_back_23 ?_
        refine ww_aload_n hX (pc := 26) dX10_back_26 rfl ?_
        refine ww_bipush hX (pc := 27) (x := (-2)) dX10_back_27 (by decide) ?_
        refine vI1 hX (pc := 29) sX10_89 (xs_0 hL) (c2_X10_refuse l0 hL hC (by omega) (by omega)) (by decide) (by omega) (by omega) (Nat.le_of_ble_eq_true rfl) dX10_back_29 (fun x_29 I_29 J_29 h_29 => ?_)
        have kI_29 : Kp 0 49 Ia I_29 := Kp_tr (Kp_rf (a := 0) (b := 49)) (Kp_wd h_29.1 (by decide) (by decide))
        have kJ_29 : Kp 0 49 Ja J_29 := Kp_tr (Kp_rf (a := 0) (b := 49)) (Kp_wd h_29.2.1 (by decide) (by decide))
        have cI_29 : CX I_29 := h_29.2.2.1
        have qI_29 := XI_o cI_29.1
        have kf_I_29 := h_29.2.2.2.2
        have xv_I_29 := h_29.2.2.2.1
        have rf_I_29 : FU (I_29 1 5) = FU (Ia 1 5) := by rw [kf_I_29.2.1]
        exact ww_iret hX (pc := 32) hT (by omega) (by omega) dX10_back_32 ⟨_, rfl, CI_low hCI kI_29 cI_29, fun k h1 h2 => ⟨kI_29 k (by omega), kJ_29 k (by omega), rfl⟩, by omega⟩
      | some c =>
        obtain ⟨hc73, hcs, hcr, hcl⟩ := hCI.2.2.2 a.toNat (by omega) c hlw
        refine ww_astore_n hX (pc := 21) (lv' := [some (kR (some 0)), some (kI a), some (kR (some c))]) dX10_back_21 (by decide) rfl rfl ?_
        refine ww_aload_n hX (pc := 22) dX10_back_22 rfl ?_
        refine ww_ifnonnullS hX (pc := 23) (tgt := 33) dX10_back_23 (by decide) ?_
        refine ww_aload_n hX (pc := 33) dX10_back_33 rfl ?_
        refine ww_getR hX (pc := 34) fX10_10 (by decide) (xs_0 hL) (xr_0_0 hL) dX10_back_34 ?_
        refine ww_aload_n hX (pc := 37) dX10_back_37 rfl ?_
        refine ww_callV hX (pc := 38) (av := [kR (some c)]) sX10_301 (xs_1 hL) (c_X1_copyFrom l0 (o := 1) (q := c) (CoSh_1 hL) hcs (by omega) (fun i hi w hw => ⟨0, (hcl i hi w hw).2.1⟩)) rfl (by decide) (by omega) (by omega) (Nat.le_of_ble_eq_true rfl) dX10_back_38 (fun r_38 I_38 J_38 R_38 S_38 h_38 => ?_)
        obtain ⟨rfl, rfl, e38, eR38, rfl, he38⟩ := h_38
        change WW X 41 [some (kR (some 0)), some (kI a), some (kR (some c))] [] I_38 Ja R_38 Sa _ _
        have hL38 : LY R_38 Sa := LY_ext hL (fun k h1 h4 h7 => eR38 k h4) SX_rf
        have kI_38 : Kp 0 49 Ia I_38 := fun k hk => e38 k (by omega) (by omega) (by omega) (by omega) (by omega)
        have cI_38 : CX I_38 := CX_copy hC hcr e38 he38
        have CI38 : CI I_38 R_38 Sa := ⟨hL38, cI_38, LawsOK_hi hcl (fun i hi => he38.2.2.1 i hi) (fun k h1 _ => kI_38 k (by omega)) (fun k h1 _ => eR38 k (by omega)) SX_rf, fun i hi c' hc' => CoastOK_hi (hCI.2.2.2 i hi c' (by rw [← eR38 7 (by decide)]; exact hc')) (fun k h1 _ => kI_38 k (by omega)) (fun k h1 _ => eR38 k (by omega)) SX_rf⟩
        have t81_I_38 : I_38 8 1 = Ia 8 1 := by rw [e38 8 (by decide) (by decide) (by decide) (by decide) (by decide)]
        refine ww_aload_n hX (pc := 41) dX10_back_41 rfl ?_
        refine vV0 hX (pc := 42) sX10_111 (xs_0 hL38) (c2_X10_codeChanged l0 hL38 cI_38) (by decide) (by omega) (by omega) (Nat.le_of_ble_eq_true rfl) dX10_back_42 (fun I_42 J_42 h_42 => ?_)
        have kI_42 : Kp 0 49 Ia I_42 := Kp_tr kI_38 (Kp_wd h_42.1 (by decide) (by decide))
        have kJ_42 : Kp 0 49 Ja J_42 := Kp_tr (Kp_rf (a := 0) (b := 49)) (Kp_wd h_42.2.1 (by decide) (by decide))
        have cI_42 : CX I_42 := h_42.2.2.1
        have qI_42 := XI_o cI_42.1
        have kf_I_42 := h_42.2.2.2
        have rf_I_42 : FU (I_42 1 5) = FU (I_38 1 5) := by rw [kf_I_42.2.1]
        refine ww_aload_n hX (pc := 45) dX10_back_45 rfl ?_
        refine ww_iconst hX (pc := 46) (x := 0) dX10_back_46 rfl ?_
        refine vI1 hX (pc := 47) sX10_114 (xs_0 hL38) (c2_X10_accept l0 hL38 cI_42) (by decide) (by omega) (by omega) (Nat.le_of_ble_eq_true rfl) dX10_back_47 (fun x_47 I_47 J_47 h_47 => ?_)
        have kI_47 : Kp 0 49 Ia I_47 := Kp_tr kI_42 (Kp_wd h_47.1 (by decide) (by decide))
        have kJ_47 : Kp 0 49 Ja J_47 := Kp_tr kJ_42 (Kp_wd h_47.2.1 (by decide) (by decide))
        have cI_47 : CX I_47 := h_47.2.2.1
        have qI_47 := XI_o cI_47.1
        have kf_I_47 := h_47.2.2.2.2
        have xv_I_47 := h_47.2.2.2.1
        have rf_I_47 : FU (I_47 1 5) = FU (I_42 1 5) := by rw [kf_I_47.2.1]
        exact ww_iret hX (pc := 50) hT (by omega) (by omega) dX10_back_50 ⟨_, rfl, CI_low CI38 (fun k hk => (kI_47 k hk).trans (kI_38 k hk).symm) cI_47, fun k h1 h2 => ⟨kI_47 k (by omega), kJ_47 k (by omega), (eR38 k (by omega))⟩, by omega⟩
    · simp only [w32_mod] at h_6
      refine ww_aload_n hX (pc := 9) dX10_back_9 rfl ?_
      refine ww_iconst hX (pc := 10) (x := (-1)) dX10_back_10 rfl ?_
      refine vI1 hX (pc := 11) sX10_89 (xs_0 hL) (c2_X10_refuse l0 hL hC (by omega) (by omega)) (by decide) (by omega) (by omega) (Nat.le_of_ble_eq_true rfl) dX10_back_11 (fun x_11 I_11 J_11 h_11 => ?_)
      have kI_11 : Kp 0 49 Ia I_11 := Kp_tr (Kp_rf (a := 0) (b := 49)) (Kp_wd h_11.1 (by decide) (by decide))
      have kJ_11 : Kp 0 49 Ja J_11 := Kp_tr (Kp_rf (a := 0) (b := 49)) (Kp_wd h_11.2.1 (by decide) (by decide))
      have cI_11 : CX I_11 := h_11.2.2.1
      have qI_11 := XI_o cI_11.1
      have kf_I_11 := h_11.2.2.2.2
      have xv_I_11 := h_11.2.2.2.1
      have rf_I_11 : FU (I_11 1 5) = FU (Ia 1 5) := by rw [kf_I_11.2.1]
      exact ww_iret hX (pc := 14) hT (by omega) (by omega) dX10_back_14 ⟨_, rfl, CI_low hCI kI_11 cI_11, fun k h1 h2 => ⟨kI_11 k (by omega), kJ_11 k (by omega), rfl⟩, by omega⟩
set_option maxHeartbeats 4000000 in
set_option maxRecDepth 20000 in
theorem c3_X10_image (l0 : Launch) {Ia Ja : aI1} {Ra : aR1} {Sa : aS1} (hCI : CI Ia Ra Sa) {a : Int} (ha0 : -2147483648 ≤ a) (ha1 : a < 2147483648)  : CT l0 12 6 322 mX10_image [kR (some 0), kI a] Ia Ja Ra Sa (dI (fun x I' J' R' S' => CI I' R' S' ∧ (∀ k, 49 ≤ k → k < 73 → I' k = Ia k ∧ J' k = Ja k ∧ R' k = Ra k) ∧ I' 8 1 = Ia 8 1)) := by
  refine ct_in pn_X10 (Nat.le_of_ble_eq_true rfl) (fun X hX hT hIn => ?_)
  have hX : aK l0 X cX10_image 3 RX10 (some .int) 12 6 322 := hX
  change WW X 0 [some (kR (some 0)), some (kI a), none] [] Ia Ja Ra Sa 0 0
  have hL := hCI.1
  have hC := hCI.2.1
  have hI := hC.1
  have hq := XI_o hI
  obtain ⟨z, hz⟩ : ∃ z, Sa.length = z := ⟨_, rfl⟩
  have hz73 : 73 ≤ z := by rw [← hz]; exact (List.getElem?_eq_some_iff.mp (xs_72 hL)).1
  refine ww_iload_n hX (pc := 0) dX10_image_0 rfl ?_
  refine ww_if_lt hX (pc := 1) (tgt := 9) dX10_image_1 (by decide) (fun h_1 => ?_) (fun h_1 => ?_)
  · simp only [w32_mod] at h_1
    refine ww_aload_n hX (pc := 9) dX10_image_9 rfl ?_
    refine ww_iconst hX (pc := 10) (x := (-1)) dX10_image_10 rfl ?_
    refine vI1 hX (pc := 11) sX10_89 (xs_0 hL) (c2_X10_refuse l0 hL hC (by omega) (by omega)) (by decide) (by omega) (by omega) (Nat.le_of_ble_eq_true rfl) dX10_image_11 (fun x_11 I_11 J_11 h_11 => ?_)
    have kI_11 : Kp 0 49 Ia I_11 := Kp_tr (Kp_rf (a := 0) (b := 49)) (Kp_wd h_11.1 (by decide) (by decide))
    have kJ_11 : Kp 0 49 Ja J_11 := Kp_tr (Kp_rf (a := 0) (b := 49)) (Kp_wd h_11.2.1 (by decide) (by decide))
    have cI_11 : CX I_11 := h_11.2.2.1
    have qI_11 := XI_o cI_11.1
    have kf_I_11 := h_11.2.2.2.2
    have xv_I_11 := h_11.2.2.2.1
    have rf_I_11 : FU (I_11 1 5) = FU (Ia 1 5) := by rw [kf_I_11.2.1]
    exact ww_iret hX (pc := 14) hT (by omega) (by omega) dX10_image_14 ⟨_, rfl, CI_low hCI kI_11 cI_11, fun k h1 h2 => ⟨kI_11 k (by omega), kJ_11 k (by omega), rfl⟩, by omega⟩
  · simp only [w32_mod] at h_1
    refine ww_iload_n hX (pc := 4) dX10_image_4 rfl ?_
    refine ww_iconst hX (pc := 5) (x := 2) dX10_image_5 rfl ?_
    refine ww_icmp_lt hX (pc := 6) (tgt := 15) dX10_image_6 (by decide) (fun h_6 => ?_) (fun h_6 => ?_)
    · simp only [w32_mod] at h_6
      refine ww_aload_n hX (pc := 15) dX10_image_15 rfl ?_
      refine ww_getR hX (pc := 16) fX10_16 (by decide) (xs_0 hL) (xr_0_1 hL) dX10_image_16 ?_
      refine ww_iload_n hX (pc := 19) dX10_image_19 rfl ?_
      refine ww_aald hX (pc := 20) (Or.inr rfl) (xs_7 hL) (by decide) (by omega) (by omega) dX10_image_20 ?_
      cases hlw : Ra 7 a.toNat with
      | none =>
        refine ww_astore_nN hX (pc := 21) (lv' := [some (kR (some 0)), some (kI a), some (kR none)]) dX10_image_21 (by decide) rfl rfl ?_
        refine ww_aload_nN hX (pc := 22) dX10_image_22 rfl ?_
        refine ww_ifnonnullN hX (pc := 23) dX10_image_23 ?_
        refine ww_newz hX (pc := 26) 12 (z := z) hz cl_1 tb_29 tb_30 tb_2 rfl (by omega) (by omega) dX10_image_26 ?_
        refine ww_dupR hX (pc := 29) dX10_image_29 ?_
        refine ww_callI hX (pc := 30) (av := []) sX10_9 (c_X1_init l0 (o := z) (z := z + 1) (lz hz) (sz_n hz)) rfl (by decide) (by omega) (by omega) (Nat.le_of_ble_eq_true rfl) dX10_image_30 (fun r_30 I_30 J_30 R_30 S_30 h_30 => ?_)
        obtain ⟨rfl, h30I, h30J, h30R, h30S⟩ := h_30
        have eI30 : ∀ k, k < z → I_30 k = Ia k := fun k hk => by rw [← h30I, nI1_off (by omega) (by omega), upR_n _ _ (by omega)]
        have eJ30 : ∀ k, k < z → J_30 k = Ja k := fun k hk => by rw [← h30J]; unfold nJ_X1; rw [upR_n _ _ (by omega)]
        have eR30 : ∀ k, k < z → R_30 k = Ra k := fun k hk => by rw [← h30R, nR1_off (by omega) (by omega), upR_n _ _ (by omega)]
        have hcs30 : CoSh R_30 S_30 z := by
          rw [← h30R, ← h30S]
          refine ⟨sz_l (sz_l (sz_l (sz_l (sz_l (sz_n hz))))), sz_l (sz_l (sz_l (sz_l (sz_n (lz hz))))), sz_l (sz_l (sz_l (sz_n (lz (lz hz))))), sz_l (sz_l (sz_n (lz (lz (lz hz))))), sz_l (sz_n (lz (lz (lz (lz hz))))), sz_n (lz (lz (lz (lz (lz hz))))), ?_, ?_, ?_, ?_, ?_⟩
          all_goals unfold nR_X1
          · rw [up2_n _ _ (Or.inr (by decide)), up2_n _ _ (Or.inr (by decide)), up2_n _ _ (Or.inr (by decide)), upR_n _ _ (by omega), up2_n _ _ (Or.inr (by decide)), up2_s]
          · rw [up2_n _ _ (Or.inr (by decide)), up2_n _ _ (Or.inr (by decide)), up2_n _ _ (Or.inr (by decide)), upR_n _ _ (by omega), up2_s]
          · rw [up2_n _ _ (Or.inr (by decide)), up2_n _ _ (Or.inr (by decide)), up2_s]
          · rw [up2_n _ _ (Or.inr (by decide)), up2_s]
          · rw [up2_s]
        have hSX30 : SX Sa S_30 := by rw [← h30S]; exact SX_app (SX_app (SX_app (SX_app (SX_app (SX_app SX_rf)))))
        have hlen30 : S_30.length = z + 6 := by rw [← h30S]; exact lz (lz (lz (lz (lz (lz hz)))))
        have hL30 : LY R_30 S_30 := LY_ext hL (fun k h1 _ _ => eR30 k (by omega)) hSX30
        change WW X 33 [some (kR (some 0)), some (kI a), some (kR none)] [kR (some z)] I_30 J_30 R_30 S_30 _ _
        refine ww_astore_n hX (pc := 33) (lv' := [some (kR (some 0)), some (kI a), some (kR (some z))]) dX10_image_33 (by decide) rfl rfl ?_
        refine ww_aload_n hX (pc := 34) dX10_image_34 rfl ?_
        refine ww_getR hX (pc := 35) fX10_16 (by decide) (xs_0 hL30) (xr_0_1 hL30) dX10_image_35 ?_
        refine ww_iload_n hX (pc := 38) dX10_image_38 rfl ?_
        refine ww_aload_n hX (pc := 39) dX10_image_39 rfl ?_
        refine ww_aast5 hX (pc := 40) (xs_7 hL30) (by decide) (by omega) (by omega) hcs30.1 dX10_image_40 ?_
        have hx40 : ∃ R9, R9 = up2 R_30 7 a.toNat (some z) := ⟨_, rfl⟩
        obtain ⟨R_40, eR40⟩ := hx40
        rw [← eR40]
        have fR40 : ∀ k, k ≠ 7 → R_40 k = R_30 k := fun k hk => by rw [eR40, up2_off _ _ _ hk]
        have hLx : LY R_40 S_30 := LY_ext hL30 (fun k h1 _ h7 => fR40 k h7) SX_rf
        have hCx : CX I_30 := CX_lo hC (fun k hk => eI30 k (by omega))
        have hWx : LawsOK I_30 R_40 S_30 4 := LawsOK_hi hCI.2.2.1 (fun i hi => by rw [fR40 4 (by decide), eR30 4 (by omega)]) (fun k h1 h2 => eI30 k (by omega)) (fun k h1 h2 => by rw [fR40 k (by omega), eR30 k (by omega)]) hSX30
        have hMx : ∀ i, i < 2 → ∀ c', R_40 7 i = some c' → c' = z ∨ CoastOK I_30 R_40 S_30 c' := fun i hi c' hc' => by
          by_cases hia : i = a.toNat
          · rw [eR40, hia, up2_s] at hc'
            exact Or.inl (Option.some.inj hc').symm
          · rw [eR40, up2_n _ _ (Or.inr hia), eR30 7 (by omega)] at hc'
            exact Or.inr (CoastOK_hi (hCI.2.2.2 i hi c' hc') (fun k h1 h2 => eI30 k (by omega)) (fun k h1 h2 => by rw [fR40 k (by omega), eR30 k (by omega)]) hSX30)
        have hcx : CoSh R_40 S_30 z := CoSh_ext hcs30 (fR40 z (by omega)) SX_rf
        refine ww_aload_n hX (pc := 41) dX10_image_41 rfl ?_
        refine ww_aload_n hX (pc := 42) dX10_image_42 rfl ?_
        refine ww_getR hX (pc := 43) fX10_10 (by decide) (xs_0 hLx) (xr_0_0 hLx) dX10_image_43 ?_
        refine ww_callV hX (pc := 46) (av := [kR (some 1)]) sX10_301 hcx.1 (c_X1_copyFrom l0 (o := z) (q := 1) hcx (CoSh_1 hLx) (by omega) (fun i hi w hw => ⟨0, (hWx i hi w hw).2.1⟩)) rfl (by decide) (by omega) (by omega) (Nat.le_of_ble_eq_true rfl) dX10_image_46 (fun r_46 I_46 J_46 R_46 S_46 h_46 => ?_)
        obtain ⟨rfl, rfl, e46, eR46, rfl, he46⟩ := h_46
        change WW X 49 [some (kR (some 0)), some (kI a), some (kR (some z))] [] I_46 J_30 R_46 S_30 _ _
        have CI46 : CI I_46 R_46 S_30 := CI_img hLx hCx hWx hMx (by omega) hcx e46 eR46 he46
        have hL46 := CI46.1
        have cI_46 := CI46.2.1
        refine ww_aload_n hX (pc := 49) dX10_image_49 rfl ?_
        refine ww_iconst hX (pc := 50) (x := 0) dX10_image_50 rfl ?_
        refine vI1 hX (pc := 51) sX10_114 (xs_0 hL46) (c2_X10_accept l0 hL46 cI_46) (by decide) (by omega) (by omega) (Nat.le_of_ble_eq_true rfl) dX10_image_51 (fun x_51 I_51 J_51 h_51 => ?_)
        exact ww_iret hX (pc := 54) hT (by omega) (by omega) dX10_image_54 ⟨_, rfl, CI_low CI46 h_51.1 h_51.2.2.1, fun k h1 h2 => ⟨(h_51.1 k (by omega)).trans ((e46 k (by omega) (by omega) (by omega) (by omega) (by omega)).trans (eI30 k (by omega))), (h_51.2.1 k (by omega)).trans (eJ30 k (by omega)), (eR46 k (by omega)).trans ((fR40 k (by omega)).trans (eR30 k (by omega)))⟩, (h_51.2.2.2.2.1).trans (by rw [e46 8 (by omega) (by omega) (by omega) (by omega) (by omega), eI30 8 (by omega)])⟩
      | some c =>
        obtain ⟨hc73, hcs, hcr, hcl⟩ := hCI.2.2.2 a.toNat (by omega) c hlw
        refine ww_astore_n hX (pc := 21) (lv' := [some (kR (some 0)), some (kI a), some (kR (some c))]) dX10_image_21 (by decide) rfl rfl ?_
        refine ww_aload_n hX (pc := 22) dX10_image_22 rfl ?_
        refine ww_ifnonnullS hX (pc := 23) (tgt := 41) dX10_image_23 (by decide) ?_
        refine ww_aload_n hX (pc := 41) dX10_image_41 rfl ?_
        refine ww_aload_n hX (pc := 42) dX10_image_42 rfl ?_
        refine ww_getR hX (pc := 43) fX10_10 (by decide) (xs_0 hL) (xr_0_0 hL) dX10_image_43 ?_
        have hLx := hL
        have hCx := hC
        have hWx := hCI.2.2.1
        have hMx : ∀ i, i < 2 → ∀ c', Ra 7 i = some c' → c' = c ∨ CoastOK Ia Ra Sa c' := fun i hi c' hc' => Or.inr (hCI.2.2.2 i hi c' hc')
        have hcx := hcs
        refine ww_callV hX (pc := 46) (av := [kR (some 1)]) sX10_301 hcx.1 (c_X1_copyFrom l0 (o := c) (q := 1) hcx (CoSh_1 hLx) (by omega) (fun i hi w hw => ⟨0, (hWx i hi w hw).2.1⟩)) rfl (by decide) (by omega) (by omega) (Nat.le_of_ble_eq_true rfl) dX10_image_46 (fun r_46 I_46 J_46 R_46 S_46 h_46 => ?_)
        obtain ⟨rfl, rfl, e46, eR46, rfl, he46⟩ := h_46
        change WW X 49 [some (kR (some 0)), some (kI a), some (kR (some c))] [] I_46 Ja R_46 Sa _ _
        have CI46 : CI I_46 R_46 Sa := CI_img hLx hCx hWx hMx (by omega) hcx e46 eR46 he46
        have hL46 := CI46.1
        have cI_46 := CI46.2.1
        refine ww_aload_n hX (pc := 49) dX10_image_49 rfl ?_
        refine ww_iconst hX (pc := 50) (x := 0) dX10_image_50 rfl ?_
        refine vI1 hX (pc := 51) sX10_114 (xs_0 hL46) (c2_X10_accept l0 hL46 cI_46) (by decide) (by omega) (by omega) (Nat.le_of_ble_eq_true rfl) dX10_image_51 (fun x_51 I_51 J_51 h_51 => ?_)
        exact ww_iret hX (pc := 54) hT (by omega) (by omega) dX10_image_54 ⟨_, rfl, CI_low CI46 h_51.1 h_51.2.2.1, fun k h1 h2 => ⟨(h_51.1 k (by omega)).trans ((e46 k (by omega) (by omega) (by omega) (by omega) (by omega)).trans rfl), (h_51.2.1 k (by omega)).trans rfl, (eR46 k (by omega)).trans rfl⟩, (h_51.2.2.2.2.1).trans (by rw [e46 8 (by omega) (by omega) (by omega) (by omega) (by omega)])⟩
    · simp only [w32_mod] at h_6
      refine ww_aload_n hX (pc := 9) dX10_image_9 rfl ?_
      refine ww_iconst hX (pc := 10) (x := (-1)) dX10_image_10 rfl ?_
      refine vI1 hX (pc := 11) sX10_89 (xs_0 hL) (c2_X10_refuse l0 hL hC (by omega) (by omega)) (by decide) (by omega) (by omega) (Nat.le_of_ble_eq_true rfl) dX10_image_11 (fun x_11 I_11 J_11 h_11 => ?_)
      have kI_11 : Kp 0 49 Ia I_11 := Kp_tr (Kp_rf (a := 0) (b := 49)) (Kp_wd h_11.1 (by decide) (by decide))
      have kJ_11 : Kp 0 49 Ja J_11 := Kp_tr (Kp_rf (a := 0) (b := 49)) (Kp_wd h_11.2.1 (by decide) (by decide))
      have cI_11 : CX I_11 := h_11.2.2.1
      have qI_11 := XI_o cI_11.1
      have kf_I_11 := h_11.2.2.2.2
      have xv_I_11 := h_11.2.2.2.1
      have rf_I_11 : FU (I_11 1 5) = FU (Ia 1 5) := by rw [kf_I_11.2.1]
      exact ww_iret hX (pc := 14) hT (by omega) (by omega) dX10_image_14 ⟨_, rfl, CI_low hCI kI_11 cI_11, fun k h1 h2 => ⟨kI_11 k (by omega), kJ_11 k (by omega), rfl⟩, by omega⟩
set_option maxHeartbeats 4000000 in
set_option maxRecDepth 20000 in
theorem c3_X10_law (l0 : Launch) {Ia Ja : aI1} {Ra : aR1} {Sa : aS1} (hCI : CI Ia Ra Sa)  : CT l0 300 3 428 mX10_law [kR (some 0)] Ia Ja Ra Sa (dI (fun x I' J' R' S' => CI I' R' S' ∧ (∀ k, 49 ≤ k → k < 73 → I' k = Ia k ∧ J' k = Ja k ∧ R' k = Ra k) ∧ I' 8 1 = 0)) := by
  refine ct_in pn_X10 (Nat.le_of_ble_eq_true rfl) (fun X hX hT hIn => ?_)
  have hX : aK l0 X cX10_law 3 RX10 (some .int) 300 3 428 := hX
  change WW X 0 [some (kR (some 0)), none, none] [] Ia Ja Ra Sa 0 0
  have hL := hCI.1
  have hC := hCI.2.1
  have hI := hC.1
  have hq := XI_o hI
  obtain ⟨z, hz⟩ : ∃ z, Sa.length = z := ⟨_, rfl⟩
  have hz73 : 73 ≤ z := by rw [← hz]; exact (List.getElem?_eq_some_iff.mp (xs_72 hL)).1
  refine ww_aload_n hX (pc := 0) dX10_law_0 rfl ?_
  refine ww_getR hX (pc := 1) fX10_10 (by decide) (xs_0 hL) (xr_0_0 hL) dX10_law_1 ?_
  refine ww_getI hX (pc := 4) fX10_170 (by decide) (xs_1 hL) dX10_law_4 ?_
  refine ww_bipush hX (pc := 7) (x := 6) dX10_law_7 (by decide) ?_
  refine ww_icmp_lt hX (pc := 9) (tgt := 27) dX10_law_9 (by decide) (fun h_9 => ?_) (fun h_9 => ?_)
  · simp only [w32_mod] at h_9
    refine ww_aload_n hX (pc := 27) dX10_law_27 rfl ?_
    refine ww_getR hX (pc := 28) fX10_32 (by decide) (xs_0 hL) (xr_0_3 hL) dX10_law_28 ?_
    refine ww_callV hX (pc := 31) (av := []) sX10_173 (xs_10 hL) (c_X7_understand l0 hL hI hC.2.1 hz hz73) rfl (by decide) (by omega) (by omega) (Nat.le_of_ble_eq_true rfl) dX10_law_31 (fun r_31 I_31 J_31 R_31 S_31 h_31 => ?_)
    obtain ⟨x_31, rfl, eI31, eJ31, lr31, eR31, h31⟩ := h_31
    have cI_31 : CX I_31 := ⟨XI_of hI (eI31 0 (by omega) (by decide)) (eI31 1 (by omega) (by decide)) (eI31 3 (by omega) (by decide)) (eI31 8 (by omega) (by decide)) (eI31 9 (by omega) (by decide)), lr31, FI_of hC.2.2 (eI31 44 (by omega) (by decide))⟩
    have qI_31 := XI_o cI_31.1
    have r9_31 : I_31 1 9 = Ia 1 9 := by rw [eI31 1 (by omega) (by decide)]
    have hSX31 : SX Sa S_31 ∧ Sa.length ≤ S_31.length ∧ S_31.length ≤ Sa.length + 3 := by
      rcases h31 with ⟨_, rfl⟩ | ⟨_, N1, N2, _, _, rfl, _⟩
      · exact ⟨SX_rf, by omega, by omega⟩
      · exact ⟨SX_app (SX_app (SX_app SX_rf)), by simp, by simp⟩
    obtain ⟨hSX31, hl31, hl32⟩ := hSX31
    have hL31 : LY R_31 S_31 := LY_ext hL (fun k h1 _ _ => eR31 k (by omega)) hSX31
    have CI31 : CI I_31 R_31 S_31 := ⟨hL31, cI_31, LawsOK_hi hCI.2.2.1 (fun i hi => by rw [eR31 4 (by omega)]) (fun k h1 h2 => eI31 k (by omega) (by omega)) (fun k h1 h2 => eR31 k (by omega)) hSX31, fun i hi c' hc' => CoastOK_hi (hCI.2.2.2 i hi c' (by rw [← eR31 7 (by omega)]; exact hc')) (fun k h1 h2 => eI31 k (by omega) (by omega)) (fun k h1 h2 => eR31 k (by omega)) hSX31⟩
    have h31' : x_31 = none ∨ (x_31 = some z ∧ LawOK I_31 R_31 S_31 z) := by
      rcases h31 with ⟨h, _⟩ | ⟨h, N1, N2, _, _, _, hlo⟩
      · exact Or.inl h
      · exact Or.inr ⟨h, hlo⟩
    clear h31
    rcases h31' with rfl | ⟨rfl, hlo⟩
    · change WW X 34 [some (kR (some 0)), none, none] [kR none] I_31 J_31 R_31 S_31 _ _
      refine ww_astore_nN hX (pc := 34) (lv' := [some (kR (some 0)), some (kR none), none]) dX10_law_34 (by decide) rfl rfl ?_
      refine ww_aload_n hX (pc := 35) dX10_law_35 rfl ?_
      refine ww_getR hX (pc := 36) fX10_23 (by decide) (xs_0 hL31) (xr_0_2 hL31) dX10_law_36 ?_
      refine ww_iconst hX (pc := 39) (x := 0) dX10_law_39 rfl ?_
      refine ww_putI hX (pc := 40) (fun h9 => absurd h9 (by decide)) gX10_148 rfl (xs_8 hL31) dX10_law_40 ?_
      refine ww_nmH (fun I_40 eI_40 => ?_)
      have kI_40 : Kp 0 49 I_31 I_40 := by rw [eI_40]; exact Kp_up (Kp_rf (a := 0) (b := 49)) _ _ (by decide)
      have cI_40 : CX I_40 := by rw [eI_40]; exact CX_x cI_31 (XI_8_1 cI_31.1 (by omega) (by omega)) (by decide)
      have qI_40 := XI_o cI_40.1
      have t81_I_40 : I_40 8 1 = 0 := by rw [eI_40, up2_s]
      have t15_I_40 : I_40 0 15 = I_31 0 15 := by rw [eI_40, up2_off _ _ _ (by decide)]
      have r5_I_40 : I_40 1 5 = I_31 1 5 := by rw [eI_40, up2_off _ _ _ (by decide)]
      have r6_I_40 : I_40 1 6 = I_31 1 6 := by rw [eI_40, up2_off _ _ _ (by decide)]
      have r8_I_40 : I_40 1 8 = I_31 1 8 := by rw [eI_40, up2_off _ _ _ (by decide)]
      have r9_I_40 : I_40 1 9 = I_31 1 9 := by rw [eI_40, up2_off _ _ _ (by decide)]
      have r10_I_40 : I_40 1 10 = I_31 1 10 := by rw [eI_40, up2_off _ _ _ (by decide)]
      have r11_I_40 : I_40 1 11 = I_31 1 11 := by rw [eI_40, up2_off _ _ _ (by decide)]
      have rf_I_40 : FU (I_40 1 5) = FU (I_31 1 5) := by rw [r5_I_40]
      refine ww_aload_nN hX (pc := 43) dX10_law_43 rfl ?_
      refine ww_ifnonnullN hX (pc := 44) dX10_law_44 ?_
      refine ww_aload_n hX (pc := 47) dX10_law_47 rfl ?_
      refine ww_bipush hX (pc := 48) (x := (-6)) dX10_law_48 (by decide) ?_
      refine vI1 hX (pc := 50) sX10_89 (xs_0 hL31) (c2_X10_refuse l0 hL31 cI_40 (by omega) (by omega)) (by decide) (by omega) (by omega) (Nat.le_of_ble_eq_true rfl) dX10_law_50 (fun x_50 I_50 J_50 h_50 => ?_)
      have kI_50 : Kp 0 49 I_31 I_50 := Kp_tr kI_40 (Kp_wd h_50.1 (by decide) (by decide))
      have kJ_50 : Kp 0 49 J_31 J_50 := Kp_tr (Kp_rf (a := 0) (b := 49)) (Kp_wd h_50.2.1 (by decide) (by decide))
      have cI_50 : CX I_50 := h_50.2.2.1
      have qI_50 := XI_o cI_50.1
      have kf_I_50 := h_50.2.2.2.2
      have xv_I_50 := h_50.2.2.2.1
      have rf_I_50 : FU (I_50 1 5) = FU (I_40 1 5) := by rw [kf_I_50.2.1]
      exact ww_iret hX (pc := 53) hT (by omega) (by omega) dX10_law_53 ⟨_, rfl, CI_low CI31 kI_50 cI_50, fun k h1 h2 => ⟨(kI_50 k (by omega)).trans (eI31 k (by omega) (by omega)), (kJ_50 k (by omega)).trans (eJ31 k (by omega) (by omega)), (eR31 k (by omega))⟩, by omega⟩
    · change WW X 34 [some (kR (some 0)), none, none] [kR (some z)] I_31 J_31 R_31 S_31 _ _
      refine ww_astore_n hX (pc := 34) (lv' := [some (kR (some 0)), some (kR (some z)), none]) dX10_law_34 (by decide) rfl rfl ?_
      refine ww_aload_n hX (pc := 35) dX10_law_35 rfl ?_
      refine ww_getR hX (pc := 36) fX10_23 (by decide) (xs_0 hL31) (xr_0_2 hL31) dX10_law_36 ?_
      refine ww_iconst hX (pc := 39) (x := 0) dX10_law_39 rfl ?_
      refine ww_putI hX (pc := 40) (fun h9 => absurd h9 (by decide)) gX10_148 rfl (xs_8 hL31) dX10_law_40 ?_
      refine ww_nmH (fun I_40 eI_40 => ?_)
      have kI_40 : Kp 0 49 I_31 I_40 := by rw [eI_40]; exact Kp_up (Kp_rf (a := 0) (b := 49)) _ _ (by decide)
      have cI_40 : CX I_40 := by rw [eI_40]; exact CX_x cI_31 (XI_8_1 cI_31.1 (by omega) (by omega)) (by decide)
      have qI_40 := XI_o cI_40.1
      have t81_I_40 : I_40 8 1 = 0 := by rw [eI_40, up2_s]
      have t15_I_40 : I_40 0 15 = I_31 0 15 := by rw [eI_40, up2_off _ _ _ (by decide)]
      have r5_I_40 : I_40 1 5 = I_31 1 5 := by rw [eI_40, up2_off _ _ _ (by decide)]
      have r6_I_40 : I_40 1 6 = I_31 1 6 := by rw [eI_40, up2_off _ _ _ (by decide)]
      have r8_I_40 : I_40 1 8 = I_31 1 8 := by rw [eI_40, up2_off _ _ _ (by decide)]
      have r9_I_40 : I_40 1 9 = I_31 1 9 := by rw [eI_40, up2_off _ _ _ (by decide)]
      have r10_I_40 : I_40 1 10 = I_31 1 10 := by rw [eI_40, up2_off _ _ _ (by decide)]
      have r11_I_40 : I_40 1 11 = I_31 1 11 := by rw [eI_40, up2_off _ _ _ (by decide)]
      have rf_I_40 : FU (I_40 1 5) = FU (I_31 1 5) := by rw [r5_I_40]
      refine ww_aload_n hX (pc := 43) dX10_law_43 rfl ?_
      refine ww_ifnonnullS hX (pc := 44) (tgt := 54) dX10_law_44 (by decide) ?_
      refine ww_aload_n hX (pc := 54) dX10_law_54 rfl ?_
      refine ww_getR hX (pc := 55) fX10_10 (by decide) (xs_0 hL31) (xr_0_0 hL31) dX10_law_55 ?_
      refine ww_getI hX (pc := 58) fX10_170 (by decide) (xs_1 hL31) dX10_law_58 ?_
      refine ww_nmI (fun v_61 hv_61 => ?_)
      refine ww_istore_n hX (pc := 61) (lv' := [some (kR (some 0)), some (kR (some z)), some (kI v_61)]) dX10_law_61 (by decide) rfl rfl ?_
      refine ww_aload_n hX (pc := 62) dX10_law_62 rfl ?_
      refine ww_getR hX (pc := 63) fX10_10 (by decide) (xs_0 hL31) (xr_0_0 hL31) dX10_law_63 ?_
      refine ww_getR hX (pc := 66) fX10_177 (by decide) (xs_1 hL31) (xr_1_2 hL31) dX10_law_66 ?_
      refine ww_iload_n hX (pc := 69) dX10_law_69 rfl ?_
      refine ww_aload_n hX (pc := 70) dX10_law_70 rfl ?_
      refine ww_aast4 hX (pc := 71) (xs_4 hL31) (by decide) (by omega) (by omega) hlo.2.1 dX10_law_71 ?_
      have hx71 : ∃ R9, R9 = up2 R_31 4 v_61.toNat (some z) := ⟨_, rfl⟩
      obtain ⟨R_71, eR71⟩ := hx71
      rw [← eR71]
      have fR71 : ∀ k, k ≠ 4 → R_71 k = R_31 k := fun k hk => by rw [eR71, up2_off _ _ _ hk]
      have hL71 : LY R_71 S_31 := LY_ext hL31 (fun k h1 h4 _ => fR71 k h4) SX_rf
      have CI71 : CI I_31 R_71 S_31 := ⟨hL71, cI_31, fun i hi w hw => by
        by_cases hii : i = v_61.toNat
        · rw [eR71, hii, up2_s] at hw
          obtain rfl := Option.some.inj hw
          exact LawOK_ext hlo rfl rfl rfl (fR71 _ (by omega)) SX_rf
        · rw [eR71, up2_n _ _ (Or.inr hii)] at hw
          have hlw := CI31.2.2.1 i hi w hw
          have hlw73 := hlw.1
          exact LawOK_ext hlw rfl rfl rfl (fR71 w (by omega)) SX_rf, fun i hi c' hc' => CoastOK_hi (hCI.2.2.2 i hi c' (by rw [fR71 7 (by decide), eR31 7 (by omega)] at hc'; exact hc')) (fun k h1 h2 => eI31 k (by omega) (by omega)) (fun k h1 h2 => by rw [fR71 k (by omega), eR31 k (by omega)]) hSX31⟩
      refine ww_aload_n hX (pc := 72) dX10_law_72 rfl ?_
      refine ww_getR hX (pc := 73) fX10_10 (by decide) (xs_0 hL71) (xr_0_0 hL71) dX10_law_73 ?_
      refine ww_iload_n hX (pc := 76) dX10_law_76 rfl ?_
      refine ww_iconst hX (pc := 77) (x := 1) dX10_law_77 rfl ?_
      refine ww_iadd hX (pc := 78) dX10_law_78 ?_
      refine ww_putI hX (pc := 79) (fun h9 => absurd h9 (by decide)) gX10_170 rfl (xs_1 hL71) dX10_law_79 ?_
      refine ww_nmH (fun I_79 eI_79 => ?_)
      have kI_79 : Kp 0 49 I_31 I_79 := by rw [eI_79]; exact Kp_up kI_40 _ _ (by decide)
      have cI_79 : CX I_79 := by rw [eI_79]; exact CX_x cI_40 (XI_1_9 cI_40.1 (by omega) (by omega)) (by decide)
      have qI_79 := XI_o cI_79.1
      have t81_I_79 : I_79 8 1 = I_40 8 1 := by rw [eI_79, up2_off _ _ _ (by decide)]
      have t15_I_79 : I_79 0 15 = I_40 0 15 := by rw [eI_79, up2_off _ _ _ (by decide)]
      have r5_I_79 : I_79 1 5 = I_40 1 5 := by rw [eI_79, up2_n _ _ (Or.inr (by decide))]
      have r6_I_79 : I_79 1 6 = I_40 1 6 := by rw [eI_79, up2_n _ _ (Or.inr (by decide))]
      have r8_I_79 : I_79 1 8 = I_40 1 8 := by rw [eI_79, up2_n _ _ (Or.inr (by decide))]
      skip
      have r10_I_79 : I_79 1 10 = I_40 1 10 := by rw [eI_79, up2_n _ _ (Or.inr (by decide))]
      have r11_I_79 : I_79 1 11 = I_40 1 11 := by rw [eI_79, up2_n _ _ (Or.inr (by decide))]
      have rf_I_79 : FU (I_79 1 5) = FU (I_40 1 5) := by rw [r5_I_79]
      refine ww_aload_n hX (pc := 82) dX10_law_82 rfl ?_
      refine ww_iload_n hX (pc := 83) dX10_law_83 rfl ?_
      refine vI1 hX (pc := 84) sX10_114 (xs_0 hL71) (c2_X10_accept l0 hL71 cI_79) (by decide) (by omega) (by omega) (Nat.le_of_ble_eq_true rfl) dX10_law_84 (fun x_84 I_84 J_84 h_84 => ?_)
      have kI_84 : Kp 0 49 I_31 I_84 := Kp_tr kI_79 (Kp_wd h_84.1 (by decide) (by decide))
      have kJ_84 : Kp 0 49 J_31 J_84 := Kp_tr (Kp_rf (a := 0) (b := 49)) (Kp_wd h_84.2.1 (by decide) (by decide))
      have cI_84 : CX I_84 := h_84.2.2.1
      have qI_84 := XI_o cI_84.1
      have kf_I_84 := h_84.2.2.2.2
      have xv_I_84 := h_84.2.2.2.1
      have rf_I_84 : FU (I_84 1 5) = FU (I_79 1 5) := by rw [kf_I_84.2.1]
      exact ww_iret hX (pc := 87) hT (by omega) (by omega) dX10_law_87 ⟨_, rfl, CI_low CI71 kI_84 cI_84, fun k h1 h2 => ⟨(kI_84 k (by omega)).trans (eI31 k (by omega) (by omega)), (kJ_84 k (by omega)).trans (eJ31 k (by omega) (by omega)), ((fR71 k (by omega)).trans (eR31 k (by omega)))⟩, by omega⟩
  · simp only [w32_mod] at h_9
    refine ww_aload_n hX (pc := 12) dX10_law_12 rfl ?_
    refine ww_getR hX (pc := 13) fX10_23 (by decide) (xs_0 hL) (xr_0_2 hL) dX10_law_13 ?_
    refine ww_iconst hX (pc := 16) (x := 0) dX10_law_16 rfl ?_
    refine ww_putI hX (pc := 17) (fun h9 => absurd h9 (by decide)) gX10_148 rfl (xs_8 hL) dX10_law_17 ?_
    refine ww_nmH (fun I_17 eI_17 => ?_)
    have kI_17 : Kp 0 49 Ia I_17 := by rw [eI_17]; exact Kp_up (Kp_rf (a := 0) (b := 49)) _ _ (by decide)
    have cI_17 : CX I_17 := by rw [eI_17]; exact CX_x hC (XI_8_1 hC.1 (by omega) (by omega)) (by decide)
    have qI_17 := XI_o cI_17.1
    have t81_I_17 : I_17 8 1 = 0 := by rw [eI_17, up2_s]
    have t15_I_17 : I_17 0 15 = Ia 0 15 := by rw [eI_17, up2_off _ _ _ (by decide)]
    have r5_I_17 : I_17 1 5 = Ia 1 5 := by rw [eI_17, up2_off _ _ _ (by decide)]
    have r6_I_17 : I_17 1 6 = Ia 1 6 := by rw [eI_17, up2_off _ _ _ (by decide)]
    have r8_I_17 : I_17 1 8 = Ia 1 8 := by rw [eI_17, up2_off _ _ _ (by decide)]
    have r9_I_17 : I_17 1 9 = Ia 1 9 := by rw [eI_17, up2_off _ _ _ (by decide)]
    have r10_I_17 : I_17 1 10 = Ia 1 10 := by rw [eI_17, up2_off _ _ _ (by decide)]
    have r11_I_17 : I_17 1 11 = Ia 1 11 := by rw [eI_17, up2_off _ _ _ (by decide)]
    have rf_I_17 : FU (I_17 1 5) = FU (Ia 1 5) := by rw [r5_I_17]
    refine ww_aload_n hX (pc := 20) dX10_law_20 rfl ?_
    refine ww_bipush hX (pc := 21) (x := (-5)) dX10_law_21 (by decide) ?_
    refine vI1 hX (pc := 23) sX10_89 (xs_0 hL) (c2_X10_refuse l0 hL cI_17 (by omega) (by omega)) (by decide) (by omega) (by omega) (Nat.le_of_ble_eq_true rfl) dX10_law_23 (fun x_23 I_23 J_23 h_23 => ?_)
    have kI_23 : Kp 0 49 Ia I_23 := Kp_tr kI_17 (Kp_wd h_23.1 (by decide) (by decide))
    have kJ_23 : Kp 0 49 Ja J_23 := Kp_tr (Kp_rf (a := 0) (b := 49)) (Kp_wd h_23.2.1 (by decide) (by decide))
    have cI_23 : CX I_23 := h_23.2.2.1
    have qI_23 := XI_o cI_23.1
    have kf_I_23 := h_23.2.2.2.2
    have xv_I_23 := h_23.2.2.2.1
    have rf_I_23 : FU (I_23 1 5) = FU (I_17 1 5) := by rw [kf_I_23.2.1]
    exact ww_iret hX (pc := 26) hT (by omega) (by omega) dX10_law_26 ⟨_, rfl, CI_low hCI kI_23 cI_23, fun k h1 h2 => ⟨kI_23 k (by omega), kJ_23 k (by omega), rfl⟩, by omega⟩
set_option maxHeartbeats 4000000 in
set_option maxRecDepth 20000 in
theorem c2_X11_row (l0 : Launch) {Ia Ja : aI1} {Ra : aR1} {Sa : aS1} (hL : LY Ra Sa) (hQ : RX Ia)  : CT l0 2 0 0 mX11_row [kR (some 49)] Ia Ja Ra Sa (cI (fun x I' J' => Ch [50, 51] [0, 1, 6, 10] Ia I' ∧ Kp 49 73 Ja J' ∧ RX I' ∧ I' 49 10 = 0 ∧ I' 51 304 = Ia 51 304 ∧ I' 51 305 = Ia 51 305 ∧ I' 51 309 = Ia 51 309 ∧ (Ia 49 10 = 0 → I' 49 6 = Ia 49 6) ∧ (¬ Ia 49 10 = 0 → I' 49 6 = max 0 (Ia 49 10 - (FU (Ia 51 304) + 1)))) Ra Sa) := by
  refine ct_in pn_X11 (Nat.le_of_ble_eq_true rfl) (fun X hX hT hIn => ?_)
  have hX : aK l0 X cX11_row 3 RX11 (some .int) 2 0 0 := hX
  change WW X 0 [some (kR (some 49)), none, none] [] Ia Ja Ra Sa 0 0
  have qIa := RX_o hQ
  refine ww_aload_n hX (pc := 0) dX11_row_0 rfl ?_
  refine ww_getI hX (pc := 1) fX11_129 (by decide) (xs_49 hL) dX11_row_1 ?_
  refine ww_nmI (fun v_4 hv_4 => ?_)
  refine ww_istore_n hX (pc := 4) (lv' := [some (kR (some 49)), some (kI v_4), none]) dX11_row_4 (by decide) rfl rfl ?_
  refine ww_aload_n hX (pc := 5) dX11_row_5 rfl ?_
  refine ww_iconst hX (pc := 6) (x := 0) dX11_row_6 rfl ?_
  refine ww_putI hX (pc := 7) (fun h9 => absurd h9 (by decide)) gX11_129 rfl (xs_49 hL) dX11_row_7 ?_
  refine ww_nmH (fun I_7 eI_7 => ?_)
  have kI_7 : Ch [50, 51] [0, 1, 6, 10] Ia I_7 := by rw [eI_7]; exact Ch_f Ch_rf (by decide)
  have cI_7 : RX I_7 := by rw [eI_7]; exact RX_10 hQ (by omega) (by omega)
  have qI_7 := RX_o cI_7
  have r304_I_7 : I_7 51 304 = Ia 51 304 := by rw [eI_7, up2_off _ _ _ (by decide)]
  have r305_I_7 : I_7 51 305 = Ia 51 305 := by rw [eI_7, up2_off _ _ _ (by decide)]
  have r309_I_7 : I_7 51 309 = Ia 51 309 := by rw [eI_7, up2_off _ _ _ (by decide)]
  have f6_I_7 : I_7 49 6 = Ia 49 6 := by rw [eI_7, up2_n _ _ (Or.inr (by decide))]
  have rf_I_7 : FU (I_7 51 304) = FU (Ia 51 304) := by rw [r304_I_7]
  have z10 : I_7 49 10 = 0 := by rw [eI_7, up2_s]
  refine ww_iload_n hX (pc := 10) dX11_row_10 rfl ?_
  refine ww_if_ne hX (pc := 11) (tgt := 21) dX11_row_11 (by decide) (fun h_11 => ?_) (fun h_11 => ?_)
  · simp only [w32_mod] at h_11
    refine ww_iconst hX (pc := 21) (x := 0) dX11_row_21 rfl ?_
    refine ww_istore_n hX (pc := 22) (lv' := [some (kR (some 49)), some (kI v_4), some (kI 0)]) dX11_row_22 (by decide) rfl rfl ?_
    have hl_23 : ∀ (n_23 : Nat) (i : Int) (I23 : aI1) (J23 : aI1), (256 - i).toNat = n_23 → (Ch [50, 51] [0, 1, 6, 10] Ia I23 ∧ RX I23 ∧ Kp 49 73 Ja J23 ∧ I23 51 304 = I_7 51 304 ∧ I23 51 305 = I_7 51 305 ∧ I23 51 309 = I_7 51 309 ∧ I23 49 6 = I_7 49 6 ∧ I23 49 10 = I_7 49 10 ∧ (0 ≤ i ∧ i ≤ 256)) → WW X 23 [some (kR (some 49)), some (kI v_4), some (kI i)] [] I23 J23 Ra Sa 0 0 := by
      intro n_23
      induction n_23 using Nat.strongRecOn with
      | ind n_23 ih_23 =>
        intro i I23 J23 hm_23 hv_23
        obtain ⟨kI23, cI23, kJ23, r304_I23, r305_I23, r309_I23, f6_I23, f10_I23, hv⟩ := hv_23
        have qI23 := RX_o cI23
        have rf_I23 : FU (I23 51 304) = FU (I_7 51 304) := by rw [r304_I23]
        refine ww_iload_n hX (pc := 23) dX11_row_23 rfl ?_
        refine ww_aload_n hX (pc := 24) dX11_row_24 rfl ?_
        refine vI0 hX (pc := 25) sX11_112 (xs_49 hL) (c_X11_states l0 hL cI23 ) (by decide) (Nat.le_refl 0) (Nat.le_refl 0) (Nat.le_of_ble_eq_true rfl) dX11_row_25 (fun x_25 I_25 J_25 h_25 => ?_)
        obtain ⟨rfl, rfl, h_25⟩ := h_25
        refine ww_icmp_ge hX (pc := 28) (tgt := 73) dX11_row_28 (by decide) (fun h_28 => ?_) (fun h_28 => ?_)
        · simp only [w32_mod] at h_28
          refine ww_aload_n hX (pc := 73) dX11_row_73 rfl ?_
          refine ww_iconst hX (pc := 74) (x := 0) dX11_row_74 rfl ?_
          refine ww_iload_n hX (pc := 75) dX11_row_75 rfl ?_
          refine ww_aload_n hX (pc := 76) dX11_row_76 rfl ?_
          refine vI0 hX (pc := 77) sX11_112 (xs_49 hL) (c_X11_states l0 hL cI23 ) (by decide) (Nat.le_refl 0) (Nat.le_refl 0) (Nat.le_of_ble_eq_true rfl) dX11_row_77 (fun x_77 I_77 J_77 h_77 => ?_)
          obtain ⟨rfl, rfl, h_77⟩ := h_77
          refine ww_isub hX (pc := 80) dX11_row_80 ?_
          refine sI2 hX (pc := 81) sX11_132 (c_X11_greater l0 (by omega) (by omega) (by omega) (by omega)) (by decide) (Nat.le_refl 0) (Nat.le_refl 0) (Nat.le_of_ble_eq_true rfl) dX11_row_81 (fun x_81 I_81 J_81 h_81 => ?_)
          obtain ⟨rfl, rfl, h_81⟩ := h_81
          refine ww_putI hX (pc := 84) (fun h9 => absurd h9 (by decide)) gX11_136 rfl (xs_49 hL) dX11_row_84 ?_
          refine ww_nmH (fun I_84 eI_84 => ?_)
          have kI_84 : Ch [50, 51] [0, 1, 6, 10] Ia I_84 := by rw [eI_84]; exact Ch_f kI23 (by decide)
          have cI_84 : RX I_84 := by rw [eI_84]; exact RX_f cI23 (by decide)
          have qI_84 := RX_o cI_84
          have r304_I_84 : I_84 51 304 = I23 51 304 := by rw [eI_84, up2_off _ _ _ (by decide)]
          have r305_I_84 : I_84 51 305 = I23 51 305 := by rw [eI_84, up2_off _ _ _ (by decide)]
          have r309_I_84 : I_84 51 309 = I23 51 309 := by rw [eI_84, up2_off _ _ _ (by decide)]
          have f10_I_84 : I_84 49 10 = I23 49 10 := by rw [eI_84, up2_n _ _ (Or.inr (by decide))]
          have rf_I_84 : FU (I_84 51 304) = FU (I23 51 304) := by rw [r304_I_84]
          have z6 : I_84 49 6 = x_81 := by rw [eI_84, up2_s]
          refine ww_aload_n hX (pc := 87) dX11_row_87 rfl ?_
          refine ww_aload_n hX (pc := 88) dX11_row_88 rfl ?_
          refine vI0 hX (pc := 89) sX11_139 (xs_49 hL) (c_X11_readMany l0 hL cI_84 ) (by decide) (Nat.le_refl 0) (Nat.le_refl 0) (Nat.le_of_ble_eq_true rfl) dX11_row_89 (fun x_89 I_89 J_89 h_89 => ?_)
          obtain ⟨rfl, rfl, h_89⟩ := h_89
          refine vI1 hX (pc := 92) sX11_109 (xs_49 hL) (c_X11_good l0 hL cI_84 ) (by decide) (Nat.le_refl 0) (Nat.le_refl 0) (Nat.le_of_ble_eq_true rfl) dX11_row_92 (fun x_92 I_92 J_92 h_92 => ?_)
          have kJ_92 : Kp 49 73 Ja J_92 := Kp_tr kJ23 h_92.2.1
          have kI_92 : Ch [50, 51] [0, 1, 6, 10] Ia I_92 := Ch_tr kI_84 (Ch_wd h_92.1 (by decide) (by decide))
          have cI_92 : RX I_92 := h_92.2.2.1
          have qI_92 := RX_o cI_92
          have r304_I_92 : I_92 51 304 = I_84 51 304 := by rw [h_92.1.1 51 (by decide) (by decide)]
          have r305_I_92 : I_92 51 305 = I_84 51 305 := by rw [h_92.1.1 51 (by decide) (by decide)]
          have r309_I_92 : I_92 51 309 = I_84 51 309 := by rw [h_92.1.1 51 (by decide) (by decide)]
          have f6_I_92 : I_92 49 6 = I_84 49 6 := h_92.1.2 6 (by decide)
          have f10_I_92 : I_92 49 10 = I_84 49 10 := h_92.1.2 10 (by decide)
          have rf_I_92 : FU (I_92 51 304) = FU (I_84 51 304) := by rw [r304_I_92]
          refine rI hX (pc := 95) hT (Nat.le_refl 0) (Nat.le_refl 0) dX11_row_95 ?_
          exact ⟨kI_92, kJ_92, cI_92, by omega, by omega, by omega, by omega, by omega, by omega⟩
        · simp only [w32_mod] at h_28
          refine ww_aload_n hX (pc := 31) dX11_row_31 rfl ?_
          refine ww_getR hX (pc := 32) fX11_20 (by decide) (xs_49 hL) (xr_49_3 hL) dX11_row_32 ?_
          refine ww_iconst hX (pc := 35) (x := 0) dX11_row_35 rfl ?_
          refine ww_iload_n hX (pc := 36) dX11_row_36 rfl ?_
          refine ww_iadd hX (pc := 37) dX11_row_37 ?_
          refine ww_iload_n hX (pc := 38) dX11_row_38 rfl ?_
          refine ww_iload_n hX (pc := 39) dX11_row_39 rfl ?_
          refine ww_icmp_ge hX (pc := 40) (tgt := 65) dX11_row_40 (by decide) (fun h_40 => ?_) (fun h_40 => ?_)
          · simp only [w32_mod] at h_40
            refine ww_iconst hX (pc := 65) (x := (-1)) dX11_row_65 rfl ?_
            refine ww_iast hX (pc := 66) (xs_51 hL) (by decide) (by omega) (by omega) dX11_row_66 ?_
            refine ww_nmH (fun I_66 eI_66 => ?_)
            have kI_66 : Ch [50, 51] [0, 1, 6, 10] Ia I_66 := by rw [eI_66]; exact Ch_r kI23 (by decide) (by decide)
            have cI_66 : RX I_66 := by rw [eI_66]; exact RX_lo cI23 (by omega)
            have qI_66 := RX_o cI_66
            have r304_I_66 : I_66 51 304 = I23 51 304 := by rw [eI_66, up2_n _ _ (Or.inr (by omega))]
            have r305_I_66 : I_66 51 305 = I23 51 305 := by rw [eI_66, up2_n _ _ (Or.inr (by omega))]
            have r309_I_66 : I_66 51 309 = I23 51 309 := by rw [eI_66, up2_n _ _ (Or.inr (by omega))]
            have f6_I_66 : I_66 49 6 = I23 49 6 := by rw [eI_66, up2_off _ _ _ (by decide)]
            have f10_I_66 : I_66 49 10 = I23 49 10 := by rw [eI_66, up2_off _ _ _ (by decide)]
            have rf_I_66 : FU (I_66 51 304) = FU (I23 51 304) := by rw [r304_I_66]
            refine ww_iinc hX (pc := 67) (lv' := [some (kR (some 49)), some (kI v_4), some (kI (i + 1))]) dX11_row_67 rfl (by decide) rfl rfl ?_
            refine ww_goto hX (pc := 70) (tgt := 23) dX11_row_70 (by decide) ?_
            exact ih_23 _ (by omega) (i + 1) I_66 J23 rfl ⟨kI_66, cI_66, kJ23, by omega, by omega, by omega, by omega, by omega, by omega⟩
          · simp only [w32_mod] at h_40
            refine ww_aload_n hX (pc := 43) dX11_row_43 rfl ?_
            refine ww_aload_n hX (pc := 44) dX11_row_44 rfl ?_
            refine ww_getR hX (pc := 45) fX11_34 (by decide) (xs_49 hL) (xr_49_8 hL) dX11_row_45 ?_
            refine ww_iload_n hX (pc := 48) dX11_row_48 rfl ?_
            refine ww_bald hX (pc := 49) (xs_55 hL) (by decide) (by omega) (by omega) dX11_row_49 ?_
            refine ww_wI ?_
            have hwr50 := w32_r (I23 55 i.toNat)
            refine vI1 hX (pc := 50) sX11_123 (xs_49 hL) (c_X11_isNews l0 hL cI23 (by omega) (by omega)) (by decide) (Nat.le_refl 0) (Nat.le_refl 0) (Nat.le_of_ble_eq_true rfl) dX11_row_50 (fun x_50 I_50 J_50 h_50 => ?_)
            obtain ⟨rfl, rfl, h_50⟩ := h_50
            refine ww_if_eq hX (pc := 53) (tgt := 65) dX11_row_53 (by decide) (fun h_53 => ?_) (fun h_53 => ?_)
            · simp only [w32_mod] at h_53
              refine ww_iconst hX (pc := 65) (x := (-1)) dX11_row_65 rfl ?_
              refine ww_iast hX (pc := 66) (xs_51 hL) (by decide) (by omega) (by omega) dX11_row_66 ?_
              refine ww_nmH (fun I_66 eI_66 => ?_)
              have kI_66 : Ch [50, 51] [0, 1, 6, 10] Ia I_66 := by rw [eI_66]; exact Ch_r kI23 (by decide) (by decide)
              have cI_66 : RX I_66 := by rw [eI_66]; exact RX_lo cI23 (by omega)
              have qI_66 := RX_o cI_66
              have r304_I_66 : I_66 51 304 = I23 51 304 := by rw [eI_66, up2_n _ _ (Or.inr (by omega))]
              have r305_I_66 : I_66 51 305 = I23 51 305 := by rw [eI_66, up2_n _ _ (Or.inr (by omega))]
              have r309_I_66 : I_66 51 309 = I23 51 309 := by rw [eI_66, up2_n _ _ (Or.inr (by omega))]
              have f6_I_66 : I_66 49 6 = I23 49 6 := by rw [eI_66, up2_off _ _ _ (by decide)]
              have f10_I_66 : I_66 49 10 = I23 49 10 := by rw [eI_66, up2_off _ _ _ (by decide)]
              have rf_I_66 : FU (I_66 51 304) = FU (I23 51 304) := by rw [r304_I_66]
              refine ww_iinc hX (pc := 67) (lv' := [some (kR (some 49)), some (kI v_4), some (kI (i + 1))]) dX11_row_67 rfl (by decide) rfl rfl ?_
              refine ww_goto hX (pc := 70) (tgt := 23) dX11_row_70 (by decide) ?_
              exact ih_23 _ (by omega) (i + 1) I_66 J23 rfl ⟨kI_66, cI_66, kJ23, by omega, by omega, by omega, by omega, by omega, by omega⟩
            · simp only [w32_mod] at h_53
              refine ww_aload_n hX (pc := 56) dX11_row_56 rfl ?_
              refine ww_getR hX (pc := 57) fX11_34 (by decide) (xs_49 hL) (xr_49_8 hL) dX11_row_57 ?_
              refine ww_iload_n hX (pc := 60) dX11_row_60 rfl ?_
              refine ww_bald hX (pc := 61) (xs_55 hL) (by decide) (by omega) (by omega) dX11_row_61 ?_
              refine ww_goto hX (pc := 62) (tgt := 66) dX11_row_62 (by decide) ?_
              refine ww_iast hX (pc := 66) (xs_51 hL) (by decide) (by omega) (by omega) dX11_row_66 ?_
              refine ww_nmH (fun I_66 eI_66 => ?_)
              have kI_66 : Ch [50, 51] [0, 1, 6, 10] Ia I_66 := by rw [eI_66]; exact Ch_r kI23 (by decide) (by decide)
              have cI_66 : RX I_66 := by rw [eI_66]; exact RX_lo cI23 (by omega)
              have qI_66 := RX_o cI_66
              have r304_I_66 : I_66 51 304 = I23 51 304 := by rw [eI_66, up2_n _ _ (Or.inr (by omega))]
              have r305_I_66 : I_66 51 305 = I23 51 305 := by rw [eI_66, up2_n _ _ (Or.inr (by omega))]
              have r309_I_66 : I_66 51 309 = I23 51 309 := by rw [eI_66, up2_n _ _ (Or.inr (by omega))]
              have f6_I_66 : I_66 49 6 = I23 49 6 := by rw [eI_66, up2_off _ _ _ (by decide)]
              have f10_I_66 : I_66 49 10 = I23 49 10 := by rw [eI_66, up2_off _ _ _ (by decide)]
              have rf_I_66 : FU (I_66 51 304) = FU (I23 51 304) := by rw [r304_I_66]
              refine ww_iinc hX (pc := 67) (lv' := [some (kR (some 49)), some (kI v_4), some (kI (i + 1))]) dX11_row_67 rfl (by decide) rfl rfl ?_
              refine ww_goto hX (pc := 70) (tgt := 23) dX11_row_70 (by decide) ?_
              exact ih_23 _ (by omega) (i + 1) I_66 J23 rfl ⟨kI_66, cI_66, kJ23, by omega, by omega, by omega, by omega, by omega, by omega⟩
    exact hl_23 _ 0 I_7 Ja rfl ⟨kI_7, cI_7, (Kp_rf (a := 49) (b := 73)), rfl, rfl, rfl, rfl, rfl, by omega⟩
  · simp only [w32_mod] at h_11
    refine ww_aload_n hX (pc := 14) dX11_row_14 rfl ?_
    refine ww_bipush hX (pc := 15) (x := (-6)) dX11_row_15 (by decide) ?_
    refine vI1 hX (pc := 17) sX11_105 (xs_49 hL) (c_X11_refuses l0 hL cI_7 (by omega) (by omega)) (by decide) (Nat.le_refl 0) (Nat.le_refl 0) (Nat.le_of_ble_eq_true rfl) dX11_row_17 (fun x_17 I_17 J_17 h_17 => ?_)
    have kJ_17 : Kp 49 73 Ja J_17 := Kp_tr (Kp_rf (a := 49) (b := 73)) h_17.2.1
    have kI_17 : Ch [50, 51] [0, 1, 6, 10] Ia I_17 := Ch_tr kI_7 (Ch_wd h_17.1 (by decide) (by decide))
    have cI_17 : RX I_17 := h_17.2.2.1
    have qI_17 := RX_o cI_17
    have r304_I_17 : I_17 51 304 = I_7 51 304 := by rw [h_17.1.1 51 (by decide) (by decide)]
    have r305_I_17 : I_17 51 305 = I_7 51 305 := by rw [h_17.1.1 51 (by decide) (by decide)]
    have r309_I_17 : I_17 51 309 = I_7 51 309 := by rw [h_17.1.1 51 (by decide) (by decide)]
    have f6_I_17 : I_17 49 6 = I_7 49 6 := h_17.1.2 6 (by decide)
    have f10_I_17 : I_17 49 10 = I_7 49 10 := h_17.1.2 10 (by decide)
    have rf_I_17 : FU (I_17 51 304) = FU (I_7 51 304) := by rw [r304_I_17]
    refine rI hX (pc := 20) hT (Nat.le_refl 0) (Nat.le_refl 0) dX11_row_20 ?_
    exact ⟨kI_17, kJ_17, cI_17, by omega, by omega, by omega, by omega, by omega, by omega⟩
set_option maxHeartbeats 4000000 in
set_option maxRecDepth 20000 in
theorem c2_X11_end (l0 : Launch) {Ia Ja : aI1} {Ra : aR1} {Sa : aS1} (hL : LY Ra Sa) (hQ : RX Ia) {a : Int} (ha0 : -2147483648 ≤ a) (ha1 : a < 2147483648)  : CT l0 1 0 0 mX11_end [kR (some 49), kI a] Ia Ja Ra Sa (cI (fun x I' J' => Ch [] [10] Ia I' ∧ Kp 49 73 Ja J' ∧ RX I' ∧ ((0 ≤ a ∧ a ≤ Ia 49 10) → x = a ∧ I' 49 10 = a) ∧ (¬ (0 ≤ a ∧ a ≤ Ia 49 10) → x = -1 ∧ I' 49 10 = Ia 49 10)) Ra Sa) := by
  refine ct_in pn_X11 (Nat.le_of_ble_eq_true rfl) (fun X hX hT hIn => ?_)
  have hX : aK l0 X cX11_end 2 RX11 (some .int) 1 0 0 := hX
  change WW X 0 [some (kR (some 49)), some (kI a)] [] Ia Ja Ra Sa 0 0
  have qIa := RX_o hQ
  refine ww_iload_n hX (pc := 0) dX11_end_0 rfl ?_
  refine ww_iconst hX (pc := 1) (x := 0) dX11_end_1 rfl ?_
  refine ww_aload_n hX (pc := 2) dX11_end_2 rfl ?_
  refine ww_getI hX (pc := 3) fX11_129 (by decide) (xs_49 hL) dX11_end_3 ?_
  refine sI3 hX (pc := 6) sX11_101 (c_X11_lies l0 (by omega) (by omega) (by omega) (by omega) (by omega) (by omega)) (by decide) (Nat.le_refl 0) (Nat.le_refl 0) (Nat.le_of_ble_eq_true rfl) dX11_end_6 (fun x_6 I_6 J_6 h_6 => ?_)
  obtain ⟨rfl, rfl, h_6⟩ := h_6
  refine ww_if_ne hX (pc := 9) (tgt := 14) dX11_end_9 (by decide) (fun h_9 => ?_) (fun h_9 => ?_)
  · simp only [w32_mod] at h_9
    refine ww_aload_n hX (pc := 14) dX11_end_14 rfl ?_
    refine ww_iload_n hX (pc := 15) dX11_end_15 rfl ?_
    refine ww_putI hX (pc := 16) (fun h9 => absurd h9 (by decide)) gX11_129 rfl (xs_49 hL) dX11_end_16 ?_
    refine ww_nmH (fun I_16 eI_16 => ?_)
    have kI_16 : Ch [] [10] Ia I_16 := by rw [eI_16]; exact Ch_f Ch_rf (by decide)
    have cI_16 : RX I_16 := by rw [eI_16]; exact RX_10 hQ (by omega) (by omega)
    have qI_16 := RX_o cI_16
    have r304_I_16 : I_16 51 304 = Ia 51 304 := by rw [eI_16, up2_off _ _ _ (by decide)]
    have r305_I_16 : I_16 51 305 = Ia 51 305 := by rw [eI_16, up2_off _ _ _ (by decide)]
    have rf_I_16 : FU (I_16 51 304) = FU (Ia 51 304) := by rw [r304_I_16]
    have z10 : I_16 49 10 = a := by rw [eI_16, up2_s]
    refine ww_iload_n hX (pc := 19) dX11_end_19 rfl ?_
    refine rI hX (pc := 20) hT (Nat.le_refl 0) (Nat.le_refl 0) dX11_end_20 ?_
    exact ⟨kI_16, (Kp_rf (a := 49) (b := 73)), cI_16, by omega, by omega⟩
  · simp only [w32_mod] at h_9
    refine ww_iconst hX (pc := 12) (x := (-1)) dX11_end_12 rfl ?_
    refine rI hX (pc := 13) hT (Nat.le_refl 0) (Nat.le_refl 0) dX11_end_13 ?_
    exact ⟨Ch_rf, (Kp_rf (a := 49) (b := 73)), hQ, by omega, by omega⟩
set_option maxHeartbeats 4000000 in
set_option maxRecDepth 20000 in
theorem c2_X11_feed (l0 : Launch) {Ia Ja : aI1} {Ra : aR1} {Sa : aS1} (hL : LY Ra Sa) (hQ : RX Ia) {a b c e g : Int}  : CT l0 0 0 0 mX11_feed [kR (some 49), kI a, kI b, kI c, kI e, kI g] Ia Ja Ra Sa (cI (fun x I' J' => Ch [55, 56] [10] Ia I' ∧ Kp 49 73 Ja J' ∧ RX I' ∧ (Ia 49 10 ≤ 380 → x = Ia 49 10 + 20 ∧ I' 49 10 = Ia 49 10 + 20) ∧ (¬ Ia 49 10 ≤ 380 → x = -1 ∧ I' 49 10 = Ia 49 10)) Ra Sa) := by
  refine ct_in pn_X11 (Nat.le_of_ble_eq_true rfl) (fun X hX hT hIn => ?_)
  have hX : aK l0 X cX11_feed 7 RX11 (some .int) 0 0 0 := hX
  change WW X 0 [some (kR (some 49)), some (kI a), some (kI b), some (kI c), some (kI e), some (kI g), none] [] Ia Ja Ra Sa 0 0
  have qIa := RX_o hQ
  refine ww_aload_n hX (pc := 0) dX11_feed_0 rfl ?_
  refine ww_getI hX (pc := 1) fX11_129 (by decide) (xs_49 hL) dX11_feed_1 ?_
  refine ww_bipush hX (pc := 4) (x := 20) dX11_feed_4 (by decide) ?_
  refine ww_iadd hX (pc := 6) dX11_feed_6 ?_
  refine ww_sipush hX (pc := 7) (x := 400) dX11_feed_7 (by decide) ?_
  refine ww_icmp_le hX (pc := 10) (tgt := 15) dX11_feed_10 (by decide) (fun h_10 => ?_) (fun h_10 => ?_)
  · simp only [w32_mod] at h_10
    refine ww_aload_n hX (pc := 15) dX11_feed_15 rfl ?_
    refine ww_getR hX (pc := 16) fX11_37 (by decide) (xs_49 hL) (xr_49_9 hL) dX11_feed_16 ?_
    refine ww_iconst hX (pc := 19) (x := 0) dX11_feed_19 rfl ?_
    refine ww_iload_n hX (pc := 20) dX11_feed_20 rfl ?_
    refine ww_iast hX (pc := 21) (xs_56 hL) (by decide) (by omega) (by omega) dX11_feed_21 ?_
    refine ww_nmH (fun I_21 eI_21 => ?_)
    have kI_21 : Ch [55, 56] [10] Ia I_21 := by rw [eI_21]; exact Ch_r Ch_rf (by decide) (by decide)
    have cI_21 : RX I_21 := by rw [eI_21]; exact RX_r hQ (by decide)
    have qI_21 := RX_o cI_21
    have f10_I_21 : I_21 49 10 = Ia 49 10 := by rw [eI_21, up2_off _ _ _ (by decide)]
    refine ww_aload_n hX (pc := 22) dX11_feed_22 rfl ?_
    refine ww_getR hX (pc := 23) fX11_37 (by decide) (xs_49 hL) (xr_49_9 hL) dX11_feed_23 ?_
    refine ww_iconst hX (pc := 26) (x := 1) dX11_feed_26 rfl ?_
    refine ww_iload_n hX (pc := 27) dX11_feed_27 rfl ?_
    refine ww_iast hX (pc := 28) (xs_56 hL) (by decide) (by omega) (by omega) dX11_feed_28 ?_
    refine ww_nmH (fun I_28 eI_28 => ?_)
    have kI_28 : Ch [55, 56] [10] Ia I_28 := by rw [eI_28]; exact Ch_r kI_21 (by decide) (by decide)
    have cI_28 : RX I_28 := by rw [eI_28]; exact RX_r cI_21 (by decide)
    have qI_28 := RX_o cI_28
    have f10_I_28 : I_28 49 10 = I_21 49 10 := by rw [eI_28, up2_off _ _ _ (by decide)]
    refine ww_aload_n hX (pc := 29) dX11_feed_29 rfl ?_
    refine ww_getR hX (pc := 30) fX11_37 (by decide) (xs_49 hL) (xr_49_9 hL) dX11_feed_30 ?_
    refine ww_iconst hX (pc := 33) (x := 2) dX11_feed_33 rfl ?_
    refine ww_iload_n hX (pc := 34) dX11_feed_34 rfl ?_
    refine ww_iast hX (pc := 35) (xs_56 hL) (by decide) (by omega) (by omega) dX11_feed_35 ?_
    refine ww_nmH (fun I_35 eI_35 => ?_)
    have kI_35 : Ch [55, 56] [10] Ia I_35 := by rw [eI_35]; exact Ch_r kI_28 (by decide) (by decide)
    have cI_35 : RX I_35 := by rw [eI_35]; exact RX_r cI_28 (by decide)
    have qI_35 := RX_o cI_35
    have f10_I_35 : I_35 49 10 = I_28 49 10 := by rw [eI_35, up2_off _ _ _ (by decide)]
    refine ww_aload_n hX (pc := 36) dX11_feed_36 rfl ?_
    refine ww_getR hX (pc := 37) fX11_37 (by decide) (xs_49 hL) (xr_49_9 hL) dX11_feed_37 ?_
    refine ww_iconst hX (pc := 40) (x := 3) dX11_feed_40 rfl ?_
    refine ww_iload hX (pc := 41) dX11_feed_41 rfl ?_
    refine ww_iast hX (pc := 43) (xs_56 hL) (by decide) (by omega) (by omega) dX11_feed_43 ?_
    refine ww_nmH (fun I_43 eI_43 => ?_)
    have kI_43 : Ch [55, 56] [10] Ia I_43 := by rw [eI_43]; exact Ch_r kI_35 (by decide) (by decide)
    have cI_43 : RX I_43 := by rw [eI_43]; exact RX_r cI_35 (by decide)
    have qI_43 := RX_o cI_43
    have f10_I_43 : I_43 49 10 = I_35 49 10 := by rw [eI_43, up2_off _ _ _ (by decide)]
    refine ww_aload_n hX (pc := 44) dX11_feed_44 rfl ?_
    refine ww_getR hX (pc := 45) fX11_37 (by decide) (xs_49 hL) (xr_49_9 hL) dX11_feed_45 ?_
    refine ww_iconst hX (pc := 48) (x := 4) dX11_feed_48 rfl ?_
    refine ww_iload hX (pc := 49) dX11_feed_49 rfl ?_
    refine ww_iast hX (pc := 51) (xs_56 hL) (by decide) (by omega) (by omega) dX11_feed_51 ?_
    refine ww_nmH (fun I_51 eI_51 => ?_)
    have kI_51 : Ch [55, 56] [10] Ia I_51 := by rw [eI_51]; exact Ch_r kI_43 (by decide) (by decide)
    have cI_51 : RX I_51 := by rw [eI_51]; exact RX_r cI_43 (by decide)
    have qI_51 := RX_o cI_51
    have f10_I_51 : I_51 49 10 = I_43 49 10 := by rw [eI_51, up2_off _ _ _ (by decide)]
    refine ww_iconst hX (pc := 52) (x := 0) dX11_feed_52 rfl ?_
    refine ww_istore hX (pc := 53) (lv' := [some (kR (some 49)), some (kI a), some (kI b), some (kI c), some (kI e), some (kI g), some (kI 0)]) dX11_feed_53 (by decide) rfl rfl ?_
    have hl_55 : ∀ (n_55 : Nat) (i : Int) (I55 : aI1) (J55 : aI1), (20 - i).toNat = n_55 → (Ch [55, 56] [10] Ia I55 ∧ RX I55 ∧ Kp 49 73 Ja J55 ∧ I55 49 10 = I_51 49 10 ∧ (0 ≤ i ∧ i ≤ 20)) → WW X 55 [some (kR (some 49)), some (kI a), some (kI b), some (kI c), some (kI e), some (kI g), some (kI i)] [] I55 J55 Ra Sa 0 0 := by
      intro n_55
      induction n_55 using Nat.strongRecOn with
      | ind n_55 ih_55 =>
        intro i I55 J55 hm_55 hv_55
        obtain ⟨kI55, cI55, kJ55, f10_I55, hv⟩ := hv_55
        have qI55 := RX_o cI55
        refine ww_iload hX (pc := 55) dX11_feed_55 rfl ?_
        refine ww_bipush hX (pc := 57) (x := 20) dX11_feed_57 (by decide) ?_
        refine ww_icmp_ge hX (pc := 59) (tgt := 101) dX11_feed_59 (by decide) (fun h_59 => ?_) (fun h_59 => ?_)
        · simp only [w32_mod] at h_59
          refine ww_aload_n hX (pc := 101) dX11_feed_101 rfl ?_
          refine ww_dupR hX (pc := 102) dX11_feed_102 ?_
          refine ww_getI hX (pc := 103) fX11_129 (by decide) (xs_49 hL) dX11_feed_103 ?_
          refine ww_bipush hX (pc := 106) (x := 20) dX11_feed_106 (by decide) ?_
          refine ww_iadd hX (pc := 108) dX11_feed_108 ?_
          refine ww_putI hX (pc := 109) (fun h9 => absurd h9 (by decide)) gX11_129 rfl (xs_49 hL) dX11_feed_109 ?_
          refine ww_nmH (fun I_109 eI_109 => ?_)
          have kI_109 : Ch [55, 56] [10] Ia I_109 := by rw [eI_109]; exact Ch_f kI55 (by decide)
          have cI_109 : RX I_109 := by rw [eI_109]; exact RX_10 cI55 (by omega) (by omega)
          have qI_109 := RX_o cI_109
          have z10 : I_109 49 10 = I55 49 10 + 20 := by rw [eI_109, up2_s]
          refine ww_aload_n hX (pc := 112) dX11_feed_112 rfl ?_
          refine ww_getI hX (pc := 113) fX11_129 (by decide) (xs_49 hL) dX11_feed_113 ?_
          refine rI hX (pc := 116) hT (Nat.le_refl 0) (Nat.le_refl 0) dX11_feed_116 ?_
          exact ⟨kI_109, kJ55, cI_109, by omega, by omega⟩
        · simp only [w32_mod] at h_59
          refine ww_aload_n hX (pc := 62) dX11_feed_62 rfl ?_
          refine ww_getR hX (pc := 63) fX11_34 (by decide) (xs_49 hL) (xr_49_8 hL) dX11_feed_63 ?_
          refine ww_aload_n hX (pc := 66) dX11_feed_66 rfl ?_
          refine ww_getI hX (pc := 67) fX11_129 (by decide) (xs_49 hL) dX11_feed_67 ?_
          refine ww_iload hX (pc := 70) dX11_feed_70 rfl ?_
          refine ww_iadd hX (pc := 72) dX11_feed_72 ?_
          refine ww_aload_n hX (pc := 73) dX11_feed_73 rfl ?_
          refine ww_getR hX (pc := 74) fX11_37 (by decide) (xs_49 hL) (xr_49_9 hL) dX11_feed_74 ?_
          refine ww_iload hX (pc := 77) dX11_feed_77 rfl ?_
          refine ww_iconst hX (pc := 79) (x := 4) dX11_feed_79 rfl ?_
          refine ww_idiv hX (pc := 80) dX11_feed_80 (by decide) ?_
          have hd4 : i_div i 4 = i / 4 := i_div_v (by omega) (by omega) (by decide) (by decide)
          refine ww_iald hX (pc := 81) (xs_56 hL) (by decide) (by omega) (by omega) dX11_feed_81 ?_
          refine ww_bipush hX (pc := 82) (x := 24) dX11_feed_82 (by decide) ?_
          refine ww_bipush hX (pc := 84) (x := 8) dX11_feed_84 (by decide) ?_
          refine ww_iload hX (pc := 86) dX11_feed_86 rfl ?_
          refine ww_iconst hX (pc := 88) (x := 4) dX11_feed_88 rfl ?_
          refine ww_irem hX (pc := 89) dX11_feed_89 (by decide) ?_
          refine ww_imul hX (pc := 90) dX11_feed_90 ?_
          refine ww_isub hX (pc := 91) dX11_feed_91 ?_
          refine ww_ishr hX (pc := 92) dX11_feed_92 ?_
          refine ww_i2b hX (pc := 93) dX11_feed_93 ?_
          refine ww_bast hX (pc := 94) (xs_55 hL) (by decide) (by omega) (by omega) dX11_feed_94 ?_
          refine ww_nmH (fun I_94 eI_94 => ?_)
          have kI_94 : Ch [55, 56] [10] Ia I_94 := by rw [eI_94]; exact Ch_r kI55 (by decide) (by decide)
          have cI_94 : RX I_94 := by rw [eI_94]; exact RX_r cI55 (by decide)
          have qI_94 := RX_o cI_94
          have f10_I_94 : I_94 49 10 = I55 49 10 := by rw [eI_94, up2_off _ _ _ (by decide)]
          refine ww_iinc hX (pc := 95) (lv' := [some (kR (some 49)), some (kI a), some (kI b), some (kI c), some (kI e), some (kI g), some (kI (i + 1))]) dX11_feed_95 rfl (by decide) rfl rfl ?_
          refine ww_goto hX (pc := 98) (tgt := 55) dX11_feed_98 (by decide) ?_
          exact ih_55 _ (by omega) (i + 1) I_94 J55 rfl ⟨kI_94, cI_94, kJ55, by omega, by omega⟩
    exact hl_55 _ 0 I_51 Ja rfl ⟨kI_51, cI_51, (Kp_rf (a := 49) (b := 73)), rfl, by omega⟩
  · simp only [w32_mod] at h_10
    refine ww_iconst hX (pc := 13) (x := (-1)) dX11_feed_13 rfl ?_
    refine rI hX (pc := 14) hT (Nat.le_refl 0) (Nat.le_refl 0) dX11_feed_14 ?_
    exact ⟨Ch_rf, (Kp_rf (a := 49) (b := 73)), hQ, by omega, by omega⟩
set_option maxHeartbeats 4000000 in
set_option maxRecDepth 20000 in
theorem c2_X11_trail (l0 : Launch) {Ia Ja : aI1} {Ra : aR1} {Sa : aS1} (hL : LY Ra Sa) (hQ : RX Ia)  : CT l0 1 0 0 mX11_trail [kR (some 49)] Ia Ja Ra Sa (cI (fun x I' J' => Ch [50, 67] [0, 1, 10, 33] Ia I' ∧ Kp 49 73 Ja J' ∧ RX I' ∧ I' 49 10 = 0 ∧ (Ia 49 10 = 0 → x = -6) ∧ (¬ Ia 49 10 = 0 → x = min (Ia 49 10) 30)) Ra Sa) := by
  refine ct_in pn_X11 (Nat.le_of_ble_eq_true rfl) (fun X hX hT hIn => ?_)
  have hX : aK l0 X cX11_trail 3 RX11 (some .int) 1 0 0 := hX
  change WW X 0 [some (kR (some 49)), none, none] [] Ia Ja Ra Sa 0 0
  have qIa := RX_o hQ
  refine ww_aload_n hX (pc := 0) dX11_trail_0 rfl ?_
  refine ww_getI hX (pc := 1) fX11_129 (by decide) (xs_49 hL) dX11_trail_1 ?_
  refine ww_nmI (fun v_4 hv_4 => ?_)
  refine ww_istore_n hX (pc := 4) (lv' := [some (kR (some 49)), some (kI v_4), none]) dX11_trail_4 (by decide) rfl rfl ?_
  refine ww_aload_n hX (pc := 5) dX11_trail_5 rfl ?_
  refine ww_iconst hX (pc := 6) (x := 0) dX11_trail_6 rfl ?_
  refine ww_putI hX (pc := 7) (fun h9 => absurd h9 (by decide)) gX11_129 rfl (xs_49 hL) dX11_trail_7 ?_
  refine ww_nmH (fun I_7 eI_7 => ?_)
  have kI_7 : Ch [50, 67] [0, 1, 10, 33] Ia I_7 := by rw [eI_7]; exact Ch_f Ch_rf (by decide)
  have cI_7 : RX I_7 := by rw [eI_7]; exact RX_10 hQ (by omega) (by omega)
  have qI_7 := RX_o cI_7
  have r304_I_7 : I_7 51 304 = Ia 51 304 := by rw [eI_7, up2_off _ _ _ (by decide)]
  have r305_I_7 : I_7 51 305 = Ia 51 305 := by rw [eI_7, up2_off _ _ _ (by decide)]
  have f33_I_7 : I_7 49 33 = Ia 49 33 := by rw [eI_7, up2_n _ _ (Or.inr (by decide))]
  have rf_I_7 : FU (I_7 51 304) = FU (Ia 51 304) := by rw [r304_I_7]
  have z10 : I_7 49 10 = 0 := by rw [eI_7, up2_s]
  refine ww_iload_n hX (pc := 10) dX11_trail_10 rfl ?_
  refine ww_if_ne hX (pc := 11) (tgt := 21) dX11_trail_11 (by decide) (fun h_11 => ?_) (fun h_11 => ?_)
  · simp only [w32_mod] at h_11
    refine ww_aload_n hX (pc := 21) dX11_trail_21 rfl ?_
    refine ww_iload_n hX (pc := 22) dX11_trail_22 rfl ?_
    refine ww_bipush hX (pc := 23) (x := 30) dX11_trail_23 (by decide) ?_
    refine ww_icmp_ge hX (pc := 25) (tgt := 32) dX11_trail_25 (by decide) (fun h_25 => ?_) (fun h_25 => ?_)
    · simp only [w32_mod] at h_25
      refine ww_bipush hX (pc := 32) (x := 30) dX11_trail_32 (by decide) ?_
      refine ww_putI hX (pc := 34) (fun h9 => absurd h9 (by decide)) gX11_334 rfl (xs_49 hL) dX11_trail_34 ?_
      refine ww_nmH (fun I_34 eI_34 => ?_)
      have kI_34 : Ch [50, 67] [0, 1, 10, 33] Ia I_34 := by rw [eI_34]; exact Ch_f kI_7 (by decide)
      have cI_34 : RX I_34 := by rw [eI_34]; exact RX_33 cI_7 (by omega) (by omega)
      have qI_34 := RX_o cI_34
      have r304_I_34 : I_34 51 304 = I_7 51 304 := by rw [eI_34, up2_off _ _ _ (by decide)]
      have r305_I_34 : I_34 51 305 = I_7 51 305 := by rw [eI_34, up2_off _ _ _ (by decide)]
      have f10_I_34 : I_34 49 10 = I_7 49 10 := by rw [eI_34, up2_n _ _ (Or.inr (by decide))]
      have rf_I_34 : FU (I_34 51 304) = FU (I_7 51 304) := by rw [r304_I_34]
      have z33 : I_34 49 33 = 30 := by rw [eI_34, up2_s]
      refine ww_iconst hX (pc := 37) (x := 0) dX11_trail_37 rfl ?_
      refine ww_istore_n hX (pc := 38) (lv' := [some (kR (some 49)), some (kI v_4), some (kI 0)]) dX11_trail_38 (by decide) rfl rfl ?_
      have hl_39 : ∀ (n_39 : Nat) (i : Int) (I39 : aI1) (J39 : aI1), (30 - i).toNat = n_39 → (Ch [50, 67] [0, 1, 10, 33] Ia I39 ∧ RX I39 ∧ Kp 49 73 Ja J39 ∧ I39 51 304 = I_34 51 304 ∧ I39 51 305 = I_34 51 305 ∧ I39 49 10 = I_34 49 10 ∧ I39 49 33 = I_34 49 33 ∧ (0 ≤ i ∧ i ≤ 30)) → WW X 39 [some (kR (some 49)), some (kI v_4), some (kI i)] [] I39 J39 Ra Sa 0 0 := by
        intro n_39
        induction n_39 using Nat.strongRecOn with
        | ind n_39 ih_39 =>
          intro i I39 J39 hm_39 hv_39
          obtain ⟨kI39, cI39, kJ39, r304_I39, r305_I39, f10_I39, f33_I39, hv⟩ := hv_39
          have qI39 := RX_o cI39
          have rf_I39 : FU (I39 51 304) = FU (I_34 51 304) := by rw [r304_I39]
          refine ww_iload_n hX (pc := 39) dX11_trail_39 rfl ?_
          refine ww_aload_n hX (pc := 40) dX11_trail_40 rfl ?_
          refine ww_getI hX (pc := 41) fX11_334 (by decide) (xs_49 hL) dX11_trail_41 ?_
          refine ww_icmp_ge hX (pc := 44) (tgt := 69) dX11_trail_44 (by decide) (fun h_44 => ?_) (fun h_44 => ?_)
          · simp only [w32_mod] at h_44
            refine ww_aload_n hX (pc := 69) dX11_trail_69 rfl ?_
            refine ww_aload_n hX (pc := 70) dX11_trail_70 rfl ?_
            refine ww_getI hX (pc := 71) fX11_334 (by decide) (xs_49 hL) dX11_trail_71 ?_
            refine vI1 hX (pc := 74) sX11_109 (xs_49 hL) (c_X11_good l0 hL cI39 ) (by decide) (Nat.le_refl 0) (Nat.le_refl 0) (Nat.le_of_ble_eq_true rfl) dX11_trail_74 (fun x_74 I_74 J_74 h_74 => ?_)
            have kJ_74 : Kp 49 73 Ja J_74 := Kp_tr kJ39 h_74.2.1
            have kI_74 : Ch [50, 67] [0, 1, 10, 33] Ia I_74 := Ch_tr kI39 (Ch_wd h_74.1 (by decide) (by decide))
            have cI_74 : RX I_74 := h_74.2.2.1
            have qI_74 := RX_o cI_74
            have r304_I_74 : I_74 51 304 = I39 51 304 := by rw [h_74.1.1 51 (by decide) (by decide)]
            have r305_I_74 : I_74 51 305 = I39 51 305 := by rw [h_74.1.1 51 (by decide) (by decide)]
            have f10_I_74 : I_74 49 10 = I39 49 10 := h_74.1.2 10 (by decide)
            have f33_I_74 : I_74 49 33 = I39 49 33 := h_74.1.2 33 (by decide)
            have rf_I_74 : FU (I_74 51 304) = FU (I39 51 304) := by rw [r304_I_74]
            refine rI hX (pc := 77) hT (Nat.le_refl 0) (Nat.le_refl 0) dX11_trail_77 ?_
            exact ⟨kI_74, kJ_74, cI_74, by omega, by omega, by omega⟩
          · simp only [w32_mod] at h_44
            refine ww_aload_n hX (pc := 47) dX11_trail_47 rfl ?_
            refine ww_getR hX (pc := 48) fX11_77 (by decide) (xs_49 hL) (xr_49_32 hL) dX11_trail_48 ?_
            refine ww_iload_n hX (pc := 51) dX11_trail_51 rfl ?_
            refine ww_aload_n hX (pc := 52) dX11_trail_52 rfl ?_
            refine ww_getR hX (pc := 53) fX11_34 (by decide) (xs_49 hL) (xr_49_8 hL) dX11_trail_53 ?_
            refine ww_iload_n hX (pc := 56) dX11_trail_56 rfl ?_
            refine ww_bald hX (pc := 57) (xs_55 hL) (by decide) (by omega) (by omega) dX11_trail_57 ?_
            refine ww_sipush hX (pc := 58) (x := 255) dX11_trail_58 (by decide) ?_
            refine ww_iand hX (pc := 61) dX11_trail_61 ?_
            refine ww_iast hX (pc := 62) (xs_67 hL) (by decide) (by omega) (by omega) dX11_trail_62 ?_
            refine ww_nmH (fun I_62 eI_62 => ?_)
            have kI_62 : Ch [50, 67] [0, 1, 10, 33] Ia I_62 := by rw [eI_62]; exact Ch_r kI39 (by decide) (by decide)
            have cI_62 : RX I_62 := by rw [eI_62]; exact RX_r cI39 (by decide)
            have qI_62 := RX_o cI_62
            have r304_I_62 : I_62 51 304 = I39 51 304 := by rw [eI_62, up2_off _ _ _ (by decide)]
            have r305_I_62 : I_62 51 305 = I39 51 305 := by rw [eI_62, up2_off _ _ _ (by decide)]
            have f10_I_62 : I_62 49 10 = I39 49 10 := by rw [eI_62, up2_off _ _ _ (by decide)]
            have f33_I_62 : I_62 49 33 = I39 49 33 := by rw [eI_62, up2_off _ _ _ (by decide)]
            have rf_I_62 : FU (I_62 51 304) = FU (I39 51 304) := by rw [r304_I_62]
            refine ww_iinc hX (pc := 63) (lv' := [some (kR (some 49)), some (kI v_4), some (kI (i + 1))]) dX11_trail_63 rfl (by decide) rfl rfl ?_
            refine ww_goto hX (pc := 66) (tgt := 39) dX11_trail_66 (by decide) ?_
            exact ih_39 _ (by omega) (i + 1) I_62 J39 rfl ⟨kI_62, cI_62, kJ39, by omega, by omega, by omega, by omega, by omega⟩
      exact hl_39 _ 0 I_34 Ja rfl ⟨kI_34, cI_34, (Kp_rf (a := 49) (b := 73)), rfl, rfl, rfl, rfl, by omega⟩
    · simp only [w32_mod] at h_25
      refine ww_iload_n hX (pc := 28) dX11_trail_28 rfl ?_
      refine ww_goto hX (pc := 29) (tgt := 34) dX11_trail_29 (by decide) ?_
      refine ww_putI hX (pc := 34) (fun h9 => absurd h9 (by decide)) gX11_334 rfl (xs_49 hL) dX11_trail_34 ?_
      refine ww_nmH (fun I_34 eI_34 => ?_)
      have kI_34 : Ch [50, 67] [0, 1, 10, 33] Ia I_34 := by rw [eI_34]; exact Ch_f kI_7 (by decide)
      have cI_34 : RX I_34 := by rw [eI_34]; exact RX_33 cI_7 (by omega) (by omega)
      have qI_34 := RX_o cI_34
      have r304_I_34 : I_34 51 304 = I_7 51 304 := by rw [eI_34, up2_off _ _ _ (by decide)]
      have r305_I_34 : I_34 51 305 = I_7 51 305 := by rw [eI_34, up2_off _ _ _ (by decide)]
      have f10_I_34 : I_34 49 10 = I_7 49 10 := by rw [eI_34, up2_n _ _ (Or.inr (by decide))]
      have rf_I_34 : FU (I_34 51 304) = FU (I_7 51 304) := by rw [r304_I_34]
      have z33 : I_34 49 33 = v_4 := by rw [eI_34, up2_s]
      refine ww_iconst hX (pc := 37) (x := 0) dX11_trail_37 rfl ?_
      refine ww_istore_n hX (pc := 38) (lv' := [some (kR (some 49)), some (kI v_4), some (kI 0)]) dX11_trail_38 (by decide) rfl rfl ?_
      have hl_39 : ∀ (n_39 : Nat) (i : Int) (I39 : aI1) (J39 : aI1), (30 - i).toNat = n_39 → (Ch [50, 67] [0, 1, 10, 33] Ia I39 ∧ RX I39 ∧ Kp 49 73 Ja J39 ∧ I39 51 304 = I_34 51 304 ∧ I39 51 305 = I_34 51 305 ∧ I39 49 10 = I_34 49 10 ∧ I39 49 33 = I_34 49 33 ∧ (0 ≤ i ∧ i ≤ 30)) → WW X 39 [some (kR (some 49)), some (kI v_4), some (kI i)] [] I39 J39 Ra Sa 0 0 := by
        intro n_39
        induction n_39 using Nat.strongRecOn with
        | ind n_39 ih_39 =>
          intro i I39 J39 hm_39 hv_39
          obtain ⟨kI39, cI39, kJ39, r304_I39, r305_I39, f10_I39, f33_I39, hv⟩ := hv_39
          have qI39 := RX_o cI39
          have rf_I39 : FU (I39 51 304) = FU (I_34 51 304) := by rw [r304_I39]
          refine ww_iload_n hX (pc := 39) dX11_trail_39 rfl ?_
          refine ww_aload_n hX (pc := 40) dX11_trail_40 rfl ?_
          refine ww_getI hX (pc := 41) fX11_334 (by decide) (xs_49 hL) dX11_trail_41 ?_
          refine ww_icmp_ge hX (pc := 44) (tgt := 69) dX11_trail_44 (by decide) (fun h_44 => ?_) (fun h_44 => ?_)
          · simp only [w32_mod] at h_44
            refine ww_aload_n hX (pc := 69) dX11_trail_69 rfl ?_
            refine ww_aload_n hX (pc := 70) dX11_trail_70 rfl ?_
            refine ww_getI hX (pc := 71) fX11_334 (by decide) (xs_49 hL) dX11_trail_71 ?_
            refine vI1 hX (pc := 74) sX11_109 (xs_49 hL) (c_X11_good l0 hL cI39 ) (by decide) (Nat.le_refl 0) (Nat.le_refl 0) (Nat.le_of_ble_eq_true rfl) dX11_trail_74 (fun x_74 I_74 J_74 h_74 => ?_)
            have kJ_74 : Kp 49 73 Ja J_74 := Kp_tr kJ39 h_74.2.1
            have kI_74 : Ch [50, 67] [0, 1, 10, 33] Ia I_74 := Ch_tr kI39 (Ch_wd h_74.1 (by decide) (by decide))
            have cI_74 : RX I_74 := h_74.2.2.1
            have qI_74 := RX_o cI_74
            have r304_I_74 : I_74 51 304 = I39 51 304 := by rw [h_74.1.1 51 (by decide) (by decide)]
            have r305_I_74 : I_74 51 305 = I39 51 305 := by rw [h_74.1.1 51 (by decide) (by decide)]
            have f10_I_74 : I_74 49 10 = I39 49 10 := h_74.1.2 10 (by decide)
            have f33_I_74 : I_74 49 33 = I39 49 33 := h_74.1.2 33 (by decide)
            have rf_I_74 : FU (I_74 51 304) = FU (I39 51 304) := by rw [r304_I_74]
            refine rI hX (pc := 77) hT (Nat.le_refl 0) (Nat.le_refl 0) dX11_trail_77 ?_
            exact ⟨kI_74, kJ_74, cI_74, by omega, by omega, by omega⟩
          · simp only [w32_mod] at h_44
            refine ww_aload_n hX (pc := 47) dX11_trail_47 rfl ?_
            refine ww_getR hX (pc := 48) fX11_77 (by decide) (xs_49 hL) (xr_49_32 hL) dX11_trail_48 ?_
            refine ww_iload_n hX (pc := 51) dX11_trail_51 rfl ?_
            refine ww_aload_n hX (pc := 52) dX11_trail_52 rfl ?_
            refine ww_getR hX (pc := 53) fX11_34 (by decide) (xs_49 hL) (xr_49_8 hL) dX11_trail_53 ?_
            refine ww_iload_n hX (pc := 56) dX11_trail_56 rfl ?_
            refine ww_bald hX (pc := 57) (xs_55 hL) (by decide) (by omega) (by omega) dX11_trail_57 ?_
            refine ww_sipush hX (pc := 58) (x := 255) dX11_trail_58 (by decide) ?_
            refine ww_iand hX (pc := 61) dX11_trail_61 ?_
            refine ww_iast hX (pc := 62) (xs_67 hL) (by decide) (by omega) (by omega) dX11_trail_62 ?_
            refine ww_nmH (fun I_62 eI_62 => ?_)
            have kI_62 : Ch [50, 67] [0, 1, 10, 33] Ia I_62 := by rw [eI_62]; exact Ch_r kI39 (by decide) (by decide)
            have cI_62 : RX I_62 := by rw [eI_62]; exact RX_r cI39 (by decide)
            have qI_62 := RX_o cI_62
            have r304_I_62 : I_62 51 304 = I39 51 304 := by rw [eI_62, up2_off _ _ _ (by decide)]
            have r305_I_62 : I_62 51 305 = I39 51 305 := by rw [eI_62, up2_off _ _ _ (by decide)]
            have f10_I_62 : I_62 49 10 = I39 49 10 := by rw [eI_62, up2_off _ _ _ (by decide)]
            have f33_I_62 : I_62 49 33 = I39 49 33 := by rw [eI_62, up2_off _ _ _ (by decide)]
            have rf_I_62 : FU (I_62 51 304) = FU (I39 51 304) := by rw [r304_I_62]
            refine ww_iinc hX (pc := 63) (lv' := [some (kR (some 49)), some (kI v_4), some (kI (i + 1))]) dX11_trail_63 rfl (by decide) rfl rfl ?_
            refine ww_goto hX (pc := 66) (tgt := 39) dX11_trail_66 (by decide) ?_
            exact ih_39 _ (by omega) (i + 1) I_62 J39 rfl ⟨kI_62, cI_62, kJ39, by omega, by omega, by omega, by omega, by omega⟩
      exact hl_39 _ 0 I_34 Ja rfl ⟨kI_34, cI_34, (Kp_rf (a := 49) (b := 73)), rfl, rfl, rfl, rfl, by omega⟩
  · simp only [w32_mod] at h_11
    refine ww_aload_n hX (pc := 14) dX11_trail_14 rfl ?_
    refine ww_bipush hX (pc := 15) (x := (-6)) dX11_trail_15 (by decide) ?_
    refine vI1 hX (pc := 17) sX11_105 (xs_49 hL) (c_X11_refuses l0 hL cI_7 (by omega) (by omega)) (by decide) (Nat.le_refl 0) (Nat.le_refl 0) (Nat.le_of_ble_eq_true rfl) dX11_trail_17 (fun x_17 I_17 J_17 h_17 => ?_)
    have kJ_17 : Kp 49 73 Ja J_17 := Kp_tr (Kp_rf (a := 49) (b := 73)) h_17.2.1
    have kI_17 : Ch [50, 67] [0, 1, 10, 33] Ia I_17 := Ch_tr kI_7 (Ch_wd h_17.1 (by decide) (by decide))
    have cI_17 : RX I_17 := h_17.2.2.1
    have qI_17 := RX_o cI_17
    have r304_I_17 : I_17 51 304 = I_7 51 304 := by rw [h_17.1.1 51 (by decide) (by decide)]
    have r305_I_17 : I_17 51 305 = I_7 51 305 := by rw [h_17.1.1 51 (by decide) (by decide)]
    have f10_I_17 : I_17 49 10 = I_7 49 10 := h_17.1.2 10 (by decide)
    have f33_I_17 : I_17 49 33 = I_7 49 33 := h_17.1.2 33 (by decide)
    have rf_I_17 : FU (I_17 51 304) = FU (I_7 51 304) := by rw [r304_I_17]
    refine rI hX (pc := 20) hT (Nat.le_refl 0) (Nat.le_refl 0) dX11_trail_20 ?_
    exact ⟨kI_17, kJ_17, cI_17, by omega, by omega, by omega⟩
set_option maxHeartbeats 4000000 in
set_option maxRecDepth 20000 in
theorem c2_X11_reads (l0 : Launch) {Ia Ja : aI1} {Ra : aR1} {Sa : aS1} (hL : LY Ra Sa) (hQ : RX Ia)  : CT l0 34 0 0 mX11_reads [kR (some 49)] Ia Ja Ra Sa (cI (fun x I' J' => Ch [57, 58, 59] [10, 11, 15, 16, 17, 18] Ia I' ∧ Kp 49 73 Ja J' ∧ RX I' ∧ (0 ≤ x ∧ x ≤ 1) ∧ (x = 1 → (0 ≤ I' 49 15 ∧ I' 49 15 ≤ 400) ∧ RG (I' 57) (I' 49 15) ∧ LawG (pvw I') (I' 49 15).toNat) ∧ I' 49 10 = 0) Ra Sa) := by
  refine ct_in pn_X11 (Nat.le_of_ble_eq_true rfl) (fun X hX hT hIn => ?_)
  have hX : aK l0 X cX11_reads 2 RX11 (some .boolean) 34 0 0 := hX
  change WW X 0 [some (kR (some 49)), none] [] Ia Ja Ra Sa 0 0
  have qIa := RX_w hQ
  refine ww_aload_n hX (pc := 0) dX11_reads_0 rfl ?_
  refine ww_aload_n hX (pc := 1) dX11_reads_1 rfl ?_
  refine ww_getI hX (pc := 2) fX11_129 (by decide) (xs_49 hL) dX11_reads_2 ?_
  refine vV1 hX (pc := 5) sX11_203 (xs_49 hL) (c_X11_splits l0 hL hQ (by omega) (by omega)) (by decide) (Nat.le_refl 0) (Nat.le_refl 0) (Nat.le_of_ble_eq_true rfl) dX11_reads_5 (fun I_5 J_5 h_5 => ?_)
  have kJ_5 : Kp 49 73 Ja J_5 := Kp_tr (Kp_rf (a := 49) (b := 73)) h_5.2.1
  have kI_5 : Ch [57, 58, 59] [10, 11, 15, 16, 17, 18] Ia I_5 := Ch_tr Ch_rf (Ch_wd h_5.1 (by decide) (by decide))
  have cI_5 : RX I_5 := h_5.2.2.1
  have qI_5 := RX_w cI_5
  have f10_I_5 : I_5 49 10 = Ia 49 10 := h_5.1.2 10 (by decide)
  have f16_I_5 : I_5 49 16 = Ia 49 16 := h_5.1.2 16 (by decide)
  have f17_I_5 : I_5 49 17 = Ia 49 17 := h_5.1.2 17 (by decide)
  have f18_I_5 : I_5 49 18 = Ia 49 18 := h_5.1.2 18 (by decide)
  refine ww_aload_n hX (pc := 8) dX11_reads_8 rfl ?_
  refine ww_iconst hX (pc := 9) (x := 0) dX11_reads_9 rfl ?_
  refine ww_putI hX (pc := 10) (fun h9 => absurd h9 (by decide)) gX11_129 rfl (xs_49 hL) dX11_reads_10 ?_
  refine ww_nmH (fun I_10 eI_10 => ?_)
  have kI_10 : Ch [57, 58, 59] [10, 11, 15, 16, 17, 18] Ia I_10 := by rw [eI_10]; exact Ch_f kI_5 (by decide)
  have cI_10 : RX I_10 := by rw [eI_10]; exact RX_10 cI_5 (by omega) (by omega)
  have qI_10 := RX_w cI_10
  have f15_I_10 : I_10 49 15 = I_5 49 15 := by rw [eI_10, up2_n _ _ (Or.inr (by decide))]
  have f16_I_10 : I_10 49 16 = I_5 49 16 := by rw [eI_10, up2_n _ _ (Or.inr (by decide))]
  have f17_I_10 : I_10 49 17 = I_5 49 17 := by rw [eI_10, up2_n _ _ (Or.inr (by decide))]
  have f18_I_10 : I_10 49 18 = I_5 49 18 := by rw [eI_10, up2_n _ _ (Or.inr (by decide))]
  have z10 : I_10 49 10 = 0 := by rw [eI_10, up2_s]
  refine ww_aload_n hX (pc := 13) dX11_reads_13 rfl ?_
  refine ww_iconst hX (pc := 14) (x := 0) dX11_reads_14 rfl ?_
  refine ww_putI hX (pc := 15) (fun h9 => absurd h9 (by decide)) gX11_162 rfl (xs_49 hL) dX11_reads_15 ?_
  refine ww_nmH (fun I_15 eI_15 => ?_)
  have kI_15 : Ch [57, 58, 59] [10, 11, 15, 16, 17, 18] Ia I_15 := by rw [eI_15]; exact Ch_f kI_10 (by decide)
  have cI_15 : RX I_15 := by rw [eI_15]; exact RX_f cI_10 (by decide)
  have qI_15 := RX_w cI_15
  have f10_I_15 : I_15 49 10 = I_10 49 10 := by rw [eI_15, up2_n _ _ (Or.inr (by decide))]
  have f15_I_15 : I_15 49 15 = I_10 49 15 := by rw [eI_15, up2_n _ _ (Or.inr (by decide))]
  have f17_I_15 : I_15 49 17 = I_10 49 17 := by rw [eI_15, up2_n _ _ (Or.inr (by decide))]
  have f18_I_15 : I_15 49 18 = I_10 49 18 := by rw [eI_15, up2_n _ _ (Or.inr (by decide))]
  have w16_15 : I_15 49 16 = 0 := by rw [eI_15, up2_s]
  refine ww_aload_n hX (pc := 18) dX11_reads_18 rfl ?_
  refine ww_iconst hX (pc := 19) (x := 0) dX11_reads_19 rfl ?_
  refine ww_putI hX (pc := 20) (fun h9 => absurd h9 (by decide)) gX11_171 rfl (xs_49 hL) dX11_reads_20 ?_
  refine ww_nmH (fun I_20 eI_20 => ?_)
  have kI_20 : Ch [57, 58, 59] [10, 11, 15, 16, 17, 18] Ia I_20 := by rw [eI_20]; exact Ch_f kI_15 (by decide)
  have cI_20 : RX I_20 := by rw [eI_20]; exact RX_f cI_15 (by decide)
  have qI_20 := RX_w cI_20
  have f10_I_20 : I_20 49 10 = I_15 49 10 := by rw [eI_20, up2_n _ _ (Or.inr (by decide))]
  have f15_I_20 : I_20 49 15 = I_15 49 15 := by rw [eI_20, up2_n _ _ (Or.inr (by decide))]
  have f16_I_20 : I_20 49 16 = I_15 49 16 := by rw [eI_20, up2_n _ _ (Or.inr (by decide))]
  have f18_I_20 : I_20 49 18 = I_15 49 18 := by rw [eI_20, up2_n _ _ (Or.inr (by decide))]
  refine ww_aload_n hX (pc := 23) dX11_reads_23 rfl ?_
  refine ww_iconst hX (pc := 24) (x := (-1)) dX11_reads_24 rfl ?_
  refine ww_putI hX (pc := 25) (fun h9 => absurd h9 (by decide)) gX11_155 rfl (xs_49 hL) dX11_reads_25 ?_
  refine ww_nmH (fun I_25 eI_25 => ?_)
  have kI_25 : Ch [57, 58, 59] [10, 11, 15, 16, 17, 18] Ia I_25 := by rw [eI_25]; exact Ch_f kI_20 (by decide)
  have cI_25 : RX I_25 := by rw [eI_25]; exact RX_f cI_20 (by decide)
  have qI_25 := RX_w cI_25
  have f10_I_25 : I_25 49 10 = I_20 49 10 := by rw [eI_25, up2_n _ _ (Or.inr (by decide))]
  have f15_I_25 : I_25 49 15 = I_20 49 15 := by rw [eI_25, up2_n _ _ (Or.inr (by decide))]
  have f16_I_25 : I_25 49 16 = I_20 49 16 := by rw [eI_25, up2_n _ _ (Or.inr (by decide))]
  have f17_I_25 : I_25 49 17 = I_20 49 17 := by rw [eI_25, up2_n _ _ (Or.inr (by decide))]
  have w18_25 : I_25 49 18 = -1 := by rw [eI_25, up2_s]
  have pI_25 : PI I_25 := PI_mk h_5.2.2.2 (by rw [eI_25, up2_off _ _ _ (by decide), eI_20, up2_off _ _ _ (by decide), eI_15, up2_off _ _ _ (by decide), eI_10, up2_off _ _ _ (by decide)]) (by rw [eI_25, up2_off _ _ _ (by decide), eI_20, up2_off _ _ _ (by decide), eI_15, up2_off _ _ _ (by decide), eI_10, up2_off _ _ _ (by decide)]) (by omega) (by omega) w18_25
  obtain ⟨c, hcI_25⟩ : ∃ c, pvw I_25 = c := ⟨_, rfl⟩
  have oI_25 := PI_o pI_25
  refine ww_aload_n hX (pc := 28) dX11_reads_28 rfl ?_
  refine vV0 hX (pc := 29) sX11_206 (xs_49 hL) (c_X11_readClause l0 hL cI_25 pI_25 hcI_25) (by decide) (Nat.le_refl 0) (Nat.le_refl 0) (Nat.le_of_ble_eq_true rfl) dX11_reads_29 (fun I_29 J_29 h_29 => ?_)
  have kJ_29 : Kp 49 73 Ja J_29 := Kp_tr kJ_5 h_29.2.1
  have kI_29 : Ch [57, 58, 59] [10, 11, 15, 16, 17, 18] Ia I_29 := Ch_tr kI_25 (Ch_wd h_29.1 (by decide) (by decide))
  have cI_29 : RX I_29 := h_29.2.2.1
  have qI_29 := RX_w cI_29
  have f10_I_29 : I_29 49 10 = I_25 49 10 := h_29.1.2 10 (by decide)
  have f15_I_29 : I_29 49 15 = I_25 49 15 := h_29.1.2 15 (by decide)
  have pI_29 : PI I_29 := h_29.2.2.2.1
  have oI_29 := PI_o pI_29
  have yI_29 := h_29.2.2.2.2
  have hcI_29 := pvw_tr h_29.1 (by decide) (by decide) hcI_25
  refine ww_iconst hX (pc := 32) (x := 1) dX11_reads_32 rfl ?_
  refine ww_istore_n hX (pc := 33) (lv' := [some (kR (some 49)), some (kI 1)]) dX11_reads_33 (by decide) rfl rfl ?_
  have hl_34 : ∀ (n_34 : Nat) (n : Int) (I34 : aI1) (J34 : aI1), (I34 49 15 - I34 49 16).toNat = n_34 → (Ch [57, 58, 59] [10, 11, 15, 16, 17, 18] Ia I34 ∧ RX I34 ∧ Kp 49 73 Ja J34 ∧ I34 49 10 = I_29 49 10 ∧ I34 49 15 = I_29 49 15 ∧ PI I34 ∧ pvw I34 = c ∧ LW c I34) → WW X 34 [some (kR (some 49)), some (kI n)] [] I34 J34 Ra Sa 0 0 := by
    intro n_34
    induction n_34 using Nat.strongRecOn with
    | ind n_34 ih_34 =>
      intro n I34 J34 hm_34 hv_34
      obtain ⟨kI34, cI34, kJ34, f10_I34, f15_I34, pI34, hcI34, hlw⟩ := hv_34
      have qI34 := RX_w cI34
      have oI34 := PI_o pI34
      have tI34 := PI_t pI34
      refine ww_aload_n hX (pc := 34) dX11_reads_34 rfl ?_
      refine ww_bipush hX (pc := 35) (x := 59) dX11_reads_35 (by decide) ?_
      refine sI1 hX (pc := 37) sX11_190 (c_X11_sign l0 ) (by decide) (Nat.le_refl 0) (Nat.le_refl 0) (Nat.le_of_ble_eq_true rfl) dX11_reads_37 (fun x_37 I_37 J_37 h_37 => ?_)
      obtain ⟨rfl, rfl, h_37⟩ := h_37
      refine vI1 hX (pc := 40) sX11_165 (xs_49 hL) (c_X11_takes0 l0 hL cI34 pI34 hcI34 (by omega) (by omega)) (by decide) (Nat.le_refl 0) (Nat.le_refl 0) (Nat.le_of_ble_eq_true rfl) dX11_reads_40 (fun x_40 I_40 J_40 h_40 => ?_)
      have kJ_40 : Kp 49 73 Ja J_40 := Kp_tr kJ34 h_40.2.1
      have kI_40 : Ch [57, 58, 59] [10, 11, 15, 16, 17, 18] Ia I_40 := Ch_tr kI34 (Ch_wd h_40.1 (by decide) (by decide))
      have cI_40 : RX I_40 := h_40.2.2.1
      have qI_40 := RX_w cI_40
      have f10_I_40 : I_40 49 10 = I34 49 10 := h_40.1.2 10 (by decide)
      have f15_I_40 : I_40 49 15 = I34 49 15 := h_40.1.2 15 (by decide)
      have f17_I_40 : I_40 49 17 = I34 49 17 := h_40.1.2 17 (by decide)
      have f18_I_40 : I_40 49 18 = I34 49 18 := h_40.1.2 18 (by decide)
      have pI_40 : PI I_40 := h_40.2.2.2.1
      have oI_40 := PI_o pI_40
      have yI_40 := h_40.2.2.2.2
      have hcI_40 := pvw_tr h_40.1 (by decide) (by decide) hcI34
      refine ww_if_eq hX (pc := 43) (tgt := 73) dX11_reads_43 (by decide) (fun h_43 => ?_) (fun h_43 => ?_)
      · simp only [w32_mod] at h_43
        have z40 := (TK_0 yI_40.2.2.2 (by omega)).1
        refine ww_aload_n hX (pc := 73) dX11_reads_73 rfl ?_
        refine vI0 hX (pc := 74) sX11_158 (xs_49 hL) (c_X11_fine l0 hL cI_40  pI_40) (by decide) (Nat.le_refl 0) (Nat.le_refl 0) (Nat.le_of_ble_eq_true rfl) dX11_reads_74 (fun x_74 I_74 J_74 h_74 => ?_)
        obtain ⟨rfl, rfl, h_74⟩ := h_74
        refine ww_if_eq hX (pc := 77) (tgt := 95) dX11_reads_77 (by decide) (fun h_77 => ?_) (fun h_77 => ?_)
        · simp only [w32_mod] at h_77
          have nb74 := FN_0 h_74.2 (by omega)
          refine ww_aload_n hX (pc := 95) dX11_reads_95 rfl ?_
          refine ww_aload_n hX (pc := 96) dX11_reads_96 rfl ?_
          refine ww_getI hX (pc := 97) fX11_155 (by decide) (xs_49 hL) dX11_reads_97 ?_
          refine ww_putI hX (pc := 100) (fun h9 => absurd h9 (by decide)) gX11_40 rfl (xs_49 hL) dX11_reads_100 ?_
          refine ww_nmH (fun I_100 eI_100 => ?_)
          have kI_100 : Ch [57, 58, 59] [10, 11, 15, 16, 17, 18] Ia I_100 := by rw [eI_100]; exact Ch_f kI_40 (by decide)
          have cI_100 : RX I_100 := by rw [eI_100]; exact RX_f cI_40 (by decide)
          have qI_100 := RX_w cI_100
          have f10_I_100 : I_100 49 10 = I_40 49 10 := by rw [eI_100, up2_n _ _ (Or.inr (by decide))]
          have f15_I_100 : I_100 49 15 = I_40 49 15 := by rw [eI_100, up2_n _ _ (Or.inr (by decide))]
          have f16_I_100 : I_100 49 16 = I_40 49 16 := by rw [eI_100, up2_n _ _ (Or.inr (by decide))]
          have f17_I_100 : I_100 49 17 = I_40 49 17 := by rw [eI_100, up2_n _ _ (Or.inr (by decide))]
          have f18_I_100 : I_100 49 18 = I_40 49 18 := by rw [eI_100, up2_n _ _ (Or.inr (by decide))]
          have e57 : I_100 57 = I_40 57 := by rw [eI_100, up2_off _ _ _ (by decide)]
          have epv : pvw I_100 = c := by
            rw [← hcI_40]
            funext i
            unfold pvw
            rw [e57, f15_I_100]
          have pI_100 : PI I_100 := by rw [eI_100]; exact PI_g pI_40 (by decide)
          have oI_100 := PI_o pI_100
          refine ww_aload_n hX (pc := 103) dX11_reads_103 rfl ?_
          refine vI0 hX (pc := 104) sX11_158 (xs_49 hL) (c_X11_fine l0 hL cI_100  pI_100) (by decide) (Nat.le_refl 0) (Nat.le_refl 0) (Nat.le_of_ble_eq_true rfl) dX11_reads_104 (fun x_104 I_104 J_104 h_104 => ?_)
          obtain ⟨rfl, rfl, h_104⟩ := h_104
          refine rZ hX (pc := 107) hT (Nat.le_refl 0) (Nat.le_refl 0) dX11_reads_107 (by omega) ?_
          exact ⟨kI_100, kJ_40, cI_100, (by omega), (fun h1 => by have b9 := FN_1 h_104.2 h1; exact absurd (show I_40 49 18 = -1 by omega) nb74), by omega⟩
        · simp only [w32_mod] at h_77
          have bb74 := FN_1 h_74.2 (by omega)
          refine ww_aload_n hX (pc := 80) dX11_reads_80 rfl ?_
          refine ww_getI hX (pc := 81) fX11_162 (by decide) (xs_49 hL) dX11_reads_81 ?_
          refine ww_aload_n hX (pc := 84) dX11_reads_84 rfl ?_
          refine ww_getI hX (pc := 85) fX11_142 (by decide) (xs_49 hL) dX11_reads_85 ?_
          refine ww_icmp_ge hX (pc := 88) (tgt := 95) dX11_reads_88 (by decide) (fun h_88 => ?_) (fun h_88 => ?_)
          · simp only [w32_mod] at h_88
            refine ww_aload_n hX (pc := 95) dX11_reads_95 rfl ?_
            refine ww_aload_n hX (pc := 96) dX11_reads_96 rfl ?_
            refine ww_getI hX (pc := 97) fX11_155 (by decide) (xs_49 hL) dX11_reads_97 ?_
            refine ww_putI hX (pc := 100) (fun h9 => absurd h9 (by decide)) gX11_40 rfl (xs_49 hL) dX11_reads_100 ?_
            refine ww_nmH (fun I_100 eI_100 => ?_)
            have kI_100 : Ch [57, 58, 59] [10, 11, 15, 16, 17, 18] Ia I_100 := by rw [eI_100]; exact Ch_f kI_40 (by decide)
            have cI_100 : RX I_100 := by rw [eI_100]; exact RX_f cI_40 (by decide)
            have qI_100 := RX_w cI_100
            have f10_I_100 : I_100 49 10 = I_40 49 10 := by rw [eI_100, up2_n _ _ (Or.inr (by decide))]
            have f15_I_100 : I_100 49 15 = I_40 49 15 := by rw [eI_100, up2_n _ _ (Or.inr (by decide))]
            have f16_I_100 : I_100 49 16 = I_40 49 16 := by rw [eI_100, up2_n _ _ (Or.inr (by decide))]
            have f17_I_100 : I_100 49 17 = I_40 49 17 := by rw [eI_100, up2_n _ _ (Or.inr (by decide))]
            have f18_I_100 : I_100 49 18 = I_40 49 18 := by rw [eI_100, up2_n _ _ (Or.inr (by decide))]
            have e57 : I_100 57 = I_40 57 := by rw [eI_100, up2_off _ _ _ (by decide)]
            have epv : pvw I_100 = c := by
              rw [← hcI_40]
              funext i
              unfold pvw
              rw [e57, f15_I_100]
            have pI_100 : PI I_100 := by rw [eI_100]; exact PI_g pI_40 (by decide)
            have oI_100 := PI_o pI_100
            refine ww_aload_n hX (pc := 103) dX11_reads_103 rfl ?_
            refine vI0 hX (pc := 104) sX11_158 (xs_49 hL) (c_X11_fine l0 hL cI_100  pI_100) (by decide) (Nat.le_refl 0) (Nat.le_refl 0) (Nat.le_of_ble_eq_true rfl) dX11_reads_104 (fun x_104 I_104 J_104 h_104 => ?_)
            obtain ⟨rfl, rfl, h_104⟩ := h_104
            refine rZ hX (pc := 107) hT (Nat.le_refl 0) (Nat.le_refl 0) dX11_reads_107 (by omega) ?_
            exact ⟨kI_100, kJ_40, cI_100, (by omega), (fun h1 => by
                  have b9 := FN_1 h_104.2 h1
                  exact ⟨⟨by omega, by omega⟩, (fun j hj => pI_100.2.2.2.1 j (by omega)), (by rw [epv]; exact (hlw (by omega) _).1 (by omega))⟩), by omega⟩
          · simp only [w32_mod] at h_88
            refine ww_aload_n hX (pc := 91) dX11_reads_91 rfl ?_
            refine vV0 hX (pc := 92) sX11_168 (xs_49 hL) (c_X11_faults l0 hL cI_40  pI_40) (by decide) (Nat.le_refl 0) (Nat.le_refl 0) (Nat.le_of_ble_eq_true rfl) dX11_reads_92 (fun I_92 J_92 h_92 => ?_)
            have kJ_92 : Kp 49 73 Ja J_92 := Kp_tr kJ_40 h_92.2.1
            have kI_92 : Ch [57, 58, 59] [10, 11, 15, 16, 17, 18] Ia I_92 := Ch_tr kI_40 (Ch_wd h_92.1 (by decide) (by decide))
            have cI_92 : RX I_92 := h_92.2.2.1
            have qI_92 := RX_w cI_92
            have f10_I_92 : I_92 49 10 = I_40 49 10 := h_92.1.2 10 (by decide)
            have f15_I_92 : I_92 49 15 = I_40 49 15 := h_92.1.2 15 (by decide)
            have f16_I_92 : I_92 49 16 = I_40 49 16 := h_92.1.2 16 (by decide)
            have f17_I_92 : I_92 49 17 = I_40 49 17 := h_92.1.2 17 (by decide)
            have pI_92 : PI I_92 := h_92.2.2.2.1
            have oI_92 := PI_o pI_92
            have yI_92 := h_92.2.2.2.2
            have hcI_92 := pvw_tr h_92.1 (by decide) (by decide) hcI_40
            refine ww_aload_n hX (pc := 95) dX11_reads_95 rfl ?_
            refine ww_aload_n hX (pc := 96) dX11_reads_96 rfl ?_
            refine ww_getI hX (pc := 97) fX11_155 (by decide) (xs_49 hL) dX11_reads_97 ?_
            refine ww_putI hX (pc := 100) (fun h9 => absurd h9 (by decide)) gX11_40 rfl (xs_49 hL) dX11_reads_100 ?_
            refine ww_nmH (fun I_100 eI_100 => ?_)
            have kI_100 : Ch [57, 58, 59] [10, 11, 15, 16, 17, 18] Ia I_100 := by rw [eI_100]; exact Ch_f kI_92 (by decide)
            have cI_100 : RX I_100 := by rw [eI_100]; exact RX_f cI_92 (by decide)
            have qI_100 := RX_w cI_100
            have f10_I_100 : I_100 49 10 = I_92 49 10 := by rw [eI_100, up2_n _ _ (Or.inr (by decide))]
            have f15_I_100 : I_100 49 15 = I_92 49 15 := by rw [eI_100, up2_n _ _ (Or.inr (by decide))]
            have f16_I_100 : I_100 49 16 = I_92 49 16 := by rw [eI_100, up2_n _ _ (Or.inr (by decide))]
            have f17_I_100 : I_100 49 17 = I_92 49 17 := by rw [eI_100, up2_n _ _ (Or.inr (by decide))]
            have f18_I_100 : I_100 49 18 = I_92 49 18 := by rw [eI_100, up2_n _ _ (Or.inr (by decide))]
            have e57 : I_100 57 = I_92 57 := by rw [eI_100, up2_off _ _ _ (by decide)]
            have epv : pvw I_100 = c := by
              rw [← hcI_92]
              funext i
              unfold pvw
              rw [e57, f15_I_100]
            have pI_100 : PI I_100 := by rw [eI_100]; exact PI_g pI_92 (by decide)
            have oI_100 := PI_o pI_100
            refine ww_aload_n hX (pc := 103) dX11_reads_103 rfl ?_
            refine vI0 hX (pc := 104) sX11_158 (xs_49 hL) (c_X11_fine l0 hL cI_100  pI_100) (by decide) (Nat.le_refl 0) (Nat.le_refl 0) (Nat.le_of_ble_eq_true rfl) dX11_reads_104 (fun x_104 I_104 J_104 h_104 => ?_)
            obtain ⟨rfl, rfl, h_104⟩ := h_104
            refine rZ hX (pc := 107) hT (Nat.le_refl 0) (Nat.le_refl 0) dX11_reads_107 (by omega) ?_
            exact ⟨kI_100, kJ_92, cI_100, (by omega), (fun h1 => by have b9 := FN_1 h_104.2 h1; exact absurd (show I_92 49 18 = -1 by omega) yI_92.2), by omega⟩
      · simp only [w32_mod] at h_43
        have s40 := TK_1 yI_40.2.2.2 (by omega)
        refine ww_iload_n hX (pc := 46) dX11_reads_46 rfl ?_
        refine ww_bipush hX (pc := 47) (x := 12) dX11_reads_47 (by decide) ?_
        refine ww_icmp_ne hX (pc := 49) (tgt := 56) dX11_reads_49 (by decide) (fun h_49 => ?_) (fun h_49 => ?_)
        · simp only [w32_mod] at h_49
          refine ww_aload_n hX (pc := 56) dX11_reads_56 rfl ?_
          refine vI0 hX (pc := 57) sX11_158 (xs_49 hL) (c_X11_fine l0 hL cI_40  pI_40) (by decide) (Nat.le_refl 0) (Nat.le_refl 0) (Nat.le_of_ble_eq_true rfl) dX11_reads_57 (fun x_57 I_57 J_57 h_57 => ?_)
          obtain ⟨rfl, rfl, h_57⟩ := h_57
          refine ww_if_eq hX (pc := 60) (tgt := 67) dX11_reads_60 (by decide) (fun h_60 => ?_) (fun h_60 => ?_)
          · simp only [w32_mod] at h_60
            have nb57 := FN_0 h_57.2 (by omega)
            refine ww_iinc hX (pc := 67) (lv' := [some (kR (some 49)), some (kI (n + 1))]) dX11_reads_67 rfl (by decide) rfl rfl ?_
            refine ww_goto hX (pc := 70) (tgt := 34) dX11_reads_70 (by decide) ?_
            exact ih_34 _ (by omega) (n + 1) I_40 J_40 rfl ⟨kI_40, cI_40, kJ_40, by omega, by omega, pI_40, hcI_40, LW_no nb57⟩
          · simp only [w32_mod] at h_60
            have bb57 := FN_1 h_57.2 (by omega)
            refine ww_aload_n hX (pc := 63) dX11_reads_63 rfl ?_
            refine vV0 hX (pc := 64) sX11_206 (xs_49 hL) (c_X11_readClause l0 hL cI_40 pI_40 hcI_40) (by decide) (Nat.le_refl 0) (Nat.le_refl 0) (Nat.le_of_ble_eq_true rfl) dX11_reads_64 (fun I_64 J_64 h_64 => ?_)
            have kJ_64 : Kp 49 73 Ja J_64 := Kp_tr kJ_40 h_64.2.1
            have kI_64 : Ch [57, 58, 59] [10, 11, 15, 16, 17, 18] Ia I_64 := Ch_tr kI_40 (Ch_wd h_64.1 (by decide) (by decide))
            have cI_64 : RX I_64 := h_64.2.2.1
            have qI_64 := RX_w cI_64
            have f10_I_64 : I_64 49 10 = I_40 49 10 := h_64.1.2 10 (by decide)
            have f15_I_64 : I_64 49 15 = I_40 49 15 := h_64.1.2 15 (by decide)
            have pI_64 : PI I_64 := h_64.2.2.2.1
            have oI_64 := PI_o pI_64
            have yI_64 := h_64.2.2.2.2
            have hcI_64 := pvw_tr h_64.1 (by decide) (by decide) hcI_40
            refine ww_iinc hX (pc := 67) (lv' := [some (kR (some 49)), some (kI (n + 1))]) dX11_reads_67 rfl (by decide) rfl rfl ?_
            refine ww_goto hX (pc := 70) (tgt := 34) dX11_reads_70 (by decide) ?_
            exact ih_34 _ (by omega) (n + 1) I_64 J_64 rfl ⟨kI_64, cI_64, kJ_64, by omega, by omega, pI_64, hcI_64, LW_s hlw (by omega) (by omega) (by omega) (by omega) yI_64.1⟩
        · simp only [w32_mod] at h_49
          refine ww_aload_n hX (pc := 52) dX11_reads_52 rfl ?_
          refine vV0 hX (pc := 53) sX11_168 (xs_49 hL) (c_X11_faults l0 hL cI_40  pI_40) (by decide) (Nat.le_refl 0) (Nat.le_refl 0) (Nat.le_of_ble_eq_true rfl) dX11_reads_53 (fun I_53 J_53 h_53 => ?_)
          have kJ_53 : Kp 49 73 Ja J_53 := Kp_tr kJ_40 h_53.2.1
          have kI_53 : Ch [57, 58, 59] [10, 11, 15, 16, 17, 18] Ia I_53 := Ch_tr kI_40 (Ch_wd h_53.1 (by decide) (by decide))
          have cI_53 : RX I_53 := h_53.2.2.1
          have qI_53 := RX_w cI_53
          have f10_I_53 : I_53 49 10 = I_40 49 10 := h_53.1.2 10 (by decide)
          have f15_I_53 : I_53 49 15 = I_40 49 15 := h_53.1.2 15 (by decide)
          have f16_I_53 : I_53 49 16 = I_40 49 16 := h_53.1.2 16 (by decide)
          have f17_I_53 : I_53 49 17 = I_40 49 17 := h_53.1.2 17 (by decide)
          have pI_53 : PI I_53 := h_53.2.2.2.1
          have oI_53 := PI_o pI_53
          have yI_53 := h_53.2.2.2.2
          have hcI_53 := pvw_tr h_53.1 (by decide) (by decide) hcI_40
          refine ww_aload_n hX (pc := 56) dX11_reads_56 rfl ?_
          refine vI0 hX (pc := 57) sX11_158 (xs_49 hL) (c_X11_fine l0 hL cI_53  pI_53) (by decide) (Nat.le_refl 0) (Nat.le_refl 0) (Nat.le_of_ble_eq_true rfl) dX11_reads_57 (fun x_57 I_57 J_57 h_57 => ?_)
          obtain ⟨rfl, rfl, h_57⟩ := h_57
          refine ww_if_eq hX (pc := 60) (tgt := 67) dX11_reads_60 (by decide) (fun h_60 => ?_) (fun h_60 => ?_)
          · simp only [w32_mod] at h_60
            have nb57 := FN_0 h_57.2 (by omega)
            refine ww_iinc hX (pc := 67) (lv' := [some (kR (some 49)), some (kI (n + 1))]) dX11_reads_67 rfl (by decide) rfl rfl ?_
            refine ww_goto hX (pc := 70) (tgt := 34) dX11_reads_70 (by decide) ?_
            exact ih_34 _ (by omega) (n + 1) I_53 J_53 rfl ⟨kI_53, cI_53, kJ_53, by omega, by omega, pI_53, hcI_53, LW_no yI_53.2⟩
          · simp only [w32_mod] at h_60
            have bb57 := FN_1 h_57.2 (by omega)
            exact absurd bb57 yI_53.2
  exact hl_34 _ 1 I_29 J_29 rfl ⟨kI_29, cI_29, kJ_29, rfl, rfl, pI_29, hcI_29, LW_0 (by omega) yI_29.1⟩
set_option maxHeartbeats 4000000 in
set_option maxRecDepth 20000 in
theorem c2_X11_law (l0 : Launch) {Ia Ja : aI1} {Ra : aR1} {Sa : aS1} (hL : LY Ra Sa) (hQ : RX Ia)  : CT l0 36 0 0 mX11_law [kR (some 49)] Ia Ja Ra Sa (cI (fun x I' J' => Ch [50, 51, 57, 58, 59] [0, 1, 10, 11, 15, 16, 17, 18] Ia I' ∧ Kp 49 73 Ja J' ∧ RX I' ∧ I' 49 10 = 0 ∧ I' 51 304 = Ia 51 304 ∧ I' 51 305 = Ia 51 305 ∧ I' 51 309 = Ia 51 309) Ra Sa) := by
  refine ct_in pn_X11 (Nat.le_of_ble_eq_true rfl) (fun X hX hT hIn => ?_)
  have hX : aK l0 X cX11_law 3 RX11 (some .int) 36 0 0 := hX
  change WW X 0 [some (kR (some 49)), none, none] [] Ia Ja Ra Sa 0 0
  have qIa := RX_l hQ
  refine ww_aload_n hX (pc := 0) dX11_law_0 rfl ?_
  refine ww_getR hX (pc := 1) fX11_20 (by decide) (xs_49 hL) (xr_49_3 hL) dX11_law_1 ?_
  refine ww_sipush hX (pc := 4) (x := 310) dX11_law_4 (by decide) ?_
  refine ww_iald hX (pc := 7) (xs_51 hL) (by decide) (by omega) (by omega) dX11_law_7 ?_
  refine ww_toI (b := Ia 51 310) rfl ?_
  refine ww_bipush hX (pc := 8) (x := 6) dX11_law_8 (by decide) ?_
  refine ww_icmp_ne hX (pc := 10) (tgt := 25) dX11_law_10 (by decide) (fun h_10 => ?_) (fun h_10 => ?_)
  · simp only [w32_mod] at h_10
    refine ww_aload_n hX (pc := 25) dX11_law_25 rfl ?_
    refine vI0 hX (pc := 26) sX11_209 (xs_49 hL) (c2_X11_reads l0 hL hQ ) (by decide) (Nat.le_refl 0) (Nat.le_refl 0) (Nat.le_of_ble_eq_true rfl) dX11_law_26 (fun x_26 I_26 J_26 h_26 => ?_)
    have kJ_26 : Kp 49 73 Ja J_26 := Kp_tr (Kp_rf (a := 49) (b := 73)) h_26.2.1
    have kI_26 : Ch [50, 51, 57, 58, 59] [0, 1, 10, 11, 15, 16, 17, 18] Ia I_26 := Ch_tr Ch_rf (Ch_wd h_26.1 (by decide) (by decide))
    have cI_26 : RX I_26 := h_26.2.2.1
    have qI_26 := RX_l cI_26
    have r304_I_26 : I_26 51 304 = Ia 51 304 := by rw [h_26.1.1 51 (by decide) (by decide)]
    have r305_I_26 : I_26 51 305 = Ia 51 305 := by rw [h_26.1.1 51 (by decide) (by decide)]
    have r309_I_26 : I_26 51 309 = Ia 51 309 := by rw [h_26.1.1 51 (by decide) (by decide)]
    have r310_I_26 : I_26 51 310 = Ia 51 310 := by rw [h_26.1.1 51 (by decide) (by decide)]
    have rf_I_26 : FU (I_26 51 304) = FU (Ia 51 304) := by rw [r304_I_26]
    have z26 := h_26.2.2.2.2.2
    refine ww_if_ne hX (pc := 29) (tgt := 39) dX11_law_29 (by decide) (fun h_29 => ?_) (fun h_29 => ?_)
    · simp only [w32_mod] at h_29
      have hrd := h_26.2.2.2.2.1 (by omega)
      have hl26 := hrd.2.2
      have hr26 := hrd.2.1
      refine ww_aload_n hX (pc := 39) dX11_law_39 rfl ?_
      refine ww_getR hX (pc := 40) fX11_20 (by decide) (xs_49 hL) (xr_49_3 hL) dX11_law_40 ?_
      refine ww_sipush hX (pc := 43) (x := 310) dX11_law_43 (by decide) ?_
      refine ww_iald hX (pc := 46) (xs_51 hL) (by decide) (by omega) (by omega) dX11_law_46 ?_
      refine ww_toI (b := I_26 51 310) rfl ?_
      refine ww_nmI (fun v_47 hv_47 => ?_)
      refine ww_istore_n hX (pc := 47) (lv' := [some (kR (some 49)), some (kI v_47), none]) dX11_law_47 (by decide) rfl rfl ?_
      refine ww_aload_n hX (pc := 48) dX11_law_48 rfl ?_
      refine ww_getR hX (pc := 49) fX11_20 (by decide) (xs_49 hL) (xr_49_3 hL) dX11_law_49 ?_
      refine ww_sipush hX (pc := 52) (x := 311) dX11_law_52 (by decide) ?_
      refine ww_iload_n hX (pc := 55) dX11_law_55 rfl ?_
      refine ww_iadd hX (pc := 56) dX11_law_56 ?_
      refine ww_aload_n hX (pc := 57) dX11_law_57 rfl ?_
      refine ww_getI hX (pc := 58) fX11_142 (by decide) (xs_49 hL) dX11_law_58 ?_
      refine ww_iast hX (pc := 61) (xs_51 hL) (by decide) (by omega) (by omega) dX11_law_61 ?_
      refine ww_nmH (fun I_61 eI_61 => ?_)
      have kI_61 : Ch [50, 51, 57, 58, 59] [0, 1, 10, 11, 15, 16, 17, 18] Ia I_61 := by rw [eI_61]; exact Ch_r kI_26 (by decide) (by decide)
      have cI_61 : RX I_61 := by rw [eI_61]; exact RX_up cI_26 (by omega)
      have qI_61 := RX_l cI_61
      have r304_I_61 : I_61 51 304 = I_26 51 304 := by rw [eI_61, up2_n _ _ (Or.inr (by omega))]
      have r305_I_61 : I_61 51 305 = I_26 51 305 := by rw [eI_61, up2_n _ _ (Or.inr (by omega))]
      have r309_I_61 : I_61 51 309 = I_26 51 309 := by rw [eI_61, up2_n _ _ (Or.inr (by omega))]
      have r310_I_61 : I_61 51 310 = I_26 51 310 := by rw [eI_61, up2_n _ _ (Or.inr (by omega))]
      have f10_I_61 : I_61 49 10 = I_26 49 10 := by rw [eI_61, up2_off _ _ _ (by decide)]
      have f15_I_61 : I_61 49 15 = I_26 49 15 := by rw [eI_61, up2_off _ _ _ (by decide)]
      have rf_I_61 : FU (I_61 51 304) = FU (I_26 51 304) := by rw [r304_I_61]
      have s61 : I_61 51 (311 + v_47.toNat) = I_26 49 15 := by rw [eI_61, show (311 + v_47).toNat = 311 + v_47.toNat by omega, up2_s]
      have s57 : I_61 57 = I_26 57 := by rw [eI_61, up2_off _ _ _ (by decide)]
      refine ww_iconst hX (pc := 62) (x := 0) dX11_law_62 rfl ?_
      refine ww_istore_n hX (pc := 63) (lv' := [some (kR (some 49)), some (kI v_47), some (kI 0)]) dX11_law_63 (by decide) rfl rfl ?_
      have hl_64 : ∀ (n_64 : Nat) (i : Int) (I64 : aI1) (J64 : aI1), (I_26 49 15 - i).toNat = n_64 → (Ch [50, 51, 57, 58, 59] [0, 1, 10, 11, 15, 16, 17, 18] Ia I64 ∧ RX I64 ∧ Kp 49 73 Ja J64 ∧ I64 51 304 = I_61 51 304 ∧ I64 51 305 = I_61 51 305 ∧ I64 51 309 = I_61 51 309 ∧ I64 51 310 = I_61 51 310 ∧ I64 49 10 = I_61 49 10 ∧ I64 49 15 = I_61 49 15 ∧ (0 ≤ i ∧ i ≤ I_26 49 15) ∧ I64 51 (311 + v_47.toNat) = I_26 49 15 ∧ I64 57 = I_26 57 ∧ (∀ j : Nat, (j : Int) < i → I64 51 (317 + 400 * v_47.toNat + j) = I_26 57 j)) → WW X 64 [some (kR (some 49)), some (kI v_47), some (kI i)] [] I64 J64 Ra Sa 0 0 := by
        intro n_64
        induction n_64 using Nat.strongRecOn with
        | ind n_64 ih_64 =>
          intro i I64 J64 hm_64 hv_64
          obtain ⟨kI64, cI64, kJ64, r304_I64, r305_I64, r309_I64, r310_I64, f10_I64, f15_I64, hv, hsz, hr57, hcp⟩ := hv_64
          have qI64 := RX_l cI64
          have rf_I64 : FU (I64 51 304) = FU (I_61 51 304) := by rw [r304_I64]
          refine ww_iload_n hX (pc := 64) dX11_law_64 rfl ?_
          refine ww_aload_n hX (pc := 65) dX11_law_65 rfl ?_
          refine ww_getI hX (pc := 66) fX11_142 (by decide) (xs_49 hL) dX11_law_66 ?_
          refine ww_icmp_ge hX (pc := 69) (tgt := 122) dX11_law_69 (by decide) (fun h_69 => ?_) (fun h_69 => ?_)
          · simp only [w32_mod] at h_69
            refine ww_aload_n hX (pc := 122) dX11_law_122 rfl ?_
            refine ww_getR hX (pc := 123) fX11_20 (by decide) (xs_49 hL) (xr_49_3 hL) dX11_law_123 ?_
            refine ww_sipush hX (pc := 126) (x := 310) dX11_law_126 (by decide) ?_
            refine ww_dup2 hX (pc := 129) dX11_law_129 ?_
            refine ww_iald hX (pc := 130) (xs_51 hL) (by decide) (by omega) (by omega) dX11_law_130 ?_
            refine ww_toI (b := I64 51 310) rfl ?_
            refine ww_iconst hX (pc := 131) (x := 1) dX11_law_131 rfl ?_
            refine ww_iadd hX (pc := 132) dX11_law_132 ?_
            refine ww_iast hX (pc := 133) (xs_51 hL) (by decide) (by omega) (by omega) dX11_law_133 ?_
            refine ww_nmH (fun I_133 eI_133 => ?_)
            have kI_133 : Ch [50, 51, 57, 58, 59] [0, 1, 10, 11, 15, 16, 17, 18] Ia I_133 := by rw [eI_133]; exact Ch_r kI64 (by decide) (by decide)
            have cI_133 : RX I_133 := by rw [eI_133]; exact RX_tl (t := v_47.toNat) cI64 rfl (by omega) (by omega) (by rw [hsz]; omega) (by rw [hsz, cvw_pvw (I := I_26) (hsz.trans (by omega)) (fun j hj => hcp j (by omega))]; exact hl26)
            have qI_133 := RX_l cI_133
            have r304_I_133 : I_133 51 304 = I64 51 304 := by rw [eI_133, up2_n _ _ (Or.inr (by decide))]
            have r305_I_133 : I_133 51 305 = I64 51 305 := by rw [eI_133, up2_n _ _ (Or.inr (by decide))]
            have r309_I_133 : I_133 51 309 = I64 51 309 := by rw [eI_133, up2_n _ _ (Or.inr (by decide))]
            have f10_I_133 : I_133 49 10 = I64 49 10 := by rw [eI_133, up2_off _ _ _ (by decide)]
            have f15_I_133 : I_133 49 15 = I64 49 15 := by rw [eI_133, up2_off _ _ _ (by decide)]
            have rf_I_133 : FU (I_133 51 304) = FU (I64 51 304) := by rw [r304_I_133]
            refine ww_aload_n hX (pc := 134) dX11_law_134 rfl ?_
            refine ww_iload_n hX (pc := 135) dX11_law_135 rfl ?_
            refine vI1 hX (pc := 136) sX11_109 (xs_49 hL) (c_X11_good l0 hL cI_133 ) (by decide) (Nat.le_refl 0) (Nat.le_refl 0) (Nat.le_of_ble_eq_true rfl) dX11_law_136 (fun x_136 I_136 J_136 h_136 => ?_)
            have kJ_136 : Kp 49 73 Ja J_136 := Kp_tr kJ64 h_136.2.1
            have kI_136 : Ch [50, 51, 57, 58, 59] [0, 1, 10, 11, 15, 16, 17, 18] Ia I_136 := Ch_tr kI_133 (Ch_wd h_136.1 (by decide) (by decide))
            have cI_136 : RX I_136 := h_136.2.2.1
            have qI_136 := RX_l cI_136
            have r304_I_136 : I_136 51 304 = I_133 51 304 := by rw [h_136.1.1 51 (by decide) (by decide)]
            have r305_I_136 : I_136 51 305 = I_133 51 305 := by rw [h_136.1.1 51 (by decide) (by decide)]
            have r309_I_136 : I_136 51 309 = I_133 51 309 := by rw [h_136.1.1 51 (by decide) (by decide)]
            have r310_I_136 : I_136 51 310 = I_133 51 310 := by rw [h_136.1.1 51 (by decide) (by decide)]
            have f10_I_136 : I_136 49 10 = I_133 49 10 := h_136.1.2 10 (by decide)
            have f15_I_136 : I_136 49 15 = I_133 49 15 := h_136.1.2 15 (by decide)
            have rf_I_136 : FU (I_136 51 304) = FU (I_133 51 304) := by rw [r304_I_136]
            refine rI hX (pc := 139) hT (Nat.le_refl 0) (Nat.le_refl 0) dX11_law_139 ?_
            exact ⟨kI_136, kJ_136, cI_136, by omega, by omega, by omega, by omega⟩
          · simp only [w32_mod] at h_69
            refine ww_aload_n hX (pc := 72) dX11_law_72 rfl ?_
            refine ww_getR hX (pc := 73) fX11_20 (by decide) (xs_49 hL) (xr_49_3 hL) dX11_law_73 ?_
            refine ww_sipush hX (pc := 76) (x := 317) dX11_law_76 (by decide) ?_
            refine ww_sipush hX (pc := 79) (x := 400) dX11_law_79 (by decide) ?_
            refine ww_iload_n hX (pc := 82) dX11_law_82 rfl ?_
            refine ww_imul hX (pc := 83) dX11_law_83 ?_
            refine ww_iadd hX (pc := 84) dX11_law_84 ?_
            refine ww_iload_n hX (pc := 85) dX11_law_85 rfl ?_
            refine ww_iadd hX (pc := 86) dX11_law_86 ?_
            refine ww_aload_n hX (pc := 87) dX11_law_87 rfl ?_
            refine ww_getR hX (pc := 88) fX11_43 (by decide) (xs_49 hL) (xr_49_12 hL) dX11_law_88 ?_
            refine ww_iload_n hX (pc := 91) dX11_law_91 rfl ?_
            have hc92 := hr26 i.toNat (by omega)
            rw [← hr57] at hc92
            refine ww_iald hX (pc := 92) (xs_57 hL) (by decide) (by omega) (by omega) dX11_law_92 ?_
            refine ww_iast hX (pc := 93) (xs_51 hL) (by decide) (by omega) (by omega) dX11_law_93 ?_
            refine ww_nmH (fun I_93 eI_93 => ?_)
            have kI_93 : Ch [50, 51, 57, 58, 59] [0, 1, 10, 11, 15, 16, 17, 18] Ia I_93 := by rw [eI_93]; exact Ch_r kI64 (by decide) (by decide)
            have cI_93 : RX I_93 := by rw [eI_93]; exact RX_up cI64 (by omega)
            have qI_93 := RX_l cI_93
            have r304_I_93 : I_93 51 304 = I64 51 304 := by rw [eI_93, up2_n _ _ (Or.inr (by omega))]
            have r305_I_93 : I_93 51 305 = I64 51 305 := by rw [eI_93, up2_n _ _ (Or.inr (by omega))]
            have r309_I_93 : I_93 51 309 = I64 51 309 := by rw [eI_93, up2_n _ _ (Or.inr (by omega))]
            have r310_I_93 : I_93 51 310 = I64 51 310 := by rw [eI_93, up2_n _ _ (Or.inr (by omega))]
            have f10_I_93 : I_93 49 10 = I64 49 10 := by rw [eI_93, up2_off _ _ _ (by decide)]
            have f15_I_93 : I_93 49 15 = I64 49 15 := by rw [eI_93, up2_off _ _ _ (by decide)]
            have rf_I_93 : FU (I_93 51 304) = FU (I64 51 304) := by rw [r304_I_93]
            have z93 : I_93 51 (311 + v_47.toNat) = I64 51 (311 + v_47.toNat) := by rw [eI_93, up2_n _ _ (Or.inr (by omega))]
            have y93 : I_93 57 = I_26 57 := by rw [eI_93, up2_off _ _ _ (by decide)]; exact hr57
            have x93 : ∀ j : Nat, (j : Int) < i + 1 → I_93 51 (317 + 400 * v_47.toNat + j) = I_26 57 j := fun j hj => by
              rw [eI_93]
              by_cases e9 : (j : Int) = i
              · rw [show (317 + 400 * v_47 + i).toNat = 317 + 400 * v_47.toNat + j by omega, up2_s, hr57]
                exact congrArg _ (by omega)
              · rw [up2_n _ _ (Or.inr (by omega))]
                exact hcp j (by omega)
            refine ww_aload_n hX (pc := 94) dX11_law_94 rfl ?_
            refine ww_getR hX (pc := 95) fX11_20 (by decide) (xs_49 hL) (xr_49_3 hL) dX11_law_95 ?_
            refine ww_sipush hX (pc := 98) (x := 2717) dX11_law_98 (by decide) ?_
            refine ww_sipush hX (pc := 101) (x := 400) dX11_law_101 (by decide) ?_
            refine ww_iload_n hX (pc := 104) dX11_law_104 rfl ?_
            refine ww_imul hX (pc := 105) dX11_law_105 ?_
            refine ww_iadd hX (pc := 106) dX11_law_106 ?_
            refine ww_iload_n hX (pc := 107) dX11_law_107 rfl ?_
            refine ww_iadd hX (pc := 108) dX11_law_108 ?_
            refine ww_aload_n hX (pc := 109) dX11_law_109 rfl ?_
            refine ww_getR hX (pc := 110) fX11_46 (by decide) (xs_49 hL) (xr_49_13 hL) dX11_law_110 ?_
            refine ww_iload_n hX (pc := 113) dX11_law_113 rfl ?_
            refine ww_iald hX (pc := 114) (xs_58 hL) (by decide) (by omega) (by omega) dX11_law_114 ?_
            refine ww_iast hX (pc := 115) (xs_51 hL) (by decide) (by omega) (by omega) dX11_law_115 ?_
            refine ww_nmH (fun I_115 eI_115 => ?_)
            have kI_115 : Ch [50, 51, 57, 58, 59] [0, 1, 10, 11, 15, 16, 17, 18] Ia I_115 := by rw [eI_115]; exact Ch_r kI_93 (by decide) (by decide)
            have cI_115 : RX I_115 := by rw [eI_115]; exact RX_up cI_93 (by omega)
            have qI_115 := RX_l cI_115
            have r304_I_115 : I_115 51 304 = I_93 51 304 := by rw [eI_115, up2_n _ _ (Or.inr (by omega))]
            have r305_I_115 : I_115 51 305 = I_93 51 305 := by rw [eI_115, up2_n _ _ (Or.inr (by omega))]
            have r309_I_115 : I_115 51 309 = I_93 51 309 := by rw [eI_115, up2_n _ _ (Or.inr (by omega))]
            have r310_I_115 : I_115 51 310 = I_93 51 310 := by rw [eI_115, up2_n _ _ (Or.inr (by omega))]
            have f10_I_115 : I_115 49 10 = I_93 49 10 := by rw [eI_115, up2_off _ _ _ (by decide)]
            have f15_I_115 : I_115 49 15 = I_93 49 15 := by rw [eI_115, up2_off _ _ _ (by decide)]
            have rf_I_115 : FU (I_115 51 304) = FU (I_93 51 304) := by rw [r304_I_115]
            have z115 : I_115 51 (311 + v_47.toNat) = I64 51 (311 + v_47.toNat) := by rw [eI_115, up2_n _ _ (Or.inr (by omega))]; exact z93
            have y115 : I_115 57 = I_26 57 := by rw [eI_115, up2_off _ _ _ (by decide)]; exact y93
            have x115 : ∀ j : Nat, (j : Int) < i + 1 → I_115 51 (317 + 400 * v_47.toNat + j) = I_26 57 j := fun j hj => by
              rw [eI_115, up2_n _ _ (Or.inr (by omega))]
              exact x93 j hj
            refine ww_iinc hX (pc := 116) (lv' := [some (kR (some 49)), some (kI v_47), some (kI (i + 1))]) dX11_law_116 rfl (by decide) rfl rfl ?_
            refine ww_goto hX (pc := 119) (tgt := 64) dX11_law_119 (by decide) ?_
            exact ih_64 _ (by omega) (i + 1) I_115 J64 rfl ⟨kI_115, cI_115, kJ64, by omega, by omega, by omega, by omega, by omega, by omega, ⟨by omega, by omega⟩, z115.trans hsz, y115, x115⟩
      exact hl_64 _ 0 I_61 J_26 rfl ⟨kI_61, cI_61, kJ_26, rfl, rfl, rfl, rfl, rfl, rfl, ⟨by omega, by omega⟩, s61, s57, fun j hj => absurd hj (by omega)⟩
    · simp only [w32_mod] at h_29
      refine ww_aload_n hX (pc := 32) dX11_law_32 rfl ?_
      refine ww_bipush hX (pc := 33) (x := (-6)) dX11_law_33 (by decide) ?_
      refine vI1 hX (pc := 35) sX11_105 (xs_49 hL) (c_X11_refuses l0 hL cI_26 (by omega) (by omega)) (by decide) (Nat.le_refl 0) (Nat.le_refl 0) (Nat.le_of_ble_eq_true rfl) dX11_law_35 (fun x_35 I_35 J_35 h_35 => ?_)
      have kJ_35 : Kp 49 73 Ja J_35 := Kp_tr kJ_26 h_35.2.1
      have kI_35 : Ch [50, 51, 57, 58, 59] [0, 1, 10, 11, 15, 16, 17, 18] Ia I_35 := Ch_tr kI_26 (Ch_wd h_35.1 (by decide) (by decide))
      have cI_35 : RX I_35 := h_35.2.2.1
      have qI_35 := RX_l cI_35
      have r304_I_35 : I_35 51 304 = I_26 51 304 := by rw [h_35.1.1 51 (by decide) (by decide)]
      have r305_I_35 : I_35 51 305 = I_26 51 305 := by rw [h_35.1.1 51 (by decide) (by decide)]
      have r309_I_35 : I_35 51 309 = I_26 51 309 := by rw [h_35.1.1 51 (by decide) (by decide)]
      have r310_I_35 : I_35 51 310 = I_26 51 310 := by rw [h_35.1.1 51 (by decide) (by decide)]
      have f10_I_35 : I_35 49 10 = I_26 49 10 := h_35.1.2 10 (by decide)
      have f15_I_35 : I_35 49 15 = I_26 49 15 := h_35.1.2 15 (by decide)
      have rf_I_35 : FU (I_35 51 304) = FU (I_26 51 304) := by rw [r304_I_35]
      refine rI hX (pc := 38) hT (Nat.le_refl 0) (Nat.le_refl 0) dX11_law_38 ?_
      exact ⟨kI_35, kJ_35, cI_35, by omega, by omega, by omega, by omega⟩
  · simp only [w32_mod] at h_10
    refine ww_aload_n hX (pc := 13) dX11_law_13 rfl ?_
    refine ww_iconst hX (pc := 14) (x := 0) dX11_law_14 rfl ?_
    refine ww_putI hX (pc := 15) (fun h9 => absurd h9 (by decide)) gX11_129 rfl (xs_49 hL) dX11_law_15 ?_
    refine ww_nmH (fun I_15 eI_15 => ?_)
    have kI_15 : Ch [50, 51, 57, 58, 59] [0, 1, 10, 11, 15, 16, 17, 18] Ia I_15 := by rw [eI_15]; exact Ch_f Ch_rf (by decide)
    have cI_15 : RX I_15 := by rw [eI_15]; exact RX_10 hQ (by omega) (by omega)
    have qI_15 := RX_l cI_15
    have r304_I_15 : I_15 51 304 = Ia 51 304 := by rw [eI_15, up2_off _ _ _ (by decide)]
    have r305_I_15 : I_15 51 305 = Ia 51 305 := by rw [eI_15, up2_off _ _ _ (by decide)]
    have r309_I_15 : I_15 51 309 = Ia 51 309 := by rw [eI_15, up2_off _ _ _ (by decide)]
    have r310_I_15 : I_15 51 310 = Ia 51 310 := by rw [eI_15, up2_off _ _ _ (by decide)]
    have f15_I_15 : I_15 49 15 = Ia 49 15 := by rw [eI_15, up2_n _ _ (Or.inr (by decide))]
    have rf_I_15 : FU (I_15 51 304) = FU (Ia 51 304) := by rw [r304_I_15]
    have z10 : I_15 49 10 = 0 := by rw [eI_15, up2_s]
    refine ww_aload_n hX (pc := 18) dX11_law_18 rfl ?_
    refine ww_bipush hX (pc := 19) (x := (-5)) dX11_law_19 (by decide) ?_
    refine vI1 hX (pc := 21) sX11_105 (xs_49 hL) (c_X11_refuses l0 hL cI_15 (by omega) (by omega)) (by decide) (Nat.le_refl 0) (Nat.le_refl 0) (Nat.le_of_ble_eq_true rfl) dX11_law_21 (fun x_21 I_21 J_21 h_21 => ?_)
    have kJ_21 : Kp 49 73 Ja J_21 := Kp_tr (Kp_rf (a := 49) (b := 73)) h_21.2.1
    have kI_21 : Ch [50, 51, 57, 58, 59] [0, 1, 10, 11, 15, 16, 17, 18] Ia I_21 := Ch_tr kI_15 (Ch_wd h_21.1 (by decide) (by decide))
    have cI_21 : RX I_21 := h_21.2.2.1
    have qI_21 := RX_l cI_21
    have r304_I_21 : I_21 51 304 = I_15 51 304 := by rw [h_21.1.1 51 (by decide) (by decide)]
    have r305_I_21 : I_21 51 305 = I_15 51 305 := by rw [h_21.1.1 51 (by decide) (by decide)]
    have r309_I_21 : I_21 51 309 = I_15 51 309 := by rw [h_21.1.1 51 (by decide) (by decide)]
    have r310_I_21 : I_21 51 310 = I_15 51 310 := by rw [h_21.1.1 51 (by decide) (by decide)]
    have f10_I_21 : I_21 49 10 = I_15 49 10 := h_21.1.2 10 (by decide)
    have f15_I_21 : I_21 49 15 = I_15 49 15 := h_21.1.2 15 (by decide)
    have rf_I_21 : FU (I_21 51 304) = FU (I_15 51 304) := by rw [r304_I_21]
    refine rI hX (pc := 24) hT (Nat.le_refl 0) (Nat.le_refl 0) dX11_law_24 ?_
    exact ⟨kI_21, kJ_21, cI_21, by omega, by omega, by omega, by omega⟩
