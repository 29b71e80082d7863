/-- images: told and kept by both -/
def HI (I : aI1) (R : aR1) : Prop := ∀ i, i < 2 → (R 7 i = none ↔ I 53 i = 0)
theorem HI_k {I I' : aI1} {R R' : aR1} (h : HI I R) (hR : R' 7 = R 7) (e : I' 53 = I 53) : HI I' R' := fun i hi => by rw [hR, e]; exact h i hi
theorem HI_img {I I1 I2 : aI1} {R R' : aR1} {a : Int} (h : HI I R) (hj : ∀ j, j ≠ a.toNat → R' 7 j = R 7 j) (h1 : (0 ≤ a ∧ a < 2) → ¬ R' 7 a.toNat = none) (h2 : ¬ (0 ≤ a ∧ a < 2) → R' 7 = R 7) (e1 : I1 53 = I 53) (g1 : (0 ≤ a ∧ a < 2) → I2 53 = up1 (I1 53) a.toNat 1) (g2 : ¬ (0 ≤ a ∧ a < 2) → I2 53 = I1 53) : HI I2 R' := fun i hi => by
  by_cases ha : 0 ≤ a ∧ a < 2
  · rw [g1 ha, e1]
    by_cases hia : i = a.toNat
    · subst hia
      rw [up1_s]
      exact ⟨fun q => absurd q (h1 ha), fun q => absurd q (by decide)⟩
    · rw [up1_n _ _ hia, hj i hia]
      exact h i hi
  · rw [g2 ha, e1, h2 ha]
    exact h i hi
theorem HI_back {I : aI1} {R : aR1} {a x y : Int} (h : HI I R) (h1 : ¬ (0 ≤ a ∧ a < 2) → x = -1) (h2 : (0 ≤ a ∧ a < 2) → (R 7 a.toNat = none → x = -2) ∧ (¬ R 7 a.toNat = none → x = 0)) (g1 : ¬ (0 ≤ a ∧ a < 2) → y = -1) (g2 : (0 ≤ a ∧ a < 2) → (I 53 a.toNat = 0 → y = -2) ∧ (¬ I 53 a.toNat = 0 → y = 0)) : x = y := by
  by_cases ha : 0 ≤ a ∧ a < 2
  · have h3 := h a.toNat (by omega)
    by_cases hn : R 7 a.toNat = none
    · rw [(h2 ha).1 hn, (g2 ha).1 (h3.mp hn)]
    · rw [(h2 ha).2 hn, (g2 ha).2 (fun q => hn (h3.mpr q))]
  · rw [h1 ha, g1 ha]
set_option maxHeartbeats 4000000 in
set_option maxRecDepth 20000 in
theorem c2_X10_back (l0 : Launch) {Ia Ja : aI1} {Ra : aR1} {Sa : aS1} (hCI : CI Ia Ra Sa) {a : Int} (ha0 : -2147483648 ≤ a) (ha1 : a < 2147483648)  : CT l0 12 0 0 mX10_back [kR (some 0), kI a] Ia Ja Ra Sa (dI (fun x I' J' R' S' => CI I' R' S' ∧ (∀ k, 49 ≤ k → k < 73 → I' k = Ia k ∧ J' k = Ja k ∧ R' k = Ra k) ∧ Sa = S' ∧ R' 7 = Ra 7 ∧ (¬ (0 ≤ a ∧ a < 2) → x = -1) ∧ ((0 ≤ a ∧ a < 2) → (Ra 7 a.toNat = none → x = -2) ∧ (¬ Ra 7 a.toNat = none → x = 0)))) := by
  refine ct_in pn_X10 (Nat.le_of_ble_eq_true rfl) (fun X hX hT hIn => ?_)
  have hX : aK l0 X cX10_back 3 RX10 (some .int) 12 0 0 := hX
  change WW X 0 [some (kR (some 0)), some (kI a), none] [] Ia Ja Ra Sa 0 0
  have hL := hCI.1
  have hC := hCI.2.1
  have hI := hC.1
  have hq := XI_o hI
  refine ww_iload_n hX (pc := 0) dX10_back_0 rfl ?_
  refine ww_if_lt hX (pc := 1) (tgt := 9) dX10_back_1 (by decide) (fun h_1 => ?_) (fun h_1 => ?_)
  · simp only [w32_mod] at h_1
    refine ww_aload_n hX (pc := 9) dX10_back_9 rfl ?_
    refine ww_iconst hX (pc := 10) (x := (-1)) dX10_back_10 rfl ?_
    refine vI1 hX (pc := 11) sX10_89 (xs_0 hL) (c_X10_refuse l0 hL hC (by omega) (by omega)) (by decide) (by omega) (by omega) (Nat.le_of_ble_eq_true rfl) dX10_back_11 (fun x_11 I_11 J_11 h_11 => ?_)
    have kI_11 : Kp 0 49 Ia I_11 := Kp_tr (Kp_rf (a := 0) (b := 49)) (Kp_wd h_11.1 (by decide) (by decide))
    have kJ_11 : Kp 0 49 Ja J_11 := Kp_tr (Kp_rf (a := 0) (b := 49)) (Kp_wd h_11.2.1 (by decide) (by decide))
    have cI_11 : CX I_11 := h_11.2.2.1
    have qI_11 := XI_o cI_11.1
    exact ww_iret hX (pc := 14) hT (by omega) (by omega) dX10_back_14 ⟨_, rfl, CI_low hCI kI_11 cI_11, fun k h1 h2 => ⟨kI_11 k (by omega), kJ_11 k (by omega), rfl⟩, rfl, rfl, (fun _ => h_11.2.2.2), (fun h9 => absurd h9 (by omega))⟩
  · simp only [w32_mod] at h_1
    refine ww_iload_n hX (pc := 4) dX10_back_4 rfl ?_
    refine ww_iconst hX (pc := 5) (x := 2) dX10_back_5 rfl ?_
    refine ww_icmp_lt hX (pc := 6) (tgt := 15) dX10_back_6 (by decide) (fun h_6 => ?_) (fun h_6 => ?_)
    · simp only [w32_mod] at h_6
      refine ww_aload_n hX (pc := 15) dX10_back_15 rfl ?_
      refine ww_getR hX (pc := 16) fX10_16 (by decide) (xs_0 hL) (xr_0_1 hL) dX10_back_16 ?_
      refine ww_iload_n hX (pc := 19) dX10_back_19 rfl ?_
      refine ww_aald hX (pc := 20) (Or.inr rfl) (xs_7 hL) (by decide) (by omega) (by omega) dX10_back_20 ?_
      cases hlw : Ra 7 a.toNat with
      | none =>
        refine ww_astore_nN hX (pc := 21) (lv' := [some (kR (some 0)), some (kI a), some (kR none)]) dX10_back_21 (by decide) rfl rfl ?_
        refine ww_aload_nN hX (pc := 22) dX10_back_22 rfl ?_
        refine ww_ifnonnullN hX (pc := 23) dX10_back_23 ?_
        refine ww_aload_n hX (pc := 26) dX10_back_26 rfl ?_
        refine ww_bipush hX (pc := 27) (x := (-2)) dX10_back_27 (by decide) ?_
        refine vI1 hX (pc := 29) sX10_89 (xs_0 hL) (c_X10_refuse l0 hL hC (by omega) (by omega)) (by decide) (by omega) (by omega) (Nat.le_of_ble_eq_true rfl) dX10_back_29 (fun x_29 I_29 J_29 h_29 => ?_)
        have kI_29 : Kp 0 49 Ia I_29 := Kp_tr (Kp_rf (a := 0) (b := 49)) (Kp_wd h_29.1 (by decide) (by decide))
        have kJ_29 : Kp 0 49 Ja J_29 := Kp_tr (Kp_rf (a := 0) (b := 49)) (Kp_wd h_29.2.1 (by decide) (by decide))
        have cI_29 : CX I_29 := h_29.2.2.1
        have qI_29 := XI_o cI_29.1
        exact ww_iret hX (pc := 32) hT (by omega) (by omega) dX10_back_32 ⟨_, rfl, CI_low hCI kI_29 cI_29, fun k h1 h2 => ⟨kI_29 k (by omega), kJ_29 k (by omega), rfl⟩, rfl, rfl, (fun h9 => absurd (by omega) h9), (fun _ => ⟨fun _ => h_29.2.2.2, fun h9 => absurd hlw h9⟩)⟩
      | some c =>
        obtain ⟨hc73, hcs, hcr, hcl⟩ := hCI.2.2.2 a.toNat (by omega) c hlw
        refine ww_astore_n hX (pc := 21) (lv' := [some (kR (some 0)), some (kI a), some (kR (some c))]) dX10_back_21 (by decide) rfl rfl ?_
        refine ww_aload_n hX (pc := 22) dX10_back_22 rfl ?_
        refine ww_ifnonnullS hX (pc := 23) (tgt := 33) dX10_back_23 (by decide) ?_
        refine ww_aload_n hX (pc := 33) dX10_back_33 rfl ?_
        refine ww_getR hX (pc := 34) fX10_10 (by decide) (xs_0 hL) (xr_0_0 hL) dX10_back_34 ?_
        refine ww_aload_n hX (pc := 37) dX10_back_37 rfl ?_
        refine ww_callV hX (pc := 38) (av := [kR (some c)]) sX10_301 (xs_1 hL) (c_X1_copyFrom l0 (o := 1) (q := c) (CoSh_1 hL) hcs (by omega) (fun i hi w hw => ⟨0, (hcl i hi w hw).2.1⟩)) rfl (by decide) (by omega) (by omega) (Nat.le_of_ble_eq_true rfl) dX10_back_38 (fun r_38 I_38 J_38 R_38 S_38 h_38 => ?_)
        obtain ⟨rfl, rfl, e38, eR38, rfl, he38⟩ := h_38
        change WW X 41 [some (kR (some 0)), some (kI a), some (kR (some c))] [] I_38 Ja R_38 Sa _ _
        have hL38 : LY R_38 Sa := LY_ext hL (fun k h1 h4 h7 => eR38 k h4) SX_rf
        have kI_38 : Kp 0 49 Ia I_38 := fun k hk => e38 k (by omega) (by omega) (by omega) (by omega) (by omega)
        have cI_38 : CX I_38 := CX_copy hC hcr e38 he38
        have CI38 : CI I_38 R_38 Sa := ⟨hL38, cI_38, LawsOK_hi hcl (fun i hi => he38.2.2.1 i hi) (fun k h1 _ => kI_38 k (by omega)) (fun k h1 _ => eR38 k (by omega)) SX_rf, fun i hi c' hc' => CoastOK_hi (hCI.2.2.2 i hi c' (by rw [← eR38 7 (by decide)]; exact hc')) (fun k h1 _ => kI_38 k (by omega)) (fun k h1 _ => eR38 k (by omega)) SX_rf⟩
        refine ww_aload_n hX (pc := 41) dX10_back_41 rfl ?_
        refine vV0 hX (pc := 42) sX10_111 (xs_0 hL38) (c_X10_codeChanged l0 hL38 cI_38) (by decide) (by omega) (by omega) (Nat.le_of_ble_eq_true rfl) dX10_back_42 (fun I_42 J_42 h_42 => ?_)
        have kI_42 : Kp 0 49 Ia I_42 := Kp_tr kI_38 (Kp_wd h_42.1 (by decide) (by decide))
        have kJ_42 : Kp 0 49 Ja J_42 := Kp_tr (Kp_rf (a := 0) (b := 49)) (Kp_wd h_42.2.1 (by decide) (by decide))
        have cI_42 : CX I_42 := h_42.2.2
        have qI_42 := XI_o cI_42.1
        refine ww_aload_n hX (pc := 45) dX10_back_45 rfl ?_
        refine ww_iconst hX (pc := 46) (x := 0) dX10_back_46 rfl ?_
        refine vI1 hX (pc := 47) sX10_114 (xs_0 hL38) (c_X10_accept l0 hL38 cI_42) (by decide) (by omega) (by omega) (Nat.le_of_ble_eq_true rfl) dX10_back_47 (fun x_47 I_47 J_47 h_47 => ?_)
        have kI_47 : Kp 0 49 Ia I_47 := Kp_tr kI_42 (Kp_wd h_47.1 (by decide) (by decide))
        have kJ_47 : Kp 0 49 Ja J_47 := Kp_tr kJ_42 (Kp_wd h_47.2.1 (by decide) (by decide))
        have cI_47 : CX I_47 := h_47.2.2.1
        have qI_47 := XI_o cI_47.1
        exact ww_iret hX (pc := 50) hT (by omega) (by omega) dX10_back_50 ⟨_, rfl, CI_low CI38 (fun k hk => (kI_47 k hk).trans (kI_38 k hk).symm) cI_47, fun k h1 h2 => ⟨kI_47 k (by omega), kJ_47 k (by omega), (eR38 k (by omega))⟩, rfl, eR38 7 (by decide), (fun h9 => absurd (by omega) h9), (fun _ => ⟨fun h9 => (by rw [hlw] at h9; cases h9), fun _ => h_47.2.2.2⟩)⟩
    · simp only [w32_mod] at h_6
      refine ww_aload_n hX (pc := 9) dX10_back_9 rfl ?_
      refine ww_iconst hX (pc := 10) (x := (-1)) dX10_back_10 rfl ?_
      refine vI1 hX (pc := 11) sX10_89 (xs_0 hL) (c_X10_refuse l0 hL hC (by omega) (by omega)) (by decide) (by omega) (by omega) (Nat.le_of_ble_eq_true rfl) dX10_back_11 (fun x_11 I_11 J_11 h_11 => ?_)
      have kI_11 : Kp 0 49 Ia I_11 := Kp_tr (Kp_rf (a := 0) (b := 49)) (Kp_wd h_11.1 (by decide) (by decide))
      have kJ_11 : Kp 0 49 Ja J_11 := Kp_tr (Kp_rf (a := 0) (b := 49)) (Kp_wd h_11.2.1 (by decide) (by decide))
      have cI_11 : CX I_11 := h_11.2.2.1
      have qI_11 := XI_o cI_11.1
      exact ww_iret hX (pc := 14) hT (by omega) (by omega) dX10_back_14 ⟨_, rfl, CI_low hCI kI_11 cI_11, fun k h1 h2 => ⟨kI_11 k (by omega), kJ_11 k (by omega), rfl⟩, rfl, rfl, (fun _ => h_11.2.2.2), (fun h9 => absurd h9 (by omega))⟩
set_option maxHeartbeats 4000000 in
set_option maxRecDepth 20000 in
theorem c2_X10_image (l0 : Launch) {Ia Ja : aI1} {Ra : aR1} {Sa : aS1} (hCI : CI Ia Ra Sa) {a : Int} (ha0 : -2147483648 ≤ a) (ha1 : a < 2147483648)  : CT l0 12 6 322 mX10_image [kR (some 0), kI a] Ia Ja Ra Sa (dI (fun x I' J' R' S' => CI I' R' S' ∧ (∀ k, 49 ≤ k → k < 73 → I' k = Ia k ∧ J' k = Ja k ∧ R' k = Ra k) ∧ (SX Sa S' ∧ Sa.length ≤ S'.length ∧ S'.length ≤ Sa.length + 6) ∧ ((0 ≤ a ∧ a < 2) → x = 0) ∧ (¬ (0 ≤ a ∧ a < 2) → x = -1) ∧ (∀ j, j ≠ a.toNat → R' 7 j = Ra 7 j) ∧ ((0 ≤ a ∧ a < 2) → ¬ R' 7 a.toNat = none) ∧ (¬ (0 ≤ a ∧ a < 2) → R' 7 = Ra 7))) := by
  refine ct_in pn_X10 (Nat.le_of_ble_eq_true rfl) (fun X hX hT hIn => ?_)
  have hX : aK l0 X cX10_image 3 RX10 (some .int) 12 6 322 := hX
  change WW X 0 [some (kR (some 0)), some (kI a), none] [] Ia Ja Ra Sa 0 0
  have hL := hCI.1
  have hC := hCI.2.1
  have hI := hC.1
  have hq := XI_o hI
  obtain ⟨z, hz⟩ : ∃ z, Sa.length = z := ⟨_, rfl⟩
  have hz73 : 73 ≤ z := by rw [← hz]; exact (List.getElem?_eq_some_iff.mp (xs_72 hL)).1
  refine ww_iload_n hX (pc := 0) dX10_image_0 rfl ?_
  refine ww_if_lt hX (pc := 1) (tgt := 9) dX10_image_1 (by decide) (fun h_1 => ?_) (fun h_1 => ?_)
  · simp only [w32_mod] at h_1
    refine ww_aload_n hX (pc := 9) dX10_image_9 rfl ?_
    refine ww_iconst hX (pc := 10) (x := (-1)) dX10_image_10 rfl ?_
    refine vI1 hX (pc := 11) sX10_89 (xs_0 hL) (c_X10_refuse l0 hL hC (by omega) (by omega)) (by decide) (by omega) (by omega) (Nat.le_of_ble_eq_true rfl) dX10_image_11 (fun x_11 I_11 J_11 h_11 => ?_)
    have kI_11 : Kp 0 49 Ia I_11 := Kp_tr (Kp_rf (a := 0) (b := 49)) (Kp_wd h_11.1 (by decide) (by decide))
    have kJ_11 : Kp 0 49 Ja J_11 := Kp_tr (Kp_rf (a := 0) (b := 49)) (Kp_wd h_11.2.1 (by decide) (by decide))
    have cI_11 : CX I_11 := h_11.2.2.1
    have qI_11 := XI_o cI_11.1
    exact ww_iret hX (pc := 14) hT (by omega) (by omega) dX10_image_14 ⟨_, rfl, CI_low hCI kI_11 cI_11, fun k h1 h2 => ⟨kI_11 k (by omega), kJ_11 k (by omega), rfl⟩, ⟨SX_rf, by omega, by omega⟩, (fun h9 => absurd h9 (by omega)), (fun _ => h_11.2.2.2), (fun j _ => rfl), (fun h9 => absurd h9 (by omega)), (fun _ => rfl)⟩
  · simp only [w32_mod] at h_1
    refine ww_iload_n hX (pc := 4) dX10_image_4 rfl ?_
    refine ww_iconst hX (pc := 5) (x := 2) dX10_image_5 rfl ?_
    refine ww_icmp_lt hX (pc := 6) (tgt := 15) dX10_image_6 (by decide) (fun h_6 => ?_) (fun h_6 => ?_)
    · simp only [w32_mod] at h_6
      refine ww_aload_n hX (pc := 15) dX10_image_15 rfl ?_
      refine ww_getR hX (pc := 16) fX10_16 (by decide) (xs_0 hL) (xr_0_1 hL) dX10_image_16 ?_
      refine ww_iload_n hX (pc := 19) dX10_image_19 rfl ?_
      refine ww_aald hX (pc := 20) (Or.inr rfl) (xs_7 hL) (by decide) (by omega) (by omega) dX10_image_20 ?_
      cases hlw : Ra 7 a.toNat with
      | none =>
        refine ww_astore_nN hX (pc := 21) (lv' := [some (kR (some 0)), some (kI a), some (kR none)]) dX10_image_21 (by decide) rfl rfl ?_
        refine ww_aload_nN hX (pc := 22) dX10_image_22 rfl ?_
        refine ww_ifnonnullN hX (pc := 23) dX10_image_23 ?_
        refine ww_newz hX (pc := 26) 12 (z := z) hz cl_1 tb_29 tb_30 tb_2 rfl (by omega) (by omega) dX10_image_26 ?_
        refine ww_dupR hX (pc := 29) dX10_image_29 ?_
        refine ww_callI hX (pc := 30) (av := []) sX10_9 (c_X1_init l0 (o := z) (z := z + 1) (lz hz) (sz_n hz)) rfl (by decide) (by omega) (by omega) (Nat.le_of_ble_eq_true rfl) dX10_image_30 (fun r_30 I_30 J_30 R_30 S_30 h_30 => ?_)
        obtain ⟨rfl, h30I, h30J, h30R, h30S⟩ := h_30
        have eI30 : ∀ k, k < z → I_30 k = Ia k := fun k hk => by rw [← h30I, nI1_off (by omega) (by omega), upR_n _ _ (by omega)]
        have eJ30 : ∀ k, k < z → J_30 k = Ja k := fun k hk => by rw [← h30J]; unfold nJ_X1; rw [upR_n _ _ (by omega)]
        have eR30 : ∀ k, k < z → R_30 k = Ra k := fun k hk => by rw [← h30R, nR1_off (by omega) (by omega), upR_n _ _ (by omega)]
        have hcs30 : CoSh R_30 S_30 z := by
          rw [← h30R, ← h30S]
          refine ⟨sz_l (sz_l (sz_l (sz_l (sz_l (sz_n hz))))), sz_l (sz_l (sz_l (sz_l (sz_n (lz hz))))), sz_l (sz_l (sz_l (sz_n (lz (lz hz))))), sz_l (sz_l (sz_n (lz (lz (lz hz))))), sz_l (sz_n (lz (lz (lz (lz hz))))), sz_n (lz (lz (lz (lz (lz hz))))), ?_, ?_, ?_, ?_, ?_⟩
          all_goals unfold nR_X1
          · rw [up2_n _ _ (Or.inr (by decide)), up2_n _ _ (Or.inr (by decide)), up2_n _ _ (Or.inr (by decide)), upR_n _ _ (by omega), up2_n _ _ (Or.inr (by decide)), up2_s]
          · rw [up2_n _ _ (Or.inr (by decide)), up2_n _ _ (Or.inr (by decide)), up2_n _ _ (Or.inr (by decide)), upR_n _ _ (by omega), up2_s]
          · rw [up2_n _ _ (Or.inr (by decide)), up2_n _ _ (Or.inr (by decide)), up2_s]
          · rw [up2_n _ _ (Or.inr (by decide)), up2_s]
          · rw [up2_s]
        have hSX30 : SX Sa S_30 := by rw [← h30S]; exact SX_app (SX_app (SX_app (SX_app (SX_app (SX_app SX_rf)))))
        have hlen30 : S_30.length = z + 6 := by rw [← h30S]; exact lz (lz (lz (lz (lz (lz hz)))))
        have hL30 : LY R_30 S_30 := LY_ext hL (fun k h1 _ _ => eR30 k (by omega)) hSX30
        change WW X 33 [some (kR (some 0)), some (kI a), some (kR none)] [kR (some z)] I_30 J_30 R_30 S_30 _ _
        refine ww_astore_n hX (pc := 33) (lv' := [some (kR (some 0)), some (kI a), some (kR (some z))]) dX10_image_33 (by decide) rfl rfl ?_
        refine ww_aload_n hX (pc := 34) dX10_image_34 rfl ?_
        refine ww_getR hX (pc := 35) fX10_16 (by decide) (xs_0 hL30) (xr_0_1 hL30) dX10_image_35 ?_
        refine ww_iload_n hX (pc := 38) dX10_image_38 rfl ?_
        refine ww_aload_n hX (pc := 39) dX10_image_39 rfl ?_
        refine ww_aast5 hX (pc := 40) (xs_7 hL30) (by decide) (by omega) (by omega) hcs30.1 dX10_image_40 ?_
        have hx40 : ∃ R9, R9 = up2 R_30 7 a.toNat (some z) := ⟨_, rfl⟩
        obtain ⟨R_40, eR40⟩ := hx40
        rw [← eR40]
        have fR40 : ∀ k, k ≠ 7 → R_40 k = R_30 k := fun k hk => by rw [eR40, up2_off _ _ _ hk]
        have hLx : LY R_40 S_30 := LY_ext hL30 (fun k h1 _ h7 => fR40 k h7) SX_rf
        have hCx : CX I_30 := CX_lo hC (fun k hk => eI30 k (by omega))
        have hWx : LawsOK I_30 R_40 S_30 4 := LawsOK_hi hCI.2.2.1 (fun i hi => by rw [fR40 4 (by decide), eR30 4 (by omega)]) (fun k h1 h2 => eI30 k (by omega)) (fun k h1 h2 => by rw [fR40 k (by omega), eR30 k (by omega)]) hSX30
        have hMx : ∀ i, i < 2 → ∀ c', R_40 7 i = some c' → c' = z ∨ CoastOK I_30 R_40 S_30 c' := fun i hi c' hc' => by
          by_cases hia : i = a.toNat
          · rw [eR40, hia, up2_s] at hc'
            exact Or.inl (Option.some.inj hc').symm
          · rw [eR40, up2_n _ _ (Or.inr hia), eR30 7 (by omega)] at hc'
            exact Or.inr (CoastOK_hi (hCI.2.2.2 i hi c' hc') (fun k h1 h2 => eI30 k (by omega)) (fun k h1 h2 => by rw [fR40 k (by omega), eR30 k (by omega)]) hSX30)
        have hcx : CoSh R_40 S_30 z := CoSh_ext hcs30 (fR40 z (by omega)) SX_rf
        refine ww_aload_n hX (pc := 41) dX10_image_41 rfl ?_
        refine ww_aload_n hX (pc := 42) dX10_image_42 rfl ?_
        refine ww_getR hX (pc := 43) fX10_10 (by decide) (xs_0 hLx) (xr_0_0 hLx) dX10_image_43 ?_
        refine ww_callV hX (pc := 46) (av := [kR (some 1)]) sX10_301 hcx.1 (c_X1_copyFrom l0 (o := z) (q := 1) hcx (CoSh_1 hLx) (by omega) (fun i hi w hw => ⟨0, (hWx i hi w hw).2.1⟩)) rfl (by decide) (by omega) (by omega) (Nat.le_of_ble_eq_true rfl) dX10_image_46 (fun r_46 I_46 J_46 R_46 S_46 h_46 => ?_)
        obtain ⟨rfl, rfl, e46, eR46, rfl, he46⟩ := h_46
        change WW X 49 [some (kR (some 0)), some (kI a), some (kR (some z))] [] I_46 J_30 R_46 S_30 _ _
        have CI46 : CI I_46 R_46 S_30 := CI_img hLx hCx hWx hMx (by omega) hcx e46 eR46 he46
        have hL46 := CI46.1
        have cI_46 := CI46.2.1
        refine ww_aload_n hX (pc := 49) dX10_image_49 rfl ?_
        refine ww_iconst hX (pc := 50) (x := 0) dX10_image_50 rfl ?_
        refine vI1 hX (pc := 51) sX10_114 (xs_0 hL46) (c_X10_accept l0 hL46 cI_46) (by decide) (by omega) (by omega) (Nat.le_of_ble_eq_true rfl) dX10_image_51 (fun x_51 I_51 J_51 h_51 => ?_)
        exact ww_iret hX (pc := 54) hT (by omega) (by omega) dX10_image_54 ⟨_, rfl, CI_low CI46 h_51.1 h_51.2.2.1, fun k h1 h2 => ⟨(h_51.1 k (by omega)).trans ((e46 k (by omega) (by omega) (by omega) (by omega) (by omega)).trans (eI30 k (by omega))), (h_51.2.1 k (by omega)).trans (eJ30 k (by omega)), (eR46 k (by omega)).trans ((fR40 k (by omega)).trans (eR30 k (by omega)))⟩, ⟨hSX30, by omega, by omega⟩, fun _ => h_51.2.2.2, fun h9 => absurd (by omega) h9, (fun j hj => by rw [eR46 7 (by omega), eR40, up2_n _ _ (Or.inr hj), eR30 7 (by omega)]), (fun _ h9 => by rw [eR46 7 (by omega), eR40, up2_s] at h9; cases h9), (fun h9 => absurd (by omega) h9)⟩
      | some c =>
        obtain ⟨hc73, hcs, hcr, hcl⟩ := hCI.2.2.2 a.toNat (by omega) c hlw
        refine ww_astore_n hX (pc := 21) (lv' := [some (kR (some 0)), some (kI a), some (kR (some c))]) dX10_image_21 (by decide) rfl rfl ?_
        refine ww_aload_n hX (pc := 22) dX10_image_22 rfl ?_
        refine ww_ifnonnullS hX (pc := 23) (tgt := 41) dX10_image_23 (by decide) ?_
        refine ww_aload_n hX (pc := 41) dX10_image_41 rfl ?_
        refine ww_aload_n hX (pc := 42) dX10_image_42 rfl ?_
        refine ww_getR hX (pc := 43) fX10_10 (by decide) (xs_0 hL) (xr_0_0 hL) dX10_image_43 ?_
        have hLx := hL
        have hCx := hC
        have hWx := hCI.2.2.1
        have hMx : ∀ i, i < 2 → ∀ c', Ra 7 i = some c' → c' = c ∨ CoastOK Ia Ra Sa c' := fun i hi c' hc' => Or.inr (hCI.2.2.2 i hi c' hc')
        have hcx := hcs
        refine ww_callV hX (pc := 46) (av := [kR (some 1)]) sX10_301 hcx.1 (c_X1_copyFrom l0 (o := c) (q := 1) hcx (CoSh_1 hLx) (by omega) (fun i hi w hw => ⟨0, (hWx i hi w hw).2.1⟩)) rfl (by decide) (by omega) (by omega) (Nat.le_of_ble_eq_true rfl) dX10_image_46 (fun r_46 I_46 J_46 R_46 S_46 h_46 => ?_)
        obtain ⟨rfl, rfl, e46, eR46, rfl, he46⟩ := h_46
        change WW X 49 [some (kR (some 0)), some (kI a), some (kR (some c))] [] I_46 Ja R_46 Sa _ _
        have CI46 : CI I_46 R_46 Sa := CI_img hLx hCx hWx hMx (by omega) hcx e46 eR46 he46
        have hL46 := CI46.1
        have cI_46 := CI46.2.1
        refine ww_aload_n hX (pc := 49) dX10_image_49 rfl ?_
        refine ww_iconst hX (pc := 50) (x := 0) dX10_image_50 rfl ?_
        refine vI1 hX (pc := 51) sX10_114 (xs_0 hL46) (c_X10_accept l0 hL46 cI_46) (by decide) (by omega) (by omega) (Nat.le_of_ble_eq_true rfl) dX10_image_51 (fun x_51 I_51 J_51 h_51 => ?_)
        exact ww_iret hX (pc := 54) hT (by omega) (by omega) dX10_image_54 ⟨_, rfl, CI_low CI46 h_51.1 h_51.2.2.1, fun k h1 h2 => ⟨(h_51.1 k (by omega)).trans ((e46 k (by omega) (by omega) (by omega) (by omega) (by omega)).trans rfl), (h_51.2.1 k (by omega)).trans rfl, (eR46 k (by omega)).trans rfl⟩, ⟨SX_rf, by omega, by omega⟩, fun _ => h_51.2.2.2, fun h9 => absurd (by omega) h9, (fun j _ => by rw [eR46 7 (by omega)]), (fun _ h9 => by rw [eR46 7 (by omega), hlw] at h9; cases h9), (fun h9 => absurd (by omega) h9)⟩
    · simp only [w32_mod] at h_6
      refine ww_aload_n hX (pc := 9) dX10_image_9 rfl ?_
      refine ww_iconst hX (pc := 10) (x := (-1)) dX10_image_10 rfl ?_
      refine vI1 hX (pc := 11) sX10_89 (xs_0 hL) (c_X10_refuse l0 hL hC (by omega) (by omega)) (by decide) (by omega) (by omega) (Nat.le_of_ble_eq_true rfl) dX10_image_11 (fun x_11 I_11 J_11 h_11 => ?_)
      have kI_11 : Kp 0 49 Ia I_11 := Kp_tr (Kp_rf (a := 0) (b := 49)) (Kp_wd h_11.1 (by decide) (by decide))
      have kJ_11 : Kp 0 49 Ja J_11 := Kp_tr (Kp_rf (a := 0) (b := 49)) (Kp_wd h_11.2.1 (by decide) (by decide))
      have cI_11 : CX I_11 := h_11.2.2.1
      have qI_11 := XI_o cI_11.1
      exact ww_iret hX (pc := 14) hT (by omega) (by omega) dX10_image_14 ⟨_, rfl, CI_low hCI kI_11 cI_11, fun k h1 h2 => ⟨kI_11 k (by omega), kJ_11 k (by omega), rfl⟩, ⟨SX_rf, by omega, by omega⟩, (fun h9 => absurd h9 (by omega)), (fun _ => h_11.2.2.2), (fun j _ => rfl), (fun h9 => absurd h9 (by omega)), (fun _ => rfl)⟩
set_option maxHeartbeats 4000000 in
set_option maxRecDepth 20000 in
theorem c2_X10_law (l0 : Launch) {Ia Ja : aI1} {Ra : aR1} {Sa : aS1} (hCI : CI Ia Ra Sa)  : CT l0 300 3 428 mX10_law [kR (some 0)] Ia Ja Ra Sa (dI (fun x I' J' R' S' => CI I' R' S' ∧ (∀ k, 49 ≤ k → k < 73 → I' k = Ia k ∧ J' k = Ja k ∧ R' k = Ra k) ∧ SX Sa S' ∧ Sa.length ≤ S'.length ∧ S'.length ≤ Sa.length + 3 ∧ R' 7 = Ra 7)) := by
  refine ct_in pn_X10 (Nat.le_of_ble_eq_true rfl) (fun X hX hT hIn => ?_)
  have hX : aK l0 X cX10_law 3 RX10 (some .int) 300 3 428 := hX
  change WW X 0 [some (kR (some 0)), none, none] [] Ia Ja Ra Sa 0 0
  have hL := hCI.1
  have hC := hCI.2.1
  have hI := hC.1
  have hq := XI_o hI
  obtain ⟨z, hz⟩ : ∃ z, Sa.length = z := ⟨_, rfl⟩
  have hz73 : 73 ≤ z := by rw [← hz]; exact (List.getElem?_eq_some_iff.mp (xs_72 hL)).1
  refine ww_aload_n hX (pc := 0) dX10_law_0 rfl ?_
  refine ww_getR hX (pc := 1) fX10_10 (by decide) (xs_0 hL) (xr_0_0 hL) dX10_law_1 ?_
  refine ww_getI hX (pc := 4) fX10_170 (by decide) (xs_1 hL) dX10_law_4 ?_
  refine ww_bipush hX (pc := 7) (x := 6) dX10_law_7 (by decide) ?_
  refine ww_icmp_lt hX (pc := 9) (tgt := 27) dX10_law_9 (by decide) (fun h_9 => ?_) (fun h_9 => ?_)
  · simp only [w32_mod] at h_9
    refine ww_aload_n hX (pc := 27) dX10_law_27 rfl ?_
    refine ww_getR hX (pc := 28) fX10_32 (by decide) (xs_0 hL) (xr_0_3 hL) dX10_law_28 ?_
    refine ww_callV hX (pc := 31) (av := []) sX10_173 (xs_10 hL) (c_X7_understand l0 hL hI hC.2.1 hz hz73) rfl (by decide) (by omega) (by omega) (Nat.le_of_ble_eq_true rfl) dX10_law_31 (fun r_31 I_31 J_31 R_31 S_31 h_31 => ?_)
    obtain ⟨x_31, rfl, eI31, eJ31, lr31, eR31, h31⟩ := h_31
    have cI_31 : CX I_31 := ⟨XI_of hI (eI31 0 (by omega) (by decide)) (eI31 1 (by omega) (by decide)) (eI31 3 (by omega) (by decide)) (eI31 8 (by omega) (by decide)) (eI31 9 (by omega) (by decide)), lr31, FI_of hC.2.2 (eI31 44 (by omega) (by decide))⟩
    have qI_31 := XI_o cI_31.1
    have r9_31 : I_31 1 9 = Ia 1 9 := by rw [eI31 1 (by omega) (by decide)]
    have hSX31 : SX Sa S_31 ∧ Sa.length ≤ S_31.length ∧ S_31.length ≤ Sa.length + 3 := by
      rcases h31 with ⟨_, rfl⟩ | ⟨_, N1, N2, _, _, rfl, _⟩
      · exact ⟨SX_rf, by omega, by omega⟩
      · exact ⟨SX_app (SX_app (SX_app SX_rf)), by simp, by simp⟩
    obtain ⟨hSX31, hl31, hl32⟩ := hSX31
    have hL31 : LY R_31 S_31 := LY_ext hL (fun k h1 _ _ => eR31 k (by omega)) hSX31
    have CI31 : CI I_31 R_31 S_31 := ⟨hL31, cI_31, LawsOK_hi hCI.2.2.1 (fun i hi => by rw [eR31 4 (by omega)]) (fun k h1 h2 => eI31 k (by omega) (by omega)) (fun k h1 h2 => eR31 k (by omega)) hSX31, fun i hi c' hc' => CoastOK_hi (hCI.2.2.2 i hi c' (by rw [← eR31 7 (by omega)]; exact hc')) (fun k h1 h2 => eI31 k (by omega) (by omega)) (fun k h1 h2 => eR31 k (by omega)) hSX31⟩
    have h31' : x_31 = none ∨ (x_31 = some z ∧ LawOK I_31 R_31 S_31 z) := by
      rcases h31 with ⟨h, _⟩ | ⟨h, N1, N2, _, _, _, hlo⟩
      · exact Or.inl h
      · exact Or.inr ⟨h, hlo⟩
    clear h31
    rcases h31' with rfl | ⟨rfl, hlo⟩
    · change WW X 34 [some (kR (some 0)), none, none] [kR none] I_31 J_31 R_31 S_31 _ _
      refine ww_astore_nN hX (pc := 34) (lv' := [some (kR (some 0)), some (kR none), none]) dX10_law_34 (by decide) rfl rfl ?_
      refine ww_aload_n hX (pc := 35) dX10_law_35 rfl ?_
      refine ww_getR hX (pc := 36) fX10_23 (by decide) (xs_0 hL31) (xr_0_2 hL31) dX10_law_36 ?_
      refine ww_iconst hX (pc := 39) (x := 0) dX10_law_39 rfl ?_
      refine ww_putI hX (pc := 40) (fun h9 => absurd h9 (by decide)) gX10_148 rfl (xs_8 hL31) dX10_law_40 ?_
      refine ww_nmH (fun I_40 eI_40 => ?_)
      have kI_40 : Kp 0 49 I_31 I_40 := by rw [eI_40]; exact Kp_up (Kp_rf (a := 0) (b := 49)) _ _ (by decide)
      have cI_40 : CX I_40 := by rw [eI_40]; exact CX_x cI_31 (XI_8_1 cI_31.1 (by omega) (by omega)) (by decide)
      have qI_40 := XI_o cI_40.1
      have r5_I_40 : I_40 1 5 = I_31 1 5 := by rw [eI_40, up2_off _ _ _ (by decide)]
      have r6_I_40 : I_40 1 6 = I_31 1 6 := by rw [eI_40, up2_off _ _ _ (by decide)]
      have r8_I_40 : I_40 1 8 = I_31 1 8 := by rw [eI_40, up2_off _ _ _ (by decide)]
      have r9_I_40 : I_40 1 9 = I_31 1 9 := by rw [eI_40, up2_off _ _ _ (by decide)]
      have r10_I_40 : I_40 1 10 = I_31 1 10 := by rw [eI_40, up2_off _ _ _ (by decide)]
      have r11_I_40 : I_40 1 11 = I_31 1 11 := by rw [eI_40, up2_off _ _ _ (by decide)]
      have rf_I_40 : FU (I_40 1 5) = FU (I_31 1 5) := by rw [r5_I_40]
      refine ww_aload_nN hX (pc := 43) dX10_law_43 rfl ?_
      refine ww_ifnonnullN hX (pc := 44) dX10_law_44 ?_
      refine ww_aload_n hX (pc := 47) dX10_law_47 rfl ?_
      refine ww_bipush hX (pc := 48) (x := (-6)) dX10_law_48 (by decide) ?_
      refine vI1 hX (pc := 50) sX10_89 (xs_0 hL31) (c_X10_refuse l0 hL31 cI_40 (by omega) (by omega)) (by decide) (by omega) (by omega) (Nat.le_of_ble_eq_true rfl) dX10_law_50 (fun x_50 I_50 J_50 h_50 => ?_)
      have kI_50 : Kp 0 49 I_31 I_50 := Kp_tr kI_40 (Kp_wd h_50.1 (by decide) (by decide))
      have kJ_50 : Kp 0 49 J_31 J_50 := Kp_tr (Kp_rf (a := 0) (b := 49)) (Kp_wd h_50.2.1 (by decide) (by decide))
      have cI_50 : CX I_50 := h_50.2.2.1
      have qI_50 := XI_o cI_50.1
      exact ww_iret hX (pc := 53) hT (by omega) (by omega) dX10_law_53 ⟨_, rfl, CI_low CI31 kI_50 cI_50, fun k h1 h2 => ⟨(kI_50 k (by omega)).trans (eI31 k (by omega) (by omega)), (kJ_50 k (by omega)).trans (eJ31 k (by omega) (by omega)), (eR31 k (by omega))⟩, hSX31, hl31, hl32, (eR31 7 (by omega))⟩
    · change WW X 34 [some (kR (some 0)), none, none] [kR (some z)] I_31 J_31 R_31 S_31 _ _
      refine ww_astore_n hX (pc := 34) (lv' := [some (kR (some 0)), some (kR (some z)), none]) dX10_law_34 (by decide) rfl rfl ?_
      refine ww_aload_n hX (pc := 35) dX10_law_35 rfl ?_
      refine ww_getR hX (pc := 36) fX10_23 (by decide) (xs_0 hL31) (xr_0_2 hL31) dX10_law_36 ?_
      refine ww_iconst hX (pc := 39) (x := 0) dX10_law_39 rfl ?_
      refine ww_putI hX (pc := 40) (fun h9 => absurd h9 (by decide)) gX10_148 rfl (xs_8 hL31) dX10_law_40 ?_
      refine ww_nmH (fun I_40 eI_40 => ?_)
      have kI_40 : Kp 0 49 I_31 I_40 := by rw [eI_40]; exact Kp_up (Kp_rf (a := 0) (b := 49)) _ _ (by decide)
      have cI_40 : CX I_40 := by rw [eI_40]; exact CX_x cI_31 (XI_8_1 cI_31.1 (by omega) (by omega)) (by decide)
      have qI_40 := XI_o cI_40.1
      have r5_I_40 : I_40 1 5 = I_31 1 5 := by rw [eI_40, up2_off _ _ _ (by decide)]
      have r6_I_40 : I_40 1 6 = I_31 1 6 := by rw [eI_40, up2_off _ _ _ (by decide)]
      have r8_I_40 : I_40 1 8 = I_31 1 8 := by rw [eI_40, up2_off _ _ _ (by decide)]
      have r9_I_40 : I_40 1 9 = I_31 1 9 := by rw [eI_40, up2_off _ _ _ (by decide)]
      have r10_I_40 : I_40 1 10 = I_31 1 10 := by rw [eI_40, up2_off _ _ _ (by decide)]
      have r11_I_40 : I_40 1 11 = I_31 1 11 := by rw [eI_40, up2_off _ _ _ (by decide)]
      have rf_I_40 : FU (I_40 1 5) = FU (I_31 1 5) := by rw [r5_I_40]
      refine ww_aload_n hX (pc := 43) dX10_law_43 rfl ?_
      refine ww_ifnonnullS hX (pc := 44) (tgt := 54) dX10_law_44 (by decide) ?_
      refine ww_aload_n hX (pc := 54) dX10_law_54 rfl ?_
      refine ww_getR hX (pc := 55) fX10_10 (by decide) (xs_0 hL31) (xr_0_0 hL31) dX10_law_55 ?_
      refine ww_getI hX (pc := 58) fX10_170 (by decide) (xs_1 hL31) dX10_law_58 ?_
      refine ww_nmI (fun v_61 hv_61 => ?_)
      refine ww_istore_n hX (pc := 61) (lv' := [some (kR (some 0)), some (kR (some z)), some (kI v_61)]) dX10_law_61 (by decide) rfl rfl ?_
      refine ww_aload_n hX (pc := 62) dX10_law_62 rfl ?_
      refine ww_getR hX (pc := 63) fX10_10 (by decide) (xs_0 hL31) (xr_0_0 hL31) dX10_law_63 ?_
      refine ww_getR hX (pc := 66) fX10_177 (by decide) (xs_1 hL31) (xr_1_2 hL31) dX10_law_66 ?_
      refine ww_iload_n hX (pc := 69) dX10_law_69 rfl ?_
      refine ww_aload_n hX (pc := 70) dX10_law_70 rfl ?_
      refine ww_aast4 hX (pc := 71) (xs_4 hL31) (by decide) (by omega) (by omega) hlo.2.1 dX10_law_71 ?_
      have hx71 : ∃ R9, R9 = up2 R_31 4 v_61.toNat (some z) := ⟨_, rfl⟩
      obtain ⟨R_71, eR71⟩ := hx71
      rw [← eR71]
      have fR71 : ∀ k, k ≠ 4 → R_71 k = R_31 k := fun k hk => by rw [eR71, up2_off _ _ _ hk]
      have hL71 : LY R_71 S_31 := LY_ext hL31 (fun k h1 h4 _ => fR71 k h4) SX_rf
      have CI71 : CI I_31 R_71 S_31 := ⟨hL71, cI_31, fun i hi w hw => by
        by_cases hii : i = v_61.toNat
        · rw [eR71, hii, up2_s] at hw
          obtain rfl := Option.some.inj hw
          exact LawOK_ext hlo rfl rfl rfl (fR71 _ (by omega)) SX_rf
        · rw [eR71, up2_n _ _ (Or.inr hii)] at hw
          have hlw := CI31.2.2.1 i hi w hw
          have hlw73 := hlw.1
          exact LawOK_ext hlw rfl rfl rfl (fR71 w (by omega)) SX_rf, fun i hi c' hc' => CoastOK_hi (hCI.2.2.2 i hi c' (by rw [fR71 7 (by decide), eR31 7 (by omega)] at hc'; exact hc')) (fun k h1 h2 => eI31 k (by omega) (by omega)) (fun k h1 h2 => by rw [fR71 k (by omega), eR31 k (by omega)]) hSX31⟩
      refine ww_aload_n hX (pc := 72) dX10_law_72 rfl ?_
      refine ww_getR hX (pc := 73) fX10_10 (by decide) (xs_0 hL71) (xr_0_0 hL71) dX10_law_73 ?_
      refine ww_iload_n hX (pc := 76) dX10_law_76 rfl ?_
      refine ww_iconst hX (pc := 77) (x := 1) dX10_law_77 rfl ?_
      refine ww_iadd hX (pc := 78) dX10_law_78 ?_
      refine ww_putI hX (pc := 79) (fun h9 => absurd h9 (by decide)) gX10_170 rfl (xs_1 hL71) dX10_law_79 ?_
      refine ww_nmH (fun I_79 eI_79 => ?_)
      have kI_79 : Kp 0 49 I_31 I_79 := by rw [eI_79]; exact Kp_up kI_40 _ _ (by decide)
      have cI_79 : CX I_79 := by rw [eI_79]; exact CX_x cI_40 (XI_1_9 cI_40.1 (by omega) (by omega)) (by decide)
      have qI_79 := XI_o cI_79.1
      have r5_I_79 : I_79 1 5 = I_40 1 5 := by rw [eI_79, up2_n _ _ (Or.inr (by decide))]
      have r6_I_79 : I_79 1 6 = I_40 1 6 := by rw [eI_79, up2_n _ _ (Or.inr (by decide))]
      have r8_I_79 : I_79 1 8 = I_40 1 8 := by rw [eI_79, up2_n _ _ (Or.inr (by decide))]
      skip
      have r10_I_79 : I_79 1 10 = I_40 1 10 := by rw [eI_79, up2_n _ _ (Or.inr (by decide))]
      have r11_I_79 : I_79 1 11 = I_40 1 11 := by rw [eI_79, up2_n _ _ (Or.inr (by decide))]
      have rf_I_79 : FU (I_79 1 5) = FU (I_40 1 5) := by rw [r5_I_79]
      refine ww_aload_n hX (pc := 82) dX10_law_82 rfl ?_
      refine ww_iload_n hX (pc := 83) dX10_law_83 rfl ?_
      refine vI1 hX (pc := 84) sX10_114 (xs_0 hL71) (c_X10_accept l0 hL71 cI_79) (by decide) (by omega) (by omega) (Nat.le_of_ble_eq_true rfl) dX10_law_84 (fun x_84 I_84 J_84 h_84 => ?_)
      have kI_84 : Kp 0 49 I_31 I_84 := Kp_tr kI_79 (Kp_wd h_84.1 (by decide) (by decide))
      have kJ_84 : Kp 0 49 J_31 J_84 := Kp_tr (Kp_rf (a := 0) (b := 49)) (Kp_wd h_84.2.1 (by decide) (by decide))
      have cI_84 : CX I_84 := h_84.2.2.1
      have qI_84 := XI_o cI_84.1
      exact ww_iret hX (pc := 87) hT (by omega) (by omega) dX10_law_87 ⟨_, rfl, CI_low CI71 kI_84 cI_84, fun k h1 h2 => ⟨(kI_84 k (by omega)).trans (eI31 k (by omega) (by omega)), (kJ_84 k (by omega)).trans (eJ31 k (by omega) (by omega)), ((fR71 k (by omega)).trans (eR31 k (by omega)))⟩, hSX31, hl31, hl32, ((fR71 7 (by omega)).trans (eR31 7 (by omega)))⟩
  · simp only [w32_mod] at h_9
    refine ww_aload_n hX (pc := 12) dX10_law_12 rfl ?_
    refine ww_getR hX (pc := 13) fX10_23 (by decide) (xs_0 hL) (xr_0_2 hL) dX10_law_13 ?_
    refine ww_iconst hX (pc := 16) (x := 0) dX10_law_16 rfl ?_
    refine ww_putI hX (pc := 17) (fun h9 => absurd h9 (by decide)) gX10_148 rfl (xs_8 hL) dX10_law_17 ?_
    refine ww_nmH (fun I_17 eI_17 => ?_)
    have kI_17 : Kp 0 49 Ia I_17 := by rw [eI_17]; exact Kp_up (Kp_rf (a := 0) (b := 49)) _ _ (by decide)
    have cI_17 : CX I_17 := by rw [eI_17]; exact CX_x hC (XI_8_1 hC.1 (by omega) (by omega)) (by decide)
    have qI_17 := XI_o cI_17.1
    have r5_I_17 : I_17 1 5 = Ia 1 5 := by rw [eI_17, up2_off _ _ _ (by decide)]
    have r6_I_17 : I_17 1 6 = Ia 1 6 := by rw [eI_17, up2_off _ _ _ (by decide)]
    have r8_I_17 : I_17 1 8 = Ia 1 8 := by rw [eI_17, up2_off _ _ _ (by decide)]
    have r9_I_17 : I_17 1 9 = Ia 1 9 := by rw [eI_17, up2_off _ _ _ (by decide)]
    have r10_I_17 : I_17 1 10 = Ia 1 10 := by rw [eI_17, up2_off _ _ _ (by decide)]
    have r11_I_17 : I_17 1 11 = Ia 1 11 := by rw [eI_17, up2_off _ _ _ (by decide)]
    have rf_I_17 : FU (I_17 1 5) = FU (Ia 1 5) := by rw [r5_I_17]
    refine ww_aload_n hX (pc := 20) dX10_law_20 rfl ?_
    refine ww_bipush hX (pc := 21) (x := (-5)) dX10_law_21 (by decide) ?_
    refine vI1 hX (pc := 23) sX10_89 (xs_0 hL) (c_X10_refuse l0 hL cI_17 (by omega) (by omega)) (by decide) (by omega) (by omega) (Nat.le_of_ble_eq_true rfl) dX10_law_23 (fun x_23 I_23 J_23 h_23 => ?_)
    have kI_23 : Kp 0 49 Ia I_23 := Kp_tr kI_17 (Kp_wd h_23.1 (by decide) (by decide))
    have kJ_23 : Kp 0 49 Ja J_23 := Kp_tr (Kp_rf (a := 0) (b := 49)) (Kp_wd h_23.2.1 (by decide) (by decide))
    have cI_23 : CX I_23 := h_23.2.2.1
    have qI_23 := XI_o cI_23.1
    exact ww_iret hX (pc := 26) hT (by omega) (by omega) dX10_law_26 ⟨_, rfl, CI_low hCI kI_23 cI_23, fun k h1 h2 => ⟨kI_23 k (by omega), kJ_23 k (by omega), rfl⟩, SX_rf, by omega, by omega, rfl⟩
set_option maxHeartbeats 4000000 in
set_option maxRecDepth 20000 in
theorem c2_X11_image (l0 : Launch) {Ia Ja : aI1} {Ra : aR1} {Sa : aS1} (hL : LY Ra Sa) (hQ : RX Ia) {a : Int} (ha0 : -2147483648 ≤ a) (ha1 : a < 2147483648)  : CT l0 2 0 0 mX11_image [kR (some 49), kI a] Ia Ja Ra Sa (cI (fun x I' J' => Ch [50, 52, 53] [0, 1] Ia I' ∧ Kp 49 73 Ja J' ∧ RX I' ∧ ((0 ≤ a ∧ a < 2) → x = 0) ∧ (¬ (0 ≤ a ∧ a < 2) → x = -1) ∧ ((0 ≤ a ∧ a < 2) → I' 53 = up1 (Ia 53) a.toNat 1) ∧ (¬ (0 ≤ a ∧ a < 2) → I' 53 = Ia 53)) Ra Sa) := by
  refine ct_in pn_X11 (Nat.le_of_ble_eq_true rfl) (fun X hX hT hIn => ?_)
  have hX : aK l0 X cX11_image 3 RX11 (some .int) 2 0 0 := hX
  change WW X 0 [some (kR (some 49)), some (kI a), none] [] Ia Ja Ra Sa 0 0
  have qIa := RX_o hQ
  refine ww_iload_n hX (pc := 0) dX11_image_0 rfl ?_
  refine ww_iconst hX (pc := 1) (x := 0) dX11_image_1 rfl ?_
  refine ww_iconst hX (pc := 2) (x := 1) dX11_image_2 rfl ?_
  refine sI3 hX (pc := 3) sX11_101 (c_X11_lies l0 (by omega) (by omega) (by omega) (by omega) (by omega) (by omega)) (by decide) (Nat.le_refl 0) (Nat.le_refl 0) (Nat.le_of_ble_eq_true rfl) dX11_image_3 (fun x_3 I_3 J_3 h_3 => ?_)
  obtain ⟨rfl, rfl, h_3⟩ := h_3
  refine ww_if_ne hX (pc := 6) (tgt := 15) dX11_image_6 (by decide) (fun h_6 => ?_) (fun h_6 => ?_)
  · simp only [w32_mod] at h_6
    refine ww_iconst hX (pc := 15) (x := 0) dX11_image_15 rfl ?_
    refine ww_istore_n hX (pc := 16) (lv' := [some (kR (some 49)), some (kI a), some (kI 0)]) dX11_image_16 (by decide) rfl rfl ?_
    have hl_17 : ∀ (n_17 : Nat) (i : Int) (I17 : aI1), (5117 - i).toNat = n_17 → (Ch [50, 52, 53] [0, 1] Ia I17 ∧ (0 ≤ i ∧ i ≤ 5117) ∧ I17 = imgR Ia a i) → WW X 17 [some (kR (some 49)), some (kI a), some (kI i)] [] I17 Ja Ra Sa 0 0 := by
      intro n_17
      induction n_17 using Nat.strongRecOn with
      | ind n_17 ih_17 =>
        intro i I17 hm_17 hv_17
        obtain ⟨kI17, hv, eI17⟩ := hv_17
        refine ww_iload_n hX (pc := 17) dX11_image_17 rfl ?_
        refine ww_sipush hX (pc := 18) (x := 5117) dX11_image_18 (by decide) ?_
        refine ww_icmp_ge hX (pc := 21) (tgt := 48) dX11_image_21 (by decide) (fun h_21 => ?_) (fun h_21 => ?_)
        · simp only [w32_mod] at h_21
          refine ww_aload_n hX (pc := 48) dX11_image_48 rfl ?_
          refine ww_getR hX (pc := 49) fX11_26 (by decide) (xs_49 hL) (xr_49_5 hL) dX11_image_49 ?_
          refine ww_iload_n hX (pc := 52) dX11_image_52 rfl ?_
          refine ww_iconst hX (pc := 53) (x := 1) dX11_image_53 rfl ?_
          refine ww_zast hX (pc := 54) (xs_53 hL) (by decide) (by omega) (by omega) (by decide) dX11_image_54 ?_
          refine ww_nmH (fun I_54 eI_54 => ?_)
          have kI_54 : Ch [50, 52, 53] [0, 1] Ia I_54 := by rw [eI_54]; exact Ch_r kI17 (by decide) (by decide)
          have cI_54 : RX I_54 := by rw [eI_54, eI17, show i = 5117 by omega]; exact RX_img hQ (by omega) (by omega)
          refine ww_aload_n hX (pc := 55) dX11_image_55 rfl ?_
          refine ww_iconst hX (pc := 56) (x := 0) dX11_image_56 rfl ?_
          refine vI1 hX (pc := 57) sX11_109 (xs_49 hL) (c_X11_good l0 hL cI_54 ) (by decide) (Nat.le_refl 0) (Nat.le_refl 0) (Nat.le_of_ble_eq_true rfl) dX11_image_57 (fun x_57 I_57 J_57 h_57 => ?_)
          have kJ_57 : Kp 49 73 Ja J_57 := Kp_tr (Kp_rf (a := 49) (b := 73)) h_57.2.1
          have kI_57 : Ch [50, 52, 53] [0, 1] Ia I_57 := Ch_tr kI_54 (Ch_wd h_57.1 (by decide) (by decide))
          have cI_57 : RX I_57 := h_57.2.2.1
          have qI_57 := RX_o cI_57
          refine rI hX (pc := 60) hT (Nat.le_refl 0) (Nat.le_refl 0) dX11_image_60 ?_
          exact ⟨kI_57, kJ_57, cI_57, (by omega), (by omega), (fun _ => by rw [h_57.1.1 53 (by decide) (by decide), eI_54, up2_row, eI17]; unfold imgR; rw [upR_n _ _ (by decide)]), (fun h9 => absurd (by omega) h9)⟩
        · simp only [w32_mod] at h_21
          refine ww_aload_n hX (pc := 24) dX11_image_24 rfl ?_
          refine ww_getR hX (pc := 25) fX11_23 (by decide) (xs_49 hL) (xr_49_4 hL) dX11_image_25 ?_
          refine ww_sipush hX (pc := 28) (x := 5117) dX11_image_28 (by decide) ?_
          refine ww_iload_n hX (pc := 31) dX11_image_31 rfl ?_
          refine ww_imul hX (pc := 32) dX11_image_32 ?_
          refine ww_iload_n hX (pc := 33) dX11_image_33 rfl ?_
          refine ww_iadd hX (pc := 34) dX11_image_34 ?_
          refine ww_aload_n hX (pc := 35) dX11_image_35 rfl ?_
          refine ww_getR hX (pc := 36) fX11_20 (by decide) (xs_49 hL) (xr_49_3 hL) dX11_image_36 ?_
          refine ww_iload_n hX (pc := 39) dX11_image_39 rfl ?_
          refine ww_iald hX (pc := 40) (xs_51 hL) (by decide) (by omega) (by omega) dX11_image_40 ?_
          refine ww_iast hX (pc := 41) (xs_52 hL) (by decide) (by omega) (by omega) dX11_image_41 ?_
          refine ww_nmH (fun I_41 eI_41 => ?_)
          have kI_41 : Ch [50, 52, 53] [0, 1] Ia I_41 := by rw [eI_41]; exact Ch_r kI17 (by decide) (by decide)
          refine ww_iinc hX (pc := 42) (lv' := [some (kR (some 49)), some (kI a), some (kI (i + 1))]) dX11_image_42 rfl (by decide) rfl rfl ?_
          refine ww_goto hX (pc := 45) (tgt := 17) dX11_image_45 (by decide) ?_
          exact ih_17 _ (by omega) (i + 1) I_41 rfl ⟨kI_41, ⟨by omega, by omega⟩, by rw [eI_41, eI17]; exact imgR_s _ (by omega) (by omega)⟩
    exact hl_17 _ 0 Ia rfl ⟨Ch_rf, ⟨by omega, by omega⟩, imgR_0 _ _⟩
  · simp only [w32_mod] at h_6
    refine ww_aload_n hX (pc := 9) dX11_image_9 rfl ?_
    refine ww_iconst hX (pc := 10) (x := (-1)) dX11_image_10 rfl ?_
    refine vI1 hX (pc := 11) sX11_105 (xs_49 hL) (c_X11_refuses l0 hL hQ (by omega) (by omega)) (by decide) (Nat.le_refl 0) (Nat.le_refl 0) (Nat.le_of_ble_eq_true rfl) dX11_image_11 (fun x_11 I_11 J_11 h_11 => ?_)
    have kJ_11 : Kp 49 73 Ja J_11 := Kp_tr (Kp_rf (a := 49) (b := 73)) h_11.2.1
    have kI_11 : Ch [50, 52, 53] [0, 1] Ia I_11 := Ch_tr Ch_rf (Ch_wd h_11.1 (by decide) (by decide))
    have cI_11 : RX I_11 := h_11.2.2.1
    have qI_11 := RX_o cI_11
    refine rI hX (pc := 14) hT (Nat.le_refl 0) (Nat.le_refl 0) dX11_image_14 ?_
    exact ⟨kI_11, kJ_11, cI_11, (by omega), (by omega), (fun h9 => absurd h9 (by omega)), (fun _ => h_11.1.1 53 (by decide) (by decide))⟩
set_option maxHeartbeats 4000000 in
set_option maxRecDepth 20000 in
theorem c2_X11_back (l0 : Launch) {Ia Ja : aI1} {Ra : aR1} {Sa : aS1} (hL : LY Ra Sa) (hQ : RX Ia) {a : Int} (ha0 : -2147483648 ≤ a) (ha1 : a < 2147483648)  : CT l0 2 0 0 mX11_back [kR (some 49), kI a] Ia Ja Ra Sa (cI (fun x I' J' => Ch [50, 51] [0, 1] Ia I' ∧ Kp 49 73 Ja J' ∧ RX I' ∧ (¬ (0 ≤ a ∧ a < 2) → x = -1) ∧ ((0 ≤ a ∧ a < 2) → (Ia 53 a.toNat = 0 → x = -2) ∧ (¬ Ia 53 a.toNat = 0 → x = 0))) Ra Sa) := by
  refine ct_in pn_X11 (Nat.le_of_ble_eq_true rfl) (fun X hX hT hIn => ?_)
  have hX : aK l0 X cX11_back 3 RX11 (some .int) 2 0 0 := hX
  change WW X 0 [some (kR (some 49)), some (kI a), none] [] Ia Ja Ra Sa 0 0
  have qIa := RX_o hQ
  refine ww_iload_n hX (pc := 0) dX11_back_0 rfl ?_
  refine ww_iconst hX (pc := 1) (x := 0) dX11_back_1 rfl ?_
  refine ww_iconst hX (pc := 2) (x := 1) dX11_back_2 rfl ?_
  refine sI3 hX (pc := 3) sX11_101 (c_X11_lies l0 (by omega) (by omega) (by omega) (by omega) (by omega) (by omega)) (by decide) (Nat.le_refl 0) (Nat.le_refl 0) (Nat.le_of_ble_eq_true rfl) dX11_back_3 (fun x_3 I_3 J_3 h_3 => ?_)
  obtain ⟨rfl, rfl, h_3⟩ := h_3
  refine ww_if_ne hX (pc := 6) (tgt := 15) dX11_back_6 (by decide) (fun h_6 => ?_) (fun h_6 => ?_)
  · simp only [w32_mod] at h_6
    refine ww_aload_n hX (pc := 15) dX11_back_15 rfl ?_
    refine ww_getR hX (pc := 16) fX11_26 (by decide) (xs_49 hL) (xr_49_5 hL) dX11_back_16 ?_
    refine ww_iload_n hX (pc := 19) dX11_back_19 rfl ?_
    have h53 : Ia 53 a.toNat = 0 ∨ Ia 53 a.toNat = 1 := (hQ.2.1 a.toNat (by omega)).imp id And.left
    refine ww_zald hX (pc := 20) (xs_53 hL) (by decide) (by omega) (by omega) dX11_back_20 ?_
    refine ww_if_ne hX (pc := 21) (tgt := 31) dX11_back_21 (by decide) (fun h_21 => ?_) (fun h_21 => ?_)
    · simp only [w32_mod] at h_21
      refine ww_iconst hX (pc := 31) (x := 0) dX11_back_31 rfl ?_
      refine ww_istore_n hX (pc := 32) (lv' := [some (kR (some 49)), some (kI a), some (kI 0)]) dX11_back_32 (by decide) rfl rfl ?_
      have hl_33 : ∀ (n_33 : Nat) (i : Int) (I33 : aI1), (5117 - i).toNat = n_33 → (Ch [50, 51] [0, 1] Ia I33 ∧ (0 ≤ i ∧ i ≤ 5117) ∧ I33 = backR Ia a i) → WW X 33 [some (kR (some 49)), some (kI a), some (kI i)] [] I33 Ja Ra Sa 0 0 := by
        intro n_33
        induction n_33 using Nat.strongRecOn with
        | ind n_33 ih_33 =>
          intro i I33 hm_33 hv_33
          obtain ⟨kI33, hv, eI33⟩ := hv_33
          refine ww_iload_n hX (pc := 33) dX11_back_33 rfl ?_
          refine ww_sipush hX (pc := 34) (x := 5117) dX11_back_34 (by decide) ?_
          refine ww_icmp_ge hX (pc := 37) (tgt := 64) dX11_back_37 (by decide) (fun h_37 => ?_) (fun h_37 => ?_)
          · simp only [w32_mod] at h_37
            have cI33 : RX I33 := by rw [eI33, show i = 5117 by omega]; exact RX_back hQ (by omega) (by omega) (by omega)
            refine ww_aload_n hX (pc := 64) dX11_back_64 rfl ?_
            refine ww_iconst hX (pc := 65) (x := 0) dX11_back_65 rfl ?_
            refine vI1 hX (pc := 66) sX11_109 (xs_49 hL) (c_X11_good l0 hL cI33 ) (by decide) (Nat.le_refl 0) (Nat.le_refl 0) (Nat.le_of_ble_eq_true rfl) dX11_back_66 (fun x_66 I_66 J_66 h_66 => ?_)
            have kJ_66 : Kp 49 73 Ja J_66 := Kp_tr (Kp_rf (a := 49) (b := 73)) h_66.2.1
            have kI_66 : Ch [50, 51] [0, 1] Ia I_66 := Ch_tr kI33 (Ch_wd h_66.1 (by decide) (by decide))
            have cI_66 : RX I_66 := h_66.2.2.1
            have qI_66 := RX_o cI_66
            refine rI hX (pc := 69) hT (Nat.le_refl 0) (Nat.le_refl 0) dX11_back_69 ?_
            exact ⟨kI_66, kJ_66, cI_66, (fun h9 => absurd (by omega) h9), (fun _ => ⟨fun h9 => absurd h9 (by omega), fun _ => h_66.2.2.2⟩)⟩
          · simp only [w32_mod] at h_37
            refine ww_aload_n hX (pc := 40) dX11_back_40 rfl ?_
            refine ww_getR hX (pc := 41) fX11_20 (by decide) (xs_49 hL) (xr_49_3 hL) dX11_back_41 ?_
            refine ww_iload_n hX (pc := 44) dX11_back_44 rfl ?_
            refine ww_aload_n hX (pc := 45) dX11_back_45 rfl ?_
            refine ww_getR hX (pc := 46) fX11_23 (by decide) (xs_49 hL) (xr_49_4 hL) dX11_back_46 ?_
            refine ww_sipush hX (pc := 49) (x := 5117) dX11_back_49 (by decide) ?_
            refine ww_iload_n hX (pc := 52) dX11_back_52 rfl ?_
            refine ww_imul hX (pc := 53) dX11_back_53 ?_
            refine ww_iload_n hX (pc := 54) dX11_back_54 rfl ?_
            refine ww_iadd hX (pc := 55) dX11_back_55 ?_
            refine ww_iald hX (pc := 56) (xs_52 hL) (by decide) (by omega) (by omega) dX11_back_56 ?_
            refine ww_iast hX (pc := 57) (xs_51 hL) (by decide) (by omega) (by omega) dX11_back_57 ?_
            refine ww_nmH (fun I_57 eI_57 => ?_)
            have kI_57 : Ch [50, 51] [0, 1] Ia I_57 := by rw [eI_57]; exact Ch_r kI33 (by decide) (by decide)
            refine ww_iinc hX (pc := 58) (lv' := [some (kR (some 49)), some (kI a), some (kI (i + 1))]) dX11_back_58 rfl (by decide) rfl rfl ?_
            refine ww_goto hX (pc := 61) (tgt := 33) dX11_back_61 (by decide) ?_
            exact ih_33 _ (by omega) (i + 1) I_57 rfl ⟨kI_57, ⟨by omega, by omega⟩, by rw [eI_57, eI33]; exact backR_s _ (by omega)⟩
      exact hl_33 _ 0 Ia rfl ⟨Ch_rf, ⟨by omega, by omega⟩, backR_0 _ _⟩
    · simp only [w32_mod] at h_21
      refine ww_aload_n hX (pc := 24) dX11_back_24 rfl ?_
      refine ww_bipush hX (pc := 25) (x := (-2)) dX11_back_25 (by decide) ?_
      refine vI1 hX (pc := 27) sX11_105 (xs_49 hL) (c_X11_refuses l0 hL hQ (by omega) (by omega)) (by decide) (Nat.le_refl 0) (Nat.le_refl 0) (Nat.le_of_ble_eq_true rfl) dX11_back_27 (fun x_27 I_27 J_27 h_27 => ?_)
      have kJ_27 : Kp 49 73 Ja J_27 := Kp_tr (Kp_rf (a := 49) (b := 73)) h_27.2.1
      have kI_27 : Ch [50, 51] [0, 1] Ia I_27 := Ch_tr Ch_rf (Ch_wd h_27.1 (by decide) (by decide))
      have cI_27 : RX I_27 := h_27.2.2.1
      have qI_27 := RX_o cI_27
      refine rI hX (pc := 30) hT (Nat.le_refl 0) (Nat.le_refl 0) dX11_back_30 ?_
      exact ⟨kI_27, kJ_27, cI_27, (fun h9 => absurd (by omega) h9), (fun _ => ⟨fun _ => h_27.2.2.2, fun h9 => absurd (by omega) h9⟩)⟩
  · simp only [w32_mod] at h_6
    refine ww_aload_n hX (pc := 9) dX11_back_9 rfl ?_
    refine ww_iconst hX (pc := 10) (x := (-1)) dX11_back_10 rfl ?_
    refine vI1 hX (pc := 11) sX11_105 (xs_49 hL) (c_X11_refuses l0 hL hQ (by omega) (by omega)) (by decide) (Nat.le_refl 0) (Nat.le_refl 0) (Nat.le_of_ble_eq_true rfl) dX11_back_11 (fun x_11 I_11 J_11 h_11 => ?_)
    have kJ_11 : Kp 49 73 Ja J_11 := Kp_tr (Kp_rf (a := 49) (b := 73)) h_11.2.1
    have kI_11 : Ch [50, 51] [0, 1] Ia I_11 := Ch_tr Ch_rf (Ch_wd h_11.1 (by decide) (by decide))
    have cI_11 : RX I_11 := h_11.2.2.1
    have qI_11 := RX_o cI_11
    refine rI hX (pc := 14) hT (Nat.le_refl 0) (Nat.le_refl 0) dX11_back_14 ?_
    exact ⟨kI_11, kJ_11, cI_11, (fun _ => h_11.2.2.2), (fun h9 => absurd h9 (by omega))⟩
set_option maxHeartbeats 4000000 in
set_option maxRecDepth 20000 in
theorem c2_X11_init (l0 : Launch) {Ia Ja : aI1} {Ra : aR1} (hR : ∀ q ∈ layR, q.1 < 49 → Ra q.1 q.2.1 = some q.2.2) (hI0 : ∀ j, Ia 49 j = 0)  : CT l0 1 23 27348 mX11_init [kR (some 49)] Ia Ja Ra (nS_X10 [(16, 0)] ++ [(17, 0)]) (dV (fun I' J' R' S' => LY R' S' ∧ RX I' ∧ (∀ k, k < 49 → I' k = Ia k ∧ J' k = Ja k ∧ R' k = Ra k) ∧ S'.length = 73 ∧ I' 53 = (fun _ => 0) ∧ I' 49 10 = 0 ∧ I' 51 304 = 3 ∧ I' 51 305 = 4)) := by
  refine ct_in pn_X11 (Nat.le_of_ble_eq_true rfl) (fun X hX hT hIn => ?_)
  have hX : aK l0 X cX11_init 2 RX11 none 1 23 27348 := hX
  change WW X 0 [some (kR (some 49)), none] [] Ia Ja Ra (nS_X10 [(16, 0)] ++ [(17, 0)]) 0 0
  refine ww_aload_n hX (pc := 0) dX11_init_0 rfl ?_
  refine ww_objInit hX (pc := 1) tb_1087 tb_27 tb_28 (by decide) (Nat.le_of_ble_eq_true rfl) dX11_init_1 ?_
  refine ww_aload_n hX (pc := 4) dX11_init_4 rfl ?_
  refine ww_bipush hX (pc := 5) (x := 7) dX11_init_5 (by decide) ?_
  refine ww_na_intz hX (pc := 7) (N := 7) (z := 50) rfl tb_103 rfl (by omega) (by omega) (by omega) dX11_init_7 ?_
  refine ww_putR hX (pc := 9) (fun _ => hIn rfl) gX11_7 (by decide) rfl dX11_init_9 ?_
  refine ww_aload_n hX (pc := 12) dX11_init_12 rfl ?_
  refine ww_sipush hX (pc := 13) (x := 5117) dX11_init_13 (by decide) ?_
  refine ww_na_intz hX (pc := 16) (N := 5117) (z := 51) rfl tb_103 rfl (by omega) (by omega) (by omega) dX11_init_16 ?_
  refine ww_putR hX (pc := 18) (fun _ => hIn rfl) gX11_20 (by decide) rfl dX11_init_18 ?_
  refine ww_aload_n hX (pc := 21) dX11_init_21 rfl ?_
  refine ww_sipush hX (pc := 22) (x := 10234) dX11_init_22 (by decide) ?_
  refine ww_na_intz hX (pc := 25) (N := 10234) (z := 52) rfl tb_103 rfl (by omega) (by omega) (by omega) dX11_init_25 ?_
  refine ww_putR hX (pc := 27) (fun _ => hIn rfl) gX11_23 (by decide) rfl dX11_init_27 ?_
  refine ww_aload_n hX (pc := 30) dX11_init_30 rfl ?_
  refine ww_iconst hX (pc := 31) (x := 2) dX11_init_31 rfl ?_
  refine ww_na_boolz hX (pc := 32) (N := 2) (z := 53) rfl tb_320 rfl (by omega) (by omega) (by omega) dX11_init_32 ?_
  refine ww_putR hX (pc := 34) (fun _ => hIn rfl) gX11_26 (by decide) rfl dX11_init_34 ?_
  refine ww_aload_n hX (pc := 37) dX11_init_37 rfl ?_
  refine ww_bipush hX (pc := 38) (x := 60) dX11_init_38 (by decide) ?_
  refine ww_na_bytez hX (pc := 40) (N := 60) (z := 54) rfl tb_681 rfl (by omega) (by omega) (by omega) dX11_init_40 ?_
  refine ww_dupR hX (pc := 42) dX11_init_42 ?_
  refine ww_iconst hX (pc := 43) (x := 0) dX11_init_43 rfl ?_
  refine ww_bipush hX (pc := 44) (x := 114) dX11_init_44 (by decide) ?_
  refine ww_bast hX (pc := 46) rfl (by decide) (by omega) (by omega) dX11_init_46 ?_
  refine ww_dupR hX (pc := 47) dX11_init_47 ?_
  refine ww_iconst hX (pc := 48) (x := 1) dX11_init_48 rfl ?_
  refine ww_bipush hX (pc := 49) (x := 101) dX11_init_49 (by decide) ?_
  refine ww_bast hX (pc := 51) rfl (by decide) (by omega) (by omega) dX11_init_51 ?_
  refine ww_dupR hX (pc := 52) dX11_init_52 ?_
  refine ww_iconst hX (pc := 53) (x := 2) dX11_init_53 rfl ?_
  refine ww_bipush hX (pc := 54) (x := 97) dX11_init_54 (by decide) ?_
  refine ww_bast hX (pc := 56) rfl (by decide) (by omega) (by omega) dX11_init_56 ?_
  refine ww_dupR hX (pc := 57) dX11_init_57 ?_
  refine ww_iconst hX (pc := 58) (x := 3) dX11_init_58 rfl ?_
  refine ww_bipush hX (pc := 59) (x := 100) dX11_init_59 (by decide) ?_
  refine ww_bast hX (pc := 61) rfl (by decide) (by omega) (by omega) dX11_init_61 ?_
  refine ww_dupR hX (pc := 62) dX11_init_62 ?_
  refine ww_iconst hX (pc := 63) (x := 4) dX11_init_63 rfl ?_
  refine ww_bipush hX (pc := 64) (x := 115) dX11_init_64 (by decide) ?_
  refine ww_bast hX (pc := 66) rfl (by decide) (by omega) (by omega) dX11_init_66 ?_
  refine ww_dupR hX (pc := 67) dX11_init_67 ?_
  refine ww_iconst hX (pc := 68) (x := 5) dX11_init_68 rfl ?_
  refine ww_bipush hX (pc := 69) (x := 32) dX11_init_69 (by decide) ?_
  refine ww_bast hX (pc := 71) rfl (by decide) (by omega) (by omega) dX11_init_71 ?_
  refine ww_dupR hX (pc := 72) dX11_init_72 ?_
  refine ww_bipush hX (pc := 73) (x := 6) dX11_init_73 (by decide) ?_
  refine ww_bipush hX (pc := 75) (x := 105) dX11_init_75 (by decide) ?_
  refine ww_bast hX (pc := 77) rfl (by decide) (by omega) (by omega) dX11_init_77 ?_
  refine ww_dupR hX (pc := 78) dX11_init_78 ?_
  refine ww_bipush hX (pc := 79) (x := 7) dX11_init_79 (by decide) ?_
  refine ww_bipush hX (pc := 81) (x := 102) dX11_init_81 (by decide) ?_
  refine ww_bast hX (pc := 83) rfl (by decide) (by omega) (by omega) dX11_init_83 ?_
  refine ww_dupR hX (pc := 84) dX11_init_84 ?_
  refine ww_bipush hX (pc := 85) (x := 8) dX11_init_85 (by decide) ?_
  refine ww_bipush hX (pc := 87) (x := 32) dX11_init_87 (by decide) ?_
  refine ww_bast hX (pc := 89) rfl (by decide) (by omega) (by omega) dX11_init_89 ?_
  refine ww_dupR hX (pc := 90) dX11_init_90 ?_
  refine ww_bipush hX (pc := 91) (x := 9) dX11_init_91 (by decide) ?_
  refine ww_bipush hX (pc := 93) (x := 111) dX11_init_93 (by decide) ?_
  refine ww_bast hX (pc := 95) rfl (by decide) (by omega) (by omega) dX11_init_95 ?_
  refine ww_dupR hX (pc := 96) dX11_init_96 ?_
  refine ww_bipush hX (pc := 97) (x := 10) dX11_init_97 (by decide) ?_
  refine ww_bipush hX (pc := 99) (x := 114) dX11_init_99 (by decide) ?_
  refine ww_bast hX (pc := 101) rfl (by decide) (by omega) (by omega) dX11_init_101 ?_
  refine ww_dupR hX (pc := 102) dX11_init_102 ?_
  refine ww_bipush hX (pc := 103) (x := 11) dX11_init_103 (by decide) ?_
  refine ww_bipush hX (pc := 105) (x := 32) dX11_init_105 (by decide) ?_
  refine ww_bast hX (pc := 107) rfl (by decide) (by omega) (by omega) dX11_init_107 ?_
  refine ww_dupR hX (pc := 108) dX11_init_108 ?_
  refine ww_bipush hX (pc := 109) (x := 12) dX11_init_109 (by decide) ?_
  refine ww_bipush hX (pc := 111) (x := 97) dX11_init_111 (by decide) ?_
  refine ww_bast hX (pc := 113) rfl (by decide) (by omega) (by omega) dX11_init_113 ?_
  refine ww_dupR hX (pc := 114) dX11_init_114 ?_
  refine ww_bipush hX (pc := 115) (x := 13) dX11_init_115 (by decide) ?_
  refine ww_bipush hX (pc := 117) (x := 110) dX11_init_117 (by decide) ?_
  refine ww_bast hX (pc := 119) rfl (by decide) (by omega) (by omega) dX11_init_119 ?_
  refine ww_dupR hX (pc := 120) dX11_init_120 ?_
  refine ww_bipush hX (pc := 121) (x := 14) dX11_init_121 (by decide) ?_
  refine ww_bipush hX (pc := 123) (x := 100) dX11_init_123 (by decide) ?_
  refine ww_bast hX (pc := 125) rfl (by decide) (by omega) (by omega) dX11_init_125 ?_
  refine ww_dupR hX (pc := 126) dX11_init_126 ?_
  refine ww_bipush hX (pc := 127) (x := 15) dX11_init_127 (by decide) ?_
  refine ww_bipush hX (pc := 129) (x := 32) dX11_init_129 (by decide) ?_
  refine ww_bast hX (pc := 131) rfl (by decide) (by omega) (by omega) dX11_init_131 ?_
  refine ww_dupR hX (pc := 132) dX11_init_132 ?_
  refine ww_bipush hX (pc := 133) (x := 16) dX11_init_133 (by decide) ?_
  refine ww_bipush hX (pc := 135) (x := 110) dX11_init_135 (by decide) ?_
  refine ww_bast hX (pc := 137) rfl (by decide) (by omega) (by omega) dX11_init_137 ?_
  refine ww_dupR hX (pc := 138) dX11_init_138 ?_
  refine ww_bipush hX (pc := 139) (x := 17) dX11_init_139 (by decide) ?_
  refine ww_bipush hX (pc := 141) (x := 111) dX11_init_141 (by decide) ?_
  refine ww_bast hX (pc := 143) rfl (by decide) (by omega) (by omega) dX11_init_143 ?_
  refine ww_dupR hX (pc := 144) dX11_init_144 ?_
  refine ww_bipush hX (pc := 145) (x := 18) dX11_init_145 (by decide) ?_
  refine ww_bipush hX (pc := 147) (x := 116) dX11_init_147 (by decide) ?_
  refine ww_bast hX (pc := 149) rfl (by decide) (by omega) (by omega) dX11_init_149 ?_
  refine ww_dupR hX (pc := 150) dX11_init_150 ?_
  refine ww_bipush hX (pc := 151) (x := 19) dX11_init_151 (by decide) ?_
  refine ww_bipush hX (pc := 153) (x := 32) dX11_init_153 (by decide) ?_
  refine ww_bast hX (pc := 155) rfl (by decide) (by omega) (by omega) dX11_init_155 ?_
  refine ww_dupR hX (pc := 156) dX11_init_156 ?_
  refine ww_bipush hX (pc := 157) (x := 20) dX11_init_157 (by decide) ?_
  refine ww_bipush hX (pc := 159) (x := 115) dX11_init_159 (by decide) ?_
  refine ww_bast hX (pc := 161) rfl (by decide) (by omega) (by omega) dX11_init_161 ?_
  refine ww_dupR hX (pc := 162) dX11_init_162 ?_
  refine ww_bipush hX (pc := 163) (x := 21) dX11_init_163 (by decide) ?_
  refine ww_bipush hX (pc := 165) (x := 116) dX11_init_165 (by decide) ?_
  refine ww_bast hX (pc := 167) rfl (by decide) (by omega) (by omega) dX11_init_167 ?_
  refine ww_dupR hX (pc := 168) dX11_init_168 ?_
  refine ww_bipush hX (pc := 169) (x := 22) dX11_init_169 (by decide) ?_
  refine ww_bipush hX (pc := 171) (x := 97) dX11_init_171 (by decide) ?_
  refine ww_bast hX (pc := 173) rfl (by decide) (by omega) (by omega) dX11_init_173 ?_
  refine ww_dupR hX (pc := 174) dX11_init_174 ?_
  refine ww_bipush hX (pc := 175) (x := 23) dX11_init_175 (by decide) ?_
  refine ww_bipush hX (pc := 177) (x := 116) dX11_init_177 (by decide) ?_
  refine ww_bast hX (pc := 179) rfl (by decide) (by omega) (by omega) dX11_init_179 ?_
  refine ww_dupR hX (pc := 180) dX11_init_180 ?_
  refine ww_bipush hX (pc := 181) (x := 24) dX11_init_181 (by decide) ?_
  refine ww_bipush hX (pc := 183) (x := 101) dX11_init_183 (by decide) ?_
  refine ww_bast hX (pc := 185) rfl (by decide) (by omega) (by omega) dX11_init_185 ?_
  refine ww_dupR hX (pc := 186) dX11_init_186 ?_
  refine ww_bipush hX (pc := 187) (x := 25) dX11_init_187 (by decide) ?_
  refine ww_bipush hX (pc := 189) (x := 32) dX11_init_189 (by decide) ?_
  refine ww_bast hX (pc := 191) rfl (by decide) (by omega) (by omega) dX11_init_191 ?_
  refine ww_dupR hX (pc := 192) dX11_init_192 ?_
  refine ww_bipush hX (pc := 193) (x := 26) dX11_init_193 (by decide) ?_
  refine ww_bipush hX (pc := 195) (x := 108) dX11_init_195 (by decide) ?_
  refine ww_bast hX (pc := 197) rfl (by decide) (by omega) (by omega) dX11_init_197 ?_
  refine ww_dupR hX (pc := 198) dX11_init_198 ?_
  refine ww_bipush hX (pc := 199) (x := 27) dX11_init_199 (by decide) ?_
  refine ww_bipush hX (pc := 201) (x := 105) dX11_init_201 (by decide) ?_
  refine ww_bast hX (pc := 203) rfl (by decide) (by omega) (by omega) dX11_init_203 ?_
  refine ww_dupR hX (pc := 204) dX11_init_204 ?_
  refine ww_bipush hX (pc := 205) (x := 28) dX11_init_205 (by decide) ?_
  refine ww_bipush hX (pc := 207) (x := 116) dX11_init_207 (by decide) ?_
  refine ww_bast hX (pc := 209) rfl (by decide) (by omega) (by omega) dX11_init_209 ?_
  refine ww_dupR hX (pc := 210) dX11_init_210 ?_
  refine ww_bipush hX (pc := 211) (x := 29) dX11_init_211 (by decide) ?_
  refine ww_bipush hX (pc := 213) (x := 32) dX11_init_213 (by decide) ?_
  refine ww_bast hX (pc := 215) rfl (by decide) (by omega) (by omega) dX11_init_215 ?_
  refine ww_dupR hX (pc := 216) dX11_init_216 ?_
  refine ww_bipush hX (pc := 217) (x := 30) dX11_init_217 (by decide) ?_
  refine ww_bipush hX (pc := 219) (x := 115) dX11_init_219 (by decide) ?_
  refine ww_bast hX (pc := 221) rfl (by decide) (by omega) (by omega) dX11_init_221 ?_
  refine ww_dupR hX (pc := 222) dX11_init_222 ?_
  refine ww_bipush hX (pc := 223) (x := 31) dX11_init_223 (by decide) ?_
  refine ww_bipush hX (pc := 225) (x := 117) dX11_init_225 (by decide) ?_
  refine ww_bast hX (pc := 227) rfl (by decide) (by omega) (by omega) dX11_init_227 ?_
  refine ww_dupR hX (pc := 228) dX11_init_228 ?_
  refine ww_bipush hX (pc := 229) (x := 32) dX11_init_229 (by decide) ?_
  refine ww_bipush hX (pc := 231) (x := 109) dX11_init_231 (by decide) ?_
  refine ww_bast hX (pc := 233) rfl (by decide) (by omega) (by omega) dX11_init_233 ?_
  refine ww_dupR hX (pc := 234) dX11_init_234 ?_
  refine ww_bipush hX (pc := 235) (x := 33) dX11_init_235 (by decide) ?_
  refine ww_bipush hX (pc := 237) (x := 32) dX11_init_237 (by decide) ?_
  refine ww_bast hX (pc := 239) rfl (by decide) (by omega) (by omega) dX11_init_239 ?_
  refine ww_dupR hX (pc := 240) dX11_init_240 ?_
  refine ww_bipush hX (pc := 241) (x := 34) dX11_init_241 (by decide) ?_
  refine ww_bipush hX (pc := 243) (x := 109) dX11_init_243 (by decide) ?_
  refine ww_bast hX (pc := 245) rfl (by decide) (by omega) (by omega) dX11_init_245 ?_
  refine ww_dupR hX (pc := 246) dX11_init_246 ?_
  refine ww_bipush hX (pc := 247) (x := 35) dX11_init_247 (by decide) ?_
  refine ww_bipush hX (pc := 249) (x := 105) dX11_init_249 (by decide) ?_
  refine ww_bast hX (pc := 251) rfl (by decide) (by omega) (by omega) dX11_init_251 ?_
  refine ww_dupR hX (pc := 252) dX11_init_252 ?_
  refine ww_bipush hX (pc := 253) (x := 36) dX11_init_253 (by decide) ?_
  refine ww_bipush hX (pc := 255) (x := 120) dX11_init_255 (by decide) ?_
  refine ww_bast hX (pc := 257) rfl (by decide) (by omega) (by omega) dX11_init_257 ?_
  refine ww_dupR hX (pc := 258) dX11_init_258 ?_
  refine ww_bipush hX (pc := 259) (x := 37) dX11_init_259 (by decide) ?_
  refine ww_bipush hX (pc := 261) (x := 32) dX11_init_261 (by decide) ?_
  refine ww_bast hX (pc := 263) rfl (by decide) (by omega) (by omega) dX11_init_263 ?_
  refine ww_dupR hX (pc := 264) dX11_init_264 ?_
  refine ww_bipush hX (pc := 265) (x := 38) dX11_init_265 (by decide) ?_
  refine ww_bipush hX (pc := 267) (x := 102) dX11_init_267 (by decide) ?_
  refine ww_bast hX (pc := 269) rfl (by decide) (by omega) (by omega) dX11_init_269 ?_
  refine ww_dupR hX (pc := 270) dX11_init_270 ?_
  refine ww_bipush hX (pc := 271) (x := 39) dX11_init_271 (by decide) ?_
  refine ww_bipush hX (pc := 273) (x := 105) dX11_init_273 (by decide) ?_
  refine ww_bast hX (pc := 275) rfl (by decide) (by omega) (by omega) dX11_init_275 ?_
  refine ww_dupR hX (pc := 276) dX11_init_276 ?_
  refine ww_bipush hX (pc := 277) (x := 40) dX11_init_277 (by decide) ?_
  refine ww_bipush hX (pc := 279) (x := 114) dX11_init_279 (by decide) ?_
  refine ww_bast hX (pc := 281) rfl (by decide) (by omega) (by omega) dX11_init_281 ?_
  refine ww_dupR hX (pc := 282) dX11_init_282 ?_
  refine ww_bipush hX (pc := 283) (x := 41) dX11_init_283 (by decide) ?_
  refine ww_bipush hX (pc := 285) (x := 115) dX11_init_285 (by decide) ?_
  refine ww_bast hX (pc := 287) rfl (by decide) (by omega) (by omega) dX11_init_287 ?_
  refine ww_dupR hX (pc := 288) dX11_init_288 ?_
  refine ww_bipush hX (pc := 289) (x := 42) dX11_init_289 (by decide) ?_
  refine ww_bipush hX (pc := 291) (x := 116) dX11_init_291 (by decide) ?_
  refine ww_bast hX (pc := 293) rfl (by decide) (by omega) (by omega) dX11_init_293 ?_
  refine ww_dupR hX (pc := 294) dX11_init_294 ?_
  refine ww_bipush hX (pc := 295) (x := 43) dX11_init_295 (by decide) ?_
  refine ww_bipush hX (pc := 297) (x := 32) dX11_init_297 (by decide) ?_
  refine ww_bast hX (pc := 299) rfl (by decide) (by omega) (by omega) dX11_init_299 ?_
  refine ww_dupR hX (pc := 300) dX11_init_300 ?_
  refine ww_bipush hX (pc := 301) (x := 44) dX11_init_301 (by decide) ?_
  refine ww_bipush hX (pc := 303) (x := 108) dX11_init_303 (by decide) ?_
  refine ww_bast hX (pc := 305) rfl (by decide) (by omega) (by omega) dX11_init_305 ?_
  refine ww_dupR hX (pc := 306) dX11_init_306 ?_
  refine ww_bipush hX (pc := 307) (x := 45) dX11_init_307 (by decide) ?_
  refine ww_bipush hX (pc := 309) (x := 97) dX11_init_309 (by decide) ?_
  refine ww_bast hX (pc := 311) rfl (by decide) (by omega) (by omega) dX11_init_311 ?_
  refine ww_dupR hX (pc := 312) dX11_init_312 ?_
  refine ww_bipush hX (pc := 313) (x := 46) dX11_init_313 (by decide) ?_
  refine ww_bipush hX (pc := 315) (x := 115) dX11_init_315 (by decide) ?_
  refine ww_bast hX (pc := 317) rfl (by decide) (by omega) (by omega) dX11_init_317 ?_
  refine ww_dupR hX (pc := 318) dX11_init_318 ?_
  refine ww_bipush hX (pc := 319) (x := 47) dX11_init_319 (by decide) ?_
  refine ww_bipush hX (pc := 321) (x := 116) dX11_init_321 (by decide) ?_
  refine ww_bast hX (pc := 323) rfl (by decide) (by omega) (by omega) dX11_init_323 ?_
  refine ww_dupR hX (pc := 324) dX11_init_324 ?_
  refine ww_bipush hX (pc := 325) (x := 48) dX11_init_325 (by decide) ?_
  refine ww_bipush hX (pc := 327) (x := 32) dX11_init_327 (by decide) ?_
  refine ww_bast hX (pc := 329) rfl (by decide) (by omega) (by omega) dX11_init_329 ?_
  refine ww_dupR hX (pc := 330) dX11_init_330 ?_
  refine ww_bipush hX (pc := 331) (x := 49) dX11_init_331 (by decide) ?_
  refine ww_bipush hX (pc := 333) (x := 108) dX11_init_333 (by decide) ?_
  refine ww_bast hX (pc := 335) rfl (by decide) (by omega) (by omega) dX11_init_335 ?_
  refine ww_dupR hX (pc := 336) dX11_init_336 ?_
  refine ww_bipush hX (pc := 337) (x := 50) dX11_init_337 (by decide) ?_
  refine ww_bipush hX (pc := 339) (x := 97) dX11_init_339 (by decide) ?_
  refine ww_bast hX (pc := 341) rfl (by decide) (by omega) (by omega) dX11_init_341 ?_
  refine ww_dupR hX (pc := 342) dX11_init_342 ?_
  refine ww_bipush hX (pc := 343) (x := 51) dX11_init_343 (by decide) ?_
  refine ww_bipush hX (pc := 345) (x := 109) dX11_init_345 (by decide) ?_
  refine ww_bast hX (pc := 347) rfl (by decide) (by omega) (by omega) dX11_init_347 ?_
  refine ww_dupR hX (pc := 348) dX11_init_348 ?_
  refine ww_bipush hX (pc := 349) (x := 52) dX11_init_349 (by decide) ?_
  refine ww_bipush hX (pc := 351) (x := 112) dX11_init_351 (by decide) ?_
  refine ww_bast hX (pc := 353) rfl (by decide) (by omega) (by omega) dX11_init_353 ?_
  refine ww_dupR hX (pc := 354) dX11_init_354 ?_
  refine ww_bipush hX (pc := 355) (x := 53) dX11_init_355 (by decide) ?_
  refine ww_bipush hX (pc := 357) (x := 115) dX11_init_357 (by decide) ?_
  refine ww_bast hX (pc := 359) rfl (by decide) (by omega) (by omega) dX11_init_359 ?_
  refine ww_dupR hX (pc := 360) dX11_init_360 ?_
  refine ww_bipush hX (pc := 361) (x := 54) dX11_init_361 (by decide) ?_
  refine ww_bipush hX (pc := 363) (x := 32) dX11_init_363 (by decide) ?_
  refine ww_bast hX (pc := 365) rfl (by decide) (by omega) (by omega) dX11_init_365 ?_
  refine ww_dupR hX (pc := 366) dX11_init_366 ?_
  refine ww_bipush hX (pc := 367) (x := 55) dX11_init_367 (by decide) ?_
  refine ww_bipush hX (pc := 369) (x := 110) dX11_init_369 (by decide) ?_
  refine ww_bast hX (pc := 371) rfl (by decide) (by omega) (by omega) dX11_init_371 ?_
  refine ww_dupR hX (pc := 372) dX11_init_372 ?_
  refine ww_bipush hX (pc := 373) (x := 56) dX11_init_373 (by decide) ?_
  refine ww_bipush hX (pc := 375) (x := 101) dX11_init_375 (by decide) ?_
  refine ww_bast hX (pc := 377) rfl (by decide) (by omega) (by omega) dX11_init_377 ?_
  refine ww_dupR hX (pc := 378) dX11_init_378 ?_
  refine ww_bipush hX (pc := 379) (x := 57) dX11_init_379 (by decide) ?_
  refine ww_bipush hX (pc := 381) (x := 119) dX11_init_381 (by decide) ?_
  refine ww_bast hX (pc := 383) rfl (by decide) (by omega) (by omega) dX11_init_383 ?_
  refine ww_dupR hX (pc := 384) dX11_init_384 ?_
  refine ww_bipush hX (pc := 385) (x := 58) dX11_init_385 (by decide) ?_
  refine ww_bipush hX (pc := 387) (x := 115) dX11_init_387 (by decide) ?_
  refine ww_bast hX (pc := 389) rfl (by decide) (by omega) (by omega) dX11_init_389 ?_
  refine ww_dupR hX (pc := 390) dX11_init_390 ?_
  refine ww_bipush hX (pc := 391) (x := 59) dX11_init_391 (by decide) ?_
  refine ww_bipush hX (pc := 393) (x := 32) dX11_init_393 (by decide) ?_
  refine ww_bast hX (pc := 395) rfl (by decide) (by omega) (by omega) dX11_init_395 ?_
  refine ww_putR hX (pc := 396) (fun _ => hIn rfl) gX11_30 (by decide) rfl dX11_init_396 ?_
  refine ww_aload_n hX (pc := 399) dX11_init_399 rfl ?_
  refine ww_sipush hX (pc := 400) (x := 400) dX11_init_400 (by decide) ?_
  refine ww_na_bytez hX (pc := 403) (N := 400) (z := 55) rfl tb_681 rfl (by omega) (by omega) (by omega) dX11_init_403 ?_
  refine ww_putR hX (pc := 405) (fun _ => hIn rfl) gX11_34 (by decide) rfl dX11_init_405 ?_
  refine ww_aload_n hX (pc := 408) dX11_init_408 rfl ?_
  refine ww_iconst hX (pc := 409) (x := 5) dX11_init_409 rfl ?_
  refine ww_na_intz hX (pc := 410) (N := 5) (z := 56) rfl tb_103 rfl (by omega) (by omega) (by omega) dX11_init_410 ?_
  refine ww_putR hX (pc := 412) (fun _ => hIn rfl) gX11_37 (by decide) rfl dX11_init_412 ?_
  refine ww_aload_n hX (pc := 415) dX11_init_415 rfl ?_
  refine ww_iconst hX (pc := 416) (x := (-1)) dX11_init_416 rfl ?_
  refine ww_putI hX (pc := 417) (fun h9 => absurd h9 (by decide)) gX11_40 rfl rfl dX11_init_417 ?_
  refine ww_aload_n hX (pc := 420) dX11_init_420 rfl ?_
  refine ww_sipush hX (pc := 421) (x := 401) dX11_init_421 (by decide) ?_
  refine ww_na_intz hX (pc := 424) (N := 401) (z := 57) rfl tb_103 rfl (by omega) (by omega) (by omega) dX11_init_424 ?_
  refine ww_putR hX (pc := 426) (fun _ => hIn rfl) gX11_43 (by decide) rfl dX11_init_426 ?_
  refine ww_aload_n hX (pc := 429) dX11_init_429 rfl ?_
  refine ww_sipush hX (pc := 430) (x := 401) dX11_init_430 (by decide) ?_
  refine ww_na_intz hX (pc := 433) (N := 401) (z := 58) rfl tb_103 rfl (by omega) (by omega) (by omega) dX11_init_433 ?_
  refine ww_putR hX (pc := 435) (fun _ => hIn rfl) gX11_46 (by decide) rfl dX11_init_435 ?_
  refine ww_aload_n hX (pc := 438) dX11_init_438 rfl ?_
  refine ww_sipush hX (pc := 439) (x := 401) dX11_init_439 (by decide) ?_
  refine ww_na_intz hX (pc := 442) (N := 401) (z := 59) rfl tb_103 rfl (by omega) (by omega) (by omega) dX11_init_442 ?_
  refine ww_putR hX (pc := 444) (fun _ => hIn rfl) gX11_49 (by decide) rfl dX11_init_444 ?_
  refine ww_aload_n hX (pc := 447) dX11_init_447 rfl ?_
  refine ww_bipush hX (pc := 448) (x := 8) dX11_init_448 (by decide) ?_
  refine ww_na_intz hX (pc := 450) (N := 8) (z := 60) rfl tb_103 rfl (by omega) (by omega) (by omega) dX11_init_450 ?_
  refine ww_putR hX (pc := 452) (fun _ => hIn rfl) gX11_52 (by decide) rfl dX11_init_452 ?_
  refine ww_aload_n hX (pc := 455) dX11_init_455 rfl ?_
  refine ww_sipush hX (pc := 456) (x := 256) dX11_init_456 (by decide) ?_
  refine ww_na_intz hX (pc := 459) (N := 256) (z := 61) rfl tb_103 rfl (by omega) (by omega) (by omega) dX11_init_459 ?_
  refine ww_putR hX (pc := 461) (fun _ => hIn rfl) gX11_55 (by decide) rfl dX11_init_461 ?_
  refine ww_aload_n hX (pc := 464) dX11_init_464 rfl ?_
  refine ww_sipush hX (pc := 465) (x := 256) dX11_init_465 (by decide) ?_
  refine ww_na_longz hX (pc := 468) (N := 256) (z := 62) rfl tb_177 rfl (by omega) (by omega) (by omega) dX11_init_468 ?_
  refine ww_putR hX (pc := 470) (fun _ => hIn rfl) gX11_58 (by decide) rfl dX11_init_470 ?_
  refine ww_aload_n hX (pc := 473) dX11_init_473 rfl ?_
  refine ww_iconst hX (pc := 474) (x := (-1)) dX11_init_474 rfl ?_
  refine ww_putI hX (pc := 475) (fun h9 => absurd h9 (by decide)) gX11_62 rfl rfl dX11_init_475 ?_
  refine ww_aload_n hX (pc := 478) dX11_init_478 rfl ?_
  refine ww_sipush hX (pc := 479) (x := 256) dX11_init_479 (by decide) ?_
  refine ww_na_boolz hX (pc := 482) (N := 256) (z := 63) rfl tb_320 rfl (by omega) (by omega) (by omega) dX11_init_482 ?_
  refine ww_putR hX (pc := 484) (fun _ => hIn rfl) gX11_65 (by decide) rfl dX11_init_484 ?_
  refine ww_aload_n hX (pc := 487) dX11_init_487 rfl ?_
  refine ww_bipush hX (pc := 488) (x := 10) dX11_init_488 (by decide) ?_
  refine ww_na_intz hX (pc := 490) (N := 10) (z := 64) rfl tb_103 rfl (by omega) (by omega) (by omega) dX11_init_490 ?_
  refine ww_putR hX (pc := 492) (fun _ => hIn rfl) gX11_68 (by decide) rfl dX11_init_492 ?_
  refine ww_aload_n hX (pc := 495) dX11_init_495 rfl ?_
  refine ww_sipush hX (pc := 496) (x := 256) dX11_init_496 (by decide) ?_
  refine ww_na_intz hX (pc := 499) (N := 256) (z := 65) rfl tb_103 rfl (by omega) (by omega) (by omega) dX11_init_499 ?_
  refine ww_putR hX (pc := 501) (fun _ => hIn rfl) gX11_71 (by decide) rfl dX11_init_501 ?_
  refine ww_aload_n hX (pc := 504) dX11_init_504 rfl ?_
  refine ww_bipush hX (pc := 505) (x := 8) dX11_init_505 (by decide) ?_
  refine ww_na_intz hX (pc := 507) (N := 8) (z := 66) rfl tb_103 rfl (by omega) (by omega) (by omega) dX11_init_507 ?_
  refine ww_putR hX (pc := 509) (fun _ => hIn rfl) gX11_74 (by decide) rfl dX11_init_509 ?_
  refine ww_aload_n hX (pc := 512) dX11_init_512 rfl ?_
  refine ww_bipush hX (pc := 513) (x := 30) dX11_init_513 (by decide) ?_
  refine ww_na_intz hX (pc := 515) (N := 30) (z := 67) rfl tb_103 rfl (by omega) (by omega) (by omega) dX11_init_515 ?_
  refine ww_putR hX (pc := 517) (fun _ => hIn rfl) gX11_77 (by decide) rfl dX11_init_517 ?_
  refine ww_aload_n hX (pc := 520) dX11_init_520 rfl ?_
  refine ww_sipush hX (pc := 521) (x := 256) dX11_init_521 (by decide) ?_
  refine ww_na_longz hX (pc := 524) (N := 256) (z := 68) rfl tb_177 rfl (by omega) (by omega) (by omega) dX11_init_524 ?_
  refine ww_putR hX (pc := 526) (fun _ => hIn rfl) gX11_80 (by decide) rfl dX11_init_526 ?_
  refine ww_aload_n hX (pc := 529) dX11_init_529 rfl ?_
  refine ww_sipush hX (pc := 530) (x := 256) dX11_init_530 (by decide) ?_
  refine ww_na_longz hX (pc := 533) (N := 256) (z := 69) rfl tb_177 rfl (by omega) (by omega) (by omega) dX11_init_533 ?_
  refine ww_putR hX (pc := 535) (fun _ => hIn rfl) gX11_83 (by decide) rfl dX11_init_535 ?_
  refine ww_aload_n hX (pc := 538) dX11_init_538 rfl ?_
  refine ww_sipush hX (pc := 539) (x := 4352) dX11_init_539 (by decide) ?_
  refine ww_na_intz hX (pc := 542) (N := 4352) (z := 70) rfl tb_103 rfl (by omega) (by omega) (by omega) dX11_init_542 ?_
  refine ww_putR hX (pc := 544) (fun _ => hIn rfl) gX11_86 (by decide) rfl dX11_init_544 ?_
  refine ww_aload_n hX (pc := 547) dX11_init_547 rfl ?_
  refine ww_sipush hX (pc := 548) (x := 4352) dX11_init_548 (by decide) ?_
  refine ww_na_intz hX (pc := 551) (N := 4352) (z := 71) rfl tb_103 rfl (by omega) (by omega) (by omega) dX11_init_551 ?_
  refine ww_putR hX (pc := 553) (fun _ => hIn rfl) gX11_89 (by decide) rfl dX11_init_553 ?_
  refine ww_aload_n hX (pc := 556) dX11_init_556 rfl ?_
  refine ww_bipush hX (pc := 557) (x := 24) dX11_init_557 (by decide) ?_
  refine ww_na_intz hX (pc := 559) (N := 24) (z := 72) rfl tb_103 rfl (by omega) (by omega) (by omega) dX11_init_559 ?_
  refine ww_putR hX (pc := 561) (fun _ => hIn rfl) gX11_92 (by decide) rfl dX11_init_561 ?_
  refine ww_aload_n hX (pc := 564) dX11_init_564 rfl ?_
  refine ww_iconst hX (pc := 565) (x := (-1)) dX11_init_565 rfl ?_
  refine ww_putI hX (pc := 566) (fun h9 => absurd h9 (by decide)) gX11_95 rfl rfl dX11_init_566 ?_
  refine ww_aload_n hX (pc := 569) dX11_init_569 rfl ?_
  refine ww_getR hX (pc := 570) fX11_20 (by decide) rfl rfl dX11_init_570 ?_
  refine ww_sipush hX (pc := 573) (x := 304) dX11_init_573 (by decide) ?_
  refine ww_iconst hX (pc := 576) (x := 3) dX11_init_576 rfl ?_
  refine ww_iast hX (pc := 577) rfl (by decide) (by omega) (by omega) dX11_init_577 ?_
  refine ww_aload_n hX (pc := 578) dX11_init_578 rfl ?_
  refine ww_getR hX (pc := 579) fX11_20 (by decide) rfl rfl dX11_init_579 ?_
  refine ww_sipush hX (pc := 582) (x := 305) dX11_init_582 (by decide) ?_
  refine ww_iconst hX (pc := 585) (x := 4) dX11_init_585 rfl ?_
  refine ww_iast hX (pc := 586) rfl (by decide) (by omega) (by omega) dX11_init_586 ?_
  refine ww_nmH (fun I0 e0 => ?_)
  refine ww_nmK (fun J0 f0 => ?_)
  refine ww_nmR (fun R0 g0 => ?_)
  refine ww_nmS (fun S0 k0 => ?_)
  refine ww_nmU (fun uc0 us0 hu0 hs0 => ?_)
  have kI0 : Kp 49 73 Ia I0 := by
    rw [e0]
    repeat (first | exact Kp_rf | refine Kp_up ?_ _ _ (by decide) | refine Kp_upR ?_ _ (by decide))
  have kJ0 : Kp 49 73 Ja J0 := by
    rw [f0]
    repeat (first | exact Kp_rf | refine Kp_up ?_ _ _ (by decide) | refine Kp_upR ?_ _ (by decide))
  have gR0 : ∀ k9, k9 ≠ 49 → R0 k9 = Ra k9 := fun k9 h9 => by
    rw [g0]
    simp only [up2, if_neg h9]
  have hln : S0.length = 73 := by
    rw [k0]
    rfl
  have hR2 : ∀ q ∈ layR2, R0 q.1 q.2.1 = some q.2.2 := by
    rw [g0]
    intro q9 h9
    have h8 : q9 ∈ [(49, 2, 50), (49, 3, 51), (49, 4, 52), (49, 5, 53), (49, 7, 54), (49, 8, 55), (49, 9, 56), (49, 12, 57), (49, 13, 58), (49, 14, 59), (49, 22, 60), (49, 23, 61), (49, 24, 62), (49, 26, 63), (49, 27, 64), (49, 29, 65), (49, 30, 66), (49, 32, 67), (49, 34, 68), (49, 35, 69), (49, 36, 70), (49, 37, 71), (49, 38, 72)] := h9
    simp only [List.mem_cons, List.not_mem_nil, or_false] at h8
    rcases h8 with rfl | rfl | rfl | rfl | rfl | rfl | rfl | rfl | rfl | rfl | rfl | rfl | rfl | rfl | rfl | rfl | rfl | rfl | rfl | rfl | rfl | rfl | rfl <;> rfl
  have hL : LY R0 S0 := by
    refine ⟨fun q9 h9 => ?_, ?_⟩
    · by_cases h8 : q9.1 < 49
      · rw [gR0 q9.1 (by omega)]; exact hR q9 h9 h8
      · exact hR2 q9 (layR_2 h9 h8)
    · rw [k0]; decide +kernel
  have z51 : I0 51 = up1 (up1 (fun _ => 0) (304 : Int).toNat 3) (305 : Int).toNat 4 := by
    rw [e0]
    rfl
  have z53 : I0 53 = fun _ => 0 := by
    rw [e0]
    rfl
  have z61 : I0 61 = fun _ => 0 := by
    rw [e0]
    rfl
  have z10 : I0 49 10 = 0 := by
    rw [e0]
    exact hI0 10
  have z33 : I0 49 33 = 0 := by
    rw [e0]
    exact hI0 33
  have z39 : I0 49 39 = -1 := by
    rw [e0]
    rfl
  have z54 : I0 54 59 = 32 := by
    rw [e0]
    show i_b 32 = 32
    decide
  have cI0 := RX_0 z51 z53 z61 z10 z33 z39 z54
  have qI0 := RX_o cI0
  clear e0 f0 g0 k0
  refine ww_iconst hX (pc := 587) (x := 0) dX11_init_587 rfl ?_
  refine ww_istore_n hX (pc := 588) (lv' := [some (kR (some 49)), some (kI 0)]) dX11_init_588 (by decide) rfl rfl ?_
  have hl_589 : ∀ (n_589 : Nat) (i : Int) (I589 : aI1) (J589 : aI1), (8 - i).toNat = n_589 → (Ch [51] [] I0 I589 ∧ RX I589 ∧ Kp 49 73 J0 J589 ∧ I589 51 304 = I0 51 304 ∧ I589 51 305 = I0 51 305 ∧ (0 ≤ i ∧ i ≤ 8)) → WW X 589 [some (kR (some 49)), some (kI i)] [] I589 J589 R0 S0 uc0 us0 := by
    intro n_589
    induction n_589 using Nat.strongRecOn with
    | ind n_589 ih_589 =>
      intro i I589 J589 hm_589 hv_589
      obtain ⟨kI589, cI589, kJ589, r304_I589, r305_I589, hv⟩ := hv_589
      have qI589 := RX_o cI589
      have rf_I589 : FU (I589 51 304) = FU (I0 51 304) := by rw [r304_I589]
      refine ww_iload_n hX (pc := 589) dX11_init_589 rfl ?_
      refine ww_bipush hX (pc := 590) (x := 8) dX11_init_590 (by decide) ?_
      refine ww_icmp_ge hX (pc := 592) (tgt := 612) dX11_init_592 (by decide) (fun h_592 => ?_) (fun h_592 => ?_)
      · simp only [w32_mod] at h_592
        refine ww_aload_n hX (pc := 612) dX11_init_612 rfl ?_
        refine vV0 hX (pc := 613) sX11_98 (xs_49 hL) (c_X11_empties l0 hL cI589 ) (by decide) (by omega) (by omega) (Nat.le_of_ble_eq_true rfl) dX11_init_613 (fun I_613 J_613 h_613 => ?_)
        have kJ_613 : Kp 49 73 J0 J_613 := Kp_tr kJ589 h_613.2.1
        have kI_613 : Ch [51] [] I0 I_613 := Ch_tr kI589 (Ch_wd h_613.1 (by decide) (by decide))
        have cI_613 : RX I_613 := h_613.2.2.1
        have qI_613 := RX_o cI_613
        exact ww_vret hX (pc := 616) hT (by omega) (by omega) dX11_init_616 ⟨rfl, hL, cI_613, fun k9 h9 => ⟨(kI_613.1 k9 (by omega) (fun q9 => by simp only [List.mem_singleton] at q9; omega)).trans (kI0 k9 (by omega)), (kJ_613 k9 (by omega)).trans (kJ0 k9 (by omega)), gR0 k9 (by omega)⟩, hln, (kI_613.1 53 (by decide) (by decide)).trans z53, (kI_613.2 10 (by decide)).trans z10, (by rw [h_613.2.2.2.1, r304_I589, z51]; rfl), (by rw [h_613.2.2.2.2, r305_I589, z51]; rfl)⟩
      · simp only [w32_mod] at h_592
        refine ww_aload_n hX (pc := 595) dX11_init_595 rfl ?_
        refine ww_getR hX (pc := 596) fX11_20 (by decide) (xs_49 hL) (xr_49_3 hL) dX11_init_596 ?_
        refine ww_sipush hX (pc := 599) (x := 256) dX11_init_599 (by decide) ?_
        refine ww_iload_n hX (pc := 602) dX11_init_602 rfl ?_
        refine ww_iadd hX (pc := 603) dX11_init_603 ?_
        refine ww_iconst hX (pc := 604) (x := 1) dX11_init_604 rfl ?_
        refine ww_iast hX (pc := 605) (xs_51 hL) (by decide) (by omega) (by omega) dX11_init_605 ?_
        refine ww_nmH (fun I_605 eI_605 => ?_)
        have kI_605 : Ch [51] [] I0 I_605 := by rw [eI_605]; exact Ch_r kI589 (by decide) (by decide)
        have cI_605 : RX I_605 := by rw [eI_605]; exact RX_lo cI589 (by omega)
        have qI_605 := RX_o cI_605
        have r304_I_605 : I_605 51 304 = I589 51 304 := by rw [eI_605, up2_n _ _ (Or.inr (by omega))]
        have r305_I_605 : I_605 51 305 = I589 51 305 := by rw [eI_605, up2_n _ _ (Or.inr (by omega))]
        have rf_I_605 : FU (I_605 51 304) = FU (I589 51 304) := by rw [r304_I_605]
        refine ww_iinc hX (pc := 606) (lv' := [some (kR (some 49)), some (kI (i + 1))]) dX11_init_606 rfl (by decide) rfl rfl ?_
        refine ww_goto hX (pc := 609) (tgt := 589) dX11_init_609 (by decide) ?_
        exact ih_589 _ (by omega) (i + 1) I_605 J589 rfl ⟨kI_605, cI_605, kJ589, by omega, by omega, by omega⟩
  exact hl_589 _ 0 I0 J0 rfl ⟨Ch_rf, cI0, (Kp_rf (a := 49) (b := 73)), rfl, rfl, by omega⟩
