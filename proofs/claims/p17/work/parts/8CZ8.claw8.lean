/-- status and refusals after a call that answers x -/
def LSt (x : Int) (I I' : aI1) : Prop := (x < 0 → I' 0 16 = x ∧ I' 48 = up1 (I 48) (-x).toNat (I 48 (-x).toNat + 1)) ∧ (0 ≤ x → I' 0 16 = 0 ∧ I' 48 = I 48)
theorem LSt_r {x k : Int} {I I1 I2 : aI1} (h : x = k ∧ I2 0 16 = k ∧ I2 48 = up1 (I1 48) (-k).toNat (I1 48 (-k).toNat + 1)) (e : I1 48 = I 48) (hk : k < 0) : LSt x I I2 := by
  obtain ⟨rfl, h2, h3⟩ := h
  exact ⟨fun _ => ⟨h2, by rw [h3, e]⟩, fun h9 => absurd h9 (by omega)⟩
theorem LSt_a {x k : Int} {I I2 : aI1} (h : x = k ∧ I2 0 16 = 0) (e : I2 48 = I 48) (hk : 0 ≤ k) : LSt x I I2 := by
  obtain ⟨rfl, h2⟩ := h
  exact ⟨fun h9 => absurd h9 (by omega), fun _ => ⟨h2, e⟩⟩
theorem FRk_w {rs : List Nat} {ws : List (Nat × Nat)} {I I' J J' : aI1} (h : FRk I J) (w : Fw rs ws I I') (hr : 1 ∉ rs ∧ 2 ∉ rs ∧ 3 ∉ rs ∧ 18 ∉ rs ∧ 19 ∉ rs ∧ 24 ∉ rs) (hw : ∀ p ∈ ws, p ≠ (1, 5) ∧ p ≠ (1, 6) ∧ p ≠ (1, 7) ∧ p.1 ≠ 2 ∧ p.1 ≠ 3 ∧ p.1 ≠ 18 ∧ p.1 ≠ 19 ∧ p.1 ≠ 24) (j18 : J' 18 = J 18) (j28 : J' 28 = J 28) : FRk I' J' :=
  FRk_of h (Fw_row w 18 (by decide) hr.2.2.2.1 (fun p hp => (hw p hp).2.2.2.2.2.1)) (w 1 5 (by decide) hr.1 (fun q => (hw _ q).1 rfl)) (w 1 6 (by decide) hr.1 (fun q => (hw _ q).2.1 rfl)) (w 1 7 (by decide) hr.1 (fun q => (hw _ q).2.2.1 rfl)) (Fw_row w 2 (by decide) hr.2.1 (fun p hp => (hw p hp).2.2.2.1)) (Fw_row w 3 (by decide) hr.2.2.1 (fun p hp => (hw p hp).2.2.2.2.1)) (Fw_row w 19 (by decide) hr.2.2.2.2.1 (fun p hp => (hw p hp).2.2.2.2.2.2.1)) (Fw_row w 24 (by decide) hr.2.2.2.2.2 (fun p hp => (hw p hp).2.2.2.2.2.2.2)) (by rw [j18]) j28
set_option maxHeartbeats 4000000 in
set_option maxRecDepth 20000 in
theorem c8_X10_law (l0 : Launch) {Ia Ja : aI1} {Ra : aR1} {Sa : aS1} (hCI : CI Ia Ra Sa) (hF : FRk Ia Ja) {f : Nat → Int} {N : Nat} (hN : Ia 8 1 = N) (hf : ∀ j, j < N → f j = Ia 9 j)  : CT l0 300 3 428 mX10_law [kR (some 0)] Ia Ja Ra Sa (dI (fun x I' J' R' S' => (CI I' R' S' ∧ (∀ k, 49 ≤ k → k < 73 → I' k = Ia k ∧ J' k = Ja k ∧ R' k = Ra k) ∧ Fw [10, 11, 12, 13, 14, 48] [(0, 16), (1, 9), (8, 1)] Ia I' ∧ R' 7 = Ra 7 ∧ (∀ k, 73 ≤ k → k < Sa.length → I' k = Ia k ∧ R' k = Ra k) ∧ I' 8 1 = 0 ∧ SX Sa S' ∧ (6 ≤ Ia 1 9 → x = -5 ∧ R' 4 = Ra 4 ∧ I' 1 9 = Ia 1 9 ∧ I' 10 0 = Ia 10 0) ∧ (Ia 1 9 < 6 → zCW f N x Ia I' Ra R' Sa S')) ∧ LSt x Ia I' ∧ FRk I' J')) := by
  refine ct_in pn_X10 (Nat.le_of_ble_eq_true rfl) (fun X hX hT hIn => ?_)
  have hX : aK l0 X cX10_law 3 RX10 (some .int) 300 3 428 := hX
  change WW X 0 [some (kR (some 0)), none, none] [] Ia Ja Ra Sa 0 0
  have hL := hCI.1
  have hC := hCI.2.1
  have hI := hC.1
  have hq := XI_o hI
  obtain ⟨z, hz⟩ : ∃ z, Sa.length = z := ⟨_, rfl⟩
  have hz73 : 73 ≤ z := by rw [← hz]; exact (List.getElem?_eq_some_iff.mp (xs_72 hL)).1
  refine ww_aload_n hX (pc := 0) dX10_law_0 rfl ?_
  refine ww_getR hX (pc := 1) fX10_10 (by decide) (xs_0 hL) (xr_0_0 hL) dX10_law_1 ?_
  refine ww_getI hX (pc := 4) fX10_170 (by decide) (xs_1 hL) dX10_law_4 ?_
  refine ww_bipush hX (pc := 7) (x := 6) dX10_law_7 (by decide) ?_
  refine ww_icmp_lt hX (pc := 9) (tgt := 27) dX10_law_9 (by decide) (fun h_9 => ?_) (fun h_9 => ?_)
  · simp only [w32_mod] at h_9
    refine ww_aload_n hX (pc := 27) dX10_law_27 rfl ?_
    refine ww_getR hX (pc := 28) fX10_32 (by decide) (xs_0 hL) (xr_0_3 hL) dX10_law_28 ?_
    refine ww_callV hX (pc := 31) (av := []) sX10_173 (xs_10 hL) (c6_X7_understand l0 hL hI hC.2.1 hz hz73 hN hf) rfl (by decide) (by omega) (by omega) (Nat.le_of_ble_eq_true rfl) dX10_law_31 (fun r_31 I_31 J_31 R_31 S_31 h_31 => ?_)
    obtain ⟨x_31, rfl, eI31, eJ31, lr31, eR31, h31⟩ := h_31
    have cI_31 : CX I_31 := ⟨XI_of hI (eI31 0 (by omega) (by decide)) (eI31 1 (by omega) (by decide)) (eI31 3 (by omega) (by decide)) (eI31 8 (by omega) (by decide)) (eI31 9 (by omega) (by decide)), lr31, FI_of hC.2.2 (eI31 44 (by omega) (by decide))⟩
    have qI_31 := XI_o cI_31.1
    have wI_31 : Fw [10, 11, 12, 13, 14] [(0, 16), (1, 9), (8, 1)] Ia I_31 := Fw_of Fw_rf (fun k h1 h2 => eI31 k (by omega) (Decidable.byContradiction (fun e9 => h2 (mem_10 (by omega) (by omega) (by decide)))))
    have r9_31 : I_31 1 9 = Ia 1 9 := by rw [eI31 1 (by omega) (by decide)]
    have hSX31 : SX Sa S_31 ∧ Sa.length ≤ S_31.length ∧ S_31.length ≤ Sa.length + 3 := by
      rcases h31 with ⟨_, rfl, _⟩ | ⟨_, N1, N2, _, _, rfl, _⟩
      · exact ⟨SX_rf, by omega, by omega⟩
      · exact ⟨SX_app (SX_app (SX_app SX_rf)), by simp, by simp⟩
    obtain ⟨hSX31, hl31, hl32⟩ := hSX31
    have hL31 : LY R_31 S_31 := LY_ext hL (fun k h1 _ _ => eR31 k (by omega)) hSX31
    have CI31 : CI I_31 R_31 S_31 := ⟨hL31, cI_31, LawsOK_hi hCI.2.2.1 (fun i hi => by rw [eR31 4 (by omega)]) (fun k h1 h2 => eI31 k (by omega) (by omega)) (fun k h1 h2 => eR31 k (by omega)) hSX31, fun i hi c' hc' => CoastOK_hi (hCI.2.2.2 i hi c' (by rw [← eR31 7 (by omega)]; exact hc')) (fun k h1 h2 => eI31 k (by omega) (by omega)) (fun k h1 h2 => eR31 k (by omega)) hSX31⟩
    have h31' : (x_31 = none ∧ ∃ fp, zTx f N = .inl fp ∧ I_31 10 0 = zPc N (zTk f N 0) fp) ∨ (x_31 = some z ∧ LawOK I_31 R_31 S_31 z ∧ ∃ qs, zTx f N = .inr qs ∧ I_31 10 0 = -1 ∧ zLR I_31 S_31 z qs) := by
      rcases h31 with ⟨h, _, hx⟩ | ⟨h, N1, N2, _, _, _, hlo⟩
      · exact Or.inl ⟨h, hx⟩
      · exact Or.inr ⟨h, hlo⟩
    clear h31
    rcases h31' with ⟨rfl, fp9, hfp1, hfp2⟩ | ⟨rfl, hlo, qs9, hqs1, hqs2, hqs3⟩
    · change WW X 34 [some (kR (some 0)), none, none] [kR none] I_31 J_31 R_31 S_31 _ _
      refine ww_astore_nN hX (pc := 34) (lv' := [some (kR (some 0)), some (kR none), none]) dX10_law_34 (by decide) rfl rfl ?_
      refine ww_aload_n hX (pc := 35) dX10_law_35 rfl ?_
      refine ww_getR hX (pc := 36) fX10_23 (by decide) (xs_0 hL31) (xr_0_2 hL31) dX10_law_36 ?_
      refine ww_iconst hX (pc := 39) (x := 0) dX10_law_39 rfl ?_
      refine ww_putI hX (pc := 40) (fun h9 => absurd h9 (by decide)) gX10_148 rfl (xs_8 hL31) dX10_law_40 ?_
      refine ww_nmH (fun I_40 eI_40 => ?_)
      have kI_40 : Kp 0 49 I_31 I_40 := by rw [eI_40]; exact Kp_up (Kp_rf (a := 0) (b := 49)) _ _ (by decide)
      have cI_40 : CX I_40 := by rw [eI_40]; exact CX_x cI_31 (XI_8_1 cI_31.1 (by omega) (by omega)) (by decide)
      have qI_40 := XI_o cI_40.1
      have r5_I_40 : I_40 1 5 = I_31 1 5 := by rw [eI_40, up2_off _ _ _ (by decide)]
      have r6_I_40 : I_40 1 6 = I_31 1 6 := by rw [eI_40, up2_off _ _ _ (by decide)]
      have r8_I_40 : I_40 1 8 = I_31 1 8 := by rw [eI_40, up2_off _ _ _ (by decide)]
      have r9_I_40 : I_40 1 9 = I_31 1 9 := by rw [eI_40, up2_off _ _ _ (by decide)]
      have r10_I_40 : I_40 1 10 = I_31 1 10 := by rw [eI_40, up2_off _ _ _ (by decide)]
      have r11_I_40 : I_40 1 11 = I_31 1 11 := by rw [eI_40, up2_off _ _ _ (by decide)]
      have rf_I_40 : FU (I_40 1 5) = FU (I_31 1 5) := by rw [r5_I_40]
      have wI_40 : Fw [10, 11, 12, 13, 14] [(0, 16), (1, 9), (8, 1)] Ia I_40 := by rw [eI_40]; exact Fw_up wI_31 (Or.inr (by decide))
      have r7_I_40 : I_40 1 7 = I_31 1 7 := by rw [eI_40, up2_n _ _ (Or.inl (by decide))]
      have z81 : I_40 8 1 = 0 := by rw [eI_40, up2_s]
      have u10_I_40 : I_40 10 0 = I_31 10 0 := by rw [eI_40, up2_off _ _ _ (by decide)]
      have u9_I_40 : I_40 1 9 = I_31 1 9 := by rw [eI_40, up2_off _ _ _ (by decide)]
      refine ww_aload_nN hX (pc := 43) dX10_law_43 rfl ?_
      refine ww_ifnonnullN hX (pc := 44) dX10_law_44 ?_
      refine ww_aload_n hX (pc := 47) dX10_law_47 rfl ?_
      refine ww_bipush hX (pc := 48) (x := (-6)) dX10_law_48 (by decide) ?_
      refine vI1 hX (pc := 50) sX10_89 (xs_0 hL31) (c8_X10_refuse l0 hL31 cI_40 (FRk_w hF wI_40 (by decide) (by decide) (eJ31 18 (by omega) (by decide)) (eJ31 28 (by omega) (by decide))) (by omega) (by omega)) (by decide) (by omega) (by omega) (Nat.le_of_ble_eq_true rfl) dX10_law_50 (fun x_50 I_50 J_50 h_50 => ?_)
      obtain ⟨h_50, fr_50⟩ := h_50
      have kI_50 : Kp 0 49 I_31 I_50 := Kp_tr kI_40 (Kp_wd h_50.1 (by decide) (by decide))
      have kJ_50 : Kp 0 49 J_31 J_50 := Kp_tr (Kp_rf (a := 0) (b := 49)) (Kp_wd h_50.2.1 (by decide) (by decide))
      have cI_50 : CX I_50 := h_50.2.2.1
      have qI_50 := XI_o cI_50.1
      have wI_50 : Fw [10, 11, 12, 13, 14, 48] [(0, 16), (1, 9), (8, 1)] Ia I_50 := Fw_tr (Fw_wd wI_40 (by decide) (by decide)) (Fw_wd h_50.2.2.2.1 (by decide) (by decide))
      have r5_I_50 : I_50 1 5 = I_40 1 5 := h_50.2.2.2.1 1 5 (by decide) (by decide) (by decide)
      have r6_I_50 : I_50 1 6 = I_40 1 6 := h_50.2.2.2.1 1 6 (by decide) (by decide) (by decide)
      have r7_I_50 : I_50 1 7 = I_40 1 7 := h_50.2.2.2.1 1 7 (by decide) (by decide) (by decide)
      have r8_I_50 : I_50 1 8 = I_40 1 8 := h_50.2.2.2.1 1 8 (by decide) (by decide) (by decide)
      have r9_I_50 : I_50 1 9 = I_40 1 9 := h_50.2.2.2.1 1 9 (by decide) (by decide) (by decide)
      have r10_I_50 : I_50 1 10 = I_40 1 10 := h_50.2.2.2.1 1 10 (by decide) (by decide) (by decide)
      have r11_I_50 : I_50 1 11 = I_40 1 11 := h_50.2.2.2.1 1 11 (by decide) (by decide) (by decide)
      have r81_I_50 : I_50 8 1 = I_40 8 1 := h_50.2.2.2.1 8 1 (by decide) (by decide) (by decide)
      have rf_I_50 : FU (I_50 1 5) = FU (I_40 1 5) := by rw [r5_I_50]
      have xv_I_50 := h_50.2.2.2.2
      have z81 : I_50 8 1 = 0 := r81_I_50.trans z81
      have u10_I_50 : I_50 10 0 = I_40 10 0 := h_50.2.2.2.1 10 0 (by decide) (by decide) (by decide)
      have u9_I_50 : I_50 1 9 = I_40 1 9 := h_50.2.2.2.1 1 9 (by decide) (by decide) (by decide)
      exact ww_iret hX (pc := 53) hT (by omega) (by omega) dX10_law_53 ⟨_, rfl, ⟨CI_low CI31 kI_50 cI_50, fun k h1 h2 => ⟨(kI_50 k (by omega)).trans (eI31 k (by omega) (by omega)), (kJ_50 k (by omega)).trans (eJ31 k (by omega) (by omega)), (eR31 k (by omega))⟩, (Fw_wd wI_50 (by decide) (by decide)), (eR31 7 (by omega)), (fun k h1 h2 => ⟨(kI_50 k (by omega)).trans (eI31 k (by omega) (by omega)), (eR31 k (by omega))⟩), z81, hSX31, (fun h9 => absurd h9 (by omega)), (fun _ => zCW_0 hfp1 ⟨xv_I_50.1, eR31 4 (by omega), by omega, by omega⟩)⟩, LSt_r h_50.2.2.2.2 (Fw_row wI_40 48 (by decide) (by decide) (by decide)) (by decide), fr_50⟩
    · change WW X 34 [some (kR (some 0)), none, none] [kR (some z)] I_31 J_31 R_31 S_31 _ _
      refine ww_astore_n hX (pc := 34) (lv' := [some (kR (some 0)), some (kR (some z)), none]) dX10_law_34 (by decide) rfl rfl ?_
      refine ww_aload_n hX (pc := 35) dX10_law_35 rfl ?_
      refine ww_getR hX (pc := 36) fX10_23 (by decide) (xs_0 hL31) (xr_0_2 hL31) dX10_law_36 ?_
      refine ww_iconst hX (pc := 39) (x := 0) dX10_law_39 rfl ?_
      refine ww_putI hX (pc := 40) (fun h9 => absurd h9 (by decide)) gX10_148 rfl (xs_8 hL31) dX10_law_40 ?_
      refine ww_nmH (fun I_40 eI_40 => ?_)
      have kI_40 : Kp 0 49 I_31 I_40 := by rw [eI_40]; exact Kp_up (Kp_rf (a := 0) (b := 49)) _ _ (by decide)
      have cI_40 : CX I_40 := by rw [eI_40]; exact CX_x cI_31 (XI_8_1 cI_31.1 (by omega) (by omega)) (by decide)
      have qI_40 := XI_o cI_40.1
      have r5_I_40 : I_40 1 5 = I_31 1 5 := by rw [eI_40, up2_off _ _ _ (by decide)]
      have r6_I_40 : I_40 1 6 = I_31 1 6 := by rw [eI_40, up2_off _ _ _ (by decide)]
      have r8_I_40 : I_40 1 8 = I_31 1 8 := by rw [eI_40, up2_off _ _ _ (by decide)]
      have r9_I_40 : I_40 1 9 = I_31 1 9 := by rw [eI_40, up2_off _ _ _ (by decide)]
      have r10_I_40 : I_40 1 10 = I_31 1 10 := by rw [eI_40, up2_off _ _ _ (by decide)]
      have r11_I_40 : I_40 1 11 = I_31 1 11 := by rw [eI_40, up2_off _ _ _ (by decide)]
      have rf_I_40 : FU (I_40 1 5) = FU (I_31 1 5) := by rw [r5_I_40]
      have wI_40 : Fw [10, 11, 12, 13, 14] [(0, 16), (1, 9), (8, 1)] Ia I_40 := by rw [eI_40]; exact Fw_up wI_31 (Or.inr (by decide))
      have r7_I_40 : I_40 1 7 = I_31 1 7 := by rw [eI_40, up2_n _ _ (Or.inl (by decide))]
      have z81 : I_40 8 1 = 0 := by rw [eI_40, up2_s]
      have u10_I_40 : I_40 10 0 = I_31 10 0 := by rw [eI_40, up2_off _ _ _ (by decide)]
      have u9_I_40 : I_40 1 9 = I_31 1 9 := by rw [eI_40, up2_off _ _ _ (by decide)]
      refine ww_aload_n hX (pc := 43) dX10_law_43 rfl ?_
      refine ww_ifnonnullS hX (pc := 44) (tgt := 54) dX10_law_44 (by decide) ?_
      refine ww_aload_n hX (pc := 54) dX10_law_54 rfl ?_
      refine ww_getR hX (pc := 55) fX10_10 (by decide) (xs_0 hL31) (xr_0_0 hL31) dX10_law_55 ?_
      refine ww_getI hX (pc := 58) fX10_170 (by decide) (xs_1 hL31) dX10_law_58 ?_
      refine ww_nmI (fun v_61 hv_61 => ?_)
      refine ww_istore_n hX (pc := 61) (lv' := [some (kR (some 0)), some (kR (some z)), some (kI v_61)]) dX10_law_61 (by decide) rfl rfl ?_
      refine ww_aload_n hX (pc := 62) dX10_law_62 rfl ?_
      refine ww_getR hX (pc := 63) fX10_10 (by decide) (xs_0 hL31) (xr_0_0 hL31) dX10_law_63 ?_
      refine ww_getR hX (pc := 66) fX10_177 (by decide) (xs_1 hL31) (xr_1_2 hL31) dX10_law_66 ?_
      refine ww_iload_n hX (pc := 69) dX10_law_69 rfl ?_
      refine ww_aload_n hX (pc := 70) dX10_law_70 rfl ?_
      refine ww_aast4 hX (pc := 71) (xs_4 hL31) (by decide) (by omega) (by omega) hlo.2.1 dX10_law_71 ?_
      have hx71 : ∃ R9, R9 = up2 R_31 4 v_61.toNat (some z) := ⟨_, rfl⟩
      obtain ⟨R_71, eR71⟩ := hx71
      rw [← eR71]
      have fR71 : ∀ k, k ≠ 4 → R_71 k = R_31 k := fun k hk => by rw [eR71, up2_off _ _ _ hk]
      have hL71 : LY R_71 S_31 := LY_ext hL31 (fun k h1 h4 _ => fR71 k h4) SX_rf
      have CI71 : CI I_31 R_71 S_31 := ⟨hL71, cI_31, fun i hi w hw => by
        by_cases hii : i = v_61.toNat
        · rw [eR71, hii, up2_s] at hw
          obtain rfl := Option.some.inj hw
          exact LawOK_ext hlo rfl rfl rfl (fR71 _ (by omega)) SX_rf
        · rw [eR71, up2_n _ _ (Or.inr hii)] at hw
          have hlw := CI31.2.2.1 i hi w hw
          have hlw73 := hlw.1
          exact LawOK_ext hlw rfl rfl rfl (fR71 w (by omega)) SX_rf, fun i hi c' hc' => CoastOK_hi (hCI.2.2.2 i hi c' (by rw [fR71 7 (by decide), eR31 7 (by omega)] at hc'; exact hc')) (fun k h1 h2 => eI31 k (by omega) (by omega)) (fun k h1 h2 => by rw [fR71 k (by omega), eR31 k (by omega)]) hSX31⟩
      refine ww_aload_n hX (pc := 72) dX10_law_72 rfl ?_
      refine ww_getR hX (pc := 73) fX10_10 (by decide) (xs_0 hL71) (xr_0_0 hL71) dX10_law_73 ?_
      refine ww_iload_n hX (pc := 76) dX10_law_76 rfl ?_
      refine ww_iconst hX (pc := 77) (x := 1) dX10_law_77 rfl ?_
      refine ww_iadd hX (pc := 78) dX10_law_78 ?_
      refine ww_putI hX (pc := 79) (fun h9 => absurd h9 (by decide)) gX10_170 rfl (xs_1 hL71) dX10_law_79 ?_
      refine ww_nmH (fun I_79 eI_79 => ?_)
      have kI_79 : Kp 0 49 I_31 I_79 := by rw [eI_79]; exact Kp_up kI_40 _ _ (by decide)
      have cI_79 : CX I_79 := by rw [eI_79]; exact CX_x cI_40 (XI_1_9 cI_40.1 (by omega) (by omega)) (by decide)
      have qI_79 := XI_o cI_79.1
      have r5_I_79 : I_79 1 5 = I_40 1 5 := by rw [eI_79, up2_n _ _ (Or.inr (by decide))]
      have r6_I_79 : I_79 1 6 = I_40 1 6 := by rw [eI_79, up2_n _ _ (Or.inr (by decide))]
      have r8_I_79 : I_79 1 8 = I_40 1 8 := by rw [eI_79, up2_n _ _ (Or.inr (by decide))]
      skip
      have r10_I_79 : I_79 1 10 = I_40 1 10 := by rw [eI_79, up2_n _ _ (Or.inr (by decide))]
      have r11_I_79 : I_79 1 11 = I_40 1 11 := by rw [eI_79, up2_n _ _ (Or.inr (by decide))]
      have rf_I_79 : FU (I_79 1 5) = FU (I_40 1 5) := by rw [r5_I_79]
      have wI_79 : Fw [10, 11, 12, 13, 14] [(0, 16), (1, 9), (8, 1)] Ia I_79 := by rw [eI_79]; exact Fw_up wI_40 (Or.inr (by decide))
      have r7_I_79 : I_79 1 7 = I_40 1 7 := by rw [eI_79, up2_n _ _ (Or.inr (by decide))]
      have z81 : I_79 8 1 = 0 := by rw [eI_79, up2_off _ _ _ (by decide)]; exact z81
      have u10_I_79 : I_79 10 0 = I_40 10 0 := by rw [eI_79, up2_off _ _ _ (by decide)]
      have u9_I_79 : I_79 1 9 = I_40 1 9 + 1 := by rw [eI_79, up2_s]; omega
      refine ww_aload_n hX (pc := 82) dX10_law_82 rfl ?_
      refine ww_iload_n hX (pc := 83) dX10_law_83 rfl ?_
      refine vI1 hX (pc := 84) sX10_114 (xs_0 hL71) (c8_X10_accept l0 hL71 cI_79 (FRk_w hF wI_79 (by decide) (by decide) (eJ31 18 (by omega) (by decide)) (eJ31 28 (by omega) (by decide)))) (by decide) (by omega) (by omega) (Nat.le_of_ble_eq_true rfl) dX10_law_84 (fun x_84 I_84 J_84 h_84 => ?_)
      obtain ⟨h_84, fr_84⟩ := h_84
      have kI_84 : Kp 0 49 I_31 I_84 := Kp_tr kI_79 (Kp_wd h_84.1 (by decide) (by decide))
      have kJ_84 : Kp 0 49 J_31 J_84 := Kp_tr (Kp_rf (a := 0) (b := 49)) (Kp_wd h_84.2.1 (by decide) (by decide))
      have cI_84 : CX I_84 := h_84.2.2.1
      have qI_84 := XI_o cI_84.1
      have wI_84 : Fw [10, 11, 12, 13, 14] [(0, 16), (1, 9), (8, 1)] Ia I_84 := Fw_tr wI_79 (Fw_wd h_84.2.2.2.1 (by decide) (by decide))
      have r5_I_84 : I_84 1 5 = I_79 1 5 := h_84.2.2.2.1 1 5 (by decide) (by decide) (by decide)
      have r6_I_84 : I_84 1 6 = I_79 1 6 := h_84.2.2.2.1 1 6 (by decide) (by decide) (by decide)
      have r7_I_84 : I_84 1 7 = I_79 1 7 := h_84.2.2.2.1 1 7 (by decide) (by decide) (by decide)
      have r8_I_84 : I_84 1 8 = I_79 1 8 := h_84.2.2.2.1 1 8 (by decide) (by decide) (by decide)
      have r9_I_84 : I_84 1 9 = I_79 1 9 := h_84.2.2.2.1 1 9 (by decide) (by decide) (by decide)
      have r10_I_84 : I_84 1 10 = I_79 1 10 := h_84.2.2.2.1 1 10 (by decide) (by decide) (by decide)
      have r11_I_84 : I_84 1 11 = I_79 1 11 := h_84.2.2.2.1 1 11 (by decide) (by decide) (by decide)
      have r81_I_84 : I_84 8 1 = I_79 8 1 := h_84.2.2.2.1 8 1 (by decide) (by decide) (by decide)
      have rf_I_84 : FU (I_84 1 5) = FU (I_79 1 5) := by rw [r5_I_84]
      have xv_I_84 := h_84.2.2.2.2
      have z81 : I_84 8 1 = 0 := r81_I_84.trans z81
      have u10_I_84 : I_84 10 0 = I_79 10 0 := h_84.2.2.2.1 10 0 (by decide) (by decide) (by decide)
      have u9_I_84 : I_84 1 9 = I_79 1 9 := h_84.2.2.2.1 1 9 (by decide) (by decide) (by decide)
      exact ww_iret hX (pc := 87) hT (by omega) (by omega) dX10_law_87 ⟨_, rfl, ⟨CI_low CI71 kI_84 cI_84, fun k h1 h2 => ⟨(kI_84 k (by omega)).trans (eI31 k (by omega) (by omega)), (kJ_84 k (by omega)).trans (eJ31 k (by omega) (by omega)), ((fR71 k (by omega)).trans (eR31 k (by omega)))⟩, (Fw_wd wI_84 (by decide) (by decide)), ((fR71 7 (by omega)).trans (eR31 7 (by omega))), (fun k h1 h2 => ⟨(kI_84 k (by omega)).trans (eI31 k (by omega) (by omega)), ((fR71 k (by omega)).trans (eR31 k (by omega)))⟩), z81, hSX31, (fun h9 => absurd h9 (by omega)), (fun _ => zCW_1 hqs1 ⟨by have h9 := xv_I_84.1; omega, by omega, by omega, by rw [eR71, up2_row, eR31 4 (by omega)]; exact congr (congrArg (up1 (Ra 4)) (by omega)) (by rw [hz]), by rw [hz]; exact hlo.2.1, by rw [hz]; exact zLR_k hqs3 (kI_84 z (by omega)) (kI_84 (z + 1) (by omega)) (kI_84 (z + 2) (by omega)) SX_rf⟩)⟩, LSt_a h_84.2.2.2.2 (Fw_row wI_84 48 (by decide) (by decide) (by decide)) (by omega), fr_84⟩
  · simp only [w32_mod] at h_9
    refine ww_aload_n hX (pc := 12) dX10_law_12 rfl ?_
    refine ww_getR hX (pc := 13) fX10_23 (by decide) (xs_0 hL) (xr_0_2 hL) dX10_law_13 ?_
    refine ww_iconst hX (pc := 16) (x := 0) dX10_law_16 rfl ?_
    refine ww_putI hX (pc := 17) (fun h9 => absurd h9 (by decide)) gX10_148 rfl (xs_8 hL) dX10_law_17 ?_
    refine ww_nmH (fun I_17 eI_17 => ?_)
    have kI_17 : Kp 0 49 Ia I_17 := by rw [eI_17]; exact Kp_up (Kp_rf (a := 0) (b := 49)) _ _ (by decide)
    have cI_17 : CX I_17 := by rw [eI_17]; exact CX_x hC (XI_8_1 hC.1 (by omega) (by omega)) (by decide)
    have qI_17 := XI_o cI_17.1
    have r5_I_17 : I_17 1 5 = Ia 1 5 := by rw [eI_17, up2_off _ _ _ (by decide)]
    have r6_I_17 : I_17 1 6 = Ia 1 6 := by rw [eI_17, up2_off _ _ _ (by decide)]
    have r8_I_17 : I_17 1 8 = Ia 1 8 := by rw [eI_17, up2_off _ _ _ (by decide)]
    have r9_I_17 : I_17 1 9 = Ia 1 9 := by rw [eI_17, up2_off _ _ _ (by decide)]
    have r10_I_17 : I_17 1 10 = Ia 1 10 := by rw [eI_17, up2_off _ _ _ (by decide)]
    have r11_I_17 : I_17 1 11 = Ia 1 11 := by rw [eI_17, up2_off _ _ _ (by decide)]
    have rf_I_17 : FU (I_17 1 5) = FU (Ia 1 5) := by rw [r5_I_17]
    have wI_17 : Fw [10, 11, 12, 13, 14] [(0, 16), (1, 9), (8, 1)] Ia I_17 := by rw [eI_17]; exact Fw_up Fw_rf (Or.inr (by decide))
    have r7_I_17 : I_17 1 7 = Ia 1 7 := by rw [eI_17, up2_n _ _ (Or.inl (by decide))]
    have z81 : I_17 8 1 = 0 := by rw [eI_17, up2_s]
    have u10_I_17 : I_17 10 0 = Ia 10 0 := by rw [eI_17, up2_off _ _ _ (by decide)]
    have u9_I_17 : I_17 1 9 = Ia 1 9 := by rw [eI_17, up2_off _ _ _ (by decide)]
    refine ww_aload_n hX (pc := 20) dX10_law_20 rfl ?_
    refine ww_bipush hX (pc := 21) (x := (-5)) dX10_law_21 (by decide) ?_
    refine vI1 hX (pc := 23) sX10_89 (xs_0 hL) (c8_X10_refuse l0 hL cI_17 (FRk_w hF wI_17 (by decide) (by decide) rfl rfl) (by omega) (by omega)) (by decide) (by omega) (by omega) (Nat.le_of_ble_eq_true rfl) dX10_law_23 (fun x_23 I_23 J_23 h_23 => ?_)
    obtain ⟨h_23, fr_23⟩ := h_23
    have kI_23 : Kp 0 49 Ia I_23 := Kp_tr kI_17 (Kp_wd h_23.1 (by decide) (by decide))
    have kJ_23 : Kp 0 49 Ja J_23 := Kp_tr (Kp_rf (a := 0) (b := 49)) (Kp_wd h_23.2.1 (by decide) (by decide))
    have cI_23 : CX I_23 := h_23.2.2.1
    have qI_23 := XI_o cI_23.1
    have wI_23 : Fw [10, 11, 12, 13, 14, 48] [(0, 16), (1, 9), (8, 1)] Ia I_23 := Fw_tr (Fw_wd wI_17 (by decide) (by decide)) (Fw_wd h_23.2.2.2.1 (by decide) (by decide))
    have r5_I_23 : I_23 1 5 = I_17 1 5 := h_23.2.2.2.1 1 5 (by decide) (by decide) (by decide)
    have r6_I_23 : I_23 1 6 = I_17 1 6 := h_23.2.2.2.1 1 6 (by decide) (by decide) (by decide)
    have r7_I_23 : I_23 1 7 = I_17 1 7 := h_23.2.2.2.1 1 7 (by decide) (by decide) (by decide)
    have r8_I_23 : I_23 1 8 = I_17 1 8 := h_23.2.2.2.1 1 8 (by decide) (by decide) (by decide)
    have r9_I_23 : I_23 1 9 = I_17 1 9 := h_23.2.2.2.1 1 9 (by decide) (by decide) (by decide)
    have r10_I_23 : I_23 1 10 = I_17 1 10 := h_23.2.2.2.1 1 10 (by decide) (by decide) (by decide)
    have r11_I_23 : I_23 1 11 = I_17 1 11 := h_23.2.2.2.1 1 11 (by decide) (by decide) (by decide)
    have r81_I_23 : I_23 8 1 = I_17 8 1 := h_23.2.2.2.1 8 1 (by decide) (by decide) (by decide)
    have rf_I_23 : FU (I_23 1 5) = FU (I_17 1 5) := by rw [r5_I_23]
    have xv_I_23 := h_23.2.2.2.2
    have z81 : I_23 8 1 = 0 := r81_I_23.trans z81
    have u10_I_23 : I_23 10 0 = I_17 10 0 := h_23.2.2.2.1 10 0 (by decide) (by decide) (by decide)
    have u9_I_23 : I_23 1 9 = I_17 1 9 := h_23.2.2.2.1 1 9 (by decide) (by decide) (by decide)
    exact ww_iret hX (pc := 26) hT (by omega) (by omega) dX10_law_26 ⟨_, rfl, ⟨CI_low hCI kI_23 cI_23, fun k h1 h2 => ⟨kI_23 k (by omega), kJ_23 k (by omega), rfl⟩, (Fw_wd wI_23 (by decide) (by decide)), rfl, (fun k h1 h2 => ⟨kI_23 k (by omega), rfl⟩), z81, SX_rf, (fun _ => ⟨by have h9 := xv_I_23.1; omega, rfl, by omega, by omega⟩), (fun h9 => absurd h9 (by omega))⟩, LSt_r h_23.2.2.2.2 (Fw_row wI_17 48 (by decide) (by decide) (by decide)) (by decide), fr_23⟩
set_option maxHeartbeats 4000000 in
set_option maxRecDepth 20000 in
theorem c8_X10_image (l0 : Launch) {Ia Ja : aI1} {Ra : aR1} {Sa : aS1} (hCI : CI Ia Ra Sa) (hF : FRk Ia Ja) {a : Int} (ha0 : -2147483648 ≤ a) (ha1 : a < 2147483648) (hDI : ∀ i j, i < 2 → j < 2 → ∀ c, Ra 7 i = some c → Ra 7 j = some c → i = j)  : CT l0 12 6 322 mX10_image [kR (some 0), kI a] Ia Ja Ra Sa (dI (fun x I' J' R' S' => (CI I' R' S' ∧ (∀ k, 49 ≤ k → k < 73 → I' k = Ia k ∧ J' k = Ja k ∧ R' k = Ra k) ∧ Fw [48] [(0, 16)] Ia I' ∧ (¬ (0 ≤ a ∧ a < 2) → x = -1 ∧ RFc Ia I' (-1)) ∧ (¬ (0 ≤ a ∧ a < 2) → R' 7 = Ra 7 ∧ R' 4 = Ra 4 ∧ (∀ k, 73 ≤ k → I' k = Ia k ∧ R' k = Ra k)) ∧ ((0 ≤ a ∧ a < 2) → x = 0 ∧ Fw [] [(0, 16)] Ia I' ∧ I' 0 16 = 0 ∧ ∃ c, R' 7 a.toNat = some c ∧ ImC Ia I' Ra R' c ∧ (∀ j, j ≠ a.toNat → R' 7 j = Ra 7 j) ∧ (∀ j, j < 2 → j ≠ a.toNat → ∀ c', Ra 7 j = some c' → (∀ k, k < 6 → I' (c' + k) = Ia (c' + k)) ∧ R' (c' + 3) = Ra (c' + 3)) ∧ ((Ra 7 a.toNat = some c ∧ R' 7 = Ra 7) ∨ c = Sa.length) ∧ R' 4 = Ra 4 ∧ (∀ k, 73 ≤ k → k < Sa.length → (k < c ∨ c + 6 ≤ k) → I' k = Ia k ∧ R' k = Ra k)) ∧ SX Sa S') ∧ FRk I' J')) := by
  refine ct_in pn_X10 (Nat.le_of_ble_eq_true rfl) (fun X hX hT hIn => ?_)
  have hX : aK l0 X cX10_image 3 RX10 (some .int) 12 6 322 := hX
  change WW X 0 [some (kR (some 0)), some (kI a), none] [] Ia Ja Ra Sa 0 0
  have hL := hCI.1
  have hC := hCI.2.1
  have hI := hC.1
  have hq := XI_o hI
  obtain ⟨z, hz⟩ : ∃ z, Sa.length = z := ⟨_, rfl⟩
  have hz73 : 73 ≤ z := by rw [← hz]; exact (List.getElem?_eq_some_iff.mp (xs_72 hL)).1
  refine ww_iload_n hX (pc := 0) dX10_image_0 rfl ?_
  refine ww_if_lt hX (pc := 1) (tgt := 9) dX10_image_1 (by decide) (fun h_1 => ?_) (fun h_1 => ?_)
  · simp only [w32_mod] at h_1
    refine ww_aload_n hX (pc := 9) dX10_image_9 rfl ?_
    refine ww_iconst hX (pc := 10) (x := (-1)) dX10_image_10 rfl ?_
    refine vI1 hX (pc := 11) sX10_89 (xs_0 hL) (c8_X10_refuse l0 hL hC hF (by omega) (by omega)) (by decide) (by omega) (by omega) (Nat.le_of_ble_eq_true rfl) dX10_image_11 (fun x_11 I_11 J_11 h_11 => ?_)
    obtain ⟨h_11, fr_11⟩ := h_11
    have kI_11 : Kp 0 49 Ia I_11 := Kp_tr (Kp_rf (a := 0) (b := 49)) (Kp_wd h_11.1 (by decide) (by decide))
    have kJ_11 : Kp 0 49 Ja J_11 := Kp_tr (Kp_rf (a := 0) (b := 49)) (Kp_wd h_11.2.1 (by decide) (by decide))
    have cI_11 : CX I_11 := h_11.2.2.1
    have qI_11 := XI_o cI_11.1
    have wI_11 : Fw [48] [(0, 16)] Ia I_11 := Fw_tr Fw_rf (Fw_wd h_11.2.2.2.1 (by decide) (by decide))
    have r5_I_11 : I_11 1 5 = Ia 1 5 := h_11.2.2.2.1 1 5 (by decide) (by decide) (by decide)
    have r6_I_11 : I_11 1 6 = Ia 1 6 := h_11.2.2.2.1 1 6 (by decide) (by decide) (by decide)
    have r7_I_11 : I_11 1 7 = Ia 1 7 := h_11.2.2.2.1 1 7 (by decide) (by decide) (by decide)
    have r8_I_11 : I_11 1 8 = Ia 1 8 := h_11.2.2.2.1 1 8 (by decide) (by decide) (by decide)
    have r9_I_11 : I_11 1 9 = Ia 1 9 := h_11.2.2.2.1 1 9 (by decide) (by decide) (by decide)
    have r10_I_11 : I_11 1 10 = Ia 1 10 := h_11.2.2.2.1 1 10 (by decide) (by decide) (by decide)
    have r11_I_11 : I_11 1 11 = Ia 1 11 := h_11.2.2.2.1 1 11 (by decide) (by decide) (by decide)
    have r81_I_11 : I_11 8 1 = Ia 8 1 := h_11.2.2.2.1 8 1 (by decide) (by decide) (by decide)
    have rf_I_11 : FU (I_11 1 5) = FU (Ia 1 5) := by rw [r5_I_11]
    have xv_I_11 := h_11.2.2.2.2
    exact ww_iret hX (pc := 14) hT (by omega) (by omega) dX10_image_14 ⟨_, rfl, ⟨CI_low hCI kI_11 cI_11, fun k h1 h2 => ⟨kI_11 k (by omega), kJ_11 k (by omega), rfl⟩, (Fw_wd wI_11 (by decide) (by decide)), (fun _ => ⟨xv_I_11.1, h_11.2.2.2.1, xv_I_11.2⟩), (fun _ => ⟨rfl, rfl, fun k hk => ⟨kI_11 k (by omega), rfl⟩⟩), (fun h9 => absurd h9 (by omega)), SX_rf⟩, fr_11⟩
  · simp only [w32_mod] at h_1
    refine ww_iload_n hX (pc := 4) dX10_image_4 rfl ?_
    refine ww_iconst hX (pc := 5) (x := 2) dX10_image_5 rfl ?_
    refine ww_icmp_lt hX (pc := 6) (tgt := 15) dX10_image_6 (by decide) (fun h_6 => ?_) (fun h_6 => ?_)
    · simp only [w32_mod] at h_6
      refine ww_aload_n hX (pc := 15) dX10_image_15 rfl ?_
      refine ww_getR hX (pc := 16) fX10_16 (by decide) (xs_0 hL) (xr_0_1 hL) dX10_image_16 ?_
      refine ww_iload_n hX (pc := 19) dX10_image_19 rfl ?_
      refine ww_aald hX (pc := 20) (Or.inr rfl) (xs_7 hL) (by decide) (by omega) (by omega) dX10_image_20 ?_
      cases hlw : Ra 7 a.toNat with
      | none =>
        refine ww_astore_nN hX (pc := 21) (lv' := [some (kR (some 0)), some (kI a), some (kR none)]) dX10_image_21 (by decide) rfl rfl ?_
        refine ww_aload_nN hX (pc := 22) dX10_image_22 rfl ?_
        refine ww_ifnonnullN hX (pc := 23) dX10_image_23 ?_
        refine ww_newz hX (pc := 26) 12 (z := z) hz cl_1 tb_29 tb_30 tb_2 rfl (by omega) (by omega) dX10_image_26 ?_
        refine ww_dupR hX (pc := 29) dX10_image_29 ?_
        refine ww_callI hX (pc := 30) (av := []) sX10_9 (c_X1_init l0 (o := z) (z := z + 1) (lz hz) (sz_n hz)) rfl (by decide) (by omega) (by omega) (Nat.le_of_ble_eq_true rfl) dX10_image_30 (fun r_30 I_30 J_30 R_30 S_30 h_30 => ?_)
        obtain ⟨rfl, h30I, h30J, h30R, h30S⟩ := h_30
        have eI30 : ∀ k, k < z → I_30 k = Ia k := fun k hk => by rw [← h30I, nI1_off (by omega) (by omega), upR_n _ _ (by omega)]
        have eJ30 : ∀ k, k < z → J_30 k = Ja k := fun k hk => by rw [← h30J]; unfold nJ_X1; rw [upR_n _ _ (by omega)]
        have eR30 : ∀ k, k < z → R_30 k = Ra k := fun k hk => by rw [← h30R, nR1_off (by omega) (by omega), upR_n _ _ (by omega)]
        have hcs30 : CoSh R_30 S_30 z := by
          rw [← h30R, ← h30S]
          refine ⟨sz_l (sz_l (sz_l (sz_l (sz_l (sz_n hz))))), sz_l (sz_l (sz_l (sz_l (sz_n (lz hz))))), sz_l (sz_l (sz_l (sz_n (lz (lz hz))))), sz_l (sz_l (sz_n (lz (lz (lz hz))))), sz_l (sz_n (lz (lz (lz (lz hz))))), sz_n (lz (lz (lz (lz (lz hz))))), ?_, ?_, ?_, ?_, ?_⟩
          all_goals unfold nR_X1
          · rw [up2_n _ _ (Or.inr (by decide)), up2_n _ _ (Or.inr (by decide)), up2_n _ _ (Or.inr (by decide)), upR_n _ _ (by omega), up2_n _ _ (Or.inr (by decide)), up2_s]
          · rw [up2_n _ _ (Or.inr (by decide)), up2_n _ _ (Or.inr (by decide)), up2_n _ _ (Or.inr (by decide)), upR_n _ _ (by omega), up2_s]
          · rw [up2_n _ _ (Or.inr (by decide)), up2_n _ _ (Or.inr (by decide)), up2_s]
          · rw [up2_n _ _ (Or.inr (by decide)), up2_s]
          · rw [up2_s]
        have hSX30 : SX Sa S_30 := by rw [← h30S]; exact SX_app (SX_app (SX_app (SX_app (SX_app (SX_app SX_rf)))))
        have hlen30 : S_30.length = z + 6 := by rw [← h30S]; exact lz (lz (lz (lz (lz (lz hz)))))
        have hL30 : LY R_30 S_30 := LY_ext hL (fun k h1 _ _ => eR30 k (by omega)) hSX30
        change WW X 33 [some (kR (some 0)), some (kI a), some (kR none)] [kR (some z)] I_30 J_30 R_30 S_30 _ _
        refine ww_astore_n hX (pc := 33) (lv' := [some (kR (some 0)), some (kI a), some (kR (some z))]) dX10_image_33 (by decide) rfl rfl ?_
        refine ww_aload_n hX (pc := 34) dX10_image_34 rfl ?_
        refine ww_getR hX (pc := 35) fX10_16 (by decide) (xs_0 hL30) (xr_0_1 hL30) dX10_image_35 ?_
        refine ww_iload_n hX (pc := 38) dX10_image_38 rfl ?_
        refine ww_aload_n hX (pc := 39) dX10_image_39 rfl ?_
        refine ww_aast5 hX (pc := 40) (xs_7 hL30) (by decide) (by omega) (by omega) hcs30.1 dX10_image_40 ?_
        have hx40 : ∃ R9, R9 = up2 R_30 7 a.toNat (some z) := ⟨_, rfl⟩
        obtain ⟨R_40, eR40⟩ := hx40
        rw [← eR40]
        have fR40 : ∀ k, k ≠ 7 → R_40 k = R_30 k := fun k hk => by rw [eR40, up2_off _ _ _ hk]
        have hLx : LY R_40 S_30 := LY_ext hL30 (fun k h1 _ h7 => fR40 k h7) SX_rf
        have hCx : CX I_30 := CX_lo hC (fun k hk => eI30 k (by omega))
        have hWx : LawsOK I_30 R_40 S_30 4 := LawsOK_hi hCI.2.2.1 (fun i hi => by rw [fR40 4 (by decide), eR30 4 (by omega)]) (fun k h1 h2 => eI30 k (by omega)) (fun k h1 h2 => by rw [fR40 k (by omega), eR30 k (by omega)]) hSX30
        have hMx : ∀ i, i < 2 → ∀ c', R_40 7 i = some c' → c' = z ∨ CoastOK I_30 R_40 S_30 c' := fun i hi c' hc' => by
          by_cases hia : i = a.toNat
          · rw [eR40, hia, up2_s] at hc'
            exact Or.inl (Option.some.inj hc').symm
          · rw [eR40, up2_n _ _ (Or.inr hia), eR30 7 (by omega)] at hc'
            exact Or.inr (CoastOK_hi (hCI.2.2.2 i hi c' hc') (fun k h1 h2 => eI30 k (by omega)) (fun k h1 h2 => by rw [fR40 k (by omega), eR30 k (by omega)]) hSX30)
        have hcx : CoSh R_40 S_30 z := CoSh_ext hcs30 (fR40 z (by omega)) SX_rf
        refine ww_aload_n hX (pc := 41) dX10_image_41 rfl ?_
        refine ww_aload_n hX (pc := 42) dX10_image_42 rfl ?_
        refine ww_getR hX (pc := 43) fX10_10 (by decide) (xs_0 hLx) (xr_0_0 hLx) dX10_image_43 ?_
        refine ww_callV hX (pc := 46) (av := [kR (some 1)]) sX10_301 hcx.1 (c_X1_copyFrom l0 (o := z) (q := 1) hcx (CoSh_1 hLx) (by omega) (fun i hi w hw => ⟨0, (hWx i hi w hw).2.1⟩)) rfl (by decide) (by omega) (by omega) (Nat.le_of_ble_eq_true rfl) dX10_image_46 (fun r_46 I_46 J_46 R_46 S_46 h_46 => ?_)
        obtain ⟨rfl, rfl, e46, eR46, rfl, he46⟩ := h_46
        change WW X 49 [some (kR (some 0)), some (kI a), some (kR (some z))] [] I_46 J_30 R_46 S_30 _ _
        have CI46 : CI I_46 R_46 S_30 := CI_img hLx hCx hWx hMx (by omega) hcx e46 eR46 he46
        have hL46 := CI46.1
        have cI_46 := CI46.2.1
        refine ww_aload_n hX (pc := 49) dX10_image_49 rfl ?_
        refine ww_iconst hX (pc := 50) (x := 0) dX10_image_50 rfl ?_
        refine vI1 hX (pc := 51) sX10_114 (xs_0 hL46) (c8_X10_accept l0 hL46 cI_46 (FRk_w (rs := []) (ws := []) hF (Fw_of Fw_rf (fun k h1 h2 => (e46 k (by omega) (by omega) (by omega) (by omega) (by omega)).trans (eI30 k (by omega)))) (by decide) (by decide) (eJ30 18 (by omega)) (eJ30 28 (by omega)))) (by decide) (by omega) (by omega) (Nat.le_of_ble_eq_true rfl) dX10_image_51 (fun x_51 I_51 J_51 h_51 => ?_)
        obtain ⟨h_51, fr_51⟩ := h_51
        have wI_51 : Fw [] [(0, 16)] Ia I_51 := Fw_tr (Fw_of Fw_rf (fun k h1 h2 => (e46 k (by omega) (by omega) (by omega) (by omega) (by omega)).trans (eI30 k (by omega)))) (Fw_wd h_51.2.2.2.1 (by decide) (by decide))
        have hk51 : ∀ k, 73 ≤ k → I_51 k = I_46 k := fun k hk => h_51.1 k (by omega)
        have n1 : I_30 1 = Ia 1 := eI30 1 (by omega)
        have n2 : I_30 2 = Ia 2 := eI30 2 (by omega)
        have n3 : I_30 3 = Ia 3 := eI30 3 (by omega)
        have n5 : I_30 5 = Ia 5 := eI30 5 (by omega)
        have n6 : I_30 6 = Ia 6 := eI30 6 (by omega)
        have nr4 : R_40 4 = Ra 4 := (fR40 4 (by decide)).trans (eR30 4 (by omega))
        have im51 : ImC Ia I_51 Ra R_46 z := ⟨by rw [hk51 _ (by omega), ← n1]; exact he46.2.2.2.2.2, by rw [hk51 _ (by omega), ← n2]; exact he46.1, by rw [hk51 _ (by omega), ← n3]; exact he46.2.1, by rw [hk51 _ (by omega), ← n5]; exact he46.2.2.2.1, by rw [hk51 _ (by omega), ← n6]; exact he46.2.2.2.2.1, by rw [← nr4]; exact he46.2.2.1⟩
        exact ww_iret hX (pc := 54) hT (by omega) (by omega) dX10_image_54 ⟨_, rfl, ⟨CI_low CI46 h_51.1 h_51.2.2.1, fun k h1 h2 => ⟨(h_51.1 k (by omega)).trans ((e46 k (by omega) (by omega) (by omega) (by omega) (by omega)).trans (eI30 k (by omega))), (h_51.2.1 k (by omega)).trans (eJ30 k (by omega)), (eR46 k (by omega)).trans ((fR40 k (by omega)).trans (eR30 k (by omega)))⟩, Fw_wd wI_51 (by decide) (by decide), (fun h9 => absurd (by omega) h9), (fun h9 => absurd (by omega) h9), (fun _ => ⟨h_51.2.2.2.2.1, wI_51, h_51.2.2.2.2.2, z, (by rw [eR46 7 (by omega), eR40, up2_s]), im51, (fun j hj => by rw [eR46 7 (by omega), eR40, up2_n _ _ (Or.inr hj), eR30 7 (by omega)]), (fun j hj _ c' hc' => by
      have hk9 := hCI.2.2.2 j hj c' hc'
      have hl9 := (List.getElem?_eq_some_iff.mp hk9.2.1.2.2.2.2.2.1).1
      have h739 := hk9.1
      exact ⟨fun k hk => by rw [hk51 _ (by omega), e46 _ (by omega) (by omega) (by omega) (by omega) (by omega), eI30 _ (by omega)], by rw [eR46 _ (by omega), fR40 _ (by omega), eR30 _ (by omega)]⟩), Or.inr hz.symm, (by rw [eR46 4 (by omega)]; exact nr4), (fun k h1 h2 h3 => ⟨(hk51 k h1).trans ((e46 k (by omega) (by omega) (by omega) (by omega) (by omega)).trans (eI30 k (by omega))), (eR46 k (by omega)).trans ((fR40 k (by omega)).trans (eR30 k (by omega)))⟩)⟩), hSX30⟩, fr_51⟩
      | some c =>
        obtain ⟨hc73, hcs, hcr, hcl⟩ := hCI.2.2.2 a.toNat (by omega) c hlw
        refine ww_astore_n hX (pc := 21) (lv' := [some (kR (some 0)), some (kI a), some (kR (some c))]) dX10_image_21 (by decide) rfl rfl ?_
        refine ww_aload_n hX (pc := 22) dX10_image_22 rfl ?_
        refine ww_ifnonnullS hX (pc := 23) (tgt := 41) dX10_image_23 (by decide) ?_
        refine ww_aload_n hX (pc := 41) dX10_image_41 rfl ?_
        refine ww_aload_n hX (pc := 42) dX10_image_42 rfl ?_
        refine ww_getR hX (pc := 43) fX10_10 (by decide) (xs_0 hL) (xr_0_0 hL) dX10_image_43 ?_
        have hLx := hL
        have hCx := hC
        have hWx := hCI.2.2.1
        have hMx : ∀ i, i < 2 → ∀ c', Ra 7 i = some c' → c' = c ∨ CoastOK Ia Ra Sa c' := fun i hi c' hc' => Or.inr (hCI.2.2.2 i hi c' hc')
        have hcx := hcs
        refine ww_callV hX (pc := 46) (av := [kR (some 1)]) sX10_301 hcx.1 (c_X1_copyFrom l0 (o := c) (q := 1) hcx (CoSh_1 hLx) (by omega) (fun i hi w hw => ⟨0, (hWx i hi w hw).2.1⟩)) rfl (by decide) (by omega) (by omega) (Nat.le_of_ble_eq_true rfl) dX10_image_46 (fun r_46 I_46 J_46 R_46 S_46 h_46 => ?_)
        obtain ⟨rfl, rfl, e46, eR46, rfl, he46⟩ := h_46
        change WW X 49 [some (kR (some 0)), some (kI a), some (kR (some c))] [] I_46 Ja R_46 Sa _ _
        have CI46 : CI I_46 R_46 Sa := CI_img hLx hCx hWx hMx (by omega) hcx e46 eR46 he46
        have hL46 := CI46.1
        have cI_46 := CI46.2.1
        refine ww_aload_n hX (pc := 49) dX10_image_49 rfl ?_
        refine ww_iconst hX (pc := 50) (x := 0) dX10_image_50 rfl ?_
        refine vI1 hX (pc := 51) sX10_114 (xs_0 hL46) (c8_X10_accept l0 hL46 cI_46 (FRk_w (rs := []) (ws := []) hF (Fw_of Fw_rf (fun k h1 h2 => (e46 k (by omega) (by omega) (by omega) (by omega) (by omega)))) (by decide) (by decide) rfl rfl)) (by decide) (by omega) (by omega) (Nat.le_of_ble_eq_true rfl) dX10_image_51 (fun x_51 I_51 J_51 h_51 => ?_)
        obtain ⟨h_51, fr_51⟩ := h_51
        have wI_51 : Fw [] [(0, 16)] Ia I_51 := Fw_tr (Fw_of Fw_rf (fun k h1 h2 => (e46 k (by omega) (by omega) (by omega) (by omega) (by omega)).trans rfl)) (Fw_wd h_51.2.2.2.1 (by decide) (by decide))
        have hk51 : ∀ k, 73 ≤ k → I_51 k = I_46 k := fun k hk => h_51.1 k (by omega)
        have n1 : Ia 1 = Ia 1 := rfl
        have n2 : Ia 2 = Ia 2 := rfl
        have n3 : Ia 3 = Ia 3 := rfl
        have n5 : Ia 5 = Ia 5 := rfl
        have n6 : Ia 6 = Ia 6 := rfl
        have nr4 : Ra 4 = Ra 4 := rfl
        have im51 : ImC Ia I_51 Ra R_46 c := ⟨by rw [hk51 _ (by omega), ← n1]; exact he46.2.2.2.2.2, by rw [hk51 _ (by omega), ← n2]; exact he46.1, by rw [hk51 _ (by omega), ← n3]; exact he46.2.1, by rw [hk51 _ (by omega), ← n5]; exact he46.2.2.2.1, by rw [hk51 _ (by omega), ← n6]; exact he46.2.2.2.2.1, by rw [← nr4]; exact he46.2.2.1⟩
        exact ww_iret hX (pc := 54) hT (by omega) (by omega) dX10_image_54 ⟨_, rfl, ⟨CI_low CI46 h_51.1 h_51.2.2.1, fun k h1 h2 => ⟨(h_51.1 k (by omega)).trans ((e46 k (by omega) (by omega) (by omega) (by omega) (by omega)).trans rfl), (h_51.2.1 k (by omega)).trans rfl, (eR46 k (by omega)).trans rfl⟩, Fw_wd wI_51 (by decide) (by decide), (fun h9 => absurd (by omega) h9), (fun h9 => absurd (by omega) h9), (fun _ => ⟨h_51.2.2.2.2.1, wI_51, h_51.2.2.2.2.2, c, (by rw [eR46 7 (by omega)]; exact hlw), im51, (fun j hj => by rw [eR46 7 (by omega)]), (fun j hj hne c' hc' => by
      have hk9 := hCI.2.2.2 j hj c' hc'
      have hcc : c' ≠ c := fun q9 => hne (hDI j a.toNat hj (by omega) c (by rw [hc', q9]) hlw)
      have ho9 := coast_off hk9.2.1 hcs hcc
      have h739 := hk9.1
      exact ⟨fun k hk => by rw [hk51 _ (by omega), e46 _ (by omega) (by omega) (by omega) (by omega) (by omega)], by rw [eR46 _ (by omega)]⟩), Or.inl ⟨hlw, eR46 7 (by omega)⟩, (eR46 4 (by omega)), (fun k h1 h2 h3 => ⟨(hk51 k h1).trans ((e46 k (by omega) (by omega) (by omega) (by omega) (by omega)).trans rfl), (eR46 k (by omega)).trans rfl⟩)⟩), SX_rf⟩, fr_51⟩
    · simp only [w32_mod] at h_6
      refine ww_aload_n hX (pc := 9) dX10_image_9 rfl ?_
      refine ww_iconst hX (pc := 10) (x := (-1)) dX10_image_10 rfl ?_
      refine vI1 hX (pc := 11) sX10_89 (xs_0 hL) (c8_X10_refuse l0 hL hC hF (by omega) (by omega)) (by decide) (by omega) (by omega) (Nat.le_of_ble_eq_true rfl) dX10_image_11 (fun x_11 I_11 J_11 h_11 => ?_)
      obtain ⟨h_11, fr_11⟩ := h_11
      have kI_11 : Kp 0 49 Ia I_11 := Kp_tr (Kp_rf (a := 0) (b := 49)) (Kp_wd h_11.1 (by decide) (by decide))
      have kJ_11 : Kp 0 49 Ja J_11 := Kp_tr (Kp_rf (a := 0) (b := 49)) (Kp_wd h_11.2.1 (by decide) (by decide))
      have cI_11 : CX I_11 := h_11.2.2.1
      have qI_11 := XI_o cI_11.1
      have wI_11 : Fw [48] [(0, 16)] Ia I_11 := Fw_tr Fw_rf (Fw_wd h_11.2.2.2.1 (by decide) (by decide))
      have r5_I_11 : I_11 1 5 = Ia 1 5 := h_11.2.2.2.1 1 5 (by decide) (by decide) (by decide)
      have r6_I_11 : I_11 1 6 = Ia 1 6 := h_11.2.2.2.1 1 6 (by decide) (by decide) (by decide)
      have r7_I_11 : I_11 1 7 = Ia 1 7 := h_11.2.2.2.1 1 7 (by decide) (by decide) (by decide)
      have r8_I_11 : I_11 1 8 = Ia 1 8 := h_11.2.2.2.1 1 8 (by decide) (by decide) (by decide)
      have r9_I_11 : I_11 1 9 = Ia 1 9 := h_11.2.2.2.1 1 9 (by decide) (by decide) (by decide)
      have r10_I_11 : I_11 1 10 = Ia 1 10 := h_11.2.2.2.1 1 10 (by decide) (by decide) (by decide)
      have r11_I_11 : I_11 1 11 = Ia 1 11 := h_11.2.2.2.1 1 11 (by decide) (by decide) (by decide)
      have r81_I_11 : I_11 8 1 = Ia 8 1 := h_11.2.2.2.1 8 1 (by decide) (by decide) (by decide)
      have rf_I_11 : FU (I_11 1 5) = FU (Ia 1 5) := by rw [r5_I_11]
      have xv_I_11 := h_11.2.2.2.2
      exact ww_iret hX (pc := 14) hT (by omega) (by omega) dX10_image_14 ⟨_, rfl, ⟨CI_low hCI kI_11 cI_11, fun k h1 h2 => ⟨kI_11 k (by omega), kJ_11 k (by omega), rfl⟩, (Fw_wd wI_11 (by decide) (by decide)), (fun _ => ⟨xv_I_11.1, h_11.2.2.2.1, xv_I_11.2⟩), (fun _ => ⟨rfl, rfl, fun k hk => ⟨kI_11 k (by omega), rfl⟩⟩), (fun h9 => absurd h9 (by omega)), SX_rf⟩, fr_11⟩
set_option maxHeartbeats 4000000 in
set_option maxRecDepth 20000 in
theorem c8_X10_back (l0 : Launch) {Ia Ja : aI1} {Ra : aR1} {Sa : aS1} (hCI : CI Ia Ra Sa) (hF : FRk Ia Ja) {a : Int} (ha0 : -2147483648 ≤ a) (ha1 : a < 2147483648)  : CT l0 12 0 0 mX10_back [kR (some 0), kI a] Ia Ja Ra Sa (dI (fun x I' J' R' S' => (CI I' R' S' ∧ (∀ k, 49 ≤ k → k < 73 → I' k = Ia k ∧ J' k = Ja k ∧ R' k = Ra k) ∧ Fw [1, 2, 3, 5, 6, 18, 19, 20, 21, 22, 23, 24, 25, 26, 27, 28, 29, 30, 31, 32, 33, 34, 35, 36, 48] [(0, 16)] Ia I' ∧ (¬ (0 ≤ a ∧ a < 2) → x = -1 ∧ RFc Ia I' (-1)) ∧ (¬ (0 ≤ a ∧ a < 2) → R' 7 = Ra 7 ∧ R' 4 = Ra 4 ∧ (∀ k, 73 ≤ k → I' k = Ia k ∧ R' k = Ra k)) ∧ ((0 ≤ a ∧ a < 2) → Ra 7 a.toNat = none → x = -2 ∧ RFc Ia I' (-2) ∧ R' 7 = Ra 7 ∧ R' 4 = Ra 4 ∧ (∀ k, 73 ≤ k → I' k = Ia k ∧ R' k = Ra k)) ∧ ((0 ≤ a ∧ a < 2) → ∀ c, Ra 7 a.toNat = some c → x = 0 ∧ Fw [1, 2, 3, 5, 6, 18, 19, 20, 21, 22, 23, 24, 25, 26, 27, 28, 29, 30, 31, 32, 33, 34, 35, 36] [(0, 16)] Ia I' ∧ I' 0 16 = 0 ∧ BkC Ia I' Ra R' c ∧ R' 7 = Ra 7 ∧ (∀ k, 73 ≤ k → I' k = Ia k ∧ R' k = Ra k)) ∧ Sa = S') ∧ FRk I' J')) := by
  refine ct_in pn_X10 (Nat.le_of_ble_eq_true rfl) (fun X hX hT hIn => ?_)
  have hX : aK l0 X cX10_back 3 RX10 (some .int) 12 0 0 := hX
  change WW X 0 [some (kR (some 0)), some (kI a), none] [] Ia Ja Ra Sa 0 0
  have hL := hCI.1
  have hC := hCI.2.1
  have hI := hC.1
  have hq := XI_o hI
  refine ww_iload_n hX (pc := 0) dX10_back_0 rfl ?_
  refine ww_if_lt hX (pc := 1) (tgt := 9) dX10_back_1 (by decide) (fun h_1 => ?_) (fun h_1 => ?_)
  · simp only [w32_mod] at h_1
    refine ww_aload_n hX (pc := 9) dX10_back_9 rfl ?_
    refine ww_iconst hX (pc := 10) (x := (-1)) dX10_back_10 rfl ?_
    refine vI1 hX (pc := 11) sX10_89 (xs_0 hL) (c8_X10_refuse l0 hL hC hF (by omega) (by omega)) (by decide) (by omega) (by omega) (Nat.le_of_ble_eq_true rfl) dX10_back_11 (fun x_11 I_11 J_11 h_11 => ?_)
    obtain ⟨h_11, fr_11⟩ := h_11
    have kI_11 : Kp 0 49 Ia I_11 := Kp_tr (Kp_rf (a := 0) (b := 49)) (Kp_wd h_11.1 (by decide) (by decide))
    have kJ_11 : Kp 0 49 Ja J_11 := Kp_tr (Kp_rf (a := 0) (b := 49)) (Kp_wd h_11.2.1 (by decide) (by decide))
    have cI_11 : CX I_11 := h_11.2.2.1
    have qI_11 := XI_o cI_11.1
    have wI_11 : Fw [1, 2, 3, 5, 6, 18, 19, 20, 21, 22, 23, 24, 25, 26, 27, 28, 29, 30, 31, 32, 33, 34, 35, 36, 48] [(0, 16)] Ia I_11 := Fw_tr Fw_rf (Fw_wd h_11.2.2.2.1 (by decide) (by decide))
    have r5_I_11 : I_11 1 5 = Ia 1 5 := h_11.2.2.2.1 1 5 (by decide) (by decide) (by decide)
    have r6_I_11 : I_11 1 6 = Ia 1 6 := h_11.2.2.2.1 1 6 (by decide) (by decide) (by decide)
    have r7_I_11 : I_11 1 7 = Ia 1 7 := h_11.2.2.2.1 1 7 (by decide) (by decide) (by decide)
    have r8_I_11 : I_11 1 8 = Ia 1 8 := h_11.2.2.2.1 1 8 (by decide) (by decide) (by decide)
    have r9_I_11 : I_11 1 9 = Ia 1 9 := h_11.2.2.2.1 1 9 (by decide) (by decide) (by decide)
    have r10_I_11 : I_11 1 10 = Ia 1 10 := h_11.2.2.2.1 1 10 (by decide) (by decide) (by decide)
    have r11_I_11 : I_11 1 11 = Ia 1 11 := h_11.2.2.2.1 1 11 (by decide) (by decide) (by decide)
    have r81_I_11 : I_11 8 1 = Ia 8 1 := h_11.2.2.2.1 8 1 (by decide) (by decide) (by decide)
    have rf_I_11 : FU (I_11 1 5) = FU (Ia 1 5) := by rw [r5_I_11]
    have xv_I_11 := h_11.2.2.2.2
    exact ww_iret hX (pc := 14) hT (by omega) (by omega) dX10_back_14 ⟨_, rfl, ⟨CI_low hCI kI_11 cI_11, fun k h1 h2 => ⟨kI_11 k (by omega), kJ_11 k (by omega), rfl⟩, (Fw_wd wI_11 (by decide) (by decide)), (fun _ => ⟨xv_I_11.1, h_11.2.2.2.1, xv_I_11.2⟩), (fun _ => ⟨rfl, rfl, fun k hk => ⟨kI_11 k (by omega), rfl⟩⟩), (fun h9 => absurd h9 (by omega)), (fun h9 => absurd h9 (by omega)), rfl⟩, fr_11⟩
  · simp only [w32_mod] at h_1
    refine ww_iload_n hX (pc := 4) dX10_back_4 rfl ?_
    refine ww_iconst hX (pc := 5) (x := 2) dX10_back_5 rfl ?_
    refine ww_icmp_lt hX (pc := 6) (tgt := 15) dX10_back_6 (by decide) (fun h_6 => ?_) (fun h_6 => ?_)
    · simp only [w32_mod] at h_6
      refine ww_aload_n hX (pc := 15) dX10_back_15 rfl ?_
      refine ww_getR hX (pc := 16) fX10_16 (by decide) (xs_0 hL) (xr_0_1 hL) dX10_back_16 ?_
      refine ww_iload_n hX (pc := 19) dX10_back_19 rfl ?_
      refine ww_aald hX (pc := 20) (Or.inr rfl) (xs_7 hL) (by decide) (by omega) (by omega) dX10_back_20 ?_
      cases hlw : Ra 7 a.toNat with
      | none =>
        refine ww_astore_nN hX (pc := 21) (lv' := [some (kR (some 0)), some (kI a), some (kR none)]) dX10_back_21 (by decide) rfl rfl ?_
        refine ww_aload_nN hX (pc := 22) dX10_back_22 rfl ?_
        refine ww_ifnonnullN hX (pc := 23) dX10_back_23 ?_
        refine ww_aload_n hX (pc := 26) dX10_back_26 rfl ?_
        refine ww_bipush hX (pc := 27) (x := (-2)) dX10_back_27 (by decide) ?_
        refine vI1 hX (pc := 29) sX10_89 (xs_0 hL) (c8_X10_refuse l0 hL hC hF (by omega) (by omega)) (by decide) (by omega) (by omega) (Nat.le_of_ble_eq_true rfl) dX10_back_29 (fun x_29 I_29 J_29 h_29 => ?_)
        obtain ⟨h_29, fr_29⟩ := h_29
        have kI_29 : Kp 0 49 Ia I_29 := Kp_tr (Kp_rf (a := 0) (b := 49)) (Kp_wd h_29.1 (by decide) (by decide))
        have kJ_29 : Kp 0 49 Ja J_29 := Kp_tr (Kp_rf (a := 0) (b := 49)) (Kp_wd h_29.2.1 (by decide) (by decide))
        have cI_29 : CX I_29 := h_29.2.2.1
        have qI_29 := XI_o cI_29.1
        have wI_29 : Fw [1, 2, 3, 5, 6, 18, 19, 20, 21, 22, 23, 24, 25, 26, 27, 28, 29, 30, 31, 32, 33, 34, 35, 36, 48] [(0, 16)] Ia I_29 := Fw_tr Fw_rf (Fw_wd h_29.2.2.2.1 (by decide) (by decide))
        have r5_I_29 : I_29 1 5 = Ia 1 5 := h_29.2.2.2.1 1 5 (by decide) (by decide) (by decide)
        have r6_I_29 : I_29 1 6 = Ia 1 6 := h_29.2.2.2.1 1 6 (by decide) (by decide) (by decide)
        have r7_I_29 : I_29 1 7 = Ia 1 7 := h_29.2.2.2.1 1 7 (by decide) (by decide) (by decide)
        have r8_I_29 : I_29 1 8 = Ia 1 8 := h_29.2.2.2.1 1 8 (by decide) (by decide) (by decide)
        have r9_I_29 : I_29 1 9 = Ia 1 9 := h_29.2.2.2.1 1 9 (by decide) (by decide) (by decide)
        have r10_I_29 : I_29 1 10 = Ia 1 10 := h_29.2.2.2.1 1 10 (by decide) (by decide) (by decide)
        have r11_I_29 : I_29 1 11 = Ia 1 11 := h_29.2.2.2.1 1 11 (by decide) (by decide) (by decide)
        have r81_I_29 : I_29 8 1 = Ia 8 1 := h_29.2.2.2.1 8 1 (by decide) (by decide) (by decide)
        have rf_I_29 : FU (I_29 1 5) = FU (Ia 1 5) := by rw [r5_I_29]
        have xv_I_29 := h_29.2.2.2.2
        exact ww_iret hX (pc := 32) hT (by omega) (by omega) dX10_back_32 ⟨_, rfl, ⟨CI_low hCI kI_29 cI_29, fun k h1 h2 => ⟨kI_29 k (by omega), kJ_29 k (by omega), rfl⟩, (Fw_wd wI_29 (by decide) (by decide)), (fun h9 => absurd (by omega) h9), (fun h9 => absurd (by omega) h9), (fun _ _ => ⟨xv_I_29.1, ⟨h_29.2.2.2.1, xv_I_29.2⟩, rfl, rfl, fun k hk => ⟨kI_29 k (by omega), rfl⟩⟩), (fun _ c9 hc9 => (by rw [hlw] at hc9; cases hc9)), rfl⟩, fr_29⟩
      | some c =>
        obtain ⟨hc73, hcs, hcr, hcl⟩ := hCI.2.2.2 a.toNat (by omega) c hlw
        refine ww_astore_n hX (pc := 21) (lv' := [some (kR (some 0)), some (kI a), some (kR (some c))]) dX10_back_21 (by decide) rfl rfl ?_
        refine ww_aload_n hX (pc := 22) dX10_back_22 rfl ?_
        refine ww_ifnonnullS hX (pc := 23) (tgt := 33) dX10_back_23 (by decide) ?_
        refine ww_aload_n hX (pc := 33) dX10_back_33 rfl ?_
        refine ww_getR hX (pc := 34) fX10_10 (by decide) (xs_0 hL) (xr_0_0 hL) dX10_back_34 ?_
        refine ww_aload_n hX (pc := 37) dX10_back_37 rfl ?_
        refine ww_callV hX (pc := 38) (av := [kR (some c)]) sX10_301 (xs_1 hL) (c_X1_copyFrom l0 (o := 1) (q := c) (CoSh_1 hL) hcs (by omega) (fun i hi w hw => ⟨0, (hcl i hi w hw).2.1⟩)) rfl (by decide) (by omega) (by omega) (Nat.le_of_ble_eq_true rfl) dX10_back_38 (fun r_38 I_38 J_38 R_38 S_38 h_38 => ?_)
        obtain ⟨rfl, rfl, e38, eR38, rfl, he38⟩ := h_38
        change WW X 41 [some (kR (some 0)), some (kI a), some (kR (some c))] [] I_38 Ja R_38 Sa _ _
        have hL38 : LY R_38 Sa := LY_ext hL (fun k h1 h4 h7 => eR38 k h4) SX_rf
        have kI_38 : Kp 0 49 Ia I_38 := fun k hk => e38 k (by omega) (by omega) (by omega) (by omega) (by omega)
        have cI_38 : CX I_38 := CX_copy hC hcr e38 he38
        have CI38 : CI I_38 R_38 Sa := ⟨hL38, cI_38, LawsOK_hi hcl (fun i hi => he38.2.2.1 i hi) (fun k h1 _ => kI_38 k (by omega)) (fun k h1 _ => eR38 k (by omega)) SX_rf, fun i hi c' hc' => CoastOK_hi (hCI.2.2.2 i hi c' (by rw [← eR38 7 (by decide)]; exact hc')) (fun k h1 _ => kI_38 k (by omega)) (fun k h1 _ => eR38 k (by omega)) SX_rf⟩
        have wI_38 : Fw [1, 2, 3, 5, 6, 18, 19, 20, 21, 22, 23, 24, 25, 26, 27, 28, 29, 30, 31, 32, 33, 34, 35, 36] [(0, 16)] Ia I_38 := Fw_of Fw_rf (fun k h1 h2 => e38 k (fun e9 => h2 (by rw [e9]; decide)) (fun e9 => h2 (by rw [e9]; decide)) (fun e9 => h2 (by rw [e9]; decide)) (fun e9 => h2 (by rw [e9]; decide)) (fun e9 => h2 (by rw [e9]; decide)))
        refine ww_aload_n hX (pc := 41) dX10_back_41 rfl ?_
        refine vV0 hX (pc := 42) sX10_111 (xs_0 hL38) (c8_X10_codeChanged l0 hL38 cI_38) (by decide) (by omega) (by omega) (Nat.le_of_ble_eq_true rfl) dX10_back_42 (fun I_42 J_42 h_42 => ?_)
        obtain ⟨h_42, fr_42⟩ := h_42
        have kI_42 : Kp 0 49 Ia I_42 := Kp_tr kI_38 (Kp_wd h_42.1 (by decide) (by decide))
        have kJ_42 : Kp 0 49 Ja J_42 := Kp_tr (Kp_rf (a := 0) (b := 49)) (Kp_wd h_42.2.1 (by decide) (by decide))
        have cI_42 : CX I_42 := h_42.2.2.1
        have qI_42 := XI_o cI_42.1
        have wI_42 : Fw [1, 2, 3, 5, 6, 18, 19, 20, 21, 22, 23, 24, 25, 26, 27, 28, 29, 30, 31, 32, 33, 34, 35, 36] [(0, 16)] Ia I_42 := Fw_tr wI_38 (Fw_wd h_42.2.2.2.1 (by decide) (by decide))
        have r5_I_42 : I_42 1 5 = I_38 1 5 := h_42.2.2.2.1 1 5 (by decide) (by decide) (by decide)
        have r6_I_42 : I_42 1 6 = I_38 1 6 := h_42.2.2.2.1 1 6 (by decide) (by decide) (by decide)
        have r7_I_42 : I_42 1 7 = I_38 1 7 := h_42.2.2.2.1 1 7 (by decide) (by decide) (by decide)
        have r8_I_42 : I_42 1 8 = I_38 1 8 := h_42.2.2.2.1 1 8 (by decide) (by decide) (by decide)
        have r9_I_42 : I_42 1 9 = I_38 1 9 := h_42.2.2.2.1 1 9 (by decide) (by decide) (by decide)
        have r10_I_42 : I_42 1 10 = I_38 1 10 := h_42.2.2.2.1 1 10 (by decide) (by decide) (by decide)
        have r11_I_42 : I_42 1 11 = I_38 1 11 := h_42.2.2.2.1 1 11 (by decide) (by decide) (by decide)
        have r81_I_42 : I_42 8 1 = I_38 8 1 := h_42.2.2.2.1 8 1 (by decide) (by decide) (by decide)
        have rf_I_42 : FU (I_42 1 5) = FU (I_38 1 5) := by rw [r5_I_42]
        refine ww_aload_n hX (pc := 45) dX10_back_45 rfl ?_
        refine ww_iconst hX (pc := 46) (x := 0) dX10_back_46 rfl ?_
        refine vI1 hX (pc := 47) sX10_114 (xs_0 hL38) (c8_X10_accept l0 hL38 cI_42 fr_42) (by decide) (by omega) (by omega) (Nat.le_of_ble_eq_true rfl) dX10_back_47 (fun x_47 I_47 J_47 h_47 => ?_)
        obtain ⟨h_47, fr_47⟩ := h_47
        have kI_47 : Kp 0 49 Ia I_47 := Kp_tr kI_42 (Kp_wd h_47.1 (by decide) (by decide))
        have kJ_47 : Kp 0 49 Ja J_47 := Kp_tr kJ_42 (Kp_wd h_47.2.1 (by decide) (by decide))
        have cI_47 : CX I_47 := h_47.2.2.1
        have qI_47 := XI_o cI_47.1
        have wI_47 : Fw [1, 2, 3, 5, 6, 18, 19, 20, 21, 22, 23, 24, 25, 26, 27, 28, 29, 30, 31, 32, 33, 34, 35, 36] [(0, 16)] Ia I_47 := Fw_tr wI_42 (Fw_wd h_47.2.2.2.1 (by decide) (by decide))
        have r5_I_47 : I_47 1 5 = I_42 1 5 := h_47.2.2.2.1 1 5 (by decide) (by decide) (by decide)
        have r6_I_47 : I_47 1 6 = I_42 1 6 := h_47.2.2.2.1 1 6 (by decide) (by decide) (by decide)
        have r7_I_47 : I_47 1 7 = I_42 1 7 := h_47.2.2.2.1 1 7 (by decide) (by decide) (by decide)
        have r8_I_47 : I_47 1 8 = I_42 1 8 := h_47.2.2.2.1 1 8 (by decide) (by decide) (by decide)
        have r9_I_47 : I_47 1 9 = I_42 1 9 := h_47.2.2.2.1 1 9 (by decide) (by decide) (by decide)
        have r10_I_47 : I_47 1 10 = I_42 1 10 := h_47.2.2.2.1 1 10 (by decide) (by decide) (by decide)
        have r11_I_47 : I_47 1 11 = I_42 1 11 := h_47.2.2.2.1 1 11 (by decide) (by decide) (by decide)
        have r81_I_47 : I_47 8 1 = I_42 8 1 := h_47.2.2.2.1 8 1 (by decide) (by decide) (by decide)
        have rf_I_47 : FU (I_47 1 5) = FU (I_42 1 5) := by rw [r5_I_47]
        have xv_I_47 := h_47.2.2.2.2
        exact ww_iret hX (pc := 50) hT (by omega) (by omega) dX10_back_50 ⟨_, rfl, ⟨CI_low CI38 (fun k hk => (kI_47 k hk).trans (kI_38 k hk).symm) cI_47, fun k h1 h2 => ⟨kI_47 k (by omega), kJ_47 k (by omega), (eR38 k (by omega))⟩, (Fw_wd wI_47 (by decide) (by decide)), (fun h9 => absurd (by omega) h9), (fun h9 => absurd (by omega) h9), (fun _ h9 => (by rw [hlw] at h9; cases h9)), (fun _ c9 hc9 => (by
      rw [hlw] at hc9
      cases hc9
      have y1 := (Fw_row h_47.2.2.2.1 1 (by decide) (by decide) (by decide)).trans (Fw_row h_42.2.2.2.1 1 (by decide) (by decide) (by decide))
      have y2 := (Fw_row h_47.2.2.2.1 2 (by decide) (by decide) (by decide)).trans (Fw_row h_42.2.2.2.1 2 (by decide) (by decide) (by decide))
      have y3 := (Fw_row h_47.2.2.2.1 3 (by decide) (by decide) (by decide)).trans (Fw_row h_42.2.2.2.1 3 (by decide) (by decide) (by decide))
      have y5 := (Fw_row h_47.2.2.2.1 5 (by decide) (by decide) (by decide)).trans (Fw_row h_42.2.2.2.1 5 (by decide) (by decide) (by decide))
      have y6 := (Fw_row h_47.2.2.2.1 6 (by decide) (by decide) (by decide)).trans (Fw_row h_42.2.2.2.1 6 (by decide) (by decide) (by decide))
      exact ⟨xv_I_47.1, wI_47, xv_I_47.2, ⟨by rw [y1]; exact he38.2.2.2.2.2, by rw [y2]; exact he38.1, by rw [y3]; exact he38.2.1, by rw [y5]; exact he38.2.2.2.1, by rw [y6]; exact he38.2.2.2.2.1, he38.2.2.1⟩, eR38 7 (by decide), fun k hk => ⟨kI_47 k (by omega), eR38 k (by omega)⟩⟩)), rfl⟩, fr_47⟩
    · simp only [w32_mod] at h_6
      refine ww_aload_n hX (pc := 9) dX10_back_9 rfl ?_
      refine ww_iconst hX (pc := 10) (x := (-1)) dX10_back_10 rfl ?_
      refine vI1 hX (pc := 11) sX10_89 (xs_0 hL) (c8_X10_refuse l0 hL hC hF (by omega) (by omega)) (by decide) (by omega) (by omega) (Nat.le_of_ble_eq_true rfl) dX10_back_11 (fun x_11 I_11 J_11 h_11 => ?_)
      obtain ⟨h_11, fr_11⟩ := h_11
      have kI_11 : Kp 0 49 Ia I_11 := Kp_tr (Kp_rf (a := 0) (b := 49)) (Kp_wd h_11.1 (by decide) (by decide))
      have kJ_11 : Kp 0 49 Ja J_11 := Kp_tr (Kp_rf (a := 0) (b := 49)) (Kp_wd h_11.2.1 (by decide) (by decide))
      have cI_11 : CX I_11 := h_11.2.2.1
      have qI_11 := XI_o cI_11.1
      have wI_11 : Fw [1, 2, 3, 5, 6, 18, 19, 20, 21, 22, 23, 24, 25, 26, 27, 28, 29, 30, 31, 32, 33, 34, 35, 36, 48] [(0, 16)] Ia I_11 := Fw_tr Fw_rf (Fw_wd h_11.2.2.2.1 (by decide) (by decide))
      have r5_I_11 : I_11 1 5 = Ia 1 5 := h_11.2.2.2.1 1 5 (by decide) (by decide) (by decide)
      have r6_I_11 : I_11 1 6 = Ia 1 6 := h_11.2.2.2.1 1 6 (by decide) (by decide) (by decide)
      have r7_I_11 : I_11 1 7 = Ia 1 7 := h_11.2.2.2.1 1 7 (by decide) (by decide) (by decide)
      have r8_I_11 : I_11 1 8 = Ia 1 8 := h_11.2.2.2.1 1 8 (by decide) (by decide) (by decide)
      have r9_I_11 : I_11 1 9 = Ia 1 9 := h_11.2.2.2.1 1 9 (by decide) (by decide) (by decide)
      have r10_I_11 : I_11 1 10 = Ia 1 10 := h_11.2.2.2.1 1 10 (by decide) (by decide) (by decide)
      have r11_I_11 : I_11 1 11 = Ia 1 11 := h_11.2.2.2.1 1 11 (by decide) (by decide) (by decide)
      have r81_I_11 : I_11 8 1 = Ia 8 1 := h_11.2.2.2.1 8 1 (by decide) (by decide) (by decide)
      have rf_I_11 : FU (I_11 1 5) = FU (Ia 1 5) := by rw [r5_I_11]
      have xv_I_11 := h_11.2.2.2.2
      exact ww_iret hX (pc := 14) hT (by omega) (by omega) dX10_back_14 ⟨_, rfl, ⟨CI_low hCI kI_11 cI_11, fun k h1 h2 => ⟨kI_11 k (by omega), kJ_11 k (by omega), rfl⟩, (Fw_wd wI_11 (by decide) (by decide)), (fun _ => ⟨xv_I_11.1, h_11.2.2.2.1, xv_I_11.2⟩), (fun _ => ⟨rfl, rfl, fun k hk => ⟨kI_11 k (by omega), rfl⟩⟩), (fun h9 => absurd h9 (by omega)), (fun h9 => absurd h9 (by omega)), rfl⟩, fr_11⟩
set_option maxHeartbeats 4000000 in
set_option maxRecDepth 20000 in
theorem c8_X10_make (l0 : Launch) {Ia Ja : aI1} {Ra : aR1} {Sa : aS1} (hL : LY Ra Sa) (hC : CX Ia) (hF : FRk Ia Ja) {a b c : Int} (ha0 : -2147483648 ≤ a) (ha1 : a < 2147483648) (hb0 : -2147483648 ≤ b) (hb1 : b < 2147483648) (hc0 : -2147483648 ≤ c) (hc1 : c < 2147483648) (hS : SR Ia) (hG : SRF Ia)  : CT l0 10 0 0 mX10_make [kR (some 0), kI a, kI b, kI c] Ia Ja Ra Sa (cI (fun x I' J' => (Kp 0 49 Ia I' ∧ Kp 0 49 Ja J' ∧ CX I' ∧ Fw [3, 18, 19, 20, 21, 22, 23, 24, 25, 26, 27, 28, 29, 30, 33, 37, 38, 39, 40, 41, 42, 43, 44, 45, 48] [(0, 16)] Ia I' ∧ SR I' ∧ SRF I' ∧ (¬ (1 ≤ a ∧ a ≤ 3 ∧ 2 ≤ b ∧ b ≤ 4 ∧ 0 ≤ c ∧ c ≤ 8) → x = -1 ∧ I' 3 = Ia 3) ∧ ((1 ≤ a ∧ a ≤ 3 ∧ 2 ≤ b ∧ b ≤ 4 ∧ 0 ≤ c ∧ c ≤ 8) → ¬ (a = Ia 1 5 ∧ b = Ia 1 6 ∧ ¬ TBX a b c = 0) → x = -3 ∧ I' 3 = Ia 3) ∧ ((1 ≤ a ∧ a ≤ 3 ∧ 2 ≤ b ∧ b ≤ 4 ∧ 0 ≤ c ∧ c ≤ 8) → (a = Ia 1 5 ∧ b = Ia 1 6 ∧ ¬ TBX a b c = 0) → x = 0 ∧ ∀ j : Nat, I' 3 j = if j < 2 ^ a.toNat then ((gd (S0 b.toNat (2 ^ a.toNat) c.toNat) j : Nat) : Int) else Ia 3 j) ∧ LSt x Ia I') ∧ FRk I' J') Ra Sa) := by
  refine ct_in pn_X10 (Nat.le_of_ble_eq_true rfl) (fun X hX hT hIn => ?_)
  have hX : aK l0 X cX10_make 4 RX10 (some .int) 10 0 0 := hX
  change WW X 0 [some (kR (some 0)), some (kI a), some (kI b), some (kI c)] [] Ia Ja Ra Sa 0 0
  have hI := hC.1
  have hq := XI_o hI
  refine ww_iload_n hX (pc := 0) dX10_make_0 rfl ?_
  refine ww_iload_n hX (pc := 1) dX10_make_1 rfl ?_
  refine ww_iload_n hX (pc := 2) dX10_make_2 rfl ?_
  refine sI3 hX (pc := 3) sX10_225 (c_X2_isSearched l0 (by omega) (by omega) (by omega) (by omega) (by omega) (by omega)) (by decide) (Nat.le_refl 0) (Nat.le_refl 0) (Nat.le_of_ble_eq_true rfl) dX10_make_3 (fun x_3 I_3 J_3 h_3 => ?_)
  obtain ⟨rfl, rfl, h_3⟩ := h_3
  refine ww_if_ne hX (pc := 6) (tgt := 15) dX10_make_6 (by decide) (fun h_6 => ?_) (fun h_6 => ?_)
  · simp only [w32_mod] at h_6
    have k_3 := h_3.2.mp (by omega)
    clear h_3
    refine ww_iload_n hX (pc := 15) dX10_make_15 rfl ?_
    refine ww_aload_n hX (pc := 16) dX10_make_16 rfl ?_
    refine ww_getR hX (pc := 17) fX10_10 (by decide) (xs_0 hL) (xr_0_0 hL) dX10_make_17 ?_
    refine ww_getI hX (pc := 20) fX10_93 (by decide) (xs_1 hL) dX10_make_20 ?_
    refine ww_icmp_ne hX (pc := 23) (tgt := 50) dX10_make_23 (by decide) (fun h_23 => ?_) (fun h_23 => ?_)
    · simp only [w32_mod] at h_23
      refine ww_aload_n hX (pc := 50) dX10_make_50 rfl ?_
      refine ww_bipush hX (pc := 51) (x := (-3)) dX10_make_51 (by decide) ?_
      refine vI1 hX (pc := 53) sX10_89 (xs_0 hL) (c8_X10_refuse l0 hL hC hF (by omega) (by omega)) (by decide) (Nat.le_refl 0) (Nat.le_refl 0) (Nat.le_of_ble_eq_true rfl) dX10_make_53 (fun x_53 I_53 J_53 h_53 => ?_)
      obtain ⟨h_53, frI_53⟩ := h_53
      have kI_53 : Kp 0 49 Ia I_53 := Kp_tr (Kp_rf (a := 0) (b := 49)) (Kp_wd h_53.1 (by decide) (by decide))
      have kJ_53 : Kp 0 49 Ja J_53 := Kp_tr (Kp_rf (a := 0) (b := 49)) (Kp_wd h_53.2.1 (by decide) (by decide))
      have cI_53 : CX I_53 := h_53.2.2.1
      have qI_53 := XI_o cI_53.1
      have wI_53 : Fw [3, 18, 19, 20, 21, 22, 23, 24, 25, 26, 27, 28, 29, 30, 33, 37, 38, 39, 40, 41, 42, 43, 44, 45, 48] [(0, 16)] Ia I_53 := Fw_tr Fw_rf (Fw_wd h_53.2.2.2.1 (by decide) (by decide))
      have r5_I_53 : I_53 1 5 = Ia 1 5 := h_53.2.2.2.1 1 5 (by decide) (by decide) (by decide)
      have r6_I_53 : I_53 1 6 = Ia 1 6 := h_53.2.2.2.1 1 6 (by decide) (by decide) (by decide)
      have r7_I_53 : I_53 1 7 = Ia 1 7 := h_53.2.2.2.1 1 7 (by decide) (by decide) (by decide)
      have r8_I_53 : I_53 1 8 = Ia 1 8 := h_53.2.2.2.1 1 8 (by decide) (by decide) (by decide)
      have r9_I_53 : I_53 1 9 = Ia 1 9 := h_53.2.2.2.1 1 9 (by decide) (by decide) (by decide)
      have r10_I_53 : I_53 1 10 = Ia 1 10 := h_53.2.2.2.1 1 10 (by decide) (by decide) (by decide)
      have r11_I_53 : I_53 1 11 = Ia 1 11 := h_53.2.2.2.1 1 11 (by decide) (by decide) (by decide)
      have r81_I_53 : I_53 8 1 = Ia 8 1 := h_53.2.2.2.1 8 1 (by decide) (by decide) (by decide)
      have rf_I_53 : FU (I_53 1 5) = FU (Ia 1 5) := by rw [r5_I_53]
      have y3_I_53 : I_53 3 = Ia 3 := Fw_row h_53.2.2.2.1 3 (by decide) (by decide) (by decide)
      have xv_I_53 := h_53.2.2.2.2
      have srI_53 : SR I_53 := SR_of hS (Fw_row h_53.2.2.2.1 43 (by decide) (by decide) (by decide)) (Fw_row h_53.2.2.2.1 45 (by decide) (by decide) (by decide))
      refine rI hX (pc := 56) hT (Nat.le_refl 0) (Nat.le_refl 0) dX10_make_56 ?_
      exact ⟨⟨kI_53, kJ_53, cI_53, (Fw_wd wI_53 (by decide) (by decide)), srI_53, (SRF_of hG (Fw_row h_53.2.2.2.1 43 (by decide) (by decide) (by decide)) (Fw_row h_53.2.2.2.1 44 (by decide) (by decide) (by decide)) (Fw_row h_53.2.2.2.1 45 (by decide) (by decide) (by decide))), (fun h9 => absurd (by omega) h9), (fun _ _ => ⟨by omega, y3_I_53⟩), (fun _ h8 => absurd h8 (by omega)), LSt_r xv_I_53 rfl (by decide)⟩, frI_53⟩
    · simp only [w32_mod] at h_23
      refine ww_iload_n hX (pc := 26) dX10_make_26 rfl ?_
      refine ww_aload_n hX (pc := 27) dX10_make_27 rfl ?_
      refine ww_getR hX (pc := 28) fX10_10 (by decide) (xs_0 hL) (xr_0_0 hL) dX10_make_28 ?_
      refine ww_getI hX (pc := 31) fX10_117 (by decide) (xs_1 hL) dX10_make_31 ?_
      refine ww_icmp_ne hX (pc := 34) (tgt := 50) dX10_make_34 (by decide) (fun h_34 => ?_) (fun h_34 => ?_)
      · simp only [w32_mod] at h_34
        refine ww_aload_n hX (pc := 50) dX10_make_50 rfl ?_
        refine ww_bipush hX (pc := 51) (x := (-3)) dX10_make_51 (by decide) ?_
        refine vI1 hX (pc := 53) sX10_89 (xs_0 hL) (c8_X10_refuse l0 hL hC hF (by omega) (by omega)) (by decide) (Nat.le_refl 0) (Nat.le_refl 0) (Nat.le_of_ble_eq_true rfl) dX10_make_53 (fun x_53 I_53 J_53 h_53 => ?_)
        obtain ⟨h_53, frI_53⟩ := h_53
        have kI_53 : Kp 0 49 Ia I_53 := Kp_tr (Kp_rf (a := 0) (b := 49)) (Kp_wd h_53.1 (by decide) (by decide))
        have kJ_53 : Kp 0 49 Ja J_53 := Kp_tr (Kp_rf (a := 0) (b := 49)) (Kp_wd h_53.2.1 (by decide) (by decide))
        have cI_53 : CX I_53 := h_53.2.2.1
        have qI_53 := XI_o cI_53.1
        have wI_53 : Fw [3, 18, 19, 20, 21, 22, 23, 24, 25, 26, 27, 28, 29, 30, 33, 37, 38, 39, 40, 41, 42, 43, 44, 45, 48] [(0, 16)] Ia I_53 := Fw_tr Fw_rf (Fw_wd h_53.2.2.2.1 (by decide) (by decide))
        have r5_I_53 : I_53 1 5 = Ia 1 5 := h_53.2.2.2.1 1 5 (by decide) (by decide) (by decide)
        have r6_I_53 : I_53 1 6 = Ia 1 6 := h_53.2.2.2.1 1 6 (by decide) (by decide) (by decide)
        have r7_I_53 : I_53 1 7 = Ia 1 7 := h_53.2.2.2.1 1 7 (by decide) (by decide) (by decide)
        have r8_I_53 : I_53 1 8 = Ia 1 8 := h_53.2.2.2.1 1 8 (by decide) (by decide) (by decide)
        have r9_I_53 : I_53 1 9 = Ia 1 9 := h_53.2.2.2.1 1 9 (by decide) (by decide) (by decide)
        have r10_I_53 : I_53 1 10 = Ia 1 10 := h_53.2.2.2.1 1 10 (by decide) (by decide) (by decide)
        have r11_I_53 : I_53 1 11 = Ia 1 11 := h_53.2.2.2.1 1 11 (by decide) (by decide) (by decide)
        have r81_I_53 : I_53 8 1 = Ia 8 1 := h_53.2.2.2.1 8 1 (by decide) (by decide) (by decide)
        have rf_I_53 : FU (I_53 1 5) = FU (Ia 1 5) := by rw [r5_I_53]
        have y3_I_53 : I_53 3 = Ia 3 := Fw_row h_53.2.2.2.1 3 (by decide) (by decide) (by decide)
        have xv_I_53 := h_53.2.2.2.2
        have srI_53 : SR I_53 := SR_of hS (Fw_row h_53.2.2.2.1 43 (by decide) (by decide) (by decide)) (Fw_row h_53.2.2.2.1 45 (by decide) (by decide) (by decide))
        refine rI hX (pc := 56) hT (Nat.le_refl 0) (Nat.le_refl 0) dX10_make_56 ?_
        exact ⟨⟨kI_53, kJ_53, cI_53, (Fw_wd wI_53 (by decide) (by decide)), srI_53, (SRF_of hG (Fw_row h_53.2.2.2.1 43 (by decide) (by decide) (by decide)) (Fw_row h_53.2.2.2.1 44 (by decide) (by decide) (by decide)) (Fw_row h_53.2.2.2.1 45 (by decide) (by decide) (by decide))), (fun h9 => absurd (by omega) h9), (fun _ _ => ⟨by omega, y3_I_53⟩), (fun _ h8 => absurd h8 (by omega)), LSt_r xv_I_53 rfl (by decide)⟩, frI_53⟩
      · simp only [w32_mod] at h_34
        refine ww_aload_n hX (pc := 37) dX10_make_37 rfl ?_
        refine ww_getR hX (pc := 38) fX10_71 (by decide) (xs_0 hL) (xr_0_8 hL) dX10_make_38 ?_
        refine ww_iload_n hX (pc := 41) dX10_make_41 rfl ?_
        refine ww_iload_n hX (pc := 42) dX10_make_42 rfl ?_
        refine ww_iload_n hX (pc := 43) dX10_make_43 rfl ?_
        refine vI3 hX (pc := 44) sX10_229 (xs_37 hL) (c6_X2_countCodes l0 hL (by omega) (by omega) (by omega) (by omega) (by omega) (by omega) hC.2.2 hS hG) (by decide) (Nat.le_refl 0) (Nat.le_refl 0) (Nat.le_of_ble_eq_true rfl) dX10_make_44 (fun x_44 I_44 J_44 h_44 => ?_)
        have kI_44 : Kp 0 49 Ia I_44 := Kp_tr (Kp_rf (a := 0) (b := 49)) (Kp_wd h_44.1 (by decide) (by decide))
        have kJ_44 : Kp 0 49 Ja J_44 := Kp_tr (Kp_rf (a := 0) (b := 49)) (Kp_wd h_44.2.1 (by decide) (by decide))
        have ht44 : x_44 = TBX a b c := by
          unfold TBX
          by_cases h8 : c ≤ 3
          · rw [if_pos h8]; exact h_44.2.2.2.2.2.2.2 h8
          · rw [if_neg h8]; exact h_44.2.2.2.2.2.1 (by omega)
        have hr44 := TBX_r a b c
        have cI_44 : CX I_44 := CX_cs hC h_44.1 h_44.2.2.1
        have qI_44 := XI_o cI_44.1
        have r5_I_44 : I_44 1 5 = Ia 1 5 := by rw [h_44.1 1 (by decide)]
        have r6_I_44 : I_44 1 6 = Ia 1 6 := by rw [h_44.1 1 (by decide)]
        have r8_I_44 : I_44 1 8 = Ia 1 8 := by rw [h_44.1 1 (by decide)]
        have r9_I_44 : I_44 1 9 = Ia 1 9 := by rw [h_44.1 1 (by decide)]
        have r10_I_44 : I_44 1 10 = Ia 1 10 := by rw [h_44.1 1 (by decide)]
        have r11_I_44 : I_44 1 11 = Ia 1 11 := by rw [h_44.1 1 (by decide)]
        have rf_I_44 : FU (I_44 1 5) = FU (Ia 1 5) := by rw [r5_I_44]
        have wI_44 : Fw [3, 18, 19, 20, 21, 22, 23, 24, 25, 26, 27, 28, 29, 30, 33, 37, 38, 39, 40, 41, 42, 43, 44, 45] [(0, 16)] Ia I_44 := Fw_kp Fw_rf h_44.1 (by decide)
        have r7_I_44 : I_44 1 7 = Ia 1 7 := by rw [h_44.1 1 (by decide)]
        have y3_I_44 : I_44 3 = Ia 3 := h_44.1 3 (by decide)
        have frI_44 : FRk I_44 J_44 := FRk_kp hF h_44.1 h_44.2.1 (by decide)
        refine ww_if_ne hX (pc := 47) (tgt := 57) dX10_make_47 (by decide) (fun h_47 => ?_) (fun h_47 => ?_)
        · simp only [w32_mod] at h_47
          refine ww_aload_n hX (pc := 57) dX10_make_57 rfl ?_
          refine ww_getR hX (pc := 58) fX10_71 (by decide) (xs_0 hL) (xr_0_8 hL) dX10_make_58 ?_
          refine ww_iload_n hX (pc := 61) dX10_make_61 rfl ?_
          refine ww_iload_n hX (pc := 62) dX10_make_62 rfl ?_
          refine ww_iload_n hX (pc := 63) dX10_make_63 rfl ?_
          refine ww_aload_n hX (pc := 64) dX10_make_64 rfl ?_
          refine ww_getR hX (pc := 65) fX10_10 (by decide) (xs_0 hL) (xr_0_0 hL) dX10_make_65 ?_
          refine ww_getR hX (pc := 68) fX10_137 (by decide) (xs_1 hL) (xr_1_1 hL) dX10_make_68 ?_
          refine vV4 hX (pc := 71) sX10_232 (xs_37 hL) (c6_X2_copyFirst l0 hL (by omega) (by omega) (by omega) (by omega) (by omega) (by omega) cI_44.2.2 h_44.2.2.2.1 h_44.2.2.2.2.1 cI_44.1.2.2.2.2.2.2.2.2.2.1) (by decide) (Nat.le_refl 0) (Nat.le_refl 0) (Nat.le_of_ble_eq_true rfl) dX10_make_71 (fun I_71 J_71 h_71 => ?_)
          have kI_71 : Kp 0 49 Ia I_71 := fun q hq => (h_71.1 q (by omega) (by omega)).trans (kI_44 q hq)
          have kJ_71 : Kp 0 49 Ja J_71 := Kp_tr kJ_44 (Kp_wd h_71.2.1 (by decide) (by decide))
          have cI_71 : CX I_71 := CX_code cI_44 h_71.1 h_71.2.2.1 h_71.2.2.2.1
          have wI_71 : Fw [3, 18, 19, 20, 21, 22, 23, 24, 25, 26, 27, 28, 29, 30, 33, 37, 38, 39, 40, 41, 42, 43, 44, 45] [(0, 16)] Ia I_71 := Fw_of wI_44 (fun k h1 h2 => h_71.1 k (fun e9 => h2 (by rw [e9]; decide)) (Decidable.byContradiction (fun e9 => h2 (mem_37 (by omega) (by omega) (by decide)))))
          have r5_I_71 : I_71 1 5 = I_44 1 5 ∧ I_71 1 6 = I_44 1 6 := by rw [h_71.1 1 (by decide) (by decide)]; exact ⟨rfl, rfl⟩
          refine ww_aload_n hX (pc := 74) dX10_make_74 rfl ?_
          refine vV0 hX (pc := 75) sX10_111 (xs_0 hL) (c8_X10_codeChanged l0 hL cI_71) (by decide) (Nat.le_refl 0) (Nat.le_refl 0) (Nat.le_of_ble_eq_true rfl) dX10_make_75 (fun I_75 J_75 h_75 => ?_)
          obtain ⟨h_75, frI_75⟩ := h_75
          have kI_75 : Kp 0 49 Ia I_75 := Kp_tr kI_71 (Kp_wd h_75.1 (by decide) (by decide))
          have kJ_75 : Kp 0 49 Ja J_75 := Kp_tr kJ_71 (Kp_wd h_75.2.1 (by decide) (by decide))
          have cI_75 : CX I_75 := h_75.2.2.1
          have qI_75 := XI_o cI_75.1
          have wI_75 : Fw [3, 18, 19, 20, 21, 22, 23, 24, 25, 26, 27, 28, 29, 30, 33, 37, 38, 39, 40, 41, 42, 43, 44, 45] [(0, 16)] Ia I_75 := Fw_tr wI_71 (Fw_wd h_75.2.2.2.1 (by decide) (by decide))
          have r5_I_75 : I_75 1 5 = I_71 1 5 := h_75.2.2.2.1 1 5 (by decide) (by decide) (by decide)
          have r6_I_75 : I_75 1 6 = I_71 1 6 := h_75.2.2.2.1 1 6 (by decide) (by decide) (by decide)
          have r7_I_75 : I_75 1 7 = I_71 1 7 := h_75.2.2.2.1 1 7 (by decide) (by decide) (by decide)
          have r8_I_75 : I_75 1 8 = I_71 1 8 := h_75.2.2.2.1 1 8 (by decide) (by decide) (by decide)
          have r9_I_75 : I_75 1 9 = I_71 1 9 := h_75.2.2.2.1 1 9 (by decide) (by decide) (by decide)
          have r10_I_75 : I_75 1 10 = I_71 1 10 := h_75.2.2.2.1 1 10 (by decide) (by decide) (by decide)
          have r11_I_75 : I_75 1 11 = I_71 1 11 := h_75.2.2.2.1 1 11 (by decide) (by decide) (by decide)
          have r81_I_75 : I_75 8 1 = I_71 8 1 := h_75.2.2.2.1 8 1 (by decide) (by decide) (by decide)
          have rf_I_75 : FU (I_75 1 5) = FU (I_71 1 5) := by rw [r5_I_75]
          have y3_I_75 : I_75 3 = I_71 3 := Fw_row h_75.2.2.2.1 3 (by decide) (by decide) (by decide)
          have srI_75 : SR I_75 := SR_of h_71.2.2.2.2.1 (Fw_row h_75.2.2.2.1 43 (by decide) (by decide) (by decide)) (Fw_row h_75.2.2.2.1 45 (by decide) (by decide) (by decide))
          refine ww_aload_n hX (pc := 78) dX10_make_78 rfl ?_
          refine ww_iconst hX (pc := 79) (x := 0) dX10_make_79 rfl ?_
          refine vI1 hX (pc := 80) sX10_114 (xs_0 hL) (c8_X10_accept l0 hL cI_75 frI_75) (by decide) (Nat.le_refl 0) (Nat.le_refl 0) (Nat.le_of_ble_eq_true rfl) dX10_make_80 (fun x_80 I_80 J_80 h_80 => ?_)
          obtain ⟨h_80, frI_80⟩ := h_80
          have kI_80 : Kp 0 49 Ia I_80 := Kp_tr kI_75 (Kp_wd h_80.1 (by decide) (by decide))
          have kJ_80 : Kp 0 49 Ja J_80 := Kp_tr kJ_75 (Kp_wd h_80.2.1 (by decide) (by decide))
          have cI_80 : CX I_80 := h_80.2.2.1
          have qI_80 := XI_o cI_80.1
          have wI_80 : Fw [3, 18, 19, 20, 21, 22, 23, 24, 25, 26, 27, 28, 29, 30, 33, 37, 38, 39, 40, 41, 42, 43, 44, 45] [(0, 16)] Ia I_80 := Fw_tr wI_75 (Fw_wd h_80.2.2.2.1 (by decide) (by decide))
          have r5_I_80 : I_80 1 5 = I_75 1 5 := h_80.2.2.2.1 1 5 (by decide) (by decide) (by decide)
          have r6_I_80 : I_80 1 6 = I_75 1 6 := h_80.2.2.2.1 1 6 (by decide) (by decide) (by decide)
          have r7_I_80 : I_80 1 7 = I_75 1 7 := h_80.2.2.2.1 1 7 (by decide) (by decide) (by decide)
          have r8_I_80 : I_80 1 8 = I_75 1 8 := h_80.2.2.2.1 1 8 (by decide) (by decide) (by decide)
          have r9_I_80 : I_80 1 9 = I_75 1 9 := h_80.2.2.2.1 1 9 (by decide) (by decide) (by decide)
          have r10_I_80 : I_80 1 10 = I_75 1 10 := h_80.2.2.2.1 1 10 (by decide) (by decide) (by decide)
          have r11_I_80 : I_80 1 11 = I_75 1 11 := h_80.2.2.2.1 1 11 (by decide) (by decide) (by decide)
          have r81_I_80 : I_80 8 1 = I_75 8 1 := h_80.2.2.2.1 8 1 (by decide) (by decide) (by decide)
          have rf_I_80 : FU (I_80 1 5) = FU (I_75 1 5) := by rw [r5_I_80]
          have y3_I_80 : I_80 3 = I_75 3 := Fw_row h_80.2.2.2.1 3 (by decide) (by decide) (by decide)
          have xv_I_80 := h_80.2.2.2.2
          have srI_80 : SR I_80 := SR_of srI_75 (Fw_row h_80.2.2.2.1 43 (by decide) (by decide) (by decide)) (Fw_row h_80.2.2.2.1 45 (by decide) (by decide) (by decide))
          refine rI hX (pc := 83) hT (Nat.le_refl 0) (Nat.le_refl 0) dX10_make_83 ?_
          exact ⟨⟨kI_80, kJ_80, cI_80, (Fw_wd wI_80 (by decide) (by decide)), srI_80, (SRF_of (SRF_of h_71.2.2.2.2.2.1 (Fw_row h_75.2.2.2.1 43 (by decide) (by decide) (by decide)) (Fw_row h_75.2.2.2.1 44 (by decide) (by decide) (by decide)) (Fw_row h_75.2.2.2.1 45 (by decide) (by decide) (by decide))) (Fw_row h_80.2.2.2.1 43 (by decide) (by decide) (by decide)) (Fw_row h_80.2.2.2.1 44 (by decide) (by decide) (by decide)) (Fw_row h_80.2.2.2.1 45 (by decide) (by decide) (by decide))), (fun h9 => absurd (by omega) h9), (fun _ h8 => absurd (by omega) h8), (fun _ _ => ⟨by omega, (fun j => by
                have hb6 := TBt_r6 b.toNat (2 ^ a.toNat) c.toNat
                have hpos : c ≤ 3 ∧ 0 < TBt b.toNat (2 ^ a.toNat) c.toNat := by
                  by_cases h3 : c ≤ 3
                  · have h4 := h_44.2.2.2.2.2.2.2 h3
                    omega
                  · have h4 := h_44.2.2.2.2.2.1 (by omega)
                    omega
                rw [y3_I_80, y3_I_75, h_71.2.2.2.2.2.2.1 hpos j, y3_I_44])⟩), LSt_a xv_I_80 (Fw_row wI_80 48 (by decide) (by decide) (by decide)) (by decide)⟩, frI_80⟩
        · simp only [w32_mod] at h_47
          refine ww_aload_n hX (pc := 50) dX10_make_50 rfl ?_
          refine ww_bipush hX (pc := 51) (x := (-3)) dX10_make_51 (by decide) ?_
          refine vI1 hX (pc := 53) sX10_89 (xs_0 hL) (c8_X10_refuse l0 hL cI_44 frI_44 (by omega) (by omega)) (by decide) (Nat.le_refl 0) (Nat.le_refl 0) (Nat.le_of_ble_eq_true rfl) dX10_make_53 (fun x_53 I_53 J_53 h_53 => ?_)
          obtain ⟨h_53, frI_53⟩ := h_53
          have kI_53 : Kp 0 49 Ia I_53 := Kp_tr kI_44 (Kp_wd h_53.1 (by decide) (by decide))
          have kJ_53 : Kp 0 49 Ja J_53 := Kp_tr kJ_44 (Kp_wd h_53.2.1 (by decide) (by decide))
          have cI_53 : CX I_53 := h_53.2.2.1
          have qI_53 := XI_o cI_53.1
          have wI_53 : Fw [3, 18, 19, 20, 21, 22, 23, 24, 25, 26, 27, 28, 29, 30, 33, 37, 38, 39, 40, 41, 42, 43, 44, 45, 48] [(0, 16)] Ia I_53 := Fw_tr (Fw_wd wI_44 (by decide) (by decide)) (Fw_wd h_53.2.2.2.1 (by decide) (by decide))
          have r5_I_53 : I_53 1 5 = I_44 1 5 := h_53.2.2.2.1 1 5 (by decide) (by decide) (by decide)
          have r6_I_53 : I_53 1 6 = I_44 1 6 := h_53.2.2.2.1 1 6 (by decide) (by decide) (by decide)
          have r7_I_53 : I_53 1 7 = I_44 1 7 := h_53.2.2.2.1 1 7 (by decide) (by decide) (by decide)
          have r8_I_53 : I_53 1 8 = I_44 1 8 := h_53.2.2.2.1 1 8 (by decide) (by decide) (by decide)
          have r9_I_53 : I_53 1 9 = I_44 1 9 := h_53.2.2.2.1 1 9 (by decide) (by decide) (by decide)
          have r10_I_53 : I_53 1 10 = I_44 1 10 := h_53.2.2.2.1 1 10 (by decide) (by decide) (by decide)
          have r11_I_53 : I_53 1 11 = I_44 1 11 := h_53.2.2.2.1 1 11 (by decide) (by decide) (by decide)
          have r81_I_53 : I_53 8 1 = I_44 8 1 := h_53.2.2.2.1 8 1 (by decide) (by decide) (by decide)
          have rf_I_53 : FU (I_53 1 5) = FU (I_44 1 5) := by rw [r5_I_53]
          have y3_I_53 : I_53 3 = I_44 3 := Fw_row h_53.2.2.2.1 3 (by decide) (by decide) (by decide)
          have xv_I_53 := h_53.2.2.2.2
          have srI_53 : SR I_53 := SR_of h_44.2.2.2.1 (Fw_row h_53.2.2.2.1 43 (by decide) (by decide) (by decide)) (Fw_row h_53.2.2.2.1 45 (by decide) (by decide) (by decide))
          refine rI hX (pc := 56) hT (Nat.le_refl 0) (Nat.le_refl 0) dX10_make_56 ?_
          exact ⟨⟨kI_53, kJ_53, cI_53, (Fw_wd wI_53 (by decide) (by decide)), srI_53, (SRF_of h_44.2.2.2.2.1 (Fw_row h_53.2.2.2.1 43 (by decide) (by decide) (by decide)) (Fw_row h_53.2.2.2.1 44 (by decide) (by decide) (by decide)) (Fw_row h_53.2.2.2.1 45 (by decide) (by decide) (by decide))), (fun h9 => absurd (by omega) h9), (fun _ _ => ⟨by omega, (y3_I_53.trans y3_I_44)⟩), (fun _ h8 => absurd h8 (by omega)), LSt_r xv_I_53 (Fw_row wI_44 48 (by decide) (by decide) (by decide)) (by decide)⟩, frI_53⟩
  · simp only [w32_mod] at h_6
    refine ww_aload_n hX (pc := 9) dX10_make_9 rfl ?_
    refine ww_iconst hX (pc := 10) (x := (-1)) dX10_make_10 rfl ?_
    refine vI1 hX (pc := 11) sX10_89 (xs_0 hL) (c8_X10_refuse l0 hL hC hF (by omega) (by omega)) (by decide) (Nat.le_refl 0) (Nat.le_refl 0) (Nat.le_of_ble_eq_true rfl) dX10_make_11 (fun x_11 I_11 J_11 h_11 => ?_)
    obtain ⟨h_11, frI_11⟩ := h_11
    have kI_11 : Kp 0 49 Ia I_11 := Kp_tr (Kp_rf (a := 0) (b := 49)) (Kp_wd h_11.1 (by decide) (by decide))
    have kJ_11 : Kp 0 49 Ja J_11 := Kp_tr (Kp_rf (a := 0) (b := 49)) (Kp_wd h_11.2.1 (by decide) (by decide))
    have cI_11 : CX I_11 := h_11.2.2.1
    have qI_11 := XI_o cI_11.1
    have wI_11 : Fw [3, 18, 19, 20, 21, 22, 23, 24, 25, 26, 27, 28, 29, 30, 33, 37, 38, 39, 40, 41, 42, 43, 44, 45, 48] [(0, 16)] Ia I_11 := Fw_tr Fw_rf (Fw_wd h_11.2.2.2.1 (by decide) (by decide))
    have r5_I_11 : I_11 1 5 = Ia 1 5 := h_11.2.2.2.1 1 5 (by decide) (by decide) (by decide)
    have r6_I_11 : I_11 1 6 = Ia 1 6 := h_11.2.2.2.1 1 6 (by decide) (by decide) (by decide)
    have r7_I_11 : I_11 1 7 = Ia 1 7 := h_11.2.2.2.1 1 7 (by decide) (by decide) (by decide)
    have r8_I_11 : I_11 1 8 = Ia 1 8 := h_11.2.2.2.1 1 8 (by decide) (by decide) (by decide)
    have r9_I_11 : I_11 1 9 = Ia 1 9 := h_11.2.2.2.1 1 9 (by decide) (by decide) (by decide)
    have r10_I_11 : I_11 1 10 = Ia 1 10 := h_11.2.2.2.1 1 10 (by decide) (by decide) (by decide)
    have r11_I_11 : I_11 1 11 = Ia 1 11 := h_11.2.2.2.1 1 11 (by decide) (by decide) (by decide)
    have r81_I_11 : I_11 8 1 = Ia 8 1 := h_11.2.2.2.1 8 1 (by decide) (by decide) (by decide)
    have rf_I_11 : FU (I_11 1 5) = FU (Ia 1 5) := by rw [r5_I_11]
    have y3_I_11 : I_11 3 = Ia 3 := Fw_row h_11.2.2.2.1 3 (by decide) (by decide) (by decide)
    have xv_I_11 := h_11.2.2.2.2
    have srI_11 : SR I_11 := SR_of hS (Fw_row h_11.2.2.2.1 43 (by decide) (by decide) (by decide)) (Fw_row h_11.2.2.2.1 45 (by decide) (by decide) (by decide))
    refine rI hX (pc := 14) hT (Nat.le_refl 0) (Nat.le_refl 0) dX10_make_14 ?_
    exact ⟨⟨kI_11, kJ_11, cI_11, (Fw_wd wI_11 (by decide) (by decide)), srI_11, (SRF_of hG (Fw_row h_11.2.2.2.1 43 (by decide) (by decide) (by decide)) (Fw_row h_11.2.2.2.1 44 (by decide) (by decide) (by decide)) (Fw_row h_11.2.2.2.1 45 (by decide) (by decide) (by decide))), (fun _ => ⟨by omega, y3_I_11⟩), (fun h9 => absurd h9 (by omega)), (fun h9 => absurd h9 (by omega)), LSt_r xv_I_11 rfl (by decide)⟩, frI_11⟩
