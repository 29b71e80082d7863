set_option maxHeartbeats 4000000 in
set_option maxRecDepth 20000 in
theorem c8_X10_burnt (l0 : Launch) {Ia Ja : aI1} {Ra : aR1} {Sa : aS1} (hL : LY Ra Sa) (hC : CX Ia) (hF : FRk Ia Ja)  : CT l0 10 0 0 mX10_burnt [kR (some 0)] Ia Ja Ra Sa (cI (fun x I' J' => (Kp 0 49 Ia I' ∧ Kp 0 49 Ja J' ∧ CX I' ∧ Fw [18, 19, 20, 21, 22, 23, 24, 25, 26, 27, 28, 29, 30] [] Ia I' ∧ x = oilS (Ia 2) (Ia 1 8).toNat (Ia 1 5).toNat) ∧ FRk I' J') Ra Sa) := by
  refine ct_in pn_X10 (Nat.le_of_ble_eq_true rfl) (fun X hX hT hIn => ?_)
  have hX : aK l0 X cX10_burnt 1 RX10 (some .int) 10 0 0 := hX
  change WW X 0 [some (kR (some 0))] [] Ia Ja Ra Sa 0 0
  have hI := hC.1
  have hq := XI_o hI
  refine ww_aload_n hX (pc := 0) dX10_burnt_0 rfl ?_
  refine ww_getR hX (pc := 1) fX10_48 (by decide) (xs_0 hL) (xr_0_5 hL) dX10_burnt_1 ?_
  refine ww_aload_n hX (pc := 4) dX10_burnt_4 rfl ?_
  refine ww_getR hX (pc := 5) fX10_10 (by decide) (xs_0 hL) (xr_0_0 hL) dX10_burnt_5 ?_
  refine ww_getI hX (pc := 8) fX10_236 (by decide) (xs_1 hL) dX10_burnt_8 ?_
  refine vI1 hX (pc := 11) sX10_250 (xs_18 hL) (n8_X4_oilOf l0 hL hC.1 hF (by omega) (by omega)) (by decide) (Nat.le_refl 0) (Nat.le_refl 0) (Nat.le_of_ble_eq_true rfl) dX10_burnt_11 (fun x_11 I_11 J_11 h_11 => ?_)
  have kI_11 : Kp 0 49 Ia I_11 := Kp_tr (Kp_rf (a := 0) (b := 49)) (Kp_wd h_11.1 (by decide) (by decide))
  have kJ_11 : Kp 0 49 Ja J_11 := Kp_tr (Kp_rf (a := 0) (b := 49)) (Kp_wd h_11.2.1 (by decide) (by decide))
  have cI_11 : CX I_11 := CX_kp hC h_11.1 (by decide) (by decide)
  have qI_11 := XI_o cI_11.1
  have r5_I_11 : I_11 1 5 = Ia 1 5 := by rw [h_11.1 1 (by decide)]
  have r6_I_11 : I_11 1 6 = Ia 1 6 := by rw [h_11.1 1 (by decide)]
  have r8_I_11 : I_11 1 8 = Ia 1 8 := by rw [h_11.1 1 (by decide)]
  have r9_I_11 : I_11 1 9 = Ia 1 9 := by rw [h_11.1 1 (by decide)]
  have r10_I_11 : I_11 1 10 = Ia 1 10 := by rw [h_11.1 1 (by decide)]
  have r11_I_11 : I_11 1 11 = Ia 1 11 := by rw [h_11.1 1 (by decide)]
  have rf_I_11 : FU (I_11 1 5) = FU (Ia 1 5) := by rw [r5_I_11]
  have wI_11 : Fw [18, 19, 20, 21, 22, 23, 24, 25, 26, 27, 28, 29, 30] [] Ia I_11 := Fw_kp Fw_rf h_11.1 (by decide)
  have r7_I_11 : I_11 1 7 = Ia 1 7 := by rw [h_11.1 1 (by decide)]
  have frI_11 : FRk I_11 J_11 := h_11.2.2.1
  refine rI hX (pc := 14) hT (Nat.le_refl 0) (Nat.le_refl 0) dX10_burnt_14 ?_
  exact ⟨⟨kI_11, kJ_11, cI_11, (Fw_wd wI_11 (by decide) (by decide)), h_11.2.2.2⟩, frI_11⟩
set_option maxHeartbeats 4000000 in
set_option maxRecDepth 20000 in
theorem c8_X10_judge (l0 : Launch) {Ia Ja : aI1} {Ra : aR1} {Sa : aS1} (hL : LY Ra Sa) (hC : CX Ia) (hF : FRk Ia Ja) {a : Int} (ha0 : -2147483648 ≤ a) (ha1 : a < 2147483648) (hO : ∀ j, j < 8 → 0 ≤ Ia 2 j ∧ Ia 2 j ≤ 99) (hK : ∀ s : Nat, (s : Int) ≤ FU (Ia 1 5) → Ia 3 s < Ia 1 6)  : CT l0 10 0 0 mX10_judge [kR (some 0), kI a] Ia Ja Ra Sa (cI (fun x I' J' => (Kp 0 49 Ia I' ∧ Kp 0 49 Ja J' ∧ CX I' ∧ Fw [18, 19, 20, 21, 22, 23, 24, 25, 26, 27, 28, 29, 30] [] Ia I' ∧ ((0 ≤ a ∧ a ≤ 3) → ∃ o L T, KT a Ia o L T ∧ JG (fun s t => 0 ≤ s ∧ s ≤ FU (Ia 1 5) ∧ 0 ≤ t ∧ t ≤ FU (Ia 1 5) ∧ ¬ Ia 3 t.toNat = -1 ∧ NX (bC a o L T) (Ia 3) (Ia 1 7) s (FU (Ia 1 5) + 1) (Ia 3 t.toNat) = t) (Ia 46) (Ia 0 12) x) ∧ (¬ (0 ≤ a ∧ a ≤ 3) → x = -1)) ∧ FRk I' J') Ra Sa) := by
  refine ct_in pn_X10 (Nat.le_of_ble_eq_true rfl) (fun X hX hT hIn => ?_)
  have hX : aK l0 X cX10_judge 5 RX10 (some .int) 10 0 0 := hX
  change WW X 0 [some (kR (some 0)), some (kI a), none, none, none] [] Ia Ja Ra Sa 0 0
  have hI := hC.1
  have hq := XI_o hI
  refine ww_iload_n hX (pc := 0) dX10_judge_0 rfl ?_
  refine sI1 hX (pc := 1) sX10_188 (c_X10_isManner l0 (by omega) (by omega)) (by decide) (Nat.le_refl 0) (Nat.le_refl 0) (Nat.le_of_ble_eq_true rfl) dX10_judge_1 (fun x_1 I_1 J_1 h_1 => ?_)
  obtain ⟨rfl, rfl, h_1⟩ := h_1
  refine ww_if_ne hX (pc := 4) (tgt := 9) dX10_judge_4 (by decide) (fun h_4 => ?_) (fun h_4 => ?_)
  · simp only [w32_mod] at h_4
    have k_1 := h_1.2.mp (by omega)
    clear h_1
    refine ww_aload_n hX (pc := 9) dX10_judge_9 rfl ?_
    refine ww_getR hX (pc := 10) fX10_48 (by decide) (xs_0 hL) (xr_0_5 hL) dX10_judge_10 ?_
    refine ww_iload_n hX (pc := 13) dX10_judge_13 rfl ?_
    refine vV1 hX (pc := 14) sX10_191 (xs_18 hL) (c8_X4_prepare l0 hL hC.1 hF hK (by omega) (by omega)) (by decide) (Nat.le_refl 0) (Nat.le_refl 0) (Nat.le_of_ble_eq_true rfl) dX10_judge_14 (fun I_14 J_14 h_14 => ?_)
    have kI_14 : Kp 0 49 Ia I_14 := Kp_tr (Kp_rf (a := 0) (b := 49)) (Kp_wd h_14.1 (by decide) (by decide))
    have kJ_14 : Kp 0 49 Ja J_14 := Kp_tr (Kp_rf (a := 0) (b := 49)) (Kp_wd h_14.2.1 (by decide) (by decide))
    have cI_14 : CX I_14 := CX_kp hC h_14.1 (by decide) (by decide)
    have qI_14 := XI_o cI_14.1
    have r5_I_14 : I_14 1 5 = Ia 1 5 := by rw [h_14.1 1 (by decide)]
    have r6_I_14 : I_14 1 6 = Ia 1 6 := by rw [h_14.1 1 (by decide)]
    have r8_I_14 : I_14 1 8 = Ia 1 8 := by rw [h_14.1 1 (by decide)]
    have r9_I_14 : I_14 1 9 = Ia 1 9 := by rw [h_14.1 1 (by decide)]
    have r10_I_14 : I_14 1 10 = Ia 1 10 := by rw [h_14.1 1 (by decide)]
    have r11_I_14 : I_14 1 11 = Ia 1 11 := by rw [h_14.1 1 (by decide)]
    have rf_I_14 : FU (I_14 1 5) = FU (Ia 1 5) := by rw [r5_I_14]
    have wI_14 : Fw [18, 19, 20, 21, 22, 23, 24, 25, 26, 27, 28, 29, 30] [] Ia I_14 := Fw_kp Fw_rf h_14.1 (by decide)
    have r7_I_14 : I_14 1 7 = Ia 1 7 := by rw [h_14.1 1 (by decide)]
    have frI_14 : FRk I_14 J_14 := h_14.2.2.1
    have e1_14 : I_14 1 = Ia 1 := h_14.1 1 (by decide)
    have e2_14 : I_14 2 = Ia 2 := h_14.1 2 (by decide)
    have e3_14 : I_14 3 = Ia 3 := h_14.1 3 (by decide)
    have htrp : ∀ t : Nat, (t : Int) ≤ FU (I_14 1 5) → TR a I_14 J_14 t := TR_p cI_14.1 (by rw [e2_14]; exact hO) h_14.2.2.2.1 h_14.2.2.2.2.1 h_14.2.2.2.2.2
    have hkt : KT a Ia (I_14 19) (I_14 24) (J_14 28) := KT_p h_14.2.2.2.1 h_14.2.2.2.2.1 h_14.2.2.2.2.2 e1_14 e2_14 e3_14
    refine ww_iconst hX (pc := 17) (x := 0) dX10_judge_17 rfl ?_
    refine ww_istore_n hX (pc := 18) (lv' := [some (kR (some 0)), some (kI a), some (kI 0), none, none]) dX10_judge_18 (by decide) rfl rfl ?_
    refine ww_iconst hX (pc := 19) (x := 0) dX10_judge_19 rfl ?_
    refine ww_istore_n hX (pc := 20) (lv' := [some (kR (some 0)), some (kI a), some (kI 0), some (kI 0), none]) dX10_judge_20 (by decide) rfl rfl ?_
    have hl_21 : ∀ (n_21 : Nat) (pv : Int) (i : Int) (I2 : aI1) (J2 : aI1), (30 - i).toNat = n_21 → (Kp 0 49 Ia I2 ∧ Kp 0 49 Ja J2 ∧ CX I2 ∧ FRk I2 J2 ∧ Fw [18, 19, 20, 21, 22, 23, 24, 25, 26, 27, 28, 29, 30] [] Ia I2 ∧ (I2 1 5 = I_14 1 5 ∧ I2 1 6 = I_14 1 6) ∧ (((0 ≤ i ∧ i ≤ 30) ∧ (-2147483648 ≤ pv ∧ pv < 2147483648) ∧ I2 0 12 = I_14 0 12) ∧ (I2 19 = I_14 19 ∧ I2 24 = I_14 24 ∧ J2 28 = J_14 28) ∧ pv = JGp (Ia 46) i.toNat ∧ (∀ j : Nat, (j : Int) < i → (fun s t => 0 ≤ s ∧ s ≤ FU (Ia 1 5) ∧ 0 ≤ t ∧ t ≤ FU (Ia 1 5) ∧ ¬ Ia 3 t.toNat = -1 ∧ NX (bC a (I_14 19) (I_14 24) (J_14 28)) (Ia 3) (Ia 1 7) s (FU (Ia 1 5) + 1) (Ia 3 t.toNat) = t) (JGp (Ia 46) j) (w32 (Ia 46 j))))) → WW X 21 [some (kR (some 0)), some (kI a), some (kI pv), some (kI i), none] [] I2 J2 Ra Sa 0 0 := by
      intro n_21
      induction n_21 using Nat.strongRecOn with
      | ind n_21 ih_21 =>
        intro pv i I2 J2 hm_21 hv_21
        have hq_21 := Sh0_i hm_21
        clear hm_21
        obtain ⟨kI2, kJ2, cI2, frI2, wI2, hI20, hjg⟩ := hv_21
        have qI2 := XI_o cI2.1
        have rfI2 := congrArg FU hI20.1
        obtain ⟨⟨hi, hpv, h012⟩, ⟨t19_I2, t24_I2, t28_I2⟩, hpj, hok⟩ := hjg
        have t3_I2 : I2 3 = Ia 3 := Fw_row wI2 3 (by decide) (by decide) (by decide)
        have t1_I2 : I2 1 = Ia 1 := Fw_row wI2 1 (by decide) (by decide) (by decide)
        have t46_I2 : I2 46 = Ia 46 := Fw_row wI2 46 (by decide) (by decide) (by decide)
        have t12_I2 : I2 0 12 = Ia 0 12 := wI2 0 12 (by decide) (by decide) (by decide)
        refine ww_iload_n hX (pc := 21) dX10_judge_21 rfl ?_
        refine ww_aload_n hX (pc := 22) dX10_judge_22 rfl ?_
        refine ww_getI hX (pc := 23) fX10_256 (by decide) (xs_0 hL) dX10_judge_23 ?_
        refine ww_icmp_ge hX (pc := 26) (tgt := 62) dX10_judge_26 (by decide) (fun h_26 => ?_) (fun h_26 => ?_)
        · simp only [w32_mod] at h_26
          refine ww_iconst hX (pc := 62) (x := (-1)) dX10_judge_62 rfl ?_
          refine rI hX (pc := 63) hT (Nat.le_refl 0) (Nat.le_refl 0) dX10_judge_63 ?_
          exact ⟨⟨kI2, kJ2, cI2, (Fw_wd wI2 (by decide) (by decide)), (fun _ => ⟨_, _, _, hkt, Or.inl ⟨rfl, fun j hj => hok j (by omega)⟩⟩), (fun h9 => absurd (by omega) h9)⟩, frI2⟩
        · simp only [w32_mod] at h_26
          refine ww_aload_n hX (pc := 29) dX10_judge_29 rfl ?_
          refine ww_getR hX (pc := 30) fX10_75 (by decide) (xs_0 hL) (xr_0_9 hL) dX10_judge_30 ?_
          refine ww_iload_n hX (pc := 33) dX10_judge_33 rfl ?_
          refine ww_iald hX (pc := 34) (xs_46 hL) (by decide) (by omega) (by omega) dX10_judge_34 ?_
          refine ww_w32 ?_
          refine ww_nmI (fun tv htv => ?_)
          have htv2 := w32_r (I2 46 i.toNat)
          refine ww_nmI (fun v_35 hv_35 => ?_)
          refine ww_istore hX (pc := 35) (lv' := [some (kR (some 0)), some (kI a), some (kI pv), some (kI i), some (kI v_35)]) dX10_judge_35 (by decide) rfl rfl ?_
          refine ww_aload_n hX (pc := 37) dX10_judge_37 rfl ?_
          refine ww_getR hX (pc := 38) fX10_48 (by decide) (xs_0 hL) (xr_0_5 hL) dX10_judge_38 ?_
          refine ww_iload_n hX (pc := 41) dX10_judge_41 rfl ?_
          refine ww_iload hX (pc := 42) dX10_judge_42 rfl ?_
          refine ww_iload_n hX (pc := 44) dX10_judge_44 rfl ?_
          refine vI3 hX (pc := 45) sX10_259 (xs_18 hL) (n8_X4_wouldLight l0 hL cI2.1 frI2 (by omega) (by omega) (by omega) (by omega) (by omega) (by omega) (fun t ht => TR_o2 (htrp t (by rw [e1_14]; rw [t1_I2] at ht; exact ht)) t19_I2 t24_I2 t28_I2)) (by decide) (Nat.le_refl 0) (Nat.le_refl 0) (Nat.le_of_ble_eq_true rfl) dX10_judge_45 (fun x_45 I_45 J_45 h_45 => ?_)
          have kI_45 : Kp 0 49 Ia I_45 := Kp_tr kI2 (Kp_wd h_45.1 (by decide) (by decide))
          have kJ_45 : Kp 0 49 Ja J_45 := Kp_tr kJ2 (Kp_wd h_45.2.1 (by decide) (by decide))
          have cI_45 : CX I_45 := CX_kp cI2 h_45.1 (by decide) (by decide)
          have qI_45 := XI_o cI_45.1
          have r5_I_45 : I_45 1 5 = I2 1 5 := by rw [h_45.1 1 (by decide)]
          have r6_I_45 : I_45 1 6 = I2 1 6 := by rw [h_45.1 1 (by decide)]
          have r8_I_45 : I_45 1 8 = I2 1 8 := by rw [h_45.1 1 (by decide)]
          have r9_I_45 : I_45 1 9 = I2 1 9 := by rw [h_45.1 1 (by decide)]
          have r10_I_45 : I_45 1 10 = I2 1 10 := by rw [h_45.1 1 (by decide)]
          have r11_I_45 : I_45 1 11 = I2 1 11 := by rw [h_45.1 1 (by decide)]
          have rf_I_45 : FU (I_45 1 5) = FU (I2 1 5) := by rw [r5_I_45]
          have wI_45 : Fw [18, 19, 20, 21, 22, 23, 24, 25, 26, 27, 28, 29, 30] [] Ia I_45 := Fw_kp wI2 h_45.1 (by decide)
          have r7_I_45 : I_45 1 7 = I2 1 7 := by rw [h_45.1 1 (by decide)]
          have frI_45 : FRk I_45 J_45 := h_45.2.2.1
          have hwl := h_45.2.2.2.1
          rw [t3_I2, t1_I2, t19_I2, t24_I2, t28_I2] at hwl
          have htv3 : v_35 = w32 (I2 46 i.toNat) := hv_35.trans htv
          have hwe : JOKp (fun s t => 0 ≤ s ∧ s ≤ FU (Ia 1 5) ∧ 0 ≤ t ∧ t ≤ FU (Ia 1 5) ∧ ¬ Ia 3 t.toNat = -1 ∧ NX (bC a (I_14 19) (I_14 24) (J_14 28)) (Ia 3) (Ia 1 7) s (FU (Ia 1 5) + 1) (Ia 3 t.toNat) = t) pv v_35 x_45 := hwl.2.symm
          have hx45 : 0 ≤ x_45 ∧ x_45 ≤ 1 := by
            rcases hwl.1 with h9 | h9 <;> omega
          have h45a := h_45.1
          have t19b : I_45 19 = I_14 19 := (h_45.2.2.2.2.1 19 (by decide)).trans t19_I2
          have t24b : I_45 24 = I_14 24 := (h_45.2.2.2.2.1 24 (by decide)).trans t24_I2
          have t28b : J_45 28 = J_14 28 := by rw [← h_45.2.2.2.2.2]; exact t28_I2
          clear hwl h_45
          refine ww_if_ne hX (pc := 48) (tgt := 53) dX10_judge_48 (by decide) (fun h_48 => ?_) (fun h_48 => ?_)
          · simp only [w32_mod] at h_48
            refine ww_iload hX (pc := 53) dX10_judge_53 rfl ?_
            refine ww_istore_n hX (pc := 55) (lv' := [some (kR (some 0)), some (kI a), some (kI v_35), some (kI i), some (kI v_35)]) dX10_judge_55 (by decide) rfl rfl ?_
            refine ww_iinc hX (pc := 56) (lv' := [some (kR (some 0)), some (kI a), some (kI v_35), some (kI (i + 1)), some (kI v_35)]) dX10_judge_56 rfl (by decide) rfl rfl ?_
            refine ww_goto hX (pc := 59) (tgt := 21) dX10_judge_59 (by decide) ?_
            refine ww_sub [some (kR (some 0)), some (kI a), some (kI v_35), some (kI (i + 1)), none] (aLe_s (aLe_s (aLe_s (aLe_s (aLe_n aLe_0))))) ?_
            exact ih_21 _ (by have hm9 := Sh0_e hq_21; omega) v_35 (i + 1) I_45 J_45 rfl ⟨kI_45, kJ_45, cI_45, frI_45, wI_45, ⟨by omega, by omega⟩, ⟨⟨⟨by omega, by omega⟩, ⟨by omega, by omega⟩, by first | rfl | (rw [h45a 0 (by decide)]; exact h012)⟩, ⟨t19b, t24b, t28b⟩, by
        unfold JGp
        rw [if_neg (by omega), htv3, t46_I2, show (i + 1).toNat - 1 = i.toNat by omega], fun j hj => by
        by_cases e9 : j = i.toNat
        · rw [e9, ← hpj, ← t46_I2, ← htv3]
          exact (show _ ↔ _ from hwe).mpr (by omega)
        · exact hok j (by omega)⟩⟩
          · simp only [w32_mod] at h_48
            refine ww_iload_n hX (pc := 51) dX10_judge_51 rfl ?_
            refine rI hX (pc := 52) hT (Nat.le_refl 0) (Nat.le_refl 0) dX10_judge_52 ?_
            exact ⟨⟨kI_45, kJ_45, cI_45, (Fw_wd wI_45 (by decide) (by decide)), (fun _ => ⟨_, _, _, hkt, Or.inr ⟨by omega, by omega, hok, fun h9 => by
                  rw [← hpj, ← t46_I2, ← htv3] at h9
                  have := (show _ ↔ _ from hwe).mp h9
                  omega⟩⟩), (fun h9 => absurd (by omega) h9)⟩, frI_45⟩
    exact hl_21 _ 0 0 I_14 J_14 rfl ⟨kI_14, kJ_14, cI_14, frI_14, wI_14, ⟨by omega, by omega⟩, ⟨⟨⟨by omega, by omega⟩, ⟨by omega, by omega⟩, rfl⟩, ⟨rfl, rfl, rfl⟩, rfl, fun j hj => absurd hj (by omega)⟩⟩
  · simp only [w32_mod] at h_4
    refine ww_iconst hX (pc := 7) (x := (-1)) dX10_judge_7 rfl ?_
    refine rI hX (pc := 8) hT (Nat.le_refl 0) (Nat.le_refl 0) dX10_judge_8 ?_
    exact ⟨⟨(Kp_rf (a := 0) (b := 49)), (Kp_rf (a := 0) (b := 49)), hC, Fw_rf, (fun h9 => absurd h9 (by omega)), (fun _ => rfl)⟩, hF⟩
