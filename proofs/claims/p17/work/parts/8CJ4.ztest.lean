set_option maxHeartbeats 4000000 in
set_option maxRecDepth 20000 in
theorem c6_X7_takeComparison (l0 : Launch) {m : Nat} (hm : m ≤ 8) {Ia Ja : aI1} {Ra : aR1} {Sa : aS1} (hL : LY Ra Sa) (hI : XI Ia) (hR : LR Ia) {cd vl : Nat → Int} {T t l : Nat} (hk : zTK Ia cd vl T) (ha : zAt Ia T t l)  : CT l0 (20 * m + 127) 0 0 mX7_takeComparison [kR (some 10), kI (8 - (m : Int))] Ia Ja Ra Sa (cI (fun x I' J' => Kp 10 15 Ia I' ∧ Kp 10 15 Ja J' ∧ LR I' ∧ I' 10 11 = Ia 10 11 ∧ zFr Ia I' ∧ (x = 0 ∨ x = 1) ∧ zPO zBl Ia I' T t l x (zCm (zS cd vl m) cd t l)) Ra Sa) := by
  refine ct_in pn_X7 (Nat.le_of_ble_eq_true rfl) (fun X hX hT hIn => ?_)
  have hX : aK l0 X cX7_takeComparison 3 RX7 (some .boolean) (20 * m + 127) 0 0 := hX
  change WW X 0 [some (kR (some 10)), some (kI (8 - (m : Int))), none] [] Ia Ja Ra Sa 0 0
  obtain ⟨hn1, hn2⟩ := hI.1
  obtain ⟨hk1, hk2⟩ := hI.2.1
  obtain ⟨hf1, hf2⟩ := hI.fu
  obtain ⟨hl1, hl2⟩ := hI.2.2.2.2.2.2.1
  have hq := hR.1
  unfold LRf at hq
  refine ww_aload_n hX (pc := 0) dX7_takeComparison_0 rfl ?_
  refine ww_iload_n hX (pc := 1) dX7_takeComparison_1 rfl ?_
  refine vI1 hX (pc := 2) sX7_74 (xs_10 hL) (c_QSum l0 m hm hL hI hR hk ha) (by omega) (Nat.le_refl 0) (Nat.le_refl 0) (Nat.le_of_ble_eq_true rfl) dX7_takeComparison_2 (fun x_2 I_2 J_2 h_2 => ?_)
  have kI_2 : Kp 10 15 Ia I_2 := Kp_tr (Kp_rf (a := 10) (b := 15)) (Kp_wd h_2.1 (by decide) (by decide))
  have kJ_2 : Kp 10 15 Ja J_2 := Kp_tr (Kp_rf (a := 10) (b := 15)) (Kp_wd h_2.2.1 (by decide) (by decide))
  have r1_5_I_2 : I_2 1 5 = Ia 1 5 := Kp_at kI_2 1 5 (by decide)
  have r8_1_I_2 : I_2 8 1 = Ia 8 1 := Kp_at kI_2 8 1 (by decide)
  have rf_I_2 : FU (I_2 1 5) = FU (Ia 1 5) := by rw [r1_5_I_2]
  have lI_2 : LR I_2 := h_2.2.2.1
  have qI_2 := lI_2.1
  unfold LRf at qI_2
  have cI_2 := h_2.2.2.2.1
  have fsI_2 : zFr Ia I_2 := h_2.2.2.2.2.1
  have xrI_2 := h_2.2.2.2.2.2.1
  have yI_2 := h_2.2.2.2.2.2.2
  have tkI_2 : zTK I_2 cd vl T := zTK_f hk fsI_2
  have frI_2 : zFr Ia I_2 := zFr_tr zFr_rf fsI_2
  refine ww_if_ne hX (pc := 5) (tgt := 10) dX7_takeComparison_5 (by decide) (fun h_5 => ?_) (fun h_5 => ?_)
  · simp only [w32_mod] at h_5
    obtain ⟨q9, hq1, hq2⟩ := zPO_1 yI_2 (by omega)
    refine ww_aload_n hX (pc := 10) dX7_takeComparison_10 rfl ?_
    refine ww_getI hX (pc := 11) fX7_38 (by decide) (xs_10 hL) dX7_takeComparison_11 ?_
    refine ww_bipush hX (pc := 14) (x := 60) dX7_takeComparison_14 (by decide) ?_
    refine ww_icmp_eq hX (pc := 16) (tgt := 42) dX7_takeComparison_16 (by decide) (fun h_16 => ?_) (fun h_16 => ?_)
    · simp only [w32_mod] at h_16
      have hc7 : cd q9.1 = 160 := (zK_b tkI_2 hq2.1 60 (by decide) (by decide)).mp (by omega)
      have hc9 : 160 ≤ cd q9.1 ∧ cd q9.1 ≤ 162 := by omega
      refine ww_aload_n hX (pc := 42) dX7_takeComparison_42 rfl ?_
      refine ww_getI hX (pc := 43) fX7_38 (by decide) (xs_10 hL) dX7_takeComparison_43 ?_
      refine ww_nmI (fun v_46 hv_46 => ?_)
      refine ww_istore_n hX (pc := 46) (lv' := [some (kR (some 10)), some (kI (8 - (m : Int))), some (kI v_46)]) dX7_takeComparison_46 (by decide) rfl rfl ?_
      refine ww_aload_n hX (pc := 47) dX7_takeComparison_47 rfl ?_
      refine vV0 hX (pc := 48) sX7_71 (xs_10 hL) (c6_X7_advance l0 hL (XI_kp hI kI_2 (by decide)) lI_2) (by omega) (Nat.le_refl 0) (Nat.le_refl 0) (Nat.le_of_ble_eq_true rfl) dX7_takeComparison_48 (fun I_48 J_48 h_48 => ?_)
      have kI_48 : Kp 10 15 Ia I_48 := Kp_tr kI_2 (Kp_wd h_48.1 (by decide) (by decide))
      have kJ_48 : Kp 10 15 Ja J_48 := Kp_tr kJ_2 (Kp_wd h_48.2.1 (by decide) (by decide))
      have r1_5_I_48 : I_48 1 5 = Ia 1 5 := Kp_at kI_48 1 5 (by decide)
      have r8_1_I_48 : I_48 8 1 = Ia 8 1 := Kp_at kI_48 8 1 (by decide)
      have rf_I_48 : FU (I_48 1 5) = FU (Ia 1 5) := by rw [r1_5_I_48]
      have lI_48 : LR I_48 := h_48.2.2.1
      have qI_48 := lI_48.1
      unfold LRf at qI_48
      have cI_48 := h_48.2.2.2.1
      have fsI_48 : zFr I_2 I_48 := h_48.2.2.2.2.1
      have xrI_48 := h_48.2.2.2.2.2.1
      have yI_48 := h_48.2.2.2.2.2.2
      have tkI_48 : zTK I_48 cd vl T := zTK_f tkI_2 fsI_48
      have frI_48 : zFr Ia I_48 := zFr_tr frI_2 fsI_48
      have av48 := zAt_av tkI_2 hq2.1 (by omega) fsI_48 yI_48
      have at48 := av48.1
      refine ww_aload_n hX (pc := 51) dX7_takeComparison_51 rfl ?_
      refine ww_iload_n hX (pc := 52) dX7_takeComparison_52 rfl ?_
      refine vI1 hX (pc := 53) sX7_74 (xs_10 hL) (c_QSum l0 m hm hL (XI_kp hI kI_48 (by decide)) lI_48 tkI_48 at48) (by omega) (Nat.le_refl 0) (Nat.le_refl 0) (Nat.le_of_ble_eq_true rfl) dX7_takeComparison_53 (fun x_53 I_53 J_53 h_53 => ?_)
      have kI_53 : Kp 10 15 Ia I_53 := Kp_tr kI_48 (Kp_wd h_53.1 (by decide) (by decide))
      have kJ_53 : Kp 10 15 Ja J_53 := Kp_tr kJ_48 (Kp_wd h_53.2.1 (by decide) (by decide))
      have r1_5_I_53 : I_53 1 5 = Ia 1 5 := Kp_at kI_53 1 5 (by decide)
      have r8_1_I_53 : I_53 8 1 = Ia 8 1 := Kp_at kI_53 8 1 (by decide)
      have rf_I_53 : FU (I_53 1 5) = FU (Ia 1 5) := by rw [r1_5_I_53]
      have lI_53 : LR I_53 := h_53.2.2.1
      have qI_53 := lI_53.1
      unfold LRf at qI_53
      have cI_53 := h_53.2.2.2.1
      have fsI_53 : zFr I_48 I_53 := h_53.2.2.2.2.1
      have xrI_53 := h_53.2.2.2.2.2.1
      have yI_53 := h_53.2.2.2.2.2.2
      have tkI_53 : zTK I_53 cd vl T := zTK_f tkI_48 fsI_53
      have frI_53 : zFr Ia I_53 := zFr_tr frI_48 fsI_53
      refine ww_if_ne hX (pc := 56) (tgt := 61) dX7_takeComparison_56 (by decide) (fun h_56 => ?_) (fun h_56 => ?_)
      · simp only [w32_mod] at h_56
        refine ww_aload_n hX (pc := 61) dX7_takeComparison_61 rfl ?_
        refine ww_iload_n hX (pc := 62) dX7_takeComparison_62 rfl ?_
        refine sI1 hX (pc := 63) sX7_107 (c6_X7_stepOf l0) (by omega) (Nat.le_refl 0) (Nat.le_refl 0) (Nat.le_of_ble_eq_true rfl) dX7_takeComparison_63 (fun x_63 I_63 J_63 h_63 => ?_)
        obtain ⟨rfl, rfl, h_63⟩ := h_63
        refine vV1 hX (pc := 66) sX7_101 (xs_10 hL) (c6_X7_step l0 hL (XI_kp hI kI_53 (by decide)) lI_53 (by omega) (by omega)) (by omega) (Nat.le_refl 0) (Nat.le_refl 0) (Nat.le_of_ble_eq_true rfl) dX7_takeComparison_66 (fun I_66 J_66 h_66 => ?_)
        have kI_66 : Kp 10 15 Ia I_66 := Kp_tr kI_53 (Kp_wd h_66.1 (by decide) (by decide))
        have kJ_66 : Kp 10 15 Ja J_66 := Kp_tr kJ_53 (Kp_wd h_66.2.1 (by decide) (by decide))
        have r1_5_I_66 : I_66 1 5 = Ia 1 5 := Kp_at kI_66 1 5 (by decide)
        have r8_1_I_66 : I_66 8 1 = Ia 8 1 := Kp_at kI_66 8 1 (by decide)
        have rf_I_66 : FU (I_66 1 5) = FU (Ia 1 5) := by rw [r1_5_I_66]
        have lI_66 : LR I_66 := h_66.2.2.1
        have qI_66 := lI_66.1
        unfold LRf at qI_66
        have cI_66 := h_66.2.2.2.1
        have fsI_66 : zFr I_53 I_66 := h_66.2.2.2.2.1
        have xrI_66 := h_66.2.2.2.2.2.1
        have yI_66 := h_66.2.2.2.2.2.2
        have tkI_66 : zTK I_66 cd vl T := zTK_f tkI_53 fsI_66
        have frI_66 : zFr Ia I_66 := zFr_tr frI_53 fsI_66
        refine ww_iconst hX (pc := 69) (x := 1) dX7_takeComparison_69 rfl ?_
        refine rZ hX (pc := 70) hT (Nat.le_refl 0) (Nat.le_refl 0) dX7_takeComparison_70 (by decide) ?_
        exact ⟨kI_66, kJ_66, lI_66, by omega, frI_66, by omega, (zPO_c3 hk frI_2 hq1 hq2 hc9 fsI_48 yI_48 fsI_53 yI_53 (by omega) fsI_66 yI_66 h_63.1 (by rw [h_63.2 (by omega)]; omega) rfl)⟩
      · simp only [w32_mod] at h_56
        refine ww_iconst hX (pc := 59) (x := 0) dX7_takeComparison_59 rfl ?_
        refine rZ hX (pc := 60) hT (Nat.le_refl 0) (Nat.le_refl 0) dX7_takeComparison_60 (by decide) ?_
        exact ⟨kI_53, kJ_53, lI_53, by omega, frI_53, by omega, (zPO_c2 frI_48.2.1 hq1 hc9 yI_53 (by omega) rfl)⟩
    · simp only [w32_mod] at h_16
      have hn0 : ¬ cd q9.1 = 160 := fun h9 => by
        have := (zK_b tkI_2 hq2.1 60 (by decide) (by decide)).mpr h9
        omega
      refine ww_aload_n hX (pc := 19) dX7_takeComparison_19 rfl ?_
      refine ww_getI hX (pc := 20) fX7_38 (by decide) (xs_10 hL) dX7_takeComparison_20 ?_
      refine ww_bipush hX (pc := 23) (x := 62) dX7_takeComparison_23 (by decide) ?_
      refine ww_icmp_eq hX (pc := 25) (tgt := 42) dX7_takeComparison_25 (by decide) (fun h_25 => ?_) (fun h_25 => ?_)
      · simp only [w32_mod] at h_25
        have hc7 : cd q9.1 = 162 := (zK_b tkI_2 hq2.1 62 (by decide) (by decide)).mp (by omega)
        have hc9 : 160 ≤ cd q9.1 ∧ cd q9.1 ≤ 162 := by omega
        refine ww_aload_n hX (pc := 42) dX7_takeComparison_42 rfl ?_
        refine ww_getI hX (pc := 43) fX7_38 (by decide) (xs_10 hL) dX7_takeComparison_43 ?_
        refine ww_nmI (fun v_46 hv_46 => ?_)
        refine ww_istore_n hX (pc := 46) (lv' := [some (kR (some 10)), some (kI (8 - (m : Int))), some (kI v_46)]) dX7_takeComparison_46 (by decide) rfl rfl ?_
        refine ww_aload_n hX (pc := 47) dX7_takeComparison_47 rfl ?_
        refine vV0 hX (pc := 48) sX7_71 (xs_10 hL) (c6_X7_advance l0 hL (XI_kp hI kI_2 (by decide)) lI_2) (by omega) (Nat.le_refl 0) (Nat.le_refl 0) (Nat.le_of_ble_eq_true rfl) dX7_takeComparison_48 (fun I_48 J_48 h_48 => ?_)
        have kI_48 : Kp 10 15 Ia I_48 := Kp_tr kI_2 (Kp_wd h_48.1 (by decide) (by decide))
        have kJ_48 : Kp 10 15 Ja J_48 := Kp_tr kJ_2 (Kp_wd h_48.2.1 (by decide) (by decide))
        have r1_5_I_48 : I_48 1 5 = Ia 1 5 := Kp_at kI_48 1 5 (by decide)
        have r8_1_I_48 : I_48 8 1 = Ia 8 1 := Kp_at kI_48 8 1 (by decide)
        have rf_I_48 : FU (I_48 1 5) = FU (Ia 1 5) := by rw [r1_5_I_48]
        have lI_48 : LR I_48 := h_48.2.2.1
        have qI_48 := lI_48.1
        unfold LRf at qI_48
        have cI_48 := h_48.2.2.2.1
        have fsI_48 : zFr I_2 I_48 := h_48.2.2.2.2.1
        have xrI_48 := h_48.2.2.2.2.2.1
        have yI_48 := h_48.2.2.2.2.2.2
        have tkI_48 : zTK I_48 cd vl T := zTK_f tkI_2 fsI_48
        have frI_48 : zFr Ia I_48 := zFr_tr frI_2 fsI_48
        have av48 := zAt_av tkI_2 hq2.1 (by omega) fsI_48 yI_48
        have at48 := av48.1
        refine ww_aload_n hX (pc := 51) dX7_takeComparison_51 rfl ?_
        refine ww_iload_n hX (pc := 52) dX7_takeComparison_52 rfl ?_
        refine vI1 hX (pc := 53) sX7_74 (xs_10 hL) (c_QSum l0 m hm hL (XI_kp hI kI_48 (by decide)) lI_48 tkI_48 at48) (by omega) (Nat.le_refl 0) (Nat.le_refl 0) (Nat.le_of_ble_eq_true rfl) dX7_takeComparison_53 (fun x_53 I_53 J_53 h_53 => ?_)
        have kI_53 : Kp 10 15 Ia I_53 := Kp_tr kI_48 (Kp_wd h_53.1 (by decide) (by decide))
        have kJ_53 : Kp 10 15 Ja J_53 := Kp_tr kJ_48 (Kp_wd h_53.2.1 (by decide) (by decide))
        have r1_5_I_53 : I_53 1 5 = Ia 1 5 := Kp_at kI_53 1 5 (by decide)
        have r8_1_I_53 : I_53 8 1 = Ia 8 1 := Kp_at kI_53 8 1 (by decide)
        have rf_I_53 : FU (I_53 1 5) = FU (Ia 1 5) := by rw [r1_5_I_53]
        have lI_53 : LR I_53 := h_53.2.2.1
        have qI_53 := lI_53.1
        unfold LRf at qI_53
        have cI_53 := h_53.2.2.2.1
        have fsI_53 : zFr I_48 I_53 := h_53.2.2.2.2.1
        have xrI_53 := h_53.2.2.2.2.2.1
        have yI_53 := h_53.2.2.2.2.2.2
        have tkI_53 : zTK I_53 cd vl T := zTK_f tkI_48 fsI_53
        have frI_53 : zFr Ia I_53 := zFr_tr frI_48 fsI_53
        refine ww_if_ne hX (pc := 56) (tgt := 61) dX7_takeComparison_56 (by decide) (fun h_56 => ?_) (fun h_56 => ?_)
        · simp only [w32_mod] at h_56
          refine ww_aload_n hX (pc := 61) dX7_takeComparison_61 rfl ?_
          refine ww_iload_n hX (pc := 62) dX7_takeComparison_62 rfl ?_
          refine sI1 hX (pc := 63) sX7_107 (c6_X7_stepOf l0) (by omega) (Nat.le_refl 0) (Nat.le_refl 0) (Nat.le_of_ble_eq_true rfl) dX7_takeComparison_63 (fun x_63 I_63 J_63 h_63 => ?_)
          obtain ⟨rfl, rfl, h_63⟩ := h_63
          refine vV1 hX (pc := 66) sX7_101 (xs_10 hL) (c6_X7_step l0 hL (XI_kp hI kI_53 (by decide)) lI_53 (by omega) (by omega)) (by omega) (Nat.le_refl 0) (Nat.le_refl 0) (Nat.le_of_ble_eq_true rfl) dX7_takeComparison_66 (fun I_66 J_66 h_66 => ?_)
          have kI_66 : Kp 10 15 Ia I_66 := Kp_tr kI_53 (Kp_wd h_66.1 (by decide) (by decide))
          have kJ_66 : Kp 10 15 Ja J_66 := Kp_tr kJ_53 (Kp_wd h_66.2.1 (by decide) (by decide))
          have r1_5_I_66 : I_66 1 5 = Ia 1 5 := Kp_at kI_66 1 5 (by decide)
          have r8_1_I_66 : I_66 8 1 = Ia 8 1 := Kp_at kI_66 8 1 (by decide)
          have rf_I_66 : FU (I_66 1 5) = FU (Ia 1 5) := by rw [r1_5_I_66]
          have lI_66 : LR I_66 := h_66.2.2.1
          have qI_66 := lI_66.1
          unfold LRf at qI_66
          have cI_66 := h_66.2.2.2.1
          have fsI_66 : zFr I_53 I_66 := h_66.2.2.2.2.1
          have xrI_66 := h_66.2.2.2.2.2.1
          have yI_66 := h_66.2.2.2.2.2.2
          have tkI_66 : zTK I_66 cd vl T := zTK_f tkI_53 fsI_66
          have frI_66 : zFr Ia I_66 := zFr_tr frI_53 fsI_66
          refine ww_iconst hX (pc := 69) (x := 1) dX7_takeComparison_69 rfl ?_
          refine rZ hX (pc := 70) hT (Nat.le_refl 0) (Nat.le_refl 0) dX7_takeComparison_70 (by decide) ?_
          exact ⟨kI_66, kJ_66, lI_66, by omega, frI_66, by omega, (zPO_c3 hk frI_2 hq1 hq2 hc9 fsI_48 yI_48 fsI_53 yI_53 (by omega) fsI_66 yI_66 h_63.1 (by rw [h_63.2 (by omega)]; omega) rfl)⟩
        · simp only [w32_mod] at h_56
          refine ww_iconst hX (pc := 59) (x := 0) dX7_takeComparison_59 rfl ?_
          refine rZ hX (pc := 60) hT (Nat.le_refl 0) (Nat.le_refl 0) dX7_takeComparison_60 (by decide) ?_
          exact ⟨kI_53, kJ_53, lI_53, by omega, frI_53, by omega, (zPO_c2 frI_48.2.1 hq1 hc9 yI_53 (by omega) rfl)⟩
      · simp only [w32_mod] at h_25
        have hn1 : ¬ cd q9.1 = 162 := fun h9 => by
          have := (zK_b tkI_2 hq2.1 62 (by decide) (by decide)).mpr h9
          omega
        refine ww_aload_n hX (pc := 28) dX7_takeComparison_28 rfl ?_
        refine ww_getI hX (pc := 29) fX7_38 (by decide) (xs_10 hL) dX7_takeComparison_29 ?_
        refine ww_bipush hX (pc := 32) (x := 61) dX7_takeComparison_32 (by decide) ?_
        refine ww_icmp_eq hX (pc := 34) (tgt := 42) dX7_takeComparison_34 (by decide) (fun h_34 => ?_) (fun h_34 => ?_)
        · simp only [w32_mod] at h_34
          have hc7 : cd q9.1 = 161 := (zK_b tkI_2 hq2.1 61 (by decide) (by decide)).mp (by omega)
          have hc9 : 160 ≤ cd q9.1 ∧ cd q9.1 ≤ 162 := by omega
          refine ww_aload_n hX (pc := 42) dX7_takeComparison_42 rfl ?_
          refine ww_getI hX (pc := 43) fX7_38 (by decide) (xs_10 hL) dX7_takeComparison_43 ?_
          refine ww_nmI (fun v_46 hv_46 => ?_)
          refine ww_istore_n hX (pc := 46) (lv' := [some (kR (some 10)), some (kI (8 - (m : Int))), some (kI v_46)]) dX7_takeComparison_46 (by decide) rfl rfl ?_
          refine ww_aload_n hX (pc := 47) dX7_takeComparison_47 rfl ?_
          refine vV0 hX (pc := 48) sX7_71 (xs_10 hL) (c6_X7_advance l0 hL (XI_kp hI kI_2 (by decide)) lI_2) (by omega) (Nat.le_refl 0) (Nat.le_refl 0) (Nat.le_of_ble_eq_true rfl) dX7_takeComparison_48 (fun I_48 J_48 h_48 => ?_)
          have kI_48 : Kp 10 15 Ia I_48 := Kp_tr kI_2 (Kp_wd h_48.1 (by decide) (by decide))
          have kJ_48 : Kp 10 15 Ja J_48 := Kp_tr kJ_2 (Kp_wd h_48.2.1 (by decide) (by decide))
          have r1_5_I_48 : I_48 1 5 = Ia 1 5 := Kp_at kI_48 1 5 (by decide)
          have r8_1_I_48 : I_48 8 1 = Ia 8 1 := Kp_at kI_48 8 1 (by decide)
          have rf_I_48 : FU (I_48 1 5) = FU (Ia 1 5) := by rw [r1_5_I_48]
          have lI_48 : LR I_48 := h_48.2.2.1
          have qI_48 := lI_48.1
          unfold LRf at qI_48
          have cI_48 := h_48.2.2.2.1
          have fsI_48 : zFr I_2 I_48 := h_48.2.2.2.2.1
          have xrI_48 := h_48.2.2.2.2.2.1
          have yI_48 := h_48.2.2.2.2.2.2
          have tkI_48 : zTK I_48 cd vl T := zTK_f tkI_2 fsI_48
          have frI_48 : zFr Ia I_48 := zFr_tr frI_2 fsI_48
          have av48 := zAt_av tkI_2 hq2.1 (by omega) fsI_48 yI_48
          have at48 := av48.1
          refine ww_aload_n hX (pc := 51) dX7_takeComparison_51 rfl ?_
          refine ww_iload_n hX (pc := 52) dX7_takeComparison_52 rfl ?_
          refine vI1 hX (pc := 53) sX7_74 (xs_10 hL) (c_QSum l0 m hm hL (XI_kp hI kI_48 (by decide)) lI_48 tkI_48 at48) (by omega) (Nat.le_refl 0) (Nat.le_refl 0) (Nat.le_of_ble_eq_true rfl) dX7_takeComparison_53 (fun x_53 I_53 J_53 h_53 => ?_)
          have kI_53 : Kp 10 15 Ia I_53 := Kp_tr kI_48 (Kp_wd h_53.1 (by decide) (by decide))
          have kJ_53 : Kp 10 15 Ja J_53 := Kp_tr kJ_48 (Kp_wd h_53.2.1 (by decide) (by decide))
          have r1_5_I_53 : I_53 1 5 = Ia 1 5 := Kp_at kI_53 1 5 (by decide)
          have r8_1_I_53 : I_53 8 1 = Ia 8 1 := Kp_at kI_53 8 1 (by decide)
          have rf_I_53 : FU (I_53 1 5) = FU (Ia 1 5) := by rw [r1_5_I_53]
          have lI_53 : LR I_53 := h_53.2.2.1
          have qI_53 := lI_53.1
          unfold LRf at qI_53
          have cI_53 := h_53.2.2.2.1
          have fsI_53 : zFr I_48 I_53 := h_53.2.2.2.2.1
          have xrI_53 := h_53.2.2.2.2.2.1
          have yI_53 := h_53.2.2.2.2.2.2
          have tkI_53 : zTK I_53 cd vl T := zTK_f tkI_48 fsI_53
          have frI_53 : zFr Ia I_53 := zFr_tr frI_48 fsI_53
          refine ww_if_ne hX (pc := 56) (tgt := 61) dX7_takeComparison_56 (by decide) (fun h_56 => ?_) (fun h_56 => ?_)
          · simp only [w32_mod] at h_56
            refine ww_aload_n hX (pc := 61) dX7_takeComparison_61 rfl ?_
            refine ww_iload_n hX (pc := 62) dX7_takeComparison_62 rfl ?_
            refine sI1 hX (pc := 63) sX7_107 (c6_X7_stepOf l0) (by omega) (Nat.le_refl 0) (Nat.le_refl 0) (Nat.le_of_ble_eq_true rfl) dX7_takeComparison_63 (fun x_63 I_63 J_63 h_63 => ?_)
            obtain ⟨rfl, rfl, h_63⟩ := h_63
            refine vV1 hX (pc := 66) sX7_101 (xs_10 hL) (c6_X7_step l0 hL (XI_kp hI kI_53 (by decide)) lI_53 (by omega) (by omega)) (by omega) (Nat.le_refl 0) (Nat.le_refl 0) (Nat.le_of_ble_eq_true rfl) dX7_takeComparison_66 (fun I_66 J_66 h_66 => ?_)
            have kI_66 : Kp 10 15 Ia I_66 := Kp_tr kI_53 (Kp_wd h_66.1 (by decide) (by decide))
            have kJ_66 : Kp 10 15 Ja J_66 := Kp_tr kJ_53 (Kp_wd h_66.2.1 (by decide) (by decide))
            have r1_5_I_66 : I_66 1 5 = Ia 1 5 := Kp_at kI_66 1 5 (by decide)
            have r8_1_I_66 : I_66 8 1 = Ia 8 1 := Kp_at kI_66 8 1 (by decide)
            have rf_I_66 : FU (I_66 1 5) = FU (Ia 1 5) := by rw [r1_5_I_66]
            have lI_66 : LR I_66 := h_66.2.2.1
            have qI_66 := lI_66.1
            unfold LRf at qI_66
            have cI_66 := h_66.2.2.2.1
            have fsI_66 : zFr I_53 I_66 := h_66.2.2.2.2.1
            have xrI_66 := h_66.2.2.2.2.2.1
            have yI_66 := h_66.2.2.2.2.2.2
            have tkI_66 : zTK I_66 cd vl T := zTK_f tkI_53 fsI_66
            have frI_66 : zFr Ia I_66 := zFr_tr frI_53 fsI_66
            refine ww_iconst hX (pc := 69) (x := 1) dX7_takeComparison_69 rfl ?_
            refine rZ hX (pc := 70) hT (Nat.le_refl 0) (Nat.le_refl 0) dX7_takeComparison_70 (by decide) ?_
            exact ⟨kI_66, kJ_66, lI_66, by omega, frI_66, by omega, (zPO_c3 hk frI_2 hq1 hq2 hc9 fsI_48 yI_48 fsI_53 yI_53 (by omega) fsI_66 yI_66 h_63.1 (by rw [h_63.2 (by omega)]; omega) rfl)⟩
          · simp only [w32_mod] at h_56
            refine ww_iconst hX (pc := 59) (x := 0) dX7_takeComparison_59 rfl ?_
            refine rZ hX (pc := 60) hT (Nat.le_refl 0) (Nat.le_refl 0) dX7_takeComparison_60 (by decide) ?_
            exact ⟨kI_53, kJ_53, lI_53, by omega, frI_53, by omega, (zPO_c2 frI_48.2.1 hq1 hc9 yI_53 (by omega) rfl)⟩
        · simp only [w32_mod] at h_34
          have hn2 : ¬ cd q9.1 = 161 := fun h9 => by
            have := (zK_b tkI_2 hq2.1 61 (by decide) (by decide)).mpr h9
            omega
          refine ww_aload_n hX (pc := 37) dX7_takeComparison_37 rfl ?_
          refine vI0 hX (pc := 38) sX7_68 (xs_10 hL) (c6_X7_fail l0 hL (XI_kp hI kI_2 (by decide)) lI_2) (by omega) (Nat.le_refl 0) (Nat.le_refl 0) (Nat.le_of_ble_eq_true rfl) dX7_takeComparison_38 (fun x_38 I_38 J_38 h_38 => ?_)
          have kI_38 : Kp 10 15 Ia I_38 := Kp_tr kI_2 (Kp_wd h_38.1 (by decide) (by decide))
          have kJ_38 : Kp 10 15 Ja J_38 := Kp_tr kJ_2 (Kp_wd h_38.2.1 (by decide) (by decide))
          have r1_5_I_38 : I_38 1 5 = Ia 1 5 := Kp_at kI_38 1 5 (by decide)
          have r8_1_I_38 : I_38 8 1 = Ia 8 1 := Kp_at kI_38 8 1 (by decide)
          have rf_I_38 : FU (I_38 1 5) = FU (Ia 1 5) := by rw [r1_5_I_38]
          have lI_38 : LR I_38 := h_38.2.2.1
          have qI_38 := lI_38.1
          unfold LRf at qI_38
          have cI_38 := h_38.2.2.2.1
          have fsI_38 : zFr I_2 I_38 := h_38.2.2.2.2.1
          have xrI_38 := h_38.2.2.2.2.2.1
          have yI_38 := h_38.2.2.2.2.2.2
          have tkI_38 : zTK I_38 cd vl T := zTK_f tkI_2 fsI_38
          have frI_38 : zFr Ia I_38 := zFr_tr frI_2 fsI_38
          refine rZ hX (pc := 41) hT (Nat.le_refl 0) (Nat.le_refl 0) dX7_takeComparison_41 (by omega) ?_
          exact ⟨kI_38, kJ_38, lI_38, by omega, frI_38, by omega, (zPO_c1 frI_2 hq1 hq2 (by omega) yI_38)⟩
  · simp only [w32_mod] at h_5
    refine ww_iconst hX (pc := 8) (x := 0) dX7_takeComparison_8 rfl ?_
    refine rZ hX (pc := 9) hT (Nat.le_refl 0) (Nat.le_refl 0) dX7_takeComparison_9 (by decide) ?_
    exact ⟨kI_2, kJ_2, lI_2, by omega, frI_2, by omega, (zPO_c0 yI_2 (by omega) rfl)⟩
set_option maxHeartbeats 4000000 in
set_option maxRecDepth 20000 in
theorem c6_X7_takeBracketed (l0 : Launch) {m : Nat} (hm : m ≤ 8) (hrec : ∀ mp, m = mp + 1 → QTest l0 mp) {Ia Ja : aI1} {Ra : aR1} {Sa : aS1} (hL : LY Ra Sa) (hI : XI Ia) (hR : LR Ia) {cd vl : Nat → Int} {T t l : Nat} (hk : zTK Ia cd vl T) (ha : zAt Ia T t l) (hcb : cd t = 140)  : CT l0 (20 * m + 127) 0 0 mX7_takeBracketed [kR (some 10), kI (8 - (m : Int))] Ia Ja Ra Sa (cI (fun x I' J' => Kp 10 15 Ia I' ∧ Kp 10 15 Ja J' ∧ LR I' ∧ I' 10 11 = Ia 10 11 ∧ zFr Ia I' ∧ (x = 0 ∨ x = 1) ∧ zPO zBl Ia I' T t l x (zBr (zTu cd vl m) cd 141 t l)) Ra Sa) := by
  refine ct_in pn_X7 (Nat.le_of_ble_eq_true rfl) (fun X hX hT hIn => ?_)
  have hX : aK l0 X cX7_takeBracketed 2 RX7 (some .boolean) (20 * m + 127) 0 0 := hX
  change WW X 0 [some (kR (some 10)), some (kI (8 - (m : Int)))] [] Ia Ja Ra Sa 0 0
  obtain ⟨hn1, hn2⟩ := hI.1
  obtain ⟨hk1, hk2⟩ := hI.2.1
  obtain ⟨hf1, hf2⟩ := hI.fu
  obtain ⟨hl1, hl2⟩ := hI.2.2.2.2.2.2.1
  have hq := hR.1
  unfold LRf at hq
  refine ww_iload_n hX (pc := 0) dX7_takeBracketed_0 rfl ?_
  refine ww_bipush hX (pc := 1) (x := 8) dX7_takeBracketed_1 (by decide) ?_
  refine ww_icmp_lt hX (pc := 3) (tgt := 11) dX7_takeBracketed_3 (by decide) (fun h_3 => ?_) (fun h_3 => ?_)
  · simp only [w32_mod] at h_3
    obtain ⟨mp, rfl⟩ : ∃ mp, m = mp + 1 := ⟨m - 1, by omega⟩
    refine ww_aload_n hX (pc := 11) dX7_takeBracketed_11 rfl ?_
    refine vV0 hX (pc := 12) sX7_71 (xs_10 hL) (c6_X7_advance l0 hL hI hR) (by omega) (Nat.le_refl 0) (Nat.le_refl 0) (Nat.le_of_ble_eq_true rfl) dX7_takeBracketed_12 (fun I_12 J_12 h_12 => ?_)
    have kI_12 : Kp 10 15 Ia I_12 := Kp_tr (Kp_rf (a := 10) (b := 15)) (Kp_wd h_12.1 (by decide) (by decide))
    have kJ_12 : Kp 10 15 Ja J_12 := Kp_tr (Kp_rf (a := 10) (b := 15)) (Kp_wd h_12.2.1 (by decide) (by decide))
    have r1_5_I_12 : I_12 1 5 = Ia 1 5 := Kp_at kI_12 1 5 (by decide)
    have r8_1_I_12 : I_12 8 1 = Ia 8 1 := Kp_at kI_12 8 1 (by decide)
    have rf_I_12 : FU (I_12 1 5) = FU (Ia 1 5) := by rw [r1_5_I_12]
    have lI_12 : LR I_12 := h_12.2.2.1
    have qI_12 := lI_12.1
    unfold LRf at qI_12
    have cI_12 := h_12.2.2.2.1
    have fsI_12 : zFr Ia I_12 := h_12.2.2.2.2.1
    have xrI_12 := h_12.2.2.2.2.2.1
    have yI_12 := h_12.2.2.2.2.2.2
    have tkI_12 : zTK I_12 cd vl T := zTK_f hk fsI_12
    have frI_12 : zFr Ia I_12 := zFr_tr zFr_rf fsI_12
    have av12 := zAt_av hk ha (by omega) fsI_12 yI_12
    have at12 := av12.1
    refine ww_aload_n hX (pc := 15) dX7_takeBracketed_15 rfl ?_
    refine ww_iload_n hX (pc := 16) dX7_takeBracketed_16 rfl ?_
    refine ww_iconst hX (pc := 17) (x := 1) dX7_takeBracketed_17 rfl ?_
    refine ww_iadd hX (pc := 18) dX7_takeBracketed_18 ?_
    refine ww_toI (show (8 - ((mp + 1 : Nat) : Int)) + 1 = 8 - (mp : Int) by omega) ?_
    refine vI1 hX (pc := 19) sX7_78 (xs_10 hL) (hrec mp rfl hL (XI_kp hI kI_12 (by decide)) lI_12 tkI_12 at12) (by omega) (Nat.le_refl 0) (Nat.le_refl 0) (Nat.le_of_ble_eq_true rfl) dX7_takeBracketed_19 (fun x_19 I_19 J_19 h_19 => ?_)
    have kI_19 : Kp 10 15 Ia I_19 := Kp_tr kI_12 (Kp_wd h_19.1 (by decide) (by decide))
    have kJ_19 : Kp 10 15 Ja J_19 := Kp_tr kJ_12 (Kp_wd h_19.2.1 (by decide) (by decide))
    have r1_5_I_19 : I_19 1 5 = Ia 1 5 := Kp_at kI_19 1 5 (by decide)
    have r8_1_I_19 : I_19 8 1 = Ia 8 1 := Kp_at kI_19 8 1 (by decide)
    have rf_I_19 : FU (I_19 1 5) = FU (Ia 1 5) := by rw [r1_5_I_19]
    have lI_19 : LR I_19 := h_19.2.2.1
    have qI_19 := lI_19.1
    unfold LRf at qI_19
    have cI_19 := h_19.2.2.2.1
    have fsI_19 : zFr I_12 I_19 := h_19.2.2.2.2.1
    have xrI_19 := h_19.2.2.2.2.2.1
    have yI_19 := h_19.2.2.2.2.2.2
    have tkI_19 : zTK I_19 cd vl T := zTK_f tkI_12 fsI_19
    have frI_19 : zFr Ia I_19 := zFr_tr frI_12 fsI_19
    refine ww_if_eq hX (pc := 22) (tgt := 38) dX7_takeBracketed_22 (by decide) (fun h_22 => ?_) (fun h_22 => ?_)
    · simp only [w32_mod] at h_22
      refine ww_iconst hX (pc := 38) (x := 0) dX7_takeBracketed_38 rfl ?_
      refine rZ hX (pc := 39) hT (Nat.le_refl 0) (Nat.le_refl 0) dX7_takeBracketed_39 (by decide) ?_
      exact ⟨kI_19, kJ_19, lI_19, by omega, frI_19, by omega, (zPO_bf frI_12 yI_19 (by omega) rfl)⟩
    · simp only [w32_mod] at h_22
      refine ww_aload_n hX (pc := 25) dX7_takeBracketed_25 rfl ?_
      refine ww_bipush hX (pc := 26) (x := 41) dX7_takeBracketed_26 (by decide) ?_
      refine vI1 hX (pc := 28) sX7_104 (xs_10 hL) (c6_X7_takeSign l0 hL (XI_kp hI kI_19 (by decide)) lI_19 (by omega) (by omega)) (by omega) (Nat.le_refl 0) (Nat.le_refl 0) (Nat.le_of_ble_eq_true rfl) dX7_takeBracketed_28 (fun x_28 I_28 J_28 h_28 => ?_)
      have kI_28 : Kp 10 15 Ia I_28 := Kp_tr kI_19 (Kp_wd h_28.1 (by decide) (by decide))
      have kJ_28 : Kp 10 15 Ja J_28 := Kp_tr kJ_19 (Kp_wd h_28.2.1 (by decide) (by decide))
      have r1_5_I_28 : I_28 1 5 = Ia 1 5 := Kp_at kI_28 1 5 (by decide)
      have r8_1_I_28 : I_28 8 1 = Ia 8 1 := Kp_at kI_28 8 1 (by decide)
      have rf_I_28 : FU (I_28 1 5) = FU (Ia 1 5) := by rw [r1_5_I_28]
      have lI_28 : LR I_28 := h_28.2.2.1
      have qI_28 := lI_28.1
      unfold LRf at qI_28
      have cI_28 := h_28.2.2.2.1
      have fsI_28 : zFr I_19 I_28 := h_28.2.2.2.2.1
      have xrI_28 := h_28.2.2.2.2.2.1
      have yI_28 := h_28.2.2.2.2.2.2
      have tkI_28 : zTK I_28 cd vl T := zTK_f tkI_19 fsI_28
      have frI_28 : zFr Ia I_28 := zFr_tr frI_19 fsI_28
      refine ww_if_eq hX (pc := 31) (tgt := 38) dX7_takeBracketed_31 (by decide) (fun h_31 => ?_) (fun h_31 => ?_)
      · simp only [w32_mod] at h_31
        refine ww_iconst hX (pc := 38) (x := 0) dX7_takeBracketed_38 rfl ?_
        refine rZ hX (pc := 39) hT (Nat.le_refl 0) (Nat.le_refl 0) dX7_takeBracketed_39 (by decide) ?_
        exact ⟨kI_28, kJ_28, lI_28, by omega, frI_28, by omega, (by rw [show (0 : Int) = x_28 by omega]; exact zPO_bs hk ha (by omega) frI_12 yI_12 fsI_19 yI_19 (by omega) fsI_28 yI_28 (by decide) (by decide) rfl)⟩
      · simp only [w32_mod] at h_31
        refine ww_iconst hX (pc := 34) (x := 1) dX7_takeBracketed_34 rfl ?_
        refine ww_goto hX (pc := 35) (tgt := 39) dX7_takeBracketed_35 (by decide) ?_
        refine rZ hX (pc := 39) hT (Nat.le_refl 0) (Nat.le_refl 0) dX7_takeBracketed_39 (by decide) ?_
        exact ⟨kI_28, kJ_28, lI_28, by omega, frI_28, by omega, (by rw [show (1 : Int) = x_28 by omega]; exact zPO_bs hk ha (by omega) frI_12 yI_12 fsI_19 yI_19 (by omega) fsI_28 yI_28 (by decide) (by decide) rfl)⟩
  · simp only [w32_mod] at h_3
    refine ww_aload_n hX (pc := 6) dX7_takeBracketed_6 rfl ?_
    refine vI0 hX (pc := 7) sX7_68 (xs_10 hL) (c6_X7_fail l0 hL hI hR) (by omega) (Nat.le_refl 0) (Nat.le_refl 0) (Nat.le_of_ble_eq_true rfl) dX7_takeBracketed_7 (fun x_7 I_7 J_7 h_7 => ?_)
    have kI_7 : Kp 10 15 Ia I_7 := Kp_tr (Kp_rf (a := 10) (b := 15)) (Kp_wd h_7.1 (by decide) (by decide))
    have kJ_7 : Kp 10 15 Ja J_7 := Kp_tr (Kp_rf (a := 10) (b := 15)) (Kp_wd h_7.2.1 (by decide) (by decide))
    have r1_5_I_7 : I_7 1 5 = Ia 1 5 := Kp_at kI_7 1 5 (by decide)
    have r8_1_I_7 : I_7 8 1 = Ia 8 1 := Kp_at kI_7 8 1 (by decide)
    have rf_I_7 : FU (I_7 1 5) = FU (Ia 1 5) := by rw [r1_5_I_7]
    have lI_7 : LR I_7 := h_7.2.2.1
    have qI_7 := lI_7.1
    unfold LRf at qI_7
    have cI_7 := h_7.2.2.2.1
    have fsI_7 : zFr Ia I_7 := h_7.2.2.2.2.1
    have xrI_7 := h_7.2.2.2.2.2.1
    have yI_7 := h_7.2.2.2.2.2.2
    have tkI_7 : zTK I_7 cd vl T := zTK_f hk fsI_7
    have frI_7 : zFr Ia I_7 := zFr_tr zFr_rf fsI_7
    refine rZ hX (pc := 10) hT (Nat.le_refl 0) (Nat.le_refl 0) dX7_takeBracketed_10 (by omega) ?_
    exact ⟨kI_7, kJ_7, lI_7, by omega, frI_7, by omega, (by
        obtain rfl : m = 0 := by omega
        exact zPO_fa ha yI_7 zBr_0)⟩
set_option maxHeartbeats 4000000 in
set_option maxRecDepth 20000 in
theorem c6_X7_takePlain (l0 : Launch) {m : Nat} (hm : m ≤ 8) (hrec : ∀ mp, m = mp + 1 → QTest l0 mp) {Ia Ja : aI1} {Ra : aR1} {Sa : aS1} (hL : LY Ra Sa) (hI : XI Ia) (hR : LR Ia) {cd vl : Nat → Int} {T t l : Nat} (hk : zTK Ia cd vl T) (ha : zAt Ia T t l)  : CT l0 (20 * m + 128) 0 0 mX7_takePlain [kR (some 10), kI (8 - (m : Int))] Ia Ja Ra Sa (cI (fun x I' J' => Kp 10 15 Ia I' ∧ Kp 10 15 Ja J' ∧ LR I' ∧ I' 10 11 = Ia 10 11 ∧ zFr Ia I' ∧ (x = 0 ∨ x = 1) ∧ zPO zBl Ia I' T t l x (zPl (zTu cd vl m) (zS cd vl m) cd t l)) Ra Sa) := by
  refine ct_in pn_X7 (Nat.le_of_ble_eq_true rfl) (fun X hX hT hIn => ?_)
  have hX : aK l0 X cX7_takePlain 4 RX7 (some .boolean) (20 * m + 128) 0 0 := hX
  change WW X 0 [some (kR (some 10)), some (kI (8 - (m : Int))), none, none] [] Ia Ja Ra Sa 0 0
  obtain ⟨hn1, hn2⟩ := hI.1
  obtain ⟨hk1, hk2⟩ := hI.2.1
  obtain ⟨hf1, hf2⟩ := hI.fu
  obtain ⟨hl1, hl2⟩ := hI.2.2.2.2.2.2.1
  have hq := hR.1
  unfold LRf at hq
  refine ww_iconst hX (pc := 0) (x := 0) dX7_takePlain_0 rfl ?_
  refine ww_istore_n hX (pc := 1) (lv' := [some (kR (some 10)), some (kI (8 - (m : Int))), some (kI 0), none]) dX7_takePlain_1 (by decide) rfl rfl ?_
  refine ww_iconst hX (pc := 2) (x := 0) dX7_takePlain_2 rfl ?_
  refine ww_istore_n hX (pc := 3) (lv' := [some (kR (some 10)), some (kI (8 - (m : Int))), some (kI 0), some (kI 0)]) dX7_takePlain_3 (by decide) rfl rfl ?_
  have hl_4 : ∀ (n_4 : Nat) (fl : Int) (i : Int) (I2 : aI1) (J2 : aI1), (400 - i).toNat = n_4 → (Kp 10 15 Ia I2 ∧ Kp 10 15 Ja J2 ∧ LR I2 ∧ I2 10 11 = Ia 10 11 ∧ (0 ≤ i ∧ i ≤ 400) ∧ zFr Ia I2 ∧ ∃ t9, zNI cd (400 - i).toNat Ia I2 T t l t9 fl) → WW X 4 [some (kR (some 10)), some (kI (8 - (m : Int))), some (kI fl), some (kI i)] [] I2 J2 Ra Sa 0 0 := by
    intro n_4
    induction n_4 using Nat.strongRecOn with
    | ind n_4 ih_4 =>
      intro fl i I2 J2 hm_4 hv_4
      have hq_4 := Sh0_i hm_4
      clear hm_4
      obtain ⟨kI2, kJ2, lI2, cI2, hi, frI2, t9, hni⟩ := hv_4
      have r1_5_I2 : I2 1 5 = Ia 1 5 := Kp_at kI2 1 5 (by decide)
      have r8_1_I2 : I2 8 1 = Ia 8 1 := Kp_at kI2 8 1 (by decide)
      have rf_I2 : FU (I2 1 5) = FU (Ia 1 5) := by rw [r1_5_I2]
      have qI2 := lI2.1
      unfold LRf at qI2
      have tkI2 : zTK I2 cd vl T := zTK_f hk frI2
      have hfl := hni.2.2.2.2.1
      refine ww_iload_n hX (pc := 4) dX7_takePlain_4 rfl ?_
      refine ww_sipush hX (pc := 5) (x := 400) dX7_takePlain_5 (by decide) ?_
      refine ww_icmp_ge hX (pc := 8) (tgt := 41) dX7_takePlain_8 (by decide) (fun h_8 => ?_) (fun h_8 => ?_)
      · simp only [w32_mod] at h_8
        refine ww_aload_n hX (pc := 41) dX7_takePlain_41 rfl ?_
        refine ww_getI hX (pc := 42) fX7_38 (by decide) (xs_10 hL) dX7_takePlain_42 ?_
        refine ww_bipush hX (pc := 45) (x := 40) dX7_takePlain_45 (by decide) ?_
        refine ww_icmp_ne hX (pc := 47) (tgt := 58) dX7_takePlain_47 (by decide) (fun h_47 => ?_) (fun h_47 => ?_)
        · simp only [w32_mod] at h_47
          have hcb : ¬ cd t9 = 140 := fun h9 => by
            have := (zK_b tkI2 hni.1 40 (by decide) (by decide)).mpr h9
            omega
          refine ww_aload_n hX (pc := 58) dX7_takePlain_58 rfl ?_
          refine ww_iload_n hX (pc := 59) dX7_takePlain_59 rfl ?_
          refine vI1 hX (pc := 60) sX7_98 (xs_10 hL) (c6_X7_takeComparison l0 (m := m) hm hL (XI_kp hI kI2 (by decide)) lI2 tkI2 hni.1) (by omega) (Nat.le_refl 0) (Nat.le_refl 0) (Nat.le_of_ble_eq_true rfl) dX7_takePlain_60 (fun x_60 I_60 J_60 h_60 => ?_)
          have kI_60 : Kp 10 15 Ia I_60 := Kp_tr kI2 (Kp_wd h_60.1 (by decide) (by decide))
          have kJ_60 : Kp 10 15 Ja J_60 := Kp_tr kJ2 (Kp_wd h_60.2.1 (by decide) (by decide))
          have r1_5_I_60 : I_60 1 5 = Ia 1 5 := Kp_at kI_60 1 5 (by decide)
          have r8_1_I_60 : I_60 8 1 = Ia 8 1 := Kp_at kI_60 8 1 (by decide)
          have rf_I_60 : FU (I_60 1 5) = FU (Ia 1 5) := by rw [r1_5_I_60]
          have lI_60 : LR I_60 := h_60.2.2.1
          have qI_60 := lI_60.1
          unfold LRf at qI_60
          have cI_60 := h_60.2.2.2.1
          have fsI_60 : zFr I2 I_60 := h_60.2.2.2.2.1
          have xrI_60 := h_60.2.2.2.2.2.1
          have yI_60 := h_60.2.2.2.2.2.2
          have tkI_60 : zTK I_60 cd vl T := zTK_f tkI2 fsI_60
          have frI_60 : zFr Ia I_60 := zFr_tr frI2 fsI_60
          refine ww_istore_n hX (pc := 63) (lv' := [some (kR (some 10)), some (kI (8 - (m : Int))), some (kI fl), some (kI x_60)]) dX7_takePlain_63 (by decide) rfl rfl ?_
          refine ww_iload_n hX (pc := 64) dX7_takePlain_64 rfl ?_
          refine ww_if_eq hX (pc := 65) (tgt := 78) dX7_takePlain_65 (by decide) (fun h_65 => ?_) (fun h_65 => ?_)
          · simp only [w32_mod] at h_65
            refine ww_iload_n hX (pc := 78) dX7_takePlain_78 rfl ?_
            refine rZ hX (pc := 79) hT (Nat.le_refl 0) (Nat.le_refl 0) dX7_takePlain_79 (by omega) ?_
            exact ⟨kI_60, kJ_60, lI_60, by omega, frI_60, by omega, (zPO_p0 frI2 hni (Or.inl (by omega)) (by rw [zPos_c hcb]; exact yI_60) (by omega) (by omega))⟩
          · simp only [w32_mod] at h_65
            refine ww_iload_n hX (pc := 68) dX7_takePlain_68 rfl ?_
            refine ww_if_eq hX (pc := 69) (tgt := 78) dX7_takePlain_69 (by decide) (fun h_69 => ?_) (fun h_69 => ?_)
            · simp only [w32_mod] at h_69
              refine ww_iload_n hX (pc := 78) dX7_takePlain_78 rfl ?_
              refine rZ hX (pc := 79) hT (Nat.le_refl 0) (Nat.le_refl 0) dX7_takePlain_79 (by omega) ?_
              exact ⟨kI_60, kJ_60, lI_60, by omega, frI_60, by omega, (zPO_p1 frI2 hni (Or.inl (by omega)) (by rw [zPos_c hcb]; exact yI_60) (by omega) (by omega) (by omega))⟩
            · simp only [w32_mod] at h_69
              refine ww_aload_n hX (pc := 72) dX7_takePlain_72 rfl ?_
              refine ww_bipush hX (pc := 73) (x := (-19)) dX7_takePlain_73 (by decide) ?_
              refine vV1 hX (pc := 75) sX7_101 (xs_10 hL) (c6_X7_step l0 hL (XI_kp hI kI_60 (by decide)) lI_60 (by omega) (by omega)) (by omega) (Nat.le_refl 0) (Nat.le_refl 0) (Nat.le_of_ble_eq_true rfl) dX7_takePlain_75 (fun I_75 J_75 h_75 => ?_)
              have kI_75 : Kp 10 15 Ia I_75 := Kp_tr kI_60 (Kp_wd h_75.1 (by decide) (by decide))
              have kJ_75 : Kp 10 15 Ja J_75 := Kp_tr kJ_60 (Kp_wd h_75.2.1 (by decide) (by decide))
              have r1_5_I_75 : I_75 1 5 = Ia 1 5 := Kp_at kI_75 1 5 (by decide)
              have r8_1_I_75 : I_75 8 1 = Ia 8 1 := Kp_at kI_75 8 1 (by decide)
              have rf_I_75 : FU (I_75 1 5) = FU (Ia 1 5) := by rw [r1_5_I_75]
              have lI_75 : LR I_75 := h_75.2.2.1
              have qI_75 := lI_75.1
              unfold LRf at qI_75
              have cI_75 := h_75.2.2.2.1
              have fsI_75 : zFr I_60 I_75 := h_75.2.2.2.2.1
              have xrI_75 := h_75.2.2.2.2.2.1
              have yI_75 := h_75.2.2.2.2.2.2
              have tkI_75 : zTK I_75 cd vl T := zTK_f tkI_60 fsI_75
              have frI_75 : zFr Ia I_75 := zFr_tr frI_60 fsI_75
              refine ww_iload_n hX (pc := 78) dX7_takePlain_78 rfl ?_
              refine rZ hX (pc := 79) hT (Nat.le_refl 0) (Nat.le_refl 0) dX7_takePlain_79 (by omega) ?_
              exact ⟨kI_75, kJ_75, lI_75, by omega, frI_75, by omega, (zPO_p2 hk ha frI2 hni (Or.inl (by omega)) fsI_60 (by rw [zPos_c hcb]; exact yI_60) (by omega) (by omega) fsI_75 yI_75 rfl (by omega))⟩
        · simp only [w32_mod] at h_47
          have hcb : cd t9 = 140 := (zK_b tkI2 hni.1 40 (by decide) (by decide)).mp (by omega)
          refine ww_aload_n hX (pc := 50) dX7_takePlain_50 rfl ?_
          refine ww_iload_n hX (pc := 51) dX7_takePlain_51 rfl ?_
          refine vI1 hX (pc := 52) sX7_95 (xs_10 hL) (c6_X7_takeBracketed l0 (m := m) hm hrec hL (XI_kp hI kI2 (by decide)) lI2 tkI2 hni.1 hcb) (by omega) (Nat.le_refl 0) (Nat.le_refl 0) (Nat.le_of_ble_eq_true rfl) dX7_takePlain_52 (fun x_52 I_52 J_52 h_52 => ?_)
          have kI_52 : Kp 10 15 Ia I_52 := Kp_tr kI2 (Kp_wd h_52.1 (by decide) (by decide))
          have kJ_52 : Kp 10 15 Ja J_52 := Kp_tr kJ2 (Kp_wd h_52.2.1 (by decide) (by decide))
          have r1_5_I_52 : I_52 1 5 = Ia 1 5 := Kp_at kI_52 1 5 (by decide)
          have r8_1_I_52 : I_52 8 1 = Ia 8 1 := Kp_at kI_52 8 1 (by decide)
          have rf_I_52 : FU (I_52 1 5) = FU (Ia 1 5) := by rw [r1_5_I_52]
          have lI_52 : LR I_52 := h_52.2.2.1
          have qI_52 := lI_52.1
          unfold LRf at qI_52
          have cI_52 := h_52.2.2.2.1
          have fsI_52 : zFr I2 I_52 := h_52.2.2.2.2.1
          have xrI_52 := h_52.2.2.2.2.2.1
          have yI_52 := h_52.2.2.2.2.2.2
          have tkI_52 : zTK I_52 cd vl T := zTK_f tkI2 fsI_52
          have frI_52 : zFr Ia I_52 := zFr_tr frI2 fsI_52
          refine ww_goto hX (pc := 55) (tgt := 63) dX7_takePlain_55 (by decide) ?_
          refine ww_istore_n hX (pc := 63) (lv' := [some (kR (some 10)), some (kI (8 - (m : Int))), some (kI fl), some (kI x_52)]) dX7_takePlain_63 (by decide) rfl rfl ?_
          refine ww_iload_n hX (pc := 64) dX7_takePlain_64 rfl ?_
          refine ww_if_eq hX (pc := 65) (tgt := 78) dX7_takePlain_65 (by decide) (fun h_65 => ?_) (fun h_65 => ?_)
          · simp only [w32_mod] at h_65
            refine ww_iload_n hX (pc := 78) dX7_takePlain_78 rfl ?_
            refine rZ hX (pc := 79) hT (Nat.le_refl 0) (Nat.le_refl 0) dX7_takePlain_79 (by omega) ?_
            exact ⟨kI_52, kJ_52, lI_52, by omega, frI_52, by omega, (zPO_p0 frI2 hni (Or.inl (by omega)) (by rw [zPos_b hcb]; exact yI_52) (by omega) (by omega))⟩
          · simp only [w32_mod] at h_65
            refine ww_iload_n hX (pc := 68) dX7_takePlain_68 rfl ?_
            refine ww_if_eq hX (pc := 69) (tgt := 78) dX7_takePlain_69 (by decide) (fun h_69 => ?_) (fun h_69 => ?_)
            · simp only [w32_mod] at h_69
              refine ww_iload_n hX (pc := 78) dX7_takePlain_78 rfl ?_
              refine rZ hX (pc := 79) hT (Nat.le_refl 0) (Nat.le_refl 0) dX7_takePlain_79 (by omega) ?_
              exact ⟨kI_52, kJ_52, lI_52, by omega, frI_52, by omega, (zPO_p1 frI2 hni (Or.inl (by omega)) (by rw [zPos_b hcb]; exact yI_52) (by omega) (by omega) (by omega))⟩
            · simp only [w32_mod] at h_69
              refine ww_aload_n hX (pc := 72) dX7_takePlain_72 rfl ?_
              refine ww_bipush hX (pc := 73) (x := (-19)) dX7_takePlain_73 (by decide) ?_
              refine vV1 hX (pc := 75) sX7_101 (xs_10 hL) (c6_X7_step l0 hL (XI_kp hI kI_52 (by decide)) lI_52 (by omega) (by omega)) (by omega) (Nat.le_refl 0) (Nat.le_refl 0) (Nat.le_of_ble_eq_true rfl) dX7_takePlain_75 (fun I_75 J_75 h_75 => ?_)
              have kI_75 : Kp 10 15 Ia I_75 := Kp_tr kI_52 (Kp_wd h_75.1 (by decide) (by decide))
              have kJ_75 : Kp 10 15 Ja J_75 := Kp_tr kJ_52 (Kp_wd h_75.2.1 (by decide) (by decide))
              have r1_5_I_75 : I_75 1 5 = Ia 1 5 := Kp_at kI_75 1 5 (by decide)
              have r8_1_I_75 : I_75 8 1 = Ia 8 1 := Kp_at kI_75 8 1 (by decide)
              have rf_I_75 : FU (I_75 1 5) = FU (Ia 1 5) := by rw [r1_5_I_75]
              have lI_75 : LR I_75 := h_75.2.2.1
              have qI_75 := lI_75.1
              unfold LRf at qI_75
              have cI_75 := h_75.2.2.2.1
              have fsI_75 : zFr I_52 I_75 := h_75.2.2.2.2.1
              have xrI_75 := h_75.2.2.2.2.2.1
              have yI_75 := h_75.2.2.2.2.2.2
              have tkI_75 : zTK I_75 cd vl T := zTK_f tkI_52 fsI_75
              have frI_75 : zFr Ia I_75 := zFr_tr frI_52 fsI_75
              refine ww_iload_n hX (pc := 78) dX7_takePlain_78 rfl ?_
              refine rZ hX (pc := 79) hT (Nat.le_refl 0) (Nat.le_refl 0) dX7_takePlain_79 (by omega) ?_
              exact ⟨kI_75, kJ_75, lI_75, by omega, frI_75, by omega, (zPO_p2 hk ha frI2 hni (Or.inl (by omega)) fsI_52 (by rw [zPos_b hcb]; exact yI_52) (by omega) (by omega) fsI_75 yI_75 rfl (by omega))⟩
      · simp only [w32_mod] at h_8
        refine ww_aload_n hX (pc := 11) dX7_takePlain_11 rfl ?_
        refine ww_getI hX (pc := 12) fX7_38 (by decide) (xs_10 hL) dX7_takePlain_12 ?_
        refine ww_sipush hX (pc := 15) (x := 262) dX7_takePlain_15 (by decide) ?_
        refine ww_icmp_ne hX (pc := 18) (tgt := 41) dX7_takePlain_18 (by decide) (fun h_18 => ?_) (fun h_18 => ?_)
        · simp only [w32_mod] at h_18
          have hn5 : ¬ cd t9 = 5 := fun h9 => by
            have := (zK_w tkI2 hni.1 262 (by decide) (by decide)).mpr (by omega)
            omega
          refine ww_aload_n hX (pc := 41) dX7_takePlain_41 rfl ?_
          refine ww_getI hX (pc := 42) fX7_38 (by decide) (xs_10 hL) dX7_takePlain_42 ?_
          refine ww_bipush hX (pc := 45) (x := 40) dX7_takePlain_45 (by decide) ?_
          refine ww_icmp_ne hX (pc := 47) (tgt := 58) dX7_takePlain_47 (by decide) (fun h_47 => ?_) (fun h_47 => ?_)
          · simp only [w32_mod] at h_47
            have hcb : ¬ cd t9 = 140 := fun h9 => by
              have := (zK_b tkI2 hni.1 40 (by decide) (by decide)).mpr h9
              omega
            refine ww_aload_n hX (pc := 58) dX7_takePlain_58 rfl ?_
            refine ww_iload_n hX (pc := 59) dX7_takePlain_59 rfl ?_
            refine vI1 hX (pc := 60) sX7_98 (xs_10 hL) (c6_X7_takeComparison l0 (m := m) hm hL (XI_kp hI kI2 (by decide)) lI2 tkI2 hni.1) (by omega) (Nat.le_refl 0) (Nat.le_refl 0) (Nat.le_of_ble_eq_true rfl) dX7_takePlain_60 (fun x_60 I_60 J_60 h_60 => ?_)
            have kI_60 : Kp 10 15 Ia I_60 := Kp_tr kI2 (Kp_wd h_60.1 (by decide) (by decide))
            have kJ_60 : Kp 10 15 Ja J_60 := Kp_tr kJ2 (Kp_wd h_60.2.1 (by decide) (by decide))
            have r1_5_I_60 : I_60 1 5 = Ia 1 5 := Kp_at kI_60 1 5 (by decide)
            have r8_1_I_60 : I_60 8 1 = Ia 8 1 := Kp_at kI_60 8 1 (by decide)
            have rf_I_60 : FU (I_60 1 5) = FU (Ia 1 5) := by rw [r1_5_I_60]
            have lI_60 : LR I_60 := h_60.2.2.1
            have qI_60 := lI_60.1
            unfold LRf at qI_60
            have cI_60 := h_60.2.2.2.1
            have fsI_60 : zFr I2 I_60 := h_60.2.2.2.2.1
            have xrI_60 := h_60.2.2.2.2.2.1
            have yI_60 := h_60.2.2.2.2.2.2
            have tkI_60 : zTK I_60 cd vl T := zTK_f tkI2 fsI_60
            have frI_60 : zFr Ia I_60 := zFr_tr frI2 fsI_60
            refine ww_istore_n hX (pc := 63) (lv' := [some (kR (some 10)), some (kI (8 - (m : Int))), some (kI fl), some (kI x_60)]) dX7_takePlain_63 (by decide) rfl rfl ?_
            refine ww_iload_n hX (pc := 64) dX7_takePlain_64 rfl ?_
            refine ww_if_eq hX (pc := 65) (tgt := 78) dX7_takePlain_65 (by decide) (fun h_65 => ?_) (fun h_65 => ?_)
            · simp only [w32_mod] at h_65
              refine ww_iload_n hX (pc := 78) dX7_takePlain_78 rfl ?_
              refine rZ hX (pc := 79) hT (Nat.le_refl 0) (Nat.le_refl 0) dX7_takePlain_79 (by omega) ?_
              exact ⟨kI_60, kJ_60, lI_60, by omega, frI_60, by omega, (zPO_p0 frI2 hni (Or.inr hn5) (by rw [zPos_c hcb]; exact yI_60) (by omega) (by omega))⟩
            · simp only [w32_mod] at h_65
              refine ww_iload_n hX (pc := 68) dX7_takePlain_68 rfl ?_
              refine ww_if_eq hX (pc := 69) (tgt := 78) dX7_takePlain_69 (by decide) (fun h_69 => ?_) (fun h_69 => ?_)
              · simp only [w32_mod] at h_69
                refine ww_iload_n hX (pc := 78) dX7_takePlain_78 rfl ?_
                refine rZ hX (pc := 79) hT (Nat.le_refl 0) (Nat.le_refl 0) dX7_takePlain_79 (by omega) ?_
                exact ⟨kI_60, kJ_60, lI_60, by omega, frI_60, by omega, (zPO_p1 frI2 hni (Or.inr hn5) (by rw [zPos_c hcb]; exact yI_60) (by omega) (by omega) (by omega))⟩
              · simp only [w32_mod] at h_69
                refine ww_aload_n hX (pc := 72) dX7_takePlain_72 rfl ?_
                refine ww_bipush hX (pc := 73) (x := (-19)) dX7_takePlain_73 (by decide) ?_
                refine vV1 hX (pc := 75) sX7_101 (xs_10 hL) (c6_X7_step l0 hL (XI_kp hI kI_60 (by decide)) lI_60 (by omega) (by omega)) (by omega) (Nat.le_refl 0) (Nat.le_refl 0) (Nat.le_of_ble_eq_true rfl) dX7_takePlain_75 (fun I_75 J_75 h_75 => ?_)
                have kI_75 : Kp 10 15 Ia I_75 := Kp_tr kI_60 (Kp_wd h_75.1 (by decide) (by decide))
                have kJ_75 : Kp 10 15 Ja J_75 := Kp_tr kJ_60 (Kp_wd h_75.2.1 (by decide) (by decide))
                have r1_5_I_75 : I_75 1 5 = Ia 1 5 := Kp_at kI_75 1 5 (by decide)
                have r8_1_I_75 : I_75 8 1 = Ia 8 1 := Kp_at kI_75 8 1 (by decide)
                have rf_I_75 : FU (I_75 1 5) = FU (Ia 1 5) := by rw [r1_5_I_75]
                have lI_75 : LR I_75 := h_75.2.2.1
                have qI_75 := lI_75.1
                unfold LRf at qI_75
                have cI_75 := h_75.2.2.2.1
                have fsI_75 : zFr I_60 I_75 := h_75.2.2.2.2.1
                have xrI_75 := h_75.2.2.2.2.2.1
                have yI_75 := h_75.2.2.2.2.2.2
                have tkI_75 : zTK I_75 cd vl T := zTK_f tkI_60 fsI_75
                have frI_75 : zFr Ia I_75 := zFr_tr frI_60 fsI_75
                refine ww_iload_n hX (pc := 78) dX7_takePlain_78 rfl ?_
                refine rZ hX (pc := 79) hT (Nat.le_refl 0) (Nat.le_refl 0) dX7_takePlain_79 (by omega) ?_
                exact ⟨kI_75, kJ_75, lI_75, by omega, frI_75, by omega, (zPO_p2 hk ha frI2 hni (Or.inr hn5) fsI_60 (by rw [zPos_c hcb]; exact yI_60) (by omega) (by omega) fsI_75 yI_75 rfl (by omega))⟩
          · simp only [w32_mod] at h_47
            have hcb : cd t9 = 140 := (zK_b tkI2 hni.1 40 (by decide) (by decide)).mp (by omega)
            refine ww_aload_n hX (pc := 50) dX7_takePlain_50 rfl ?_
            refine ww_iload_n hX (pc := 51) dX7_takePlain_51 rfl ?_
            refine vI1 hX (pc := 52) sX7_95 (xs_10 hL) (c6_X7_takeBracketed l0 (m := m) hm hrec hL (XI_kp hI kI2 (by decide)) lI2 tkI2 hni.1 hcb) (by omega) (Nat.le_refl 0) (Nat.le_refl 0) (Nat.le_of_ble_eq_true rfl) dX7_takePlain_52 (fun x_52 I_52 J_52 h_52 => ?_)
            have kI_52 : Kp 10 15 Ia I_52 := Kp_tr kI2 (Kp_wd h_52.1 (by decide) (by decide))
            have kJ_52 : Kp 10 15 Ja J_52 := Kp_tr kJ2 (Kp_wd h_52.2.1 (by decide) (by decide))
            have r1_5_I_52 : I_52 1 5 = Ia 1 5 := Kp_at kI_52 1 5 (by decide)
            have r8_1_I_52 : I_52 8 1 = Ia 8 1 := Kp_at kI_52 8 1 (by decide)
            have rf_I_52 : FU (I_52 1 5) = FU (Ia 1 5) := by rw [r1_5_I_52]
            have lI_52 : LR I_52 := h_52.2.2.1
            have qI_52 := lI_52.1
            unfold LRf at qI_52
            have cI_52 := h_52.2.2.2.1
            have fsI_52 : zFr I2 I_52 := h_52.2.2.2.2.1
            have xrI_52 := h_52.2.2.2.2.2.1
            have yI_52 := h_52.2.2.2.2.2.2
            have tkI_52 : zTK I_52 cd vl T := zTK_f tkI2 fsI_52
            have frI_52 : zFr Ia I_52 := zFr_tr frI2 fsI_52
            refine ww_goto hX (pc := 55) (tgt := 63) dX7_takePlain_55 (by decide) ?_
            refine ww_istore_n hX (pc := 63) (lv' := [some (kR (some 10)), some (kI (8 - (m : Int))), some (kI fl), some (kI x_52)]) dX7_takePlain_63 (by decide) rfl rfl ?_
            refine ww_iload_n hX (pc := 64) dX7_takePlain_64 rfl ?_
            refine ww_if_eq hX (pc := 65) (tgt := 78) dX7_takePlain_65 (by decide) (fun h_65 => ?_) (fun h_65 => ?_)
            · simp only [w32_mod] at h_65
              refine ww_iload_n hX (pc := 78) dX7_takePlain_78 rfl ?_
              refine rZ hX (pc := 79) hT (Nat.le_refl 0) (Nat.le_refl 0) dX7_takePlain_79 (by omega) ?_
              exact ⟨kI_52, kJ_52, lI_52, by omega, frI_52, by omega, (zPO_p0 frI2 hni (Or.inr hn5) (by rw [zPos_b hcb]; exact yI_52) (by omega) (by omega))⟩
            · simp only [w32_mod] at h_65
              refine ww_iload_n hX (pc := 68) dX7_takePlain_68 rfl ?_
              refine ww_if_eq hX (pc := 69) (tgt := 78) dX7_takePlain_69 (by decide) (fun h_69 => ?_) (fun h_69 => ?_)
              · simp only [w32_mod] at h_69
                refine ww_iload_n hX (pc := 78) dX7_takePlain_78 rfl ?_
                refine rZ hX (pc := 79) hT (Nat.le_refl 0) (Nat.le_refl 0) dX7_takePlain_79 (by omega) ?_
                exact ⟨kI_52, kJ_52, lI_52, by omega, frI_52, by omega, (zPO_p1 frI2 hni (Or.inr hn5) (by rw [zPos_b hcb]; exact yI_52) (by omega) (by omega) (by omega))⟩
              · simp only [w32_mod] at h_69
                refine ww_aload_n hX (pc := 72) dX7_takePlain_72 rfl ?_
                refine ww_bipush hX (pc := 73) (x := (-19)) dX7_takePlain_73 (by decide) ?_
                refine vV1 hX (pc := 75) sX7_101 (xs_10 hL) (c6_X7_step l0 hL (XI_kp hI kI_52 (by decide)) lI_52 (by omega) (by omega)) (by omega) (Nat.le_refl 0) (Nat.le_refl 0) (Nat.le_of_ble_eq_true rfl) dX7_takePlain_75 (fun I_75 J_75 h_75 => ?_)
                have kI_75 : Kp 10 15 Ia I_75 := Kp_tr kI_52 (Kp_wd h_75.1 (by decide) (by decide))
                have kJ_75 : Kp 10 15 Ja J_75 := Kp_tr kJ_52 (Kp_wd h_75.2.1 (by decide) (by decide))
                have r1_5_I_75 : I_75 1 5 = Ia 1 5 := Kp_at kI_75 1 5 (by decide)
                have r8_1_I_75 : I_75 8 1 = Ia 8 1 := Kp_at kI_75 8 1 (by decide)
                have rf_I_75 : FU (I_75 1 5) = FU (Ia 1 5) := by rw [r1_5_I_75]
                have lI_75 : LR I_75 := h_75.2.2.1
                have qI_75 := lI_75.1
                unfold LRf at qI_75
                have cI_75 := h_75.2.2.2.1
                have fsI_75 : zFr I_52 I_75 := h_75.2.2.2.2.1
                have xrI_75 := h_75.2.2.2.2.2.1
                have yI_75 := h_75.2.2.2.2.2.2
                have tkI_75 : zTK I_75 cd vl T := zTK_f tkI_52 fsI_75
                have frI_75 : zFr Ia I_75 := zFr_tr frI_52 fsI_75
                refine ww_iload_n hX (pc := 78) dX7_takePlain_78 rfl ?_
                refine rZ hX (pc := 79) hT (Nat.le_refl 0) (Nat.le_refl 0) dX7_takePlain_79 (by omega) ?_
                exact ⟨kI_75, kJ_75, lI_75, by omega, frI_75, by omega, (zPO_p2 hk ha frI2 hni (Or.inr hn5) fsI_52 (by rw [zPos_b hcb]; exact yI_52) (by omega) (by omega) fsI_75 yI_75 rfl (by omega))⟩
        · simp only [w32_mod] at h_18
          have hn5 : cd t9 = 5 := by
            have := (zK_w tkI2 hni.1 262 (by decide) (by decide)).mp (by omega)
            omega
          refine ww_aload_n hX (pc := 21) dX7_takePlain_21 rfl ?_
          refine vV0 hX (pc := 22) sX7_71 (xs_10 hL) (c6_X7_advance l0 hL (XI_kp hI kI2 (by decide)) lI2) (by omega) (Nat.le_refl 0) (Nat.le_refl 0) (Nat.le_of_ble_eq_true rfl) dX7_takePlain_22 (fun I_22 J_22 h_22 => ?_)
          have kI_22 : Kp 10 15 Ia I_22 := Kp_tr kI2 (Kp_wd h_22.1 (by decide) (by decide))
          have kJ_22 : Kp 10 15 Ja J_22 := Kp_tr kJ2 (Kp_wd h_22.2.1 (by decide) (by decide))
          have r1_5_I_22 : I_22 1 5 = Ia 1 5 := Kp_at kI_22 1 5 (by decide)
          have r8_1_I_22 : I_22 8 1 = Ia 8 1 := Kp_at kI_22 8 1 (by decide)
          have rf_I_22 : FU (I_22 1 5) = FU (Ia 1 5) := by rw [r1_5_I_22]
          have lI_22 : LR I_22 := h_22.2.2.1
          have qI_22 := lI_22.1
          unfold LRf at qI_22
          have cI_22 := h_22.2.2.2.1
          have fsI_22 : zFr I2 I_22 := h_22.2.2.2.2.1
          have xrI_22 := h_22.2.2.2.2.2.1
          have yI_22 := h_22.2.2.2.2.2.2
          have tkI_22 : zTK I_22 cd vl T := zTK_f tkI2 fsI_22
          have frI_22 : zFr Ia I_22 := zFr_tr frI2 fsI_22
          refine ww_iload_n hX (pc := 25) dX7_takePlain_25 rfl ?_
          refine ww_if_ne hX (pc := 26) (tgt := 33) dX7_takePlain_26 (by decide) (fun h_26 => ?_) (fun h_26 => ?_)
          · simp only [w32_mod] at h_26
            refine ww_iconst hX (pc := 33) (x := 0) dX7_takePlain_33 rfl ?_
            refine ww_istore_n hX (pc := 34) (lv' := [some (kR (some 10)), some (kI (8 - (m : Int))), some (kI 0), some (kI i)]) dX7_takePlain_34 (by decide) rfl rfl ?_
            refine ww_iinc hX (pc := 35) (lv' := [some (kR (some 10)), some (kI (8 - (m : Int))), some (kI 0), some (kI (i + 1))]) dX7_takePlain_35 rfl (by decide) rfl rfl ?_
            refine ww_goto hX (pc := 38) (tgt := 4) dX7_takePlain_38 (by decide) ?_
            exact ih_4 _ (by have hm9 := Sh0_e hq_4; omega) 0 (i + 1) I_22 J_22 rfl ⟨kI_22, kJ_22, lI_22, by omega, by omega, frI_22, t9 + 1, zNI_s (m := (400 - (i + 1)).toNat) hk frI2 hni (by omega) hn5 fsI_22 yI_22 (by omega)⟩
          · simp only [w32_mod] at h_26
            refine ww_iconst hX (pc := 29) (x := 1) dX7_takePlain_29 rfl ?_
            refine ww_goto hX (pc := 30) (tgt := 34) dX7_takePlain_30 (by decide) ?_
            refine ww_istore_n hX (pc := 34) (lv' := [some (kR (some 10)), some (kI (8 - (m : Int))), some (kI 1), some (kI i)]) dX7_takePlain_34 (by decide) rfl rfl ?_
            refine ww_iinc hX (pc := 35) (lv' := [some (kR (some 10)), some (kI (8 - (m : Int))), some (kI 1), some (kI (i + 1))]) dX7_takePlain_35 rfl (by decide) rfl rfl ?_
            refine ww_goto hX (pc := 38) (tgt := 4) dX7_takePlain_38 (by decide) ?_
            exact ih_4 _ (by have hm9 := Sh0_e hq_4; omega) 1 (i + 1) I_22 J_22 rfl ⟨kI_22, kJ_22, lI_22, by omega, by omega, frI_22, t9 + 1, zNI_s (m := (400 - (i + 1)).toNat) hk frI2 hni (by omega) hn5 fsI_22 yI_22 (by omega)⟩
  exact hl_4 _ 0 0 Ia Ja rfl ⟨(Kp_rf (a := 10) (b := 15)), (Kp_rf (a := 10) (b := 15)), hR, by omega, by omega, zFr_rf, t, zNI_0 ha⟩
set_option maxHeartbeats 4000000 in
set_option maxRecDepth 20000 in
theorem c6_X7_takeBoth (l0 : Launch) {m : Nat} (hm : m ≤ 8) (hrec : ∀ mp, m = mp + 1 → QTest l0 mp) {Ia Ja : aI1} {Ra : aR1} {Sa : aS1} (hL : LY Ra Sa) (hI : XI Ia) (hR : LR Ia) {cd vl : Nat → Int} {T t l : Nat} (hk : zTK Ia cd vl T) (ha : zAt Ia T t l)  : CT l0 (20 * m + 129) 0 0 mX7_takeBoth [kR (some 10), kI (8 - (m : Int))] Ia Ja Ra Sa (cI (fun x I' J' => Kp 10 15 Ia I' ∧ Kp 10 15 Ja J' ∧ LR I' ∧ I' 10 11 = Ia 10 11 ∧ zFr Ia I' ∧ (x = 0 ∨ x = 1) ∧ zPO zBl Ia I' T t l x (zBo (zTu cd vl m) (zS cd vl m) cd t l)) Ra Sa) := by
  refine ct_in pn_X7 (Nat.le_of_ble_eq_true rfl) (fun X hX hT hIn => ?_)
  have hX : aK l0 X cX7_takeBoth 4 RX7 (some .boolean) (20 * m + 129) 0 0 := hX
  change WW X 0 [some (kR (some 10)), some (kI (8 - (m : Int))), none, none] [] Ia Ja Ra Sa 0 0
  obtain ⟨hn1, hn2⟩ := hI.1
  obtain ⟨hk1, hk2⟩ := hI.2.1
  obtain ⟨hf1, hf2⟩ := hI.fu
  obtain ⟨hl1, hl2⟩ := hI.2.2.2.2.2.2.1
  have hq := hR.1
  unfold LRf at hq
  refine ww_aload_n hX (pc := 0) dX7_takeBoth_0 rfl ?_
  refine ww_iload_n hX (pc := 1) dX7_takeBoth_1 rfl ?_
  refine vI1 hX (pc := 2) sX7_92 (xs_10 hL) (c6_X7_takePlain l0 (m := m) hm hrec hL hI hR hk ha) (by omega) (Nat.le_refl 0) (Nat.le_refl 0) (Nat.le_of_ble_eq_true rfl) dX7_takeBoth_2 (fun x_2 I_2 J_2 h_2 => ?_)
  have kI_2 : Kp 10 15 Ia I_2 := Kp_tr (Kp_rf (a := 10) (b := 15)) (Kp_wd h_2.1 (by decide) (by decide))
  have kJ_2 : Kp 10 15 Ja J_2 := Kp_tr (Kp_rf (a := 10) (b := 15)) (Kp_wd h_2.2.1 (by decide) (by decide))
  have r1_5_I_2 : I_2 1 5 = Ia 1 5 := Kp_at kI_2 1 5 (by decide)
  have r8_1_I_2 : I_2 8 1 = Ia 8 1 := Kp_at kI_2 8 1 (by decide)
  have rf_I_2 : FU (I_2 1 5) = FU (Ia 1 5) := by rw [r1_5_I_2]
  have lI_2 : LR I_2 := h_2.2.2.1
  have qI_2 := lI_2.1
  unfold LRf at qI_2
  have cI_2 := h_2.2.2.2.1
  have fsI_2 : zFr Ia I_2 := h_2.2.2.2.2.1
  have xrI_2 := h_2.2.2.2.2.2.1
  have yI_2 := h_2.2.2.2.2.2.2
  have tkI_2 : zTK I_2 cd vl T := zTK_f hk fsI_2
  have frI_2 : zFr Ia I_2 := zFr_tr zFr_rf fsI_2
  refine ww_if_ne hX (pc := 5) (tgt := 10) dX7_takeBoth_5 (by decide) (fun h_5 => ?_) (fun h_5 => ?_)
  · simp only [w32_mod] at h_5
    refine ww_iconst hX (pc := 10) (x := 0) dX7_takeBoth_10 rfl ?_
    refine ww_istore_n hX (pc := 11) (lv' := [some (kR (some 10)), some (kI (8 - (m : Int))), some (kI 0), none]) dX7_takeBoth_11 (by decide) rfl rfl ?_
    have hl_12 : ∀ (n_12 : Nat) (i : Int) (I2 : aI1) (J2 : aI1), (400 - i).toNat = n_12 → (Kp 10 15 Ia I2 ∧ Kp 10 15 Ja J2 ∧ LR I2 ∧ I2 10 11 = Ia 10 11 ∧ (0 ≤ i ∧ i ≤ 400) ∧ zFr Ia I2 ∧ zLI zBl (zPl (zTu cd vl m) (zS cd vl m) cd) [4] zJB cd (400 - i).toNat Ia I2 T t l (zBo (zTu cd vl m) (zS cd vl m) cd t l)) → WW X 12 [some (kR (some 10)), some (kI (8 - (m : Int))), some (kI i), none] [] I2 J2 Ra Sa 0 0 := by
      intro n_12
      induction n_12 using Nat.strongRecOn with
      | ind n_12 ih_12 =>
        intro i I2 J2 hm_12 hv_12
        have hq_12 := Sh0_i hm_12
        clear hm_12
        obtain ⟨kI2, kJ2, lI2, cI2, hi, frI2, hli⟩ := hv_12
        have r1_5_I2 : I2 1 5 = Ia 1 5 := Kp_at kI2 1 5 (by decide)
        have r8_1_I2 : I2 8 1 = Ia 8 1 := Kp_at kI2 8 1 (by decide)
        have rf_I2 : FU (I2 1 5) = FU (Ia 1 5) := by rw [r1_5_I2]
        have qI2 := lI2.1
        unfold LRf at qI2
        obtain ⟨q9, hok, hrs⟩ := hli
        have tkI2 : zTK I2 cd vl T := zTK_f hk frI2
        refine ww_iload_n hX (pc := 12) dX7_takeBoth_12 rfl ?_
        refine ww_sipush hX (pc := 13) (x := 400) dX7_takeBoth_13 (by decide) ?_
        refine ww_icmp_ge hX (pc := 16) (tgt := 61) dX7_takeBoth_16 (by decide) (fun h_16 => ?_) (fun h_16 => ?_)
        · simp only [w32_mod] at h_16
          refine ww_iconst hX (pc := 61) (x := 1) dX7_takeBoth_61 rfl ?_
          refine rZ hX (pc := 62) hT (Nat.le_refl 0) (Nat.le_refl 0) dX7_takeBoth_62 (by decide) ?_
          exact ⟨kI2, kJ2, lI2, by omega, frI2, by omega, (zLI_e hok hrs (Or.inl (by omega)) rfl)⟩
        · simp only [w32_mod] at h_16
          refine ww_aload_n hX (pc := 19) dX7_takeBoth_19 rfl ?_
          refine ww_getI hX (pc := 20) fX7_38 (by decide) (xs_10 hL) dX7_takeBoth_20 ?_
          refine ww_sipush hX (pc := 23) (x := 261) dX7_takeBoth_23 (by decide) ?_
          refine ww_icmp_ne hX (pc := 26) (tgt := 61) dX7_takeBoth_26 (by decide) (fun h_26 => ?_) (fun h_26 => ?_)
          · simp only [w32_mod] at h_26
            have hn5 : ¬ cd q9.1 = 4 := fun h9 => by
              have := (zK_w tkI2 hok.1 261 (by decide) (by decide)).mpr (by omega)
              omega
            refine ww_iconst hX (pc := 61) (x := 1) dX7_takeBoth_61 rfl ?_
            refine rZ hX (pc := 62) hT (Nat.le_refl 0) (Nat.le_refl 0) dX7_takeBoth_62 (by decide) ?_
            exact ⟨kI2, kJ2, lI2, by omega, frI2, by omega, (zLI_e hok hrs (Or.inr (by simp [hn5])) rfl)⟩
          · simp only [w32_mod] at h_26
            have hc9 : cd q9.1 = 4 := by
              have := (zK_w tkI2 hok.1 261 (by decide) (by decide)).mp (by omega)
              omega
            refine ww_aload_n hX (pc := 29) dX7_takeBoth_29 rfl ?_
            refine vV0 hX (pc := 30) sX7_71 (xs_10 hL) (c6_X7_advance l0 hL (XI_kp hI kI2 (by decide)) lI2) (by omega) (Nat.le_refl 0) (Nat.le_refl 0) (Nat.le_of_ble_eq_true rfl) dX7_takeBoth_30 (fun I_30 J_30 h_30 => ?_)
            have kI_30 : Kp 10 15 Ia I_30 := Kp_tr kI2 (Kp_wd h_30.1 (by decide) (by decide))
            have kJ_30 : Kp 10 15 Ja J_30 := Kp_tr kJ2 (Kp_wd h_30.2.1 (by decide) (by decide))
            have r1_5_I_30 : I_30 1 5 = Ia 1 5 := Kp_at kI_30 1 5 (by decide)
            have r8_1_I_30 : I_30 8 1 = Ia 8 1 := Kp_at kI_30 8 1 (by decide)
            have rf_I_30 : FU (I_30 1 5) = FU (Ia 1 5) := by rw [r1_5_I_30]
            have lI_30 : LR I_30 := h_30.2.2.1
            have qI_30 := lI_30.1
            unfold LRf at qI_30
            have cI_30 := h_30.2.2.2.1
            have fsI_30 : zFr I2 I_30 := h_30.2.2.2.2.1
            have xrI_30 := h_30.2.2.2.2.2.1
            have yI_30 := h_30.2.2.2.2.2.2
            have tkI_30 : zTK I_30 cd vl T := zTK_f tkI2 fsI_30
            have frI_30 : zFr Ia I_30 := zFr_tr frI2 fsI_30
            refine ww_aload_n hX (pc := 33) dX7_takeBoth_33 rfl ?_
            refine ww_bipush hX (pc := 34) (x := (-21)) dX7_takeBoth_34 (by decide) ?_
            refine vI1 hX (pc := 36) sX7_84 (xs_10 hL) (c6_X7_openSkip l0 hL (XI_kp hI kI_30 (by decide)) lI_30 (by omega) (by omega)) (by omega) (Nat.le_refl 0) (Nat.le_refl 0) (Nat.le_of_ble_eq_true rfl) dX7_takeBoth_36 (fun x_36 I_36 J_36 h_36 => ?_)
            have kI_36 : Kp 10 15 Ia I_36 := Kp_tr kI_30 (Kp_wd h_36.1 (by decide) (by decide))
            have kJ_36 : Kp 10 15 Ja J_36 := Kp_tr kJ_30 (Kp_wd h_36.2.1 (by decide) (by decide))
            have r1_5_I_36 : I_36 1 5 = Ia 1 5 := Kp_at kI_36 1 5 (by decide)
            have r8_1_I_36 : I_36 8 1 = Ia 8 1 := Kp_at kI_36 8 1 (by decide)
            have rf_I_36 : FU (I_36 1 5) = FU (Ia 1 5) := by rw [r1_5_I_36]
            have lI_36 : LR I_36 := h_36.2.2.1
            have qI_36 := lI_36.1
            unfold LRf at qI_36
            have cI_36 := h_36.2.2.2.1
            have fsI_36 : zFr I_30 I_36 := h_36.2.2.2.2.1
            have xrI_36 := h_36.2.2.2.2.2.1
            have yI_36 := h_36.2.2.2.2.2.2
            have tkI_36 : zTK I_36 cd vl T := zTK_f tkI_30 fsI_36
            have frI_36 : zFr Ia I_36 := zFr_tr frI_30 fsI_36
            have os36 := zAt_os tkI2 hok.1 (by omega) fsI_30 yI_30 fsI_36 yI_36
            refine ww_istore_n hX (pc := 39) (lv' := [some (kR (some 10)), some (kI (8 - (m : Int))), some (kI i), some (kI x_36)]) dX7_takeBoth_39 (by decide) rfl rfl ?_
            refine ww_aload_n hX (pc := 40) dX7_takeBoth_40 rfl ?_
            refine ww_iload_n hX (pc := 41) dX7_takeBoth_41 rfl ?_
            refine vI1 hX (pc := 42) sX7_92 (xs_10 hL) (c6_X7_takePlain l0 (m := m) hm hrec hL (XI_kp hI kI_36 (by decide)) lI_36 tkI_36 os36.1) (by omega) (Nat.le_refl 0) (Nat.le_refl 0) (Nat.le_of_ble_eq_true rfl) dX7_takeBoth_42 (fun x_42 I_42 J_42 h_42 => ?_)
            have kI_42 : Kp 10 15 Ia I_42 := Kp_tr kI_36 (Kp_wd h_42.1 (by decide) (by decide))
            have kJ_42 : Kp 10 15 Ja J_42 := Kp_tr kJ_36 (Kp_wd h_42.2.1 (by decide) (by decide))
            have r1_5_I_42 : I_42 1 5 = Ia 1 5 := Kp_at kI_42 1 5 (by decide)
            have r8_1_I_42 : I_42 8 1 = Ia 8 1 := Kp_at kI_42 8 1 (by decide)
            have rf_I_42 : FU (I_42 1 5) = FU (Ia 1 5) := by rw [r1_5_I_42]
            have lI_42 : LR I_42 := h_42.2.2.1
            have qI_42 := lI_42.1
            unfold LRf at qI_42
            have cI_42 := h_42.2.2.2.1
            have fsI_42 : zFr I_36 I_42 := h_42.2.2.2.2.1
            have xrI_42 := h_42.2.2.2.2.2.1
            have yI_42 := h_42.2.2.2.2.2.2
            have tkI_42 : zTK I_42 cd vl T := zTK_f tkI_36 fsI_42
            have frI_42 : zFr Ia I_42 := zFr_tr frI_36 fsI_42
            refine ww_if_ne hX (pc := 45) (tgt := 50) dX7_takeBoth_45 (by decide) (fun h_45 => ?_) (fun h_45 => ?_)
            · simp only [w32_mod] at h_45
              refine ww_aload_n hX (pc := 50) dX7_takeBoth_50 rfl ?_
              refine ww_iload_n hX (pc := 51) dX7_takeBoth_51 rfl ?_
              refine vV1 hX (pc := 52) sX7_88 (xs_10 hL) (c6_X7_closeSkip l0 hL (XI_kp hI kI_42 (by decide)) lI_42 (by omega) (by omega)) (by omega) (Nat.le_refl 0) (Nat.le_refl 0) (Nat.le_of_ble_eq_true rfl) dX7_takeBoth_52 (fun I_52 J_52 h_52 => ?_)
              have kI_52 : Kp 10 15 Ia I_52 := Kp_tr kI_42 (Kp_wd h_52.1 (by decide) (by decide))
              have kJ_52 : Kp 10 15 Ja J_52 := Kp_tr kJ_42 (Kp_wd h_52.2.1 (by decide) (by decide))
              have r1_5_I_52 : I_52 1 5 = Ia 1 5 := Kp_at kI_52 1 5 (by decide)
              have r8_1_I_52 : I_52 8 1 = Ia 8 1 := Kp_at kI_52 8 1 (by decide)
              have rf_I_52 : FU (I_52 1 5) = FU (Ia 1 5) := by rw [r1_5_I_52]
              have lI_52 : LR I_52 := h_52.2.2.1
              have qI_52 := lI_52.1
              unfold LRf at qI_52
              have cI_52 := h_52.2.2.2.1
              have fsI_52 : zFr I_42 I_52 := h_52.2.2.2.2.1
              have xrI_52 := h_52.2.2.2.2.2.1
              have yI_52 := h_52.2.2.2.2.2.2
              have tkI_52 : zTK I_52 cd vl T := zTK_f tkI_42 fsI_52
              have frI_52 : zFr Ia I_52 := zFr_tr frI_42 fsI_52
              refine ww_iinc hX (pc := 55) (lv' := [some (kR (some 10)), some (kI (8 - (m : Int))), some (kI (i + 1)), some (kI x_36)]) dX7_takeBoth_55 rfl (by decide) rfl rfl ?_
              refine ww_goto hX (pc := 58) (tgt := 12) dX7_takeBoth_58 (by decide) ?_
              refine ww_sub [some (kR (some 10)), some (kI (8 - (m : Int))), some (kI (i + 1)), none] (aLe_s (aLe_s (aLe_s (aLe_n aLe_0)))) ?_
              exact ih_12 _ (by have hm9 := Sh0_e hq_12; omega) (i + 1) I_52 J_52 rfl ⟨kI_52, kJ_52, lI_52, by omega, by omega, frI_52, (zLI_b (m := (400 - (i + 1)).toNat) hk frI2 hok hrs (by omega) hc9 fsI_30 yI_30 fsI_36 yI_36 fsI_42 yI_42 (by omega) fsI_52 yI_52 (Or.inr ⟨rfl, rfl⟩))⟩
            · simp only [w32_mod] at h_45
              refine ww_iconst hX (pc := 48) (x := 0) dX7_takeBoth_48 rfl ?_
              refine rZ hX (pc := 49) hT (Nat.le_refl 0) (Nat.le_refl 0) dX7_takeBoth_49 (by decide) ?_
              exact ⟨kI_42, kJ_42, lI_42, by omega, frI_42, by omega, (zLI_f (m := (400 - i).toNat - 1) frI_36.2.1 hrs (by omega) (by rw [hc9]; decide) yI_42 (by omega) rfl)⟩
    exact hl_12 _ 0 I_2 J_2 rfl ⟨kI_2, kJ_2, lI_2, by omega, by omega, frI_2, zLI_0 yI_2 (by omega)⟩
  · simp only [w32_mod] at h_5
    refine ww_iconst hX (pc := 8) (x := 0) dX7_takeBoth_8 rfl ?_
    refine rZ hX (pc := 9) hT (Nat.le_refl 0) (Nat.le_refl 0) dX7_takeBoth_9 (by decide) ?_
    exact ⟨kI_2, kJ_2, lI_2, by omega, frI_2, by omega, (zPO_sf yI_2 (by omega) rfl)⟩
set_option maxHeartbeats 4000000 in
set_option maxRecDepth 20000 in
theorem c6_X7_takeTest (l0 : Launch) {m : Nat} (hm : m ≤ 8) (hrec : ∀ mp, m = mp + 1 → QTest l0 mp) {Ia Ja : aI1} {Ra : aR1} {Sa : aS1} (hL : LY Ra Sa) (hI : XI Ia) (hR : LR Ia) {cd vl : Nat → Int} {T t l : Nat} (hk : zTK Ia cd vl T) (ha : zAt Ia T t l)  : CT l0 (20 * m + 130) 0 0 mX7_takeTest [kR (some 10), kI (8 - (m : Int))] Ia Ja Ra Sa (cI (fun x I' J' => Kp 10 15 Ia I' ∧ Kp 10 15 Ja J' ∧ LR I' ∧ I' 10 11 = Ia 10 11 ∧ zFr Ia I' ∧ (x = 0 ∨ x = 1) ∧ zPO zBl Ia I' T t l x (zT cd vl m t l)) Ra Sa) := by
  refine ct_in pn_X7 (Nat.le_of_ble_eq_true rfl) (fun X hX hT hIn => ?_)
  have hX : aK l0 X cX7_takeTest 4 RX7 (some .boolean) (20 * m + 130) 0 0 := hX
  change WW X 0 [some (kR (some 10)), some (kI (8 - (m : Int))), none, none] [] Ia Ja Ra Sa 0 0
  obtain ⟨hn1, hn2⟩ := hI.1
  obtain ⟨hk1, hk2⟩ := hI.2.1
  obtain ⟨hf1, hf2⟩ := hI.fu
  obtain ⟨hl1, hl2⟩ := hI.2.2.2.2.2.2.1
  have hq := hR.1
  unfold LRf at hq
  refine ww_aload_n hX (pc := 0) dX7_takeTest_0 rfl ?_
  refine ww_iload_n hX (pc := 1) dX7_takeTest_1 rfl ?_
  refine vI1 hX (pc := 2) sX7_81 (xs_10 hL) (c6_X7_takeBoth l0 (m := m) hm hrec hL hI hR hk ha) (by omega) (Nat.le_refl 0) (Nat.le_refl 0) (Nat.le_of_ble_eq_true rfl) dX7_takeTest_2 (fun x_2 I_2 J_2 h_2 => ?_)
  have kI_2 : Kp 10 15 Ia I_2 := Kp_tr (Kp_rf (a := 10) (b := 15)) (Kp_wd h_2.1 (by decide) (by decide))
  have kJ_2 : Kp 10 15 Ja J_2 := Kp_tr (Kp_rf (a := 10) (b := 15)) (Kp_wd h_2.2.1 (by decide) (by decide))
  have r1_5_I_2 : I_2 1 5 = Ia 1 5 := Kp_at kI_2 1 5 (by decide)
  have r8_1_I_2 : I_2 8 1 = Ia 8 1 := Kp_at kI_2 8 1 (by decide)
  have rf_I_2 : FU (I_2 1 5) = FU (Ia 1 5) := by rw [r1_5_I_2]
  have lI_2 : LR I_2 := h_2.2.2.1
  have qI_2 := lI_2.1
  unfold LRf at qI_2
  have cI_2 := h_2.2.2.2.1
  have fsI_2 : zFr Ia I_2 := h_2.2.2.2.2.1
  have xrI_2 := h_2.2.2.2.2.2.1
  have yI_2 := h_2.2.2.2.2.2.2
  have tkI_2 : zTK I_2 cd vl T := zTK_f hk fsI_2
  have frI_2 : zFr Ia I_2 := zFr_tr zFr_rf fsI_2
  refine ww_if_ne hX (pc := 5) (tgt := 10) dX7_takeTest_5 (by decide) (fun h_5 => ?_) (fun h_5 => ?_)
  · simp only [w32_mod] at h_5
    refine ww_iconst hX (pc := 10) (x := 0) dX7_takeTest_10 rfl ?_
    refine ww_istore_n hX (pc := 11) (lv' := [some (kR (some 10)), some (kI (8 - (m : Int))), some (kI 0), none]) dX7_takeTest_11 (by decide) rfl rfl ?_
    have hl_12 : ∀ (n_12 : Nat) (i : Int) (I2 : aI1) (J2 : aI1), (400 - i).toNat = n_12 → (Kp 10 15 Ia I2 ∧ Kp 10 15 Ja J2 ∧ LR I2 ∧ I2 10 11 = Ia 10 11 ∧ (0 ≤ i ∧ i ≤ 400) ∧ zFr Ia I2 ∧ zLI zBl (zBo (zTu cd vl m) (zS cd vl m) cd) [3] zJB cd (400 - i).toNat Ia I2 T t l (zT cd vl m t l)) → WW X 12 [some (kR (some 10)), some (kI (8 - (m : Int))), some (kI i), none] [] I2 J2 Ra Sa 0 0 := by
      intro n_12
      induction n_12 using Nat.strongRecOn with
      | ind n_12 ih_12 =>
        intro i I2 J2 hm_12 hv_12
        have hq_12 := Sh0_i hm_12
        clear hm_12
        obtain ⟨kI2, kJ2, lI2, cI2, hi, frI2, hli⟩ := hv_12
        have r1_5_I2 : I2 1 5 = Ia 1 5 := Kp_at kI2 1 5 (by decide)
        have r8_1_I2 : I2 8 1 = Ia 8 1 := Kp_at kI2 8 1 (by decide)
        have rf_I2 : FU (I2 1 5) = FU (Ia 1 5) := by rw [r1_5_I2]
        have qI2 := lI2.1
        unfold LRf at qI2
        obtain ⟨q9, hok, hrs⟩ := hli
        have tkI2 : zTK I2 cd vl T := zTK_f hk frI2
        refine ww_iload_n hX (pc := 12) dX7_takeTest_12 rfl ?_
        refine ww_sipush hX (pc := 13) (x := 400) dX7_takeTest_13 (by decide) ?_
        refine ww_icmp_ge hX (pc := 16) (tgt := 61) dX7_takeTest_16 (by decide) (fun h_16 => ?_) (fun h_16 => ?_)
        · simp only [w32_mod] at h_16
          refine ww_iconst hX (pc := 61) (x := 1) dX7_takeTest_61 rfl ?_
          refine rZ hX (pc := 62) hT (Nat.le_refl 0) (Nat.le_refl 0) dX7_takeTest_62 (by decide) ?_
          exact ⟨kI2, kJ2, lI2, by omega, frI2, by omega, (zLI_e hok hrs (Or.inl (by omega)) rfl)⟩
        · simp only [w32_mod] at h_16
          refine ww_aload_n hX (pc := 19) dX7_takeTest_19 rfl ?_
          refine ww_getI hX (pc := 20) fX7_38 (by decide) (xs_10 hL) dX7_takeTest_20 ?_
          refine ww_sipush hX (pc := 23) (x := 260) dX7_takeTest_23 (by decide) ?_
          refine ww_icmp_ne hX (pc := 26) (tgt := 61) dX7_takeTest_26 (by decide) (fun h_26 => ?_) (fun h_26 => ?_)
          · simp only [w32_mod] at h_26
            have hn5 : ¬ cd q9.1 = 3 := fun h9 => by
              have := (zK_w tkI2 hok.1 260 (by decide) (by decide)).mpr (by omega)
              omega
            refine ww_iconst hX (pc := 61) (x := 1) dX7_takeTest_61 rfl ?_
            refine rZ hX (pc := 62) hT (Nat.le_refl 0) (Nat.le_refl 0) dX7_takeTest_62 (by decide) ?_
            exact ⟨kI2, kJ2, lI2, by omega, frI2, by omega, (zLI_e hok hrs (Or.inr (by simp [hn5])) rfl)⟩
          · simp only [w32_mod] at h_26
            have hc9 : cd q9.1 = 3 := by
              have := (zK_w tkI2 hok.1 260 (by decide) (by decide)).mp (by omega)
              omega
            refine ww_aload_n hX (pc := 29) dX7_takeTest_29 rfl ?_
            refine vV0 hX (pc := 30) sX7_71 (xs_10 hL) (c6_X7_advance l0 hL (XI_kp hI kI2 (by decide)) lI2) (by omega) (Nat.le_refl 0) (Nat.le_refl 0) (Nat.le_of_ble_eq_true rfl) dX7_takeTest_30 (fun I_30 J_30 h_30 => ?_)
            have kI_30 : Kp 10 15 Ia I_30 := Kp_tr kI2 (Kp_wd h_30.1 (by decide) (by decide))
            have kJ_30 : Kp 10 15 Ja J_30 := Kp_tr kJ2 (Kp_wd h_30.2.1 (by decide) (by decide))
            have r1_5_I_30 : I_30 1 5 = Ia 1 5 := Kp_at kI_30 1 5 (by decide)
            have r8_1_I_30 : I_30 8 1 = Ia 8 1 := Kp_at kI_30 8 1 (by decide)
            have rf_I_30 : FU (I_30 1 5) = FU (Ia 1 5) := by rw [r1_5_I_30]
            have lI_30 : LR I_30 := h_30.2.2.1
            have qI_30 := lI_30.1
            unfold LRf at qI_30
            have cI_30 := h_30.2.2.2.1
            have fsI_30 : zFr I2 I_30 := h_30.2.2.2.2.1
            have xrI_30 := h_30.2.2.2.2.2.1
            have yI_30 := h_30.2.2.2.2.2.2
            have tkI_30 : zTK I_30 cd vl T := zTK_f tkI2 fsI_30
            have frI_30 : zFr Ia I_30 := zFr_tr frI2 fsI_30
            refine ww_aload_n hX (pc := 33) dX7_takeTest_33 rfl ?_
            refine ww_bipush hX (pc := 34) (x := (-20)) dX7_takeTest_34 (by decide) ?_
            refine vI1 hX (pc := 36) sX7_84 (xs_10 hL) (c6_X7_openSkip l0 hL (XI_kp hI kI_30 (by decide)) lI_30 (by omega) (by omega)) (by omega) (Nat.le_refl 0) (Nat.le_refl 0) (Nat.le_of_ble_eq_true rfl) dX7_takeTest_36 (fun x_36 I_36 J_36 h_36 => ?_)
            have kI_36 : Kp 10 15 Ia I_36 := Kp_tr kI_30 (Kp_wd h_36.1 (by decide) (by decide))
            have kJ_36 : Kp 10 15 Ja J_36 := Kp_tr kJ_30 (Kp_wd h_36.2.1 (by decide) (by decide))
            have r1_5_I_36 : I_36 1 5 = Ia 1 5 := Kp_at kI_36 1 5 (by decide)
            have r8_1_I_36 : I_36 8 1 = Ia 8 1 := Kp_at kI_36 8 1 (by decide)
            have rf_I_36 : FU (I_36 1 5) = FU (Ia 1 5) := by rw [r1_5_I_36]
            have lI_36 : LR I_36 := h_36.2.2.1
            have qI_36 := lI_36.1
            unfold LRf at qI_36
            have cI_36 := h_36.2.2.2.1
            have fsI_36 : zFr I_30 I_36 := h_36.2.2.2.2.1
            have xrI_36 := h_36.2.2.2.2.2.1
            have yI_36 := h_36.2.2.2.2.2.2
            have tkI_36 : zTK I_36 cd vl T := zTK_f tkI_30 fsI_36
            have frI_36 : zFr Ia I_36 := zFr_tr frI_30 fsI_36
            have os36 := zAt_os tkI2 hok.1 (by omega) fsI_30 yI_30 fsI_36 yI_36
            refine ww_istore_n hX (pc := 39) (lv' := [some (kR (some 10)), some (kI (8 - (m : Int))), some (kI i), some (kI x_36)]) dX7_takeTest_39 (by decide) rfl rfl ?_
            refine ww_aload_n hX (pc := 40) dX7_takeTest_40 rfl ?_
            refine ww_iload_n hX (pc := 41) dX7_takeTest_41 rfl ?_
            refine vI1 hX (pc := 42) sX7_81 (xs_10 hL) (c6_X7_takeBoth l0 (m := m) hm hrec hL (XI_kp hI kI_36 (by decide)) lI_36 tkI_36 os36.1) (by omega) (Nat.le_refl 0) (Nat.le_refl 0) (Nat.le_of_ble_eq_true rfl) dX7_takeTest_42 (fun x_42 I_42 J_42 h_42 => ?_)
            have kI_42 : Kp 10 15 Ia I_42 := Kp_tr kI_36 (Kp_wd h_42.1 (by decide) (by decide))
            have kJ_42 : Kp 10 15 Ja J_42 := Kp_tr kJ_36 (Kp_wd h_42.2.1 (by decide) (by decide))
            have r1_5_I_42 : I_42 1 5 = Ia 1 5 := Kp_at kI_42 1 5 (by decide)
            have r8_1_I_42 : I_42 8 1 = Ia 8 1 := Kp_at kI_42 8 1 (by decide)
            have rf_I_42 : FU (I_42 1 5) = FU (Ia 1 5) := by rw [r1_5_I_42]
            have lI_42 : LR I_42 := h_42.2.2.1
            have qI_42 := lI_42.1
            unfold LRf at qI_42
            have cI_42 := h_42.2.2.2.1
            have fsI_42 : zFr I_36 I_42 := h_42.2.2.2.2.1
            have xrI_42 := h_42.2.2.2.2.2.1
            have yI_42 := h_42.2.2.2.2.2.2
            have tkI_42 : zTK I_42 cd vl T := zTK_f tkI_36 fsI_42
            have frI_42 : zFr Ia I_42 := zFr_tr frI_36 fsI_42
            refine ww_if_ne hX (pc := 45) (tgt := 50) dX7_takeTest_45 (by decide) (fun h_45 => ?_) (fun h_45 => ?_)
            · simp only [w32_mod] at h_45
              refine ww_aload_n hX (pc := 50) dX7_takeTest_50 rfl ?_
              refine ww_iload_n hX (pc := 51) dX7_takeTest_51 rfl ?_
              refine vV1 hX (pc := 52) sX7_88 (xs_10 hL) (c6_X7_closeSkip l0 hL (XI_kp hI kI_42 (by decide)) lI_42 (by omega) (by omega)) (by omega) (Nat.le_refl 0) (Nat.le_refl 0) (Nat.le_of_ble_eq_true rfl) dX7_takeTest_52 (fun I_52 J_52 h_52 => ?_)
              have kI_52 : Kp 10 15 Ia I_52 := Kp_tr kI_42 (Kp_wd h_52.1 (by decide) (by decide))
              have kJ_52 : Kp 10 15 Ja J_52 := Kp_tr kJ_42 (Kp_wd h_52.2.1 (by decide) (by decide))
              have r1_5_I_52 : I_52 1 5 = Ia 1 5 := Kp_at kI_52 1 5 (by decide)
              have r8_1_I_52 : I_52 8 1 = Ia 8 1 := Kp_at kI_52 8 1 (by decide)
              have rf_I_52 : FU (I_52 1 5) = FU (Ia 1 5) := by rw [r1_5_I_52]
              have lI_52 : LR I_52 := h_52.2.2.1
              have qI_52 := lI_52.1
              unfold LRf at qI_52
              have cI_52 := h_52.2.2.2.1
              have fsI_52 : zFr I_42 I_52 := h_52.2.2.2.2.1
              have xrI_52 := h_52.2.2.2.2.2.1
              have yI_52 := h_52.2.2.2.2.2.2
              have tkI_52 : zTK I_52 cd vl T := zTK_f tkI_42 fsI_52
              have frI_52 : zFr Ia I_52 := zFr_tr frI_42 fsI_52
              refine ww_iinc hX (pc := 55) (lv' := [some (kR (some 10)), some (kI (8 - (m : Int))), some (kI (i + 1)), some (kI x_36)]) dX7_takeTest_55 rfl (by decide) rfl rfl ?_
              refine ww_goto hX (pc := 58) (tgt := 12) dX7_takeTest_58 (by decide) ?_
              refine ww_sub [some (kR (some 10)), some (kI (8 - (m : Int))), some (kI (i + 1)), none] (aLe_s (aLe_s (aLe_s (aLe_n aLe_0)))) ?_
              exact ih_12 _ (by have hm9 := Sh0_e hq_12; omega) (i + 1) I_52 J_52 rfl ⟨kI_52, kJ_52, lI_52, by omega, by omega, frI_52, (zLI_b (m := (400 - (i + 1)).toNat) hk frI2 hok hrs (by omega) hc9 fsI_30 yI_30 fsI_36 yI_36 fsI_42 yI_42 (by omega) fsI_52 yI_52 (Or.inl ⟨rfl, rfl⟩))⟩
            · simp only [w32_mod] at h_45
              refine ww_iconst hX (pc := 48) (x := 0) dX7_takeTest_48 rfl ?_
              refine rZ hX (pc := 49) hT (Nat.le_refl 0) (Nat.le_refl 0) dX7_takeTest_49 (by decide) ?_
              exact ⟨kI_42, kJ_42, lI_42, by omega, frI_42, by omega, (zLI_f (m := (400 - i).toNat - 1) frI_36.2.1 hrs (by omega) (by rw [hc9]; decide) yI_42 (by omega) rfl)⟩
    exact hl_12 _ 0 I_2 J_2 rfl ⟨kI_2, kJ_2, lI_2, by omega, by omega, frI_2, zLI_0 yI_2 (by omega)⟩
  · simp only [w32_mod] at h_5
    refine ww_iconst hX (pc := 8) (x := 0) dX7_takeTest_8 rfl ?_
    refine rZ hX (pc := 9) hT (Nat.le_refl 0) (Nat.le_refl 0) dX7_takeTest_9 (by decide) ?_
    exact ⟨kI_2, kJ_2, lI_2, by omega, frI_2, by omega, (zPO_sf yI_2 (by omega) rfl)⟩
theorem c_QTest (l0 : Launch) : ∀ m : Nat, m ≤ 8 → QTest l0 m
  | 0, h => fun hL hI hR _ _ _ _ _ hk ha => c6_X7_takeTest l0 (m := 0) h (fun mp e => absurd e (by omega)) hL hI hR hk ha
  | m + 1, h => fun hL hI hR _ _ _ _ _ hk ha => c6_X7_takeTest l0 (m := m + 1) h (fun mp e => by
      obtain rfl : m = mp := by omega
      exact c_QTest l0 m (by omega)) hL hI hR hk ha
