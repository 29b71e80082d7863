set_option maxHeartbeats 4000000 in
set_option maxRecDepth 20000 in
theorem c_X11_failing (l0 : Launch) {Ia Ja : aI1} {Ra : aR1} {Sa : aS1} (hL : LY Ra Sa) (hQ : RX Ia) {a : Int} (ha0 : -2147483648 ≤ a) (ha1 : a < 2147483648)  : CT l0 6 0 0 mX11_failing [kR (some 49), kI a] Ia Ja Ra Sa (cI (fun x I' J' => Ch [61, 64] [25, 28] Ia I' ∧ Kp 49 73 Ja J' ∧ RX I' ∧ True) Ra Sa) := by
  refine ct_in pn_X11 (Nat.le_of_ble_eq_true rfl) (fun X hX hT hIn => ?_)
  have hX : aK l0 X cX11_failing 2 RX11 (some .int) 6 0 0 := hX
  change WW X 0 [some (kR (some 49)), some (kI a)] [] Ia Ja Ra Sa 0 0
  have qIa := RX_o hQ
  refine ww_aload_n hX (pc := 0) dX11_failing_0 rfl ?_
  refine vV0 hX (pc := 1) sX11_321 (xs_49 hL) (c_X11_failing0 l0 hL hQ ) (by decide) (Nat.le_refl 0) (Nat.le_refl 0) (Nat.le_of_ble_eq_true rfl) dX11_failing_1 (fun I_1 J_1 h_1 => ?_)
  have kJ_1 : Kp 49 73 Ja J_1 := Kp_tr (Kp_rf (a := 49) (b := 73)) h_1.2.1
  have kI_1 : Ch [61, 64] [25, 28] Ia I_1 := Ch_tr Ch_rf (Ch_wd h_1.1 (by decide) (by decide))
  have cI_1 : RX I_1 := h_1.2.2.1
  have qI_1 := RX_o cI_1
  have r304_I_1 : I_1 51 304 = Ia 51 304 := by rw [h_1.1.1 51 (by decide) (by decide)]
  have r305_I_1 : I_1 51 305 = Ia 51 305 := by rw [h_1.1.1 51 (by decide) (by decide)]
  have rf_I_1 : FU (I_1 51 304) = FU (Ia 51 304) := by rw [r304_I_1]
  refine ww_iload_n hX (pc := 4) dX11_failing_4 rfl ?_
  refine ww_iconst hX (pc := 5) (x := (-1)) dX11_failing_5 rfl ?_
  refine ww_icmp_ne hX (pc := 6) (tgt := 16) dX11_failing_6 (by decide) (fun h_6 => ?_) (fun h_6 => ?_)
  · simp only [w32_mod] at h_6
    refine ww_iload_n hX (pc := 16) dX11_failing_16 rfl ?_
    refine ww_iconst hX (pc := 17) (x := 0) dX11_failing_17 rfl ?_
    refine ww_aload_n hX (pc := 18) dX11_failing_18 rfl ?_
    refine ww_getI hX (pc := 19) fX11_318 (by decide) (xs_49 hL) dX11_failing_19 ?_
    refine ww_iconst hX (pc := 22) (x := 1) dX11_failing_22 rfl ?_
    refine ww_isub hX (pc := 23) dX11_failing_23 ?_
    refine sI3 hX (pc := 24) sX11_101 (c_X11_lies l0 (by omega) (by omega) (by omega) (by omega) (by omega) (by omega)) (by decide) (Nat.le_refl 0) (Nat.le_refl 0) (Nat.le_of_ble_eq_true rfl) dX11_failing_24 (fun x_24 I_24 J_24 h_24 => ?_)
    obtain ⟨rfl, rfl, h_24⟩ := h_24
    refine ww_if_eq hX (pc := 27) (tgt := 39) dX11_failing_27 (by decide) (fun h_27 => ?_) (fun h_27 => ?_)
    · simp only [w32_mod] at h_27
      refine ww_iconst hX (pc := 39) (x := (-1)) dX11_failing_39 rfl ?_
      refine rI hX (pc := 40) hT (Nat.le_refl 0) (Nat.le_refl 0) dX11_failing_40 ?_
      exact ⟨kI_1, kJ_1, cI_1, trivial⟩
    · simp only [w32_mod] at h_27
      have k_24 := h_24.2.mp (by omega)
      clear h_24
      refine ww_aload_n hX (pc := 30) dX11_failing_30 rfl ?_
      refine ww_getR hX (pc := 31) fX11_68 (by decide) (xs_49 hL) (xr_49_27 hL) dX11_failing_31 ?_
      refine ww_iload_n hX (pc := 34) dX11_failing_34 rfl ?_
      refine ww_iald hX (pc := 35) (xs_64 hL) (by decide) (by omega) (by omega) dX11_failing_35 ?_
      refine ww_goto hX (pc := 36) (tgt := 40) dX11_failing_36 (by decide) ?_
      refine rI hX (pc := 40) hT (Nat.le_refl 0) (Nat.le_refl 0) dX11_failing_40 ?_
      exact ⟨kI_1, kJ_1, cI_1, trivial⟩
  · simp only [w32_mod] at h_6
    refine ww_aload_n hX (pc := 9) dX11_failing_9 rfl ?_
    refine ww_getI hX (pc := 10) fX11_318 (by decide) (xs_49 hL) dX11_failing_10 ?_
    refine ww_goto hX (pc := 13) (tgt := 40) dX11_failing_13 (by decide) ?_
    refine rI hX (pc := 40) hT (Nat.le_refl 0) (Nat.le_refl 0) dX11_failing_40 ?_
    exact ⟨kI_1, kJ_1, cI_1, trivial⟩
set_option maxHeartbeats 4000000 in
set_option maxRecDepth 20000 in
theorem c_X11_judge (l0 : Launch) {Ia Ja : aI1} {Ra : aR1} {Sa : aS1} (hL : LY Ra Sa) (hQ : RX Ia) {a : Int} (ha0 : -2147483648 ≤ a) (ha1 : a < 2147483648)  : CT l0 5 0 0 mX11_judge [kR (some 49), kI a] Ia Ja Ra Sa (cI (fun x I' J' => Ch [61] [25] Ia I' ∧ Kp 49 73 Ja J' ∧ RX I' ∧ True) Ra Sa) := by
  refine ct_in pn_X11 (Nat.le_of_ble_eq_true rfl) (fun X hX hT hIn => ?_)
  have hX : aK l0 X cX11_judge 5 RX11 (some .int) 5 0 0 := hX
  change WW X 0 [some (kR (some 49)), some (kI a), none, none, none] [] Ia Ja Ra Sa 0 0
  have qIa := RX_o hQ
  refine ww_iload_n hX (pc := 0) dX11_judge_0 rfl ?_
  refine sI1 hX (pc := 1) sX11_308 (c_X11_isManner l0 (by omega) (by omega)) (by decide) (Nat.le_refl 0) (Nat.le_refl 0) (Nat.le_of_ble_eq_true rfl) dX11_judge_1 (fun x_1 I_1 J_1 h_1 => ?_)
  obtain ⟨rfl, rfl, h_1⟩ := h_1
  refine ww_if_ne hX (pc := 4) (tgt := 9) dX11_judge_4 (by decide) (fun h_4 => ?_) (fun h_4 => ?_)
  · simp only [w32_mod] at h_4
    have k_1 := h_1.2.mp (by omega)
    clear h_1
    refine ww_aload_n hX (pc := 9) dX11_judge_9 rfl ?_
    refine vV0 hX (pc := 10) sX11_294 (xs_49 hL) (c_X11_looks l0 hL hQ ) (by decide) (Nat.le_refl 0) (Nat.le_refl 0) (Nat.le_of_ble_eq_true rfl) dX11_judge_10 (fun I_10 J_10 h_10 => ?_)
    have kJ_10 : Kp 49 73 Ja J_10 := Kp_tr (Kp_rf (a := 49) (b := 73)) h_10.2.1
    have kI_10 : Ch [61] [25] Ia I_10 := Ch_tr Ch_rf (Ch_wd h_10.1 (by decide) (by decide))
    have cI_10 : RX I_10 := h_10.2.2.1
    have qI_10 := RX_o cI_10
    have r304_I_10 : I_10 51 304 = Ia 51 304 := by rw [h_10.1.1 51 (by decide) (by decide)]
    have r305_I_10 : I_10 51 305 = Ia 51 305 := by rw [h_10.1.1 51 (by decide) (by decide)]
    have rf_I_10 : FU (I_10 51 304) = FU (Ia 51 304) := by rw [r304_I_10]
    refine ww_iconst hX (pc := 13) (x := 0) dX11_judge_13 rfl ?_
    refine ww_istore_n hX (pc := 14) (lv' := [some (kR (some 49)), some (kI a), some (kI 0), none, none]) dX11_judge_14 (by decide) rfl rfl ?_
    refine ww_iconst hX (pc := 15) (x := 0) dX11_judge_15 rfl ?_
    refine ww_istore_n hX (pc := 16) (lv' := [some (kR (some 49)), some (kI a), some (kI 0), some (kI 0), none]) dX11_judge_16 (by decide) rfl rfl ?_
    have hl_17 : ∀ (n_17 : Nat) (sa : Int) (i : Int), (30 - i).toNat = n_17 → ((0 ≤ i ∧ i ≤ 30 ∧ 0 ≤ sa ∧ sa ≤ 255)) → WW X 17 [some (kR (some 49)), some (kI a), some (kI sa), some (kI i), none] [] I_10 J_10 Ra Sa 0 0 := by
      intro n_17
      induction n_17 using Nat.strongRecOn with
      | ind n_17 ih_17 =>
        intro sa i hm_17 hv_17
        have hv := hv_17
        refine ww_iload_n hX (pc := 17) dX11_judge_17 rfl ?_
        refine ww_aload_n hX (pc := 18) dX11_judge_18 rfl ?_
        refine ww_getI hX (pc := 19) fX11_334 (by decide) (xs_49 hL) dX11_judge_19 ?_
        refine ww_icmp_ge hX (pc := 22) (tgt := 98) dX11_judge_22 (by decide) (fun h_22 => ?_) (fun h_22 => ?_)
        · simp only [w32_mod] at h_22
          refine ww_iconst hX (pc := 98) (x := (-1)) dX11_judge_98 rfl ?_
          refine rI hX (pc := 99) hT (Nat.le_refl 0) (Nat.le_refl 0) dX11_judge_99 ?_
          exact ⟨kI_10, kJ_10, cI_10, trivial⟩
        · simp only [w32_mod] at h_22
          refine ww_aload_n hX (pc := 25) dX11_judge_25 rfl ?_
          refine ww_getR hX (pc := 26) fX11_77 (by decide) (xs_49 hL) (xr_49_32 hL) dX11_judge_26 ?_
          refine ww_iload_n hX (pc := 29) dX11_judge_29 rfl ?_
          refine ww_iald hX (pc := 30) (xs_67 hL) (by decide) (by omega) (by omega) dX11_judge_30 ?_
          refine ww_wI ?_
          have hwr := w32_r (I_10 67 i.toNat)
          refine ww_nmI (fun v_31 hv_31 => ?_)
          refine ww_istore hX (pc := 31) (lv' := [some (kR (some 49)), some (kI a), some (kI sa), some (kI i), some (kI v_31)]) dX11_judge_31 (by decide) rfl rfl ?_
          refine ww_aload_n hX (pc := 33) dX11_judge_33 rfl ?_
          refine ww_iload hX (pc := 34) dX11_judge_34 rfl ?_
          refine vI1 hX (pc := 36) sX11_120 (xs_49 hL) (c_X11_isState l0 hL cI_10 (by omega) (by omega)) (by decide) (Nat.le_refl 0) (Nat.le_refl 0) (Nat.le_of_ble_eq_true rfl) dX11_judge_36 (fun x_36 I_36 J_36 h_36 => ?_)
          obtain ⟨rfl, rfl, h_36⟩ := h_36
          refine ww_if_eq hX (pc := 39) (tgt := 87) dX11_judge_39 (by decide) (fun h_39 => ?_) (fun h_39 => ?_)
          · simp only [w32_mod] at h_39
            refine ww_iload_n hX (pc := 87) dX11_judge_87 rfl ?_
            refine rI hX (pc := 88) hT (Nat.le_refl 0) (Nat.le_refl 0) dX11_judge_88 ?_
            exact ⟨kI_10, kJ_10, cI_10, trivial⟩
          · simp only [w32_mod] at h_39
            have k_36 := h_36.2.mp (by omega)
            clear h_36
            refine ww_aload_n hX (pc := 42) dX11_judge_42 rfl ?_
            refine ww_iload_n hX (pc := 43) dX11_judge_43 rfl ?_
            refine ww_iload hX (pc := 44) dX11_judge_44 rfl ?_
            refine ww_aload_n hX (pc := 46) dX11_judge_46 rfl ?_
            refine ww_getR hX (pc := 47) fX11_20 (by decide) (xs_49 hL) (xr_49_3 hL) dX11_judge_47 ?_
            refine ww_sipush hX (pc := 50) (x := 306) dX11_judge_50 (by decide) ?_
            refine ww_iald hX (pc := 53) (xs_51 hL) (by decide) (by omega) (by omega) dX11_judge_53 ?_
            refine ww_toI (b := I_10 51 306) rfl ?_
            refine vI3 hX (pc := 54) sX11_271 (xs_49 hL) (c_X11_canCome l0 hL cI_10 ) (by decide) (Nat.le_refl 0) (Nat.le_refl 0) (Nat.le_of_ble_eq_true rfl) dX11_judge_54 (fun x_54 I_54 J_54 h_54 => ?_)
            obtain ⟨rfl, rfl, h_54⟩ := h_54
            refine ww_if_eq hX (pc := 57) (tgt := 87) dX11_judge_57 (by decide) (fun h_57 => ?_) (fun h_57 => ?_)
            · simp only [w32_mod] at h_57
              refine ww_iload_n hX (pc := 87) dX11_judge_87 rfl ?_
              refine rI hX (pc := 88) hT (Nat.le_refl 0) (Nat.le_refl 0) dX11_judge_88 ?_
              exact ⟨kI_10, kJ_10, cI_10, trivial⟩
            · simp only [w32_mod] at h_57
              have k_54 := h_54.2.mp (by omega)
              clear h_54
              refine ww_aload_n hX (pc := 60) dX11_judge_60 rfl ?_
              refine ww_iload hX (pc := 61) dX11_judge_61 rfl ?_
              refine vI1 hX (pc := 63) sX11_126 (xs_49 hL) (c_X11_readOf l0 hL cI_10 (by omega) (by omega)) (by decide) (Nat.le_refl 0) (Nat.le_refl 0) (Nat.le_of_ble_eq_true rfl) dX11_judge_63 (fun x_63 I_63 J_63 h_63 => ?_)
              obtain ⟨rfl, rfl, h_63⟩ := h_63
              refine ww_iconst hX (pc := 66) (x := (-1)) dX11_judge_66 rfl ?_
              refine ww_icmp_eq hX (pc := 67) (tgt := 87) dX11_judge_67 (by decide) (fun h_67 => ?_) (fun h_67 => ?_)
              · simp only [w32_mod] at h_67
                refine ww_iload_n hX (pc := 87) dX11_judge_87 rfl ?_
                refine rI hX (pc := 88) hT (Nat.le_refl 0) (Nat.le_refl 0) dX11_judge_88 ?_
                exact ⟨kI_10, kJ_10, cI_10, trivial⟩
              · simp only [w32_mod] at h_67
                refine ww_aload_n hX (pc := 70) dX11_judge_70 rfl ?_
                refine ww_iload_n hX (pc := 71) dX11_judge_71 rfl ?_
                refine ww_aload_n hX (pc := 72) dX11_judge_72 rfl ?_
                refine ww_iload hX (pc := 73) dX11_judge_73 rfl ?_
                refine vI1 hX (pc := 75) sX11_126 (xs_49 hL) (c_X11_readOf l0 hL cI_10 (by omega) (by omega)) (by decide) (Nat.le_refl 0) (Nat.le_refl 0) (Nat.le_of_ble_eq_true rfl) dX11_judge_75 (fun x_75 I_75 J_75 h_75 => ?_)
                obtain ⟨rfl, rfl, h_75⟩ := h_75
                refine ww_iload_n hX (pc := 78) dX11_judge_78 rfl ?_
                refine vI3 hX (pc := 79) sX11_311 (xs_49 hL) (c_X11_nextOf l0 hL cI_10 (by omega) (by omega)) (by decide) (Nat.le_refl 0) (Nat.le_refl 0) (Nat.le_of_ble_eq_true rfl) dX11_judge_79 (fun x_79 I_79 J_79 h_79 => ?_)
                obtain ⟨rfl, rfl, h_79⟩ := h_79
                refine ww_iload hX (pc := 82) dX11_judge_82 rfl ?_
                refine ww_icmp_eq hX (pc := 84) (tgt := 89) dX11_judge_84 (by decide) (fun h_84 => ?_) (fun h_84 => ?_)
                · simp only [w32_mod] at h_84
                  refine ww_iload hX (pc := 89) dX11_judge_89 rfl ?_
                  refine ww_istore_n hX (pc := 91) (lv' := [some (kR (some 49)), some (kI a), some (kI v_31), some (kI i), some (kI v_31)]) dX11_judge_91 (by decide) rfl rfl ?_
                  refine ww_iinc hX (pc := 92) (lv' := [some (kR (some 49)), some (kI a), some (kI v_31), some (kI (i + 1)), some (kI v_31)]) dX11_judge_92 rfl (by decide) rfl rfl ?_
                  refine ww_goto hX (pc := 95) (tgt := 17) dX11_judge_95 (by decide) ?_
                  refine ww_sub [some (kR (some 49)), some (kI a), some (kI v_31), some (kI (i + 1)), none] (aLe_s (aLe_s (aLe_s (aLe_s (aLe_n aLe_0))))) ?_
                  exact ih_17 _ (by omega) v_31 (i + 1) rfl (by omega)
                · simp only [w32_mod] at h_84
                  refine ww_iload_n hX (pc := 87) dX11_judge_87 rfl ?_
                  refine rI hX (pc := 88) hT (Nat.le_refl 0) (Nat.le_refl 0) dX11_judge_88 ?_
                  exact ⟨kI_10, kJ_10, cI_10, trivial⟩
    exact hl_17 _ 0 0 rfl (by omega)
  · simp only [w32_mod] at h_4
    refine ww_iconst hX (pc := 7) (x := (-1)) dX11_judge_7 rfl ?_
    refine rI hX (pc := 8) hT (Nat.le_refl 0) (Nat.le_refl 0) dX11_judge_8 ?_
    exact ⟨Ch_rf, (Kp_rf (a := 49) (b := 73)), hQ, trivial⟩
