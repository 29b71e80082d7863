set_option maxHeartbeats 4000000 in
set_option maxRecDepth 20000 in
theorem c9_X11_cheap (l0 : Launch) {Ia Ja : aI1} {Ra : aR1} {Sa : aS1} (hL : LY Ra Sa) (hQ : RX Ia) {a : Int} (ha0 : -2147483648 ≤ a) (ha1 : a < 2147483648)  : CT l0 3 0 0 mX11_cheap [kR (some 49), kI a] Ia Ja Ra Sa (cI (fun x I' J' => (Ch [70, 71] [] Ia I' ∧ Kp 49 73 Ja J' ∧ RX I' ∧ True) ∧ QK9 Ia I' Ja J') Ra Sa) := by
  refine ct_in pn_X11 (Nat.le_of_ble_eq_true rfl) (fun X hX hT hIn => ?_)
  have hX : aK l0 X cX11_cheap 2 RX11 (some .int) 3 0 0 := hX
  change WW X 0 [some (kR (some 49)), some (kI a)] [] Ia Ja Ra Sa 0 0
  have qIa := RX_o hQ
  refine ww_iload_n hX (pc := 0) dX11_cheap_0 rfl ?_
  refine ww_iconst hX (pc := 1) (x := 0) dX11_cheap_1 rfl ?_
  refine ww_iconst hX (pc := 2) (x := 1) dX11_cheap_2 rfl ?_
  refine sI3 hX (pc := 3) sX11_101 (c_X11_lies l0 (by omega) (by omega) (by omega) (by omega) (by omega) (by omega)) (by decide) (Nat.le_refl 0) (Nat.le_refl 0) (Nat.le_of_ble_eq_true rfl) dX11_cheap_3 (fun x_3 I_3 J_3 h_3 => ?_)
  obtain ⟨rfl, rfl, h_3⟩ := h_3
  refine ww_if_ne hX (pc := 6) (tgt := 11) dX11_cheap_6 (by decide) (fun h_6 => ?_) (fun h_6 => ?_)
  · simp only [w32_mod] at h_6
    have k_3 := h_3.2.mp (by omega)
    clear h_3
    refine ww_aload_n hX (pc := 11) dX11_cheap_11 rfl ?_
    refine vV0 hX (pc := 12) sX11_341 (xs_49 hL) (c9_X11_plans l0 hL hQ ) (by decide) (Nat.le_refl 0) (Nat.le_refl 0) (Nat.le_of_ble_eq_true rfl) dX11_cheap_12 (fun I_12 J_12 h_12 => ?_)
    obtain ⟨h_12, qxI_12⟩ := h_12
    have kJ_12 : Kp 49 73 Ja J_12 := Kp_tr (Kp_rf (a := 49) (b := 73)) h_12.2.1
    have kI_12 : Ch [70, 71] [] Ia I_12 := Ch_tr Ch_rf (Ch_wd h_12.1 (by decide) (by decide))
    have cI_12 : RX I_12 := h_12.2.2.1
    have qI_12 := RX_o cI_12
    have r304_I_12 : I_12 51 304 = Ia 51 304 := by rw [h_12.1.1 51 (by decide) (by decide)]
    have r305_I_12 : I_12 51 305 = Ia 51 305 := by rw [h_12.1.1 51 (by decide) (by decide)]
    have rf_I_12 : FU (I_12 51 304) = FU (Ia 51 304) := by rw [r304_I_12]
    have bkI_12 : BK9 Ia I_12 := BK9_tr BK9_rf qxI_12.1
    have tkI_12 : TK9 Ia I_12 Ja J_12 := TK9_tr TK9_rf qxI_12.2
    refine ww_iload_n hX (pc := 15) dX11_cheap_15 rfl ?_
    refine ww_iconst hX (pc := 16) (x := 1) dX11_cheap_16 rfl ?_
    refine ww_icmp_ne hX (pc := 17) (tgt := 29) dX11_cheap_17 (by decide) (fun h_17 => ?_) (fun h_17 => ?_)
    · simp only [w32_mod] at h_17
      refine ww_aload_n hX (pc := 29) dX11_cheap_29 rfl ?_
      refine ww_getR hX (pc := 30) fX11_86 (by decide) (xs_49 hL) (xr_49_36 hL) dX11_cheap_30 ?_
      refine ww_iconst hX (pc := 33) (x := 0) dX11_cheap_33 rfl ?_
      refine ww_iald hX (pc := 34) (xs_70 hL) (by decide) (by omega) (by omega) dX11_cheap_34 ?_
      refine ww_toI (b := I_12 70 0) rfl ?_
      refine ww_ldcw hX (pc := 35) (x := 1000000000) dX11_cheap_35 tb_1457 ?_
      refine ww_icmp_ne hX (pc := 38) (tgt := 45) dX11_cheap_38 (by decide) (fun h_38 => ?_) (fun h_38 => ?_)
      · simp only [w32_mod] at h_38
        refine ww_aload_n hX (pc := 45) dX11_cheap_45 rfl ?_
        refine ww_getR hX (pc := 46) fX11_86 (by decide) (xs_49 hL) (xr_49_36 hL) dX11_cheap_46 ?_
        refine ww_iconst hX (pc := 49) (x := 0) dX11_cheap_49 rfl ?_
        refine ww_iald hX (pc := 50) (xs_70 hL) (by decide) (by omega) (by omega) dX11_cheap_50 ?_
        refine ww_toI (b := I_12 70 0) rfl ?_
        refine rI hX (pc := 51) hT (Nat.le_refl 0) (Nat.le_refl 0) dX11_cheap_51 ?_
        exact ⟨⟨kI_12, kJ_12, cI_12, trivial⟩, bkI_12, tkI_12⟩
      · simp only [w32_mod] at h_38
        refine ww_iconst hX (pc := 41) (x := (-1)) dX11_cheap_41 rfl ?_
        refine ww_goto hX (pc := 42) (tgt := 51) dX11_cheap_42 (by decide) ?_
        refine rI hX (pc := 51) hT (Nat.le_refl 0) (Nat.le_refl 0) dX11_cheap_51 ?_
        exact ⟨⟨kI_12, kJ_12, cI_12, trivial⟩, bkI_12, tkI_12⟩
    · simp only [w32_mod] at h_17
      refine ww_aload_n hX (pc := 20) dX11_cheap_20 rfl ?_
      refine ww_getR hX (pc := 21) fX11_89 (by decide) (xs_49 hL) (xr_49_37 hL) dX11_cheap_21 ?_
      refine ww_iconst hX (pc := 24) (x := 0) dX11_cheap_24 rfl ?_
      refine ww_iald hX (pc := 25) (xs_71 hL) (by decide) (by omega) (by omega) dX11_cheap_25 ?_
      refine ww_toI (b := I_12 71 0) rfl ?_
      refine ww_goto hX (pc := 26) (tgt := 51) dX11_cheap_26 (by decide) ?_
      refine rI hX (pc := 51) hT (Nat.le_refl 0) (Nat.le_refl 0) dX11_cheap_51 ?_
      exact ⟨⟨kI_12, kJ_12, cI_12, trivial⟩, bkI_12, tkI_12⟩
  · simp only [w32_mod] at h_6
    refine ww_iconst hX (pc := 9) (x := (-1)) dX11_cheap_9 rfl ?_
    refine rI hX (pc := 10) hT (Nat.le_refl 0) (Nat.le_refl 0) dX11_cheap_10 ?_
    exact ⟨⟨Ch_rf, (Kp_rf (a := 49) (b := 73)), hQ, trivial⟩, BK9_rf, TK9_rf⟩
set_option maxHeartbeats 4000000 in
set_option maxRecDepth 20000 in
theorem c9_X11_plan (l0 : Launch) {Ia Ja : aI1} {Ra : aR1} {Sa : aS1} (hL : LY Ra Sa) (hQ : RX Ia) {a : Int} (ha0 : -2147483648 ≤ a) (ha1 : a < 2147483648)  : CT l0 3 0 0 mX11_plan [kR (some 49), kI a] Ia Ja Ra Sa (cI (fun x I' J' => (Ch [70, 71] [] Ia I' ∧ Kp 49 73 Ja J' ∧ RX I' ∧ True) ∧ QK9 Ia I' Ja J') Ra Sa) := by
  refine ct_in pn_X11 (Nat.le_of_ble_eq_true rfl) (fun X hX hT hIn => ?_)
  have hX : aK l0 X cX11_plan 5 RX11 (some .int) 3 0 0 := hX
  change WW X 0 [some (kR (some 49)), some (kI a), none, none, none] [] Ia Ja Ra Sa 0 0
  have qIa := RX_p hQ
  refine ww_iload_n hX (pc := 0) dX11_plan_0 rfl ?_
  refine ww_iconst hX (pc := 1) (x := 0) dX11_plan_1 rfl ?_
  refine ww_aload_n hX (pc := 2) dX11_plan_2 rfl ?_
  refine ww_getR hX (pc := 3) fX11_20 (by decide) (xs_49 hL) (xr_49_3 hL) dX11_plan_3 ?_
  refine ww_sipush hX (pc := 6) (x := 309) dX11_plan_6 (by decide) ?_
  refine ww_iald hX (pc := 9) (xs_51 hL) (by decide) (by omega) (by omega) dX11_plan_9 ?_
  refine ww_toI (b := Ia 51 309) rfl ?_
  refine ww_iconst hX (pc := 10) (x := 1) dX11_plan_10 rfl ?_
  refine ww_isub hX (pc := 11) dX11_plan_11 ?_
  refine sI3 hX (pc := 12) sX11_101 (c_X11_lies l0 (by omega) (by omega) (by omega) (by omega) (by omega) (by omega)) (by decide) (Nat.le_refl 0) (Nat.le_refl 0) (Nat.le_of_ble_eq_true rfl) dX11_plan_12 (fun x_12 I_12 J_12 h_12 => ?_)
  obtain ⟨rfl, rfl, h_12⟩ := h_12
  refine ww_if_ne hX (pc := 15) (tgt := 20) dX11_plan_15 (by decide) (fun h_15 => ?_) (fun h_15 => ?_)
  · simp only [w32_mod] at h_15
    have k_12 := h_12.2.mp (by omega)
    clear h_12
    refine ww_aload_n hX (pc := 20) dX11_plan_20 rfl ?_
    refine vV0 hX (pc := 21) sX11_341 (xs_49 hL) (c9_X11_plans l0 hL hQ ) (by decide) (Nat.le_refl 0) (Nat.le_refl 0) (Nat.le_of_ble_eq_true rfl) dX11_plan_21 (fun I_21 J_21 h_21 => ?_)
    obtain ⟨h_21, qxI_21⟩ := h_21
    have kJ_21 : Kp 49 73 Ja J_21 := Kp_tr (Kp_rf (a := 49) (b := 73)) h_21.2.1
    have kI_21 : Ch [70, 71] [] Ia I_21 := Ch_tr Ch_rf (Ch_wd h_21.1 (by decide) (by decide))
    have cI_21 : RX I_21 := h_21.2.2.1
    have qI_21 := RX_p cI_21
    have r304_I_21 : I_21 51 304 = Ia 51 304 := by rw [h_21.1.1 51 (by decide) (by decide)]
    have r305_I_21 : I_21 51 305 = Ia 51 305 := by rw [h_21.1.1 51 (by decide) (by decide)]
    have r309_I_21 : I_21 51 309 = Ia 51 309 := by rw [h_21.1.1 51 (by decide) (by decide)]
    have rf_I_21 : FU (I_21 51 304) = FU (Ia 51 304) := by rw [r304_I_21]
    have hk21 : I_21 51 = Ia 51 := h_21.1.1 51 (by decide) (by decide)
    have hpl : ∀ i9 s9 : Int, 0 ≤ i9 → i9 < I_21 51 309 → 0 ≤ s9 → s9 ≤ FU (I_21 51 304) → PLs (I_21 51) (I_21 70) i9 s9 := by rw [hk21]; exact h_21.2.2.2
    have bkI_21 : BK9 Ia I_21 := BK9_tr BK9_rf qxI_21.1
    have tkI_21 : TK9 Ia I_21 Ja J_21 := TK9_tr TK9_rf qxI_21.2
    refine ww_aload_n hX (pc := 24) dX11_plan_24 rfl ?_
    refine ww_getR hX (pc := 25) fX11_86 (by decide) (xs_49 hL) (xr_49_36 hL) dX11_plan_25 ?_
    refine ww_iconst hX (pc := 28) (x := 0) dX11_plan_28 rfl ?_
    refine ww_iald hX (pc := 29) (xs_70 hL) (by decide) (by omega) (by omega) dX11_plan_29 ?_
    refine ww_toI (b := I_21 70 0) rfl ?_
    refine ww_ldcw hX (pc := 30) (x := 1000000000) dX11_plan_30 tb_1457 ?_
    refine ww_icmp_ne hX (pc := 33) (tgt := 38) dX11_plan_33 (by decide) (fun h_33 => ?_) (fun h_33 => ?_)
    · simp only [w32_mod] at h_33
      refine ww_iconst hX (pc := 38) (x := 0) dX11_plan_38 rfl ?_
      refine ww_istore_n hX (pc := 39) (lv' := [some (kR (some 49)), some (kI a), some (kI 0), none, none]) dX11_plan_39 (by decide) rfl rfl ?_
      refine ww_iconst hX (pc := 40) (x := 0) dX11_plan_40 rfl ?_
      refine ww_istore_n hX (pc := 41) (lv' := [some (kR (some 49)), some (kI a), some (kI 0), some (kI 0), none]) dX11_plan_41 (by decide) rfl rfl ?_
      have hl_42 : ∀ (n_42 : Nat) (sa : Int) (k : Int), (a + 1 - k).toNat = n_42 → ((0 ≤ k ∧ k ≤ a + 1) ∧ (0 ≤ sa ∧ sa ≤ FU (I_21 51 304)) ∧ (¬ w32 (I_21 70 (256 * k + sa).toNat) = w32 1000000000)) → WW X 42 [some (kR (some 49)), some (kI a), some (kI sa), some (kI k), none] [] I_21 J_21 Ra Sa 0 0 := by
        intro n_42
        induction n_42 using Nat.strongRecOn with
        | ind n_42 ih_42 =>
          intro sa k hm_42 hv_42
          have hq_42 := Sh0_i hm_42
          clear hm_42
          obtain ⟨hv, hv1, hnf⟩ := hv_42
          refine ww_iload_n hX (pc := 42) dX11_plan_42 rfl ?_
          refine ww_iload_n hX (pc := 43) dX11_plan_43 rfl ?_
          refine ww_icmp_gt hX (pc := 44) (tgt := 164) dX11_plan_44 (by decide) (fun h_44 => ?_) (fun h_44 => ?_)
          · simp only [w32_mod] at h_44
            refine ww_iload_n hX (pc := 164) dX11_plan_164 rfl ?_
            refine rI hX (pc := 165) hT (Nat.le_refl 0) (Nat.le_refl 0) dX11_plan_165 ?_
            exact ⟨⟨kI_21, kJ_21, cI_21, trivial⟩, bkI_21, tkI_21⟩
          · simp only [w32_mod] at h_44
            refine ww_iload_n hX (pc := 47) dX11_plan_47 rfl ?_
            refine ww_istore hX (pc := 48) (lv' := [some (kR (some 49)), some (kI a), some (kI sa), some (kI k), some (kI sa)]) dX11_plan_48 (by decide) rfl rfl ?_
            obtain ⟨tw, hw1, hw2, ⟨hc1, hc2, hc3⟩, hw4⟩ := PL_w (hpl k sa (by omega) (by omega) (by omega) (by omega)) hnf
            have hl_50 : ∀ (n_50 : Nat) (t : Int), (tw - t).toNat = n_50 → ((sa ≤ t ∧ t ≤ tw)) → WW X 50 [some (kR (some 49)), some (kI a), some (kI sa), some (kI k), some (kI t)] [] I_21 J_21 Ra Sa 0 0 := by
              intro n_50
              induction n_50 using Nat.strongRecOn with
              | ind n_50 ih_50 =>
                intro t hm_50 hv_50
                have hq_50 := Sh0_i hm_50
                clear hm_50
                have hu := hv_50
                refine ww_aload_n hX (pc := 50) dX11_plan_50 rfl ?_
                refine ww_iload hX (pc := 51) dX11_plan_51 rfl ?_
                refine vI1 hX (pc := 53) sX11_126 (xs_49 hL) (c_X11_readOf l0 hL cI_21 (by omega) (by omega)) (by decide) (Nat.le_refl 0) (Nat.le_refl 0) (Nat.le_of_ble_eq_true rfl) dX11_plan_53 (fun x_53 I_53 J_53 h_53 => ?_)
                obtain ⟨rfl, rfl, h_53⟩ := h_53
                refine ww_aload_n hX (pc := 56) dX11_plan_56 rfl ?_
                refine ww_getR hX (pc := 57) fX11_20 (by decide) (xs_49 hL) (xr_49_3 hL) dX11_plan_57 ?_
                refine ww_sipush hX (pc := 60) (x := 288) dX11_plan_60 (by decide) ?_
                refine ww_iload_n hX (pc := 63) dX11_plan_63 rfl ?_
                refine ww_iadd hX (pc := 64) dX11_plan_64 ?_
                refine ww_iald hX (pc := 65) (xs_51 hL) (by decide) (by omega) (by omega) dX11_plan_65 ?_
                refine ww_icmp_ne hX (pc := 66) (tgt := 149) dX11_plan_66 (by decide) (fun h_66 => ?_) (fun h_66 => ?_)
                · simp only [w32_mod] at h_66
                  have hne : ¬ t = tw := fun e9 => by rw [← e9] at hc1; simp only [w32_mod] at hc1; omega
                  refine ww_iinc hX (pc := 149) (lv' := [some (kR (some 49)), some (kI a), some (kI sa), some (kI k), some (kI (t + 1))]) dX11_plan_149 rfl (by decide) rfl rfl ?_
                  refine ww_goto hX (pc := 152) (tgt := 50) dX11_plan_152 (by decide) ?_
                  exact ih_50 _ (by have hm9 := Sh0_e hq_50; omega) (t + 1) rfl (by omega)
                · simp only [w32_mod] at h_66
                  refine ww_aload_n hX (pc := 69) dX11_plan_69 rfl ?_
                  refine ww_iload_n hX (pc := 70) dX11_plan_70 rfl ?_
                  refine ww_iload hX (pc := 71) dX11_plan_71 rfl ?_
                  refine ww_aload_n hX (pc := 73) dX11_plan_73 rfl ?_
                  refine ww_getR hX (pc := 74) fX11_20 (by decide) (xs_49 hL) (xr_49_3 hL) dX11_plan_74 ?_
                  refine ww_sipush hX (pc := 77) (x := 306) dX11_plan_77 (by decide) ?_
                  refine ww_iald hX (pc := 80) (xs_51 hL) (by decide) (by omega) (by omega) dX11_plan_80 ?_
                  refine ww_toI (b := I_21 51 306) rfl ?_
                  refine vI3 hX (pc := 81) sX11_271 (xs_49 hL) (c_X11_canCome l0 hL cI_21 ) (by decide) (Nat.le_refl 0) (Nat.le_refl 0) (Nat.le_of_ble_eq_true rfl) dX11_plan_81 (fun x_81 I_81 J_81 h_81 => ?_)
                  obtain ⟨rfl, rfl, h_81⟩ := h_81
                  refine ww_if_eq hX (pc := 84) (tgt := 149) dX11_plan_84 (by decide) (fun h_84 => ?_) (fun h_84 => ?_)
                  · simp only [w32_mod] at h_84
                    have hne : ¬ t = tw := fun e9 => by rw [← e9] at hc2; have := h_81.2.mpr hc2; omega
                    refine ww_iinc hX (pc := 149) (lv' := [some (kR (some 49)), some (kI a), some (kI sa), some (kI k), some (kI (t + 1))]) dX11_plan_149 rfl (by decide) rfl rfl ?_
                    refine ww_goto hX (pc := 152) (tgt := 50) dX11_plan_152 (by decide) ?_
                    exact ih_50 _ (by have hm9 := Sh0_e hq_50; omega) (t + 1) rfl (by omega)
                  · simp only [w32_mod] at h_84
                    have k_81 := h_81.2.mp (by omega)
                    clear h_81
                    refine ww_aload_n hX (pc := 87) dX11_plan_87 rfl ?_
                    refine ww_getR hX (pc := 88) fX11_86 (by decide) (xs_49 hL) (xr_49_36 hL) dX11_plan_88 ?_
                    refine ww_sipush hX (pc := 91) (x := 256) dX11_plan_91 (by decide) ?_
                    refine ww_iload_n hX (pc := 94) dX11_plan_94 rfl ?_
                    refine ww_iconst hX (pc := 95) (x := 1) dX11_plan_95 rfl ?_
                    refine ww_iadd hX (pc := 96) dX11_plan_96 ?_
                    refine ww_imul hX (pc := 97) dX11_plan_97 ?_
                    refine ww_iload hX (pc := 98) dX11_plan_98 rfl ?_
                    refine ww_iadd hX (pc := 100) dX11_plan_100 ?_
                    refine ww_iald hX (pc := 101) (xs_70 hL) (by decide) (by omega) (by omega) dX11_plan_101 ?_
                    refine ww_ldcw hX (pc := 102) (x := 1000000000) dX11_plan_102 tb_1457 ?_
                    refine ww_icmp_eq hX (pc := 105) (tgt := 149) dX11_plan_105 (by decide) (fun h_105 => ?_) (fun h_105 => ?_)
                    · simp only [w32_mod] at h_105
                      have hne : ¬ t = tw := fun e9 => by rw [← e9] at hc3; simp only [w32_mod] at hc3; omega
                      refine ww_iinc hX (pc := 149) (lv' := [some (kR (some 49)), some (kI a), some (kI sa), some (kI k), some (kI (t + 1))]) dX11_plan_149 rfl (by decide) rfl rfl ?_
                      refine ww_goto hX (pc := 152) (tgt := 50) dX11_plan_152 (by decide) ?_
                      exact ih_50 _ (by have hm9 := Sh0_e hq_50; omega) (t + 1) rfl (by omega)
                    · simp only [w32_mod] at h_105
                      have hnf2 : ¬ w32 (I_21 70 (256 * (k + 1) + t).toNat) = w32 1000000000 := by simp only [w32_mod]; omega
                      refine ww_aload_n hX (pc := 108) dX11_plan_108 rfl ?_
                      refine ww_iload hX (pc := 109) dX11_plan_109 rfl ?_
                      refine ww_iload_n hX (pc := 111) dX11_plan_111 rfl ?_
                      refine ww_iconst hX (pc := 112) (x := (-1)) dX11_plan_112 rfl ?_
                      refine ww_ixor hX (pc := 113) dX11_plan_113 ?_
                      refine ww_iand hX (pc := 114) dX11_plan_114 ?_
                      refine vI1 hX (pc := 115) sX11_301 (xs_49 hL) (c_X11_oilOf l0 hL cI_21 ) (by decide) (Nat.le_refl 0) (Nat.le_refl 0) (Nat.le_of_ble_eq_true rfl) dX11_plan_115 (fun x_115 I_115 J_115 h_115 => ?_)
                      obtain ⟨rfl, rfl, h_115⟩ := h_115
                      refine ww_aload_n hX (pc := 118) dX11_plan_118 rfl ?_
                      refine ww_getR hX (pc := 119) fX11_86 (by decide) (xs_49 hL) (xr_49_36 hL) dX11_plan_119 ?_
                      refine ww_sipush hX (pc := 122) (x := 256) dX11_plan_122 (by decide) ?_
                      refine ww_iload_n hX (pc := 125) dX11_plan_125 rfl ?_
                      refine ww_iconst hX (pc := 126) (x := 1) dX11_plan_126 rfl ?_
                      refine ww_iadd hX (pc := 127) dX11_plan_127 ?_
                      refine ww_imul hX (pc := 128) dX11_plan_128 ?_
                      refine ww_iload hX (pc := 129) dX11_plan_129 rfl ?_
                      refine ww_iadd hX (pc := 131) dX11_plan_131 ?_
                      refine ww_iald hX (pc := 132) (xs_70 hL) (by decide) (by omega) (by omega) dX11_plan_132 ?_
                      refine ww_iadd hX (pc := 133) dX11_plan_133 ?_
                      refine ww_aload_n hX (pc := 134) dX11_plan_134 rfl ?_
                      refine ww_getR hX (pc := 135) fX11_86 (by decide) (xs_49 hL) (xr_49_36 hL) dX11_plan_135 ?_
                      refine ww_sipush hX (pc := 138) (x := 256) dX11_plan_138 (by decide) ?_
                      refine ww_iload_n hX (pc := 141) dX11_plan_141 rfl ?_
                      refine ww_imul hX (pc := 142) dX11_plan_142 ?_
                      refine ww_iload_n hX (pc := 143) dX11_plan_143 rfl ?_
                      refine ww_iadd hX (pc := 144) dX11_plan_144 ?_
                      refine ww_iald hX (pc := 145) (xs_70 hL) (by decide) (by omega) (by omega) dX11_plan_145 ?_
                      refine ww_icmp_eq hX (pc := 146) (tgt := 155) dX11_plan_146 (by decide) (fun h_146 => ?_) (fun h_146 => ?_)
                      · simp only [w32_mod] at h_146
                        refine ww_iload hX (pc := 155) dX11_plan_155 rfl ?_
                        refine ww_istore_n hX (pc := 157) (lv' := [some (kR (some 49)), some (kI a), some (kI t), some (kI k), some (kI t)]) dX11_plan_157 (by decide) rfl rfl ?_
                        refine ww_iinc hX (pc := 158) (lv' := [some (kR (some 49)), some (kI a), some (kI t), some (kI (k + 1)), some (kI t)]) dX11_plan_158 rfl (by decide) rfl rfl ?_
                        refine ww_goto hX (pc := 161) (tgt := 42) dX11_plan_161 (by decide) ?_
                        refine ww_sub [some (kR (some 49)), some (kI a), some (kI t), some (kI (k + 1)), none] (aLe_s (aLe_s (aLe_s (aLe_s (aLe_n aLe_0))))) ?_
                        exact ih_42 _ (by have hm9 := Sh0_e hq_42; omega) t (k + 1) rfl ⟨⟨by omega, by omega⟩, ⟨by omega, by omega⟩, hnf2⟩
                      · simp only [w32_mod] at h_146
                        have hne : ¬ t = tw := fun e9 => by rw [← e9] at hw4; unfold vPl at hw4; rw [← h_115] at hw4; omega
                        refine ww_iinc hX (pc := 149) (lv' := [some (kR (some 49)), some (kI a), some (kI sa), some (kI k), some (kI (t + 1))]) dX11_plan_149 rfl (by decide) rfl rfl ?_
                        refine ww_goto hX (pc := 152) (tgt := 50) dX11_plan_152 (by decide) ?_
                        exact ih_50 _ (by have hm9 := Sh0_e hq_50; omega) (t + 1) rfl (by omega)
            exact hl_50 _ sa rfl (by omega)
      exact hl_42 _ 0 0 rfl ⟨⟨by omega, by omega⟩, ⟨by omega, by omega⟩, by rw [show (256 * 0 + 0 : Int).toNat = 0 from rfl]; simp only [w32_mod]; omega⟩
    · simp only [w32_mod] at h_33
      refine ww_iconst hX (pc := 36) (x := (-1)) dX11_plan_36 rfl ?_
      refine rI hX (pc := 37) hT (Nat.le_refl 0) (Nat.le_refl 0) dX11_plan_37 ?_
      exact ⟨⟨kI_21, kJ_21, cI_21, trivial⟩, bkI_21, tkI_21⟩
  · simp only [w32_mod] at h_15
    refine ww_iconst hX (pc := 18) (x := (-1)) dX11_plan_18 rfl ?_
    refine rI hX (pc := 19) hT (Nat.le_refl 0) (Nat.le_refl 0) dX11_plan_19 ?_
    exact ⟨⟨Ch_rf, (Kp_rf (a := 49) (b := 73)), hQ, trivial⟩, BK9_rf, TK9_rf⟩
