set_option maxHeartbeats 4000000 in
set_option maxRecDepth 20000 in
theorem c_X8_isMet (l0 : Launch) {Ia Ja : aI1} {Ra : aR1} {Sa : aS1} (hL : LY Ra Sa) (hI : XI Ia) {a b : Int} (ha0 : 0 ≤ a) (ha1 : a ≤ 255) (hb0 : 0 ≤ b) (hb1 : b ≤ 8)  : CT l0 0 0 0 mX8_isMet [kR (some 31), kI a, kI b] Ia Ja Ra Sa (cI (fun x I' J' => Ia = I' ∧ Ja = J' ∧ (x = 0 ∨ x = 1)) Ra Sa) := by
  refine ct_in pn_X8 (Nat.le_of_ble_eq_true rfl) (fun X hX hT hIn => ?_)
  have hX : aK l0 X cX8_isMet 4 RX8 (some .boolean) 0 0 0 := hX
  change WW X 0 [some (kR (some 31)), some (kI a), some (kI b), none] [] Ia Ja Ra Sa 0 0
  obtain ⟨hn1, hn2⟩ := hI.1
  obtain ⟨hk1, hk2⟩ := hI.2.1
  obtain ⟨hf1, hf2⟩ := hI.fu
  refine ww_iconst hX (pc := 0) (x := 0) dX8_isMet_0 rfl ?_
  refine ww_istore_n hX (pc := 1) (lv' := [some (kR (some 31)), some (kI a), some (kI b), some (kI 0)]) dX8_isMet_1 (by decide) rfl rfl ?_
  have hl_2 : ∀ (n_2 : Nat) (w : Int), (b - w).toNat = n_2 → (0 ≤ w ∧ w ≤ b) → WW X 2 [some (kR (some 31)), some (kI a), some (kI b), some (kI w)] [] Ia Ja Ra Sa 0 0 := by
    intro n_2
    induction n_2 using Nat.strongRecOn with
    | ind n_2 ih_2 =>
      intro w hm_2 hv_2
      have hq_2 := Sh0_i hm_2
      clear hm_2
      obtain ⟨hw0, hw1⟩ := hv_2
      refine ww_iload_n hX (pc := 2) dX8_isMet_2 rfl ?_
      refine ww_iload_n hX (pc := 3) dX8_isMet_3 rfl ?_
      refine ww_icmp_ge hX (pc := 4) (tgt := 32) dX8_isMet_4 (by decide) (fun h_4 => ?_) (fun h_4 => ?_)
      · simp only [w32_mod] at h_4
        refine ww_iconst hX (pc := 32) (x := 0) dX8_isMet_32 rfl ?_
        refine rZ hX (pc := 33) hT (Nat.le_refl 0) (Nat.le_refl 0) dX8_isMet_33 (by decide) ?_
        exact ⟨rfl, rfl, by omega⟩
      · simp only [w32_mod] at h_4
        refine ww_aload_n hX (pc := 7) dX8_isMet_7 rfl ?_
        refine ww_getR hX (pc := 8) fX8_9 (by decide) (xs_31 hL) (xr_31_1 hL) dX8_isMet_8 ?_
        refine ww_iload_n hX (pc := 11) dX8_isMet_11 rfl ?_
        refine ww_sipush hX (pc := 12) (x := 256) dX8_isMet_12 (by decide) ?_
        refine ww_imul hX (pc := 15) dX8_isMet_15 ?_
        refine ww_iload_n hX (pc := 16) dX8_isMet_16 rfl ?_
        refine ww_iadd hX (pc := 17) dX8_isMet_17 ?_
        refine ww_lald hX (pc := 18) (xs_32 hL) (by decide) (by omega) (by omega) dX8_isMet_18 ?_
        refine ww_lconst hX (pc := 19) (x := 0) dX8_isMet_19 (by decide) ?_
        refine ww_lcmp hX (pc := 20) dX8_isMet_20 ?_
        refine ww_if_eq hX (pc := 21) (tgt := 26) dX8_isMet_21 (by decide) (fun h_21 => ?_) (fun h_21 => ?_)
        · simp only [w32_mod] at h_21
          refine ww_iinc hX (pc := 26) (lv' := [some (kR (some 31)), some (kI a), some (kI b), some (kI (w + 1))]) dX8_isMet_26 rfl (by decide) rfl rfl ?_
          refine ww_goto hX (pc := 29) (tgt := 2) dX8_isMet_29 (by decide) ?_
          exact ih_2 _ (by have hm9 := Sh0_e hq_2; omega) (w + 1) rfl ⟨by omega, by omega⟩
        · simp only [w32_mod] at h_21
          refine ww_iconst hX (pc := 24) (x := 1) dX8_isMet_24 rfl ?_
          refine rZ hX (pc := 25) hT (Nat.le_refl 0) (Nat.le_refl 0) dX8_isMet_25 (by decide) ?_
          exact ⟨rfl, rfl, by omega⟩
  exact hl_2 _ 0 rfl ⟨by omega, by omega⟩
set_option maxHeartbeats 4000000 in
set_option maxRecDepth 20000 in
theorem c_X8_spread (l0 : Launch) {Ia Ja : aI1} {Ra : aR1} {Sa : aS1} (hL : LY Ra Sa) (hI : XI Ia) {a b m e g : Int} (ha0 : 0 ≤ a) (ha1 : a ≤ FU (Ia 1 5)) (hb0 : 0 ≤ b) (hb1 : b ≤ 8)  : CT l0 3 0 0 mX8_spread [kR (some 31), kI a, kI b, kI m, kI e, kI g] Ia Ja Ra Sa (cV (fun I' J' => Kp 18 37 Ia I' ∧ Kp 18 37 Ja J' ∧ True) Ra Sa) := by
  refine ct_in pn_X8 (Nat.le_of_ble_eq_true rfl) (fun X hX hT hIn => ?_)
  have hX : aK l0 X cX8_spread 10 RX8 none 3 0 0 := hX
  change WW X 0 [some (kR (some 31)), some (kI a), some (kI b), some (kI m), some (kI e), some (kI g), none, none, none, none] [] Ia Ja Ra Sa 0 0
  obtain ⟨hn1, hn2⟩ := hI.1
  obtain ⟨hk1, hk2⟩ := hI.2.1
  obtain ⟨hf1, hf2⟩ := hI.fu
  refine ww_aload_n hX (pc := 0) dX8_spread_0 rfl ?_
  refine ww_getR hX (pc := 1) fX8_15 (by decide) (xs_31 hL) (xr_31_0 hL) dX8_spread_1 ?_
  refine ww_iload_n hX (pc := 4) dX8_spread_4 rfl ?_
  refine ww_iload_n hX (pc := 5) dX8_spread_5 rfl ?_
  refine vV2 hX (pc := 6) sX8_39 (xs_18 hL) (c_X4_chooseAll l0 hL hI (by omega) (by omega)) (by decide) (Nat.le_refl 0) (Nat.le_refl 0) (Nat.le_of_ble_eq_true rfl) dX8_spread_6 (fun I_6 J_6 h_6 => ?_)
  have kI_6 : Kp 18 37 Ia I_6 := Kp_tr (Kp_rf (a := 18) (b := 37)) (Kp_wd h_6.1 (by decide) (by decide))
  have kJ_6 : Kp 18 37 Ja J_6 := Kp_tr (Kp_rf (a := 18) (b := 37)) (Kp_wd h_6.2.1 (by decide) (by decide))
  have r1_5_I_6 : I_6 1 5 = Ia 1 5 := Kp_at kI_6 1 5 (by decide)
  have r1_6_I_6 : I_6 1 6 = Ia 1 6 := Kp_at kI_6 1 6 (by decide)
  have rf_I_6 : FU (I_6 1 5) = FU (Ia 1 5) := by rw [r1_5_I_6]
  refine ww_aload_n hX (pc := 9) dX8_spread_9 rfl ?_
  refine ww_getR hX (pc := 10) fX8_15 (by decide) (xs_31 hL) (xr_31_0 hL) dX8_spread_10 ?_
  refine ww_getR hX (pc := 13) fX8_43 (by decide) (xs_18 hL) (xr_18_0 hL) dX8_spread_13 ?_
  refine ww_getR hX (pc := 16) fX8_47 (by decide) (xs_1 hL) (xr_1_1 hL) dX8_spread_16 ?_
  refine ww_iload_n hX (pc := 19) dX8_spread_19 rfl ?_
  refine ww_iald hX (pc := 20) (xs_3 hL) (by decide) (by omega) (by omega) dX8_spread_20 ?_
  refine ww_nmI (fun v_21 hv_21 => ?_)
  refine ww_istore hX (pc := 21) (lv' := [some (kR (some 31)), some (kI a), some (kI b), some (kI m), some (kI e), some (kI g), some (kI v_21), none, none, none]) dX8_spread_21 (by decide) rfl rfl ?_
  refine ww_iconst hX (pc := 23) (x := 0) dX8_spread_23 rfl ?_
  refine ww_istore hX (pc := 24) (lv' := [some (kR (some 31)), some (kI a), some (kI b), some (kI m), some (kI e), some (kI g), some (kI v_21), some (kI 0), none, none]) dX8_spread_24 (by decide) rfl rfl ?_
  have hl_26 : ∀ (n_26 : Nat) (w : Int) (J2 : aI1), (Ia 1 6 - w).toNat = n_26 → (Kp 18 37 Ja J2 ∧ 0 ≤ w ∧ w ≤ Ia 1 6) → WW X 26 [some (kR (some 31)), some (kI a), some (kI b), some (kI m), some (kI e), some (kI g), some (kI v_21), some (kI w), none, none] [] I_6 J2 Ra Sa 0 0 := by
    intro n_26
    induction n_26 using Nat.strongRecOn with
    | ind n_26 ih_26 =>
      intro w J2 hm_26 hv_26
      have hq_26 := Sh0_i hm_26
      clear hm_26
      obtain ⟨kJ2, hw0, hw1⟩ := hv_26
      refine ww_iload hX (pc := 26) dX8_spread_26 rfl ?_
      refine ww_aload_n hX (pc := 28) dX8_spread_28 rfl ?_
      refine ww_getR hX (pc := 29) fX8_15 (by decide) (xs_31 hL) (xr_31_0 hL) dX8_spread_29 ?_
      refine ww_getR hX (pc := 32) fX8_43 (by decide) (xs_18 hL) (xr_18_0 hL) dX8_spread_32 ?_
      refine ww_getI hX (pc := 35) fX8_53 (by decide) (xs_1 hL) dX8_spread_35 ?_
      refine ww_icmp_ge hX (pc := 38) (tgt := 136) dX8_spread_38 (by decide) (fun h_38 => ?_) (fun h_38 => ?_)
      · simp only [w32_mod] at h_38
        refine rV hX (pc := 136) hT (Nat.le_refl 0) (Nat.le_refl 0) dX8_spread_136 ?_
        exact ⟨kI_6, kJ2, trivial⟩
      · simp only [w32_mod] at h_38
        refine ww_aload_n hX (pc := 41) dX8_spread_41 rfl ?_
        refine ww_getR hX (pc := 42) fX8_15 (by decide) (xs_31 hL) (xr_31_0 hL) dX8_spread_42 ?_
        refine ww_getR hX (pc := 45) fX8_57 (by decide) (xs_18 hL) (xr_18_3 hL) dX8_spread_45 ?_
        refine ww_iload hX (pc := 48) dX8_spread_48 rfl ?_
        refine ww_iald hX (pc := 50) (xs_21 hL) (by decide) (by omega) (by omega) dX8_spread_50 ?_
        refine ww_nmI (fun v_51 hv_51 => ?_)
        refine ww_istore hX (pc := 51) (lv' := [some (kR (some 31)), some (kI a), some (kI b), some (kI m), some (kI e), some (kI g), some (kI v_21), some (kI w), some (kI v_51), none]) dX8_spread_51 (by decide) rfl rfl ?_
        have hch := h_6.2.2 w.toNat (by omega)
        refine ww_iload hX (pc := 53) dX8_spread_53 rfl ?_
        refine ww_iload hX (pc := 55) dX8_spread_55 rfl ?_
        refine ww_icmp_eq hX (pc := 57) (tgt := 130) dX8_spread_57 (by decide) (fun h_57 => ?_) (fun h_57 => ?_)
        · simp only [w32_mod] at h_57
          refine ww_iinc hX (pc := 130) (lv' := [some (kR (some 31)), some (kI a), some (kI b), some (kI m), some (kI e), some (kI g), some (kI v_21), some (kI (w + 1)), some (kI v_51), none]) dX8_spread_130 rfl (by decide) rfl rfl ?_
          refine ww_goto hX (pc := 133) (tgt := 26) dX8_spread_133 (by decide) ?_
          refine ww_sub [some (kR (some 31)), some (kI a), some (kI b), some (kI m), some (kI e), some (kI g), some (kI v_21), some (kI (w + 1)), none, none] (aLe_s (aLe_s (aLe_s (aLe_s (aLe_s (aLe_s (aLe_s (aLe_s (aLe_n (aLe_n aLe_0)))))))))) ?_
          exact ih_26 _ (by have hm9 := Sh0_e hq_26; omega) (w + 1) J2 rfl ⟨kJ2, by omega, by omega⟩
        · simp only [w32_mod] at h_57
          refine ww_iload hX (pc := 60) dX8_spread_60 rfl ?_
          refine ww_iconst hX (pc := 62) (x := (-1)) dX8_spread_62 rfl ?_
          refine ww_icmp_ne hX (pc := 63) (tgt := 69) dX8_spread_63 (by decide) (fun h_63 => ?_) (fun h_63 => ?_)
          · simp only [w32_mod] at h_63
            refine ww_iconst hX (pc := 69) (x := 0) dX8_spread_69 rfl ?_
            refine ww_istore hX (pc := 70) (lv' := [some (kR (some 31)), some (kI a), some (kI b), some (kI m), some (kI e), some (kI g), some (kI v_21), some (kI w), some (kI v_51), some (kI 0)]) dX8_spread_70 (by decide) rfl rfl ?_
            have hl_72 : ∀ (n_72 : Nat) (u : Int) (J3 : aI1), (b - u).toNat = n_72 → (Kp 18 37 Ja J3 ∧ 0 ≤ u ∧ u ≤ b) → WW X 72 [some (kR (some 31)), some (kI a), some (kI b), some (kI m), some (kI e), some (kI g), some (kI v_21), some (kI w), some (kI v_51), some (kI u)] [] I_6 J3 Ra Sa 0 0 := by
              intro n_72
              induction n_72 using Nat.strongRecOn with
              | ind n_72 ih_72 =>
                intro u J3 hm_72 hv_72
                have hq_72 := Sh0_i hm_72
                clear hm_72
                obtain ⟨kJ3, hu0, hu1⟩ := hv_72
                refine ww_iload hX (pc := 72) dX8_spread_72 rfl ?_
                refine ww_iload_n hX (pc := 74) dX8_spread_74 rfl ?_
                refine ww_icmp_ge hX (pc := 75) (tgt := 130) dX8_spread_75 (by decide) (fun h_75 => ?_) (fun h_75 => ?_)
                · simp only [w32_mod] at h_75
                  refine ww_iinc hX (pc := 130) (lv' := [some (kR (some 31)), some (kI a), some (kI b), some (kI m), some (kI e), some (kI g), some (kI v_21), some (kI (w + 1)), some (kI v_51), some (kI u)]) dX8_spread_130 rfl (by decide) rfl rfl ?_
                  refine ww_goto hX (pc := 133) (tgt := 26) dX8_spread_133 (by decide) ?_
                  refine ww_sub [some (kR (some 31)), some (kI a), some (kI b), some (kI m), some (kI e), some (kI g), some (kI v_21), some (kI (w + 1)), none, none] (aLe_s (aLe_s (aLe_s (aLe_s (aLe_s (aLe_s (aLe_s (aLe_s (aLe_n (aLe_n aLe_0)))))))))) ?_
                  exact ih_26 _ (by have hm9 := Sh0_e hq_26; omega) (w + 1) J3 rfl ⟨kJ3, by omega, by omega⟩
                · simp only [w32_mod] at h_75
                  refine ww_iload hX (pc := 78) dX8_spread_78 rfl ?_
                  refine ww_iload hX (pc := 80) dX8_spread_80 rfl ?_
                  refine ww_icmp_ne hX (pc := 82) (tgt := 92) dX8_spread_82 (by decide) (fun h_82 => ?_) (fun h_82 => ?_)
                  · simp only [w32_mod] at h_82
                    refine ww_aload_n hX (pc := 92) dX8_spread_92 rfl ?_
                    refine ww_getR hX (pc := 93) fX8_9 (by decide) (xs_31 hL) (xr_31_1 hL) dX8_spread_93 ?_
                    refine ww_iload hX (pc := 96) dX8_spread_96 rfl ?_
                    refine ww_iconst hX (pc := 98) (x := 1) dX8_spread_98 rfl ?_
                    refine ww_iadd hX (pc := 99) dX8_spread_99 ?_
                    refine ww_sipush hX (pc := 100) (x := 256) dX8_spread_100 (by decide) ?_
                    refine ww_imul hX (pc := 103) dX8_spread_103 ?_
                    refine ww_iload hX (pc := 104) dX8_spread_104 rfl ?_
                    refine ww_iadd hX (pc := 106) dX8_spread_106 ?_
                    refine ww_dup2 hX (pc := 107) dX8_spread_107 ?_
                    refine ww_lald hX (pc := 108) (xs_32 hL) (by decide) (by omega) (by omega) dX8_spread_108 ?_
                    refine ww_aload_n hX (pc := 109) dX8_spread_109 rfl ?_
                    refine ww_getR hX (pc := 110) fX8_9 (by decide) (xs_31 hL) (xr_31_1 hL) dX8_spread_110 ?_
                    refine ww_iload hX (pc := 113) dX8_spread_113 rfl ?_
                    refine ww_sipush hX (pc := 115) (x := 256) dX8_spread_115 (by decide) ?_
                    refine ww_imul hX (pc := 118) dX8_spread_118 ?_
                    refine ww_iload_n hX (pc := 119) dX8_spread_119 rfl ?_
                    refine ww_iadd hX (pc := 120) dX8_spread_120 ?_
                    refine ww_lald hX (pc := 121) (xs_32 hL) (by decide) (by omega) (by omega) dX8_spread_121 ?_
                    refine ww_ladd hX (pc := 122) dX8_spread_122 ?_
                    refine ww_last hX (pc := 123) (xs_32 hL) (by decide) (by omega) (by omega) dX8_spread_123 ?_
                    refine ww_nmK (fun J_123 eJ_123 => ?_)
                    have kJ_123 : Kp 18 37 Ja J_123 := by rw [eJ_123]; exact Kp_up kJ3 _ _ (by decide)
                    refine ww_iinc hX (pc := 124) (lv' := [some (kR (some 31)), some (kI a), some (kI b), some (kI m), some (kI e), some (kI g), some (kI v_21), some (kI w), some (kI v_51), some (kI (u + 1))]) dX8_spread_124 rfl (by decide) rfl rfl ?_
                    refine ww_goto hX (pc := 127) (tgt := 72) dX8_spread_127 (by decide) ?_
                    exact ih_72 _ (by have hm9 := Sh0_e hq_72; omega) (u + 1) J_123 rfl ⟨kJ_123, by omega, by omega⟩
                  · simp only [w32_mod] at h_82
                    refine ww_iload hX (pc := 85) dX8_spread_85 rfl ?_
                    refine ww_iload hX (pc := 87) dX8_spread_87 rfl ?_
                    refine ww_icmp_ne hX (pc := 89) (tgt := 124) dX8_spread_89 (by decide) (fun h_89 => ?_) (fun h_89 => ?_)
                    · simp only [w32_mod] at h_89
                      refine ww_iinc hX (pc := 124) (lv' := [some (kR (some 31)), some (kI a), some (kI b), some (kI m), some (kI e), some (kI g), some (kI v_21), some (kI w), some (kI v_51), some (kI (u + 1))]) dX8_spread_124 rfl (by decide) rfl rfl ?_
                      refine ww_goto hX (pc := 127) (tgt := 72) dX8_spread_127 (by decide) ?_
                      exact ih_72 _ (by have hm9 := Sh0_e hq_72; omega) (u + 1) J3 rfl ⟨kJ3, by omega, by omega⟩
                    · simp only [w32_mod] at h_89
                      refine ww_aload_n hX (pc := 92) dX8_spread_92 rfl ?_
                      refine ww_getR hX (pc := 93) fX8_9 (by decide) (xs_31 hL) (xr_31_1 hL) dX8_spread_93 ?_
                      refine ww_iload hX (pc := 96) dX8_spread_96 rfl ?_
                      refine ww_iconst hX (pc := 98) (x := 1) dX8_spread_98 rfl ?_
                      refine ww_iadd hX (pc := 99) dX8_spread_99 ?_
                      refine ww_sipush hX (pc := 100) (x := 256) dX8_spread_100 (by decide) ?_
                      refine ww_imul hX (pc := 103) dX8_spread_103 ?_
                      refine ww_iload hX (pc := 104) dX8_spread_104 rfl ?_
                      refine ww_iadd hX (pc := 106) dX8_spread_106 ?_
                      refine ww_dup2 hX (pc := 107) dX8_spread_107 ?_
                      refine ww_lald hX (pc := 108) (xs_32 hL) (by decide) (by omega) (by omega) dX8_spread_108 ?_
                      refine ww_aload_n hX (pc := 109) dX8_spread_109 rfl ?_
                      refine ww_getR hX (pc := 110) fX8_9 (by decide) (xs_31 hL) (xr_31_1 hL) dX8_spread_110 ?_
                      refine ww_iload hX (pc := 113) dX8_spread_113 rfl ?_
                      refine ww_sipush hX (pc := 115) (x := 256) dX8_spread_115 (by decide) ?_
                      refine ww_imul hX (pc := 118) dX8_spread_118 ?_
                      refine ww_iload_n hX (pc := 119) dX8_spread_119 rfl ?_
                      refine ww_iadd hX (pc := 120) dX8_spread_120 ?_
                      refine ww_lald hX (pc := 121) (xs_32 hL) (by decide) (by omega) (by omega) dX8_spread_121 ?_
                      refine ww_ladd hX (pc := 122) dX8_spread_122 ?_
                      refine ww_last hX (pc := 123) (xs_32 hL) (by decide) (by omega) (by omega) dX8_spread_123 ?_
                      refine ww_nmK (fun J_123 eJ_123 => ?_)
                      have kJ_123 : Kp 18 37 Ja J_123 := by rw [eJ_123]; exact Kp_up kJ3 _ _ (by decide)
                      refine ww_iinc hX (pc := 124) (lv' := [some (kR (some 31)), some (kI a), some (kI b), some (kI m), some (kI e), some (kI g), some (kI v_21), some (kI w), some (kI v_51), some (kI (u + 1))]) dX8_spread_124 rfl (by decide) rfl rfl ?_
                      refine ww_goto hX (pc := 127) (tgt := 72) dX8_spread_127 (by decide) ?_
                      exact ih_72 _ (by have hm9 := Sh0_e hq_72; omega) (u + 1) J_123 rfl ⟨kJ_123, by omega, by omega⟩
            exact hl_72 _ 0 J2 rfl ⟨kJ2, by omega, by omega⟩
          · simp only [w32_mod] at h_63
            refine ww_goto hX (pc := 66) (tgt := 130) dX8_spread_66 (by decide) ?_
            refine ww_iinc hX (pc := 130) (lv' := [some (kR (some 31)), some (kI a), some (kI b), some (kI m), some (kI e), some (kI g), some (kI v_21), some (kI (w + 1)), some (kI v_51), none]) dX8_spread_130 rfl (by decide) rfl rfl ?_
            refine ww_goto hX (pc := 133) (tgt := 26) dX8_spread_133 (by decide) ?_
            refine ww_sub [some (kR (some 31)), some (kI a), some (kI b), some (kI m), some (kI e), some (kI g), some (kI v_21), some (kI (w + 1)), none, none] (aLe_s (aLe_s (aLe_s (aLe_s (aLe_s (aLe_s (aLe_s (aLe_s (aLe_n (aLe_n aLe_0)))))))))) ?_
            exact ih_26 _ (by have hm9 := Sh0_e hq_26; omega) (w + 1) J2 rfl ⟨kJ2, by omega, by omega⟩
  exact hl_26 _ 0 J_6 rfl ⟨kJ_6, by omega, by omega⟩
set_option maxHeartbeats 4000000 in
set_option maxRecDepth 20000 in
theorem c_X8_countRows (l0 : Launch) {Ia Ja : aI1} {Ra : aR1} {Sa : aS1} (hL : LY Ra Sa) (hI : XI Ia) {a b m e g : Int} (ha0 : 0 ≤ a) (ha1 : a ≤ 8) (hb0 : 0 ≤ b) (hb1 : b ≤ FU (Ia 1 5))  : CT l0 6 0 0 mX8_countRows [kR (some 31), kI a, kI b, kI m, kI e, kI g] Ia Ja Ra Sa (cJ (fun x I' J' => Kp 18 37 Ia I' ∧ Kp 18 37 Ja J' ∧ True) Ra Sa) := by
  refine ct_in pn_X8 (Nat.le_of_ble_eq_true rfl) (fun X hX hT hIn => ?_)
  have hX : aK l0 X cX8_countRows 7 RX8 (some .long) 6 0 0 := hX
  change WW X 0 [some (kR (some 31)), some (kI a), some (kI b), some (kI m), some (kI e), some (kI g), none] [] Ia Ja Ra Sa 0 0
  obtain ⟨hn1, hn2⟩ := hI.1
  obtain ⟨hk1, hk2⟩ := hI.2.1
  obtain ⟨hf1, hf2⟩ := hI.fu
  refine ww_aload_n hX (pc := 0) dX8_countRows_0 rfl ?_
  refine ww_getR hX (pc := 1) fX8_15 (by decide) (xs_31 hL) (xr_31_0 hL) dX8_countRows_1 ?_
  refine ww_iload_n hX (pc := 4) dX8_countRows_4 rfl ?_
  refine vV1 hX (pc := 5) sX8_19 (xs_18 hL) (c_X4_prepare l0 hL hI) (by decide) (Nat.le_refl 0) (Nat.le_refl 0) (Nat.le_of_ble_eq_true rfl) dX8_countRows_5 (fun I_5 J_5 h_5 => ?_)
  have kI_5 : Kp 18 37 Ia I_5 := Kp_tr (Kp_rf (a := 18) (b := 37)) (Kp_wd h_5.1 (by decide) (by decide))
  have kJ_5 : Kp 18 37 Ja J_5 := Kp_tr (Kp_rf (a := 18) (b := 37)) (Kp_wd h_5.2.1 (by decide) (by decide))
  have r1_5_I_5 : I_5 1 5 = Ia 1 5 := Kp_at kI_5 1 5 (by decide)
  have r1_6_I_5 : I_5 1 6 = Ia 1 6 := Kp_at kI_5 1 6 (by decide)
  have rf_I_5 : FU (I_5 1 5) = FU (Ia 1 5) := by rw [r1_5_I_5]
  refine ww_aload_n hX (pc := 8) dX8_countRows_8 rfl ?_
  refine ww_getR hX (pc := 9) fX8_9 (by decide) (xs_31 hL) (xr_31_1 hL) dX8_countRows_9 ?_
  refine ww_iconst hX (pc := 12) (x := 0) dX8_countRows_12 rfl ?_
  refine ww_iload_n hX (pc := 13) dX8_countRows_13 rfl ?_
  refine ww_iconst hX (pc := 14) (x := 1) dX8_countRows_14 rfl ?_
  refine ww_iadd hX (pc := 15) dX8_countRows_15 ?_
  refine ww_sipush hX (pc := 16) (x := 256) dX8_countRows_16 (by decide) ?_
  refine ww_imul hX (pc := 19) dX8_countRows_19 ?_
  refine ww_lconst hX (pc := 20) (x := 0) dX8_countRows_20 (by decide) ?_
  refine sV4 hX (pc := 21) sX8_25 (c_J7_fill_bad5a l0 (xs_32 hL) (by decide) (by omega) (by omega) (by omega)) (by decide) (Nat.le_refl 0) (Nat.le_refl 0) (Nat.le_of_ble_eq_true rfl) dX8_countRows_21 (fun I_21 J_21 h_21 => ?_)
  obtain ⟨rfl, eJ_21⟩ := h_21
  have kJ_21 : Kp 18 37 Ja J_21 := by rw [eJ_21]; exact Kp_upR kJ_5 _ (by decide)
  refine ww_aload_n hX (pc := 24) dX8_countRows_24 rfl ?_
  refine ww_getR hX (pc := 25) fX8_9 (by decide) (xs_31 hL) (xr_31_1 hL) dX8_countRows_25 ?_
  refine ww_iconst hX (pc := 28) (x := 0) dX8_countRows_28 rfl ?_
  refine ww_lconst hX (pc := 29) (x := 1) dX8_countRows_29 (by decide) ?_
  refine ww_last hX (pc := 30) (xs_32 hL) (by decide) (by omega) (by omega) dX8_countRows_30 ?_
  refine ww_nmK (fun J_30 eJ_30 => ?_)
  have kJ_30 : Kp 18 37 Ja J_30 := by rw [eJ_30]; exact Kp_up kJ_21 _ _ (by decide)
  refine ww_iconst hX (pc := 31) (x := 0) dX8_countRows_31 rfl ?_
  refine ww_istore hX (pc := 32) (lv' := [some (kR (some 31)), some (kI a), some (kI b), some (kI m), some (kI e), some (kI g), some (kI 0)]) dX8_countRows_32 (by decide) rfl rfl ?_
  have hl_34 : ∀ (n_34 : Nat) (q : Int) (I2 : aI1) (J2 : aI1), (b - q).toNat = n_34 → (Kp 18 37 Ia I2 ∧ Kp 18 37 Ja J2 ∧ (0 ≤ q ∧ q ≤ b)) → WW X 34 [some (kR (some 31)), some (kI a), some (kI b), some (kI m), some (kI e), some (kI g), some (kI q)] [] I2 J2 Ra Sa 0 0 := by
    intro n_34
    induction n_34 using Nat.strongRecOn with
    | ind n_34 ih_34 =>
      intro q I2 J2 hm_34 hv_34
      have hq_34 := Sh0_i hm_34
      clear hm_34
      obtain ⟨kI2, kJ2, hq⟩ := hv_34
      have r1_5_I2 : I2 1 5 = Ia 1 5 := Kp_at kI2 1 5 (by decide)
      have r1_6_I2 : I2 1 6 = Ia 1 6 := Kp_at kI2 1 6 (by decide)
      have rf_I2 : FU (I2 1 5) = FU (Ia 1 5) := by rw [r1_5_I2]
      refine ww_iload hX (pc := 34) dX8_countRows_34 rfl ?_
      refine ww_iload_n hX (pc := 36) dX8_countRows_36 rfl ?_
      refine ww_icmp_ge hX (pc := 37) (tgt := 77) dX8_countRows_37 (by decide) (fun h_37 => ?_) (fun h_37 => ?_)
      · simp only [w32_mod] at h_37
        refine ww_aload_n hX (pc := 77) dX8_countRows_77 rfl ?_
        refine ww_getR hX (pc := 78) fX8_9 (by decide) (xs_31 hL) (xr_31_1 hL) dX8_countRows_78 ?_
        refine ww_iload_n hX (pc := 81) dX8_countRows_81 rfl ?_
        refine ww_sipush hX (pc := 82) (x := 256) dX8_countRows_82 (by decide) ?_
        refine ww_imul hX (pc := 85) dX8_countRows_85 ?_
        refine ww_iload_n hX (pc := 86) dX8_countRows_86 rfl ?_
        refine ww_iadd hX (pc := 87) dX8_countRows_87 ?_
        refine ww_lald hX (pc := 88) (xs_32 hL) (by decide) (by omega) (by omega) dX8_countRows_88 ?_
        refine rJ hX (pc := 89) hT (Nat.le_refl 0) (Nat.le_refl 0) dX8_countRows_89 ?_
        exact ⟨kI2, kJ2, trivial⟩
      · simp only [w32_mod] at h_37
        refine ww_iload hX (pc := 40) dX8_countRows_40 rfl ?_
        refine ww_iload_n hX (pc := 42) dX8_countRows_42 rfl ?_
        refine ww_iand hX (pc := 43) dX8_countRows_43 ?_
        refine ww_iload hX (pc := 44) dX8_countRows_44 rfl ?_
        refine ww_icmp_ne hX (pc := 46) (tgt := 71) dX8_countRows_46 (by decide) (fun h_46 => ?_) (fun h_46 => ?_)
        · simp only [w32_mod] at h_46
          refine ww_iinc hX (pc := 71) (lv' := [some (kR (some 31)), some (kI a), some (kI b), some (kI m), some (kI e), some (kI g), some (kI (q + 1))]) dX8_countRows_71 rfl (by decide) rfl rfl ?_
          refine ww_goto hX (pc := 74) (tgt := 34) dX8_countRows_74 (by decide) ?_
          exact ih_34 _ (by have hm9 := Sh0_e hq_34; omega) (q + 1) I2 J2 rfl ⟨kI2, kJ2, ⟨by omega, by omega⟩⟩
        · simp only [w32_mod] at h_46
          refine ww_aload_n hX (pc := 49) dX8_countRows_49 rfl ?_
          refine ww_iload hX (pc := 50) dX8_countRows_50 rfl ?_
          refine ww_iload_n hX (pc := 52) dX8_countRows_52 rfl ?_
          refine vI2 hX (pc := 53) sX8_31 (xs_31 hL) (c_X8_isMet l0 hL (XI_kp hI kI2 (by decide)) (by omega) (by omega) (by omega) (by omega)) (by decide) (Nat.le_refl 0) (Nat.le_refl 0) (Nat.le_of_ble_eq_true rfl) dX8_countRows_53 (fun x_53 I_53 J_53 h_53 => ?_)
          obtain ⟨rfl, rfl, h_53⟩ := h_53
          refine ww_if_eq hX (pc := 56) (tgt := 71) dX8_countRows_56 (by decide) (fun h_56 => ?_) (fun h_56 => ?_)
          · simp only [w32_mod] at h_56
            refine ww_iinc hX (pc := 71) (lv' := [some (kR (some 31)), some (kI a), some (kI b), some (kI m), some (kI e), some (kI g), some (kI (q + 1))]) dX8_countRows_71 rfl (by decide) rfl rfl ?_
            refine ww_goto hX (pc := 74) (tgt := 34) dX8_countRows_74 (by decide) ?_
            exact ih_34 _ (by have hm9 := Sh0_e hq_34; omega) (q + 1) I2 J2 rfl ⟨kI2, kJ2, ⟨by omega, by omega⟩⟩
          · simp only [w32_mod] at h_56
            refine ww_aload_n hX (pc := 59) dX8_countRows_59 rfl ?_
            refine ww_iload hX (pc := 60) dX8_countRows_60 rfl ?_
            refine ww_iload_n hX (pc := 62) dX8_countRows_62 rfl ?_
            refine ww_iload_n hX (pc := 63) dX8_countRows_63 rfl ?_
            refine ww_iload hX (pc := 64) dX8_countRows_64 rfl ?_
            refine ww_iload hX (pc := 66) dX8_countRows_66 rfl ?_
            refine vV5 hX (pc := 68) sX8_35 (xs_31 hL) (c_X8_spread l0 hL (XI_kp hI kI2 (by decide)) (by omega) (by omega) (by omega) (by omega)) (by decide) (Nat.le_refl 0) (Nat.le_refl 0) (Nat.le_of_ble_eq_true rfl) dX8_countRows_68 (fun I_68 J_68 h_68 => ?_)
            have kI_68 : Kp 18 37 Ia I_68 := Kp_tr kI2 (Kp_wd h_68.1 (by decide) (by decide))
            have kJ_68 : Kp 18 37 Ja J_68 := Kp_tr kJ2 (Kp_wd h_68.2.1 (by decide) (by decide))
            have r1_5_I_68 : I_68 1 5 = Ia 1 5 := Kp_at kI_68 1 5 (by decide)
            have r1_6_I_68 : I_68 1 6 = Ia 1 6 := Kp_at kI_68 1 6 (by decide)
            have rf_I_68 : FU (I_68 1 5) = FU (Ia 1 5) := by rw [r1_5_I_68]
            refine ww_iinc hX (pc := 71) (lv' := [some (kR (some 31)), some (kI a), some (kI b), some (kI m), some (kI e), some (kI g), some (kI (q + 1))]) dX8_countRows_71 rfl (by decide) rfl rfl ?_
            refine ww_goto hX (pc := 74) (tgt := 34) dX8_countRows_74 (by decide) ?_
            exact ih_34 _ (by have hm9 := Sh0_e hq_34; omega) (q + 1) I_68 J_68 rfl ⟨kI_68, kJ_68, ⟨by omega, by omega⟩⟩
  exact hl_34 _ 0 I_5 J_30 rfl ⟨kI_5, kJ_30, ⟨by omega, by omega⟩⟩
set_option maxHeartbeats 4000000 in
set_option maxRecDepth 20000 in
theorem c_X3_goesOn (l0 : Launch) {Ia Ja : aI1} {Ra : aR1} {Sa : aS1} (hL : LY Ra Sa) (hI : XI Ia) {a b : Int} (ha0 : 0 ≤ a) (ha1 : a ≤ 255) (hb0 : 0 ≤ b) (hb1 : b < 16)  : CT l0 0 0 0 mX3_goesOn [kR (some 33), kI a, kI b] Ia Ja Ra Sa (cI (fun x I' J' => Ia = I' ∧ Ja = J' ∧ (x = 0 ∨ x = 1)) Ra Sa) := by
  refine ct_in pn_X3 (Nat.le_of_ble_eq_true rfl) (fun X hX hT hIn => ?_)
  have hX : aK l0 X cX3_goesOn 3 RX3 (some .boolean) 0 0 0 := hX
  change WW X 0 [some (kR (some 33)), some (kI a), some (kI b)] [] Ia Ja Ra Sa 0 0
  obtain ⟨hn1, hn2⟩ := hI.1
  obtain ⟨hk1, hk2⟩ := hI.2.1
  obtain ⟨hf1, hf2⟩ := hI.fu
  refine ww_aload_n hX (pc := 0) dX3_goesOn_0 rfl ?_
  refine ww_getR hX (pc := 1) fX3_32 (by decide) (xs_33 hL) (xr_33_5 hL) dX3_goesOn_1 ?_
  refine ww_getR hX (pc := 4) fX3_78 (by decide) (xs_1 hL) (xr_1_1 hL) dX3_goesOn_4 ?_
  refine ww_iload_n hX (pc := 7) dX3_goesOn_7 rfl ?_
  refine ww_iald hX (pc := 8) (xs_3 hL) (by decide) (by omega) (by omega) dX3_goesOn_8 ?_
  refine ww_aload_n hX (pc := 9) dX3_goesOn_9 rfl ?_
  refine ww_getR hX (pc := 10) fX3_32 (by decide) (xs_33 hL) (xr_33_5 hL) dX3_goesOn_10 ?_
  refine ww_getR hX (pc := 13) fX3_81 (by decide) (xs_1 hL) (xr_1_4 hL) dX3_goesOn_13 ?_
  refine ww_iload_n hX (pc := 16) dX3_goesOn_16 rfl ?_
  refine ww_iald hX (pc := 17) (xs_6 hL) (by decide) (by omega) (by omega) dX3_goesOn_17 ?_
  refine ww_icmp_ne hX (pc := 18) (tgt := 41) dX3_goesOn_18 (by decide) (fun h_18 => ?_) (fun h_18 => ?_)
  · simp only [w32_mod] at h_18
    refine ww_iconst hX (pc := 41) (x := 0) dX3_goesOn_41 rfl ?_
    refine rZ hX (pc := 42) hT (Nat.le_refl 0) (Nat.le_refl 0) dX3_goesOn_42 (by decide) ?_
    exact ⟨rfl, rfl, by omega⟩
  · simp only [w32_mod] at h_18
    refine ww_aload_n hX (pc := 21) dX3_goesOn_21 rfl ?_
    refine ww_getR hX (pc := 22) fX3_19 (by decide) (xs_33 hL) (xr_33_7 hL) dX3_goesOn_22 ?_
    refine ww_iload_n hX (pc := 25) dX3_goesOn_25 rfl ?_
    refine ww_iald hX (pc := 26) (xs_36 hL) (by decide) (by omega) (by omega) dX3_goesOn_26 ?_
    refine ww_iload_n hX (pc := 27) dX3_goesOn_27 rfl ?_
    refine ww_iconst hX (pc := 28) (x := 1) dX3_goesOn_28 rfl ?_
    refine ww_iadd hX (pc := 29) dX3_goesOn_29 ?_
    refine ww_ishr hX (pc := 30) dX3_goesOn_30 ?_
    refine ww_iconst hX (pc := 31) (x := 1) dX3_goesOn_31 rfl ?_
    refine ww_iand hX (pc := 32) dX3_goesOn_32 ?_
    refine ww_iconst hX (pc := 33) (x := 1) dX3_goesOn_33 rfl ?_
    refine ww_icmp_ne hX (pc := 34) (tgt := 41) dX3_goesOn_34 (by decide) (fun h_34 => ?_) (fun h_34 => ?_)
    · simp only [w32_mod] at h_34
      refine ww_iconst hX (pc := 41) (x := 0) dX3_goesOn_41 rfl ?_
      refine rZ hX (pc := 42) hT (Nat.le_refl 0) (Nat.le_refl 0) dX3_goesOn_42 (by decide) ?_
      exact ⟨rfl, rfl, by omega⟩
    · simp only [w32_mod] at h_34
      refine ww_iconst hX (pc := 37) (x := 1) dX3_goesOn_37 rfl ?_
      refine ww_goto hX (pc := 38) (tgt := 42) dX3_goesOn_38 (by decide) ?_
      refine rZ hX (pc := 42) hT (Nat.le_refl 0) (Nat.le_refl 0) dX3_goesOn_42 (by decide) ?_
      exact ⟨rfl, rfl, by omega⟩
set_option maxHeartbeats 4000000 in
set_option maxRecDepth 20000 in
theorem c_X3_spreadUp (l0 : Launch) {Ia Ja : aI1} {Ra : aR1} {Sa : aS1} (hL : LY Ra Sa) (hI : XI Ia) {a b : Int} (ha0 : 0 ≤ a) (ha1 : a ≤ 255) (hb0 : 0 ≤ b) (hb1 : b ≤ 255)  : CT l0 0 0 0 mX3_spreadUp [kR (some 33), kI a, kI b] Ia Ja Ra Sa (cV (fun I' J' => Kp 18 37 Ia I' ∧ Kp 18 37 Ja J' ∧ True) Ra Sa) := by
  refine ct_in pn_X3 (Nat.le_of_ble_eq_true rfl) (fun X hX hT hIn => ?_)
  have hX : aK l0 X cX3_spreadUp 4 RX3 none 0 0 0 := hX
  change WW X 0 [some (kR (some 33)), some (kI a), some (kI b), none] [] Ia Ja Ra Sa 0 0
  obtain ⟨hn1, hn2⟩ := hI.1
  obtain ⟨hk1, hk2⟩ := hI.2.1
  obtain ⟨hf1, hf2⟩ := hI.fu
  refine ww_aload_n hX (pc := 0) dX3_spreadUp_0 rfl ?_
  refine ww_getR hX (pc := 1) fX3_32 (by decide) (xs_33 hL) (xr_33_5 hL) dX3_spreadUp_1 ?_
  refine ww_getI hX (pc := 4) fX3_84 (by decide) (xs_1 hL) dX3_spreadUp_4 ?_
  refine ww_iload_n hX (pc := 7) dX3_spreadUp_7 rfl ?_
  refine ww_iand hX (pc := 8) dX3_spreadUp_8 ?_
  refine ww_if_eq hX (pc := 9) (tgt := 13) dX3_spreadUp_9 (by decide) (fun h_9 => ?_) (fun h_9 => ?_)
  · simp only [w32_mod] at h_9
    refine ww_iload_n hX (pc := 13) dX3_spreadUp_13 rfl ?_
    refine ww_istore_n hX (pc := 14) (lv' := [some (kR (some 33)), some (kI a), some (kI b), some (kI a)]) dX3_spreadUp_14 (by decide) rfl rfl ?_
    have hl_15 : ∀ (n_15 : Nat) (to : Int) (I2 : aI1) (J2 : aI1), (b + 1 - to).toNat = n_15 → (Kp 18 37 Ia I2 ∧ Kp 18 37 Ja J2 ∧ (0 ≤ to ∧ to < 2147483648)) → WW X 15 [some (kR (some 33)), some (kI a), some (kI b), some (kI to)] [] I2 J2 Ra Sa 0 0 := by
      intro n_15
      induction n_15 using Nat.strongRecOn with
      | ind n_15 ih_15 =>
        intro to I2 J2 hm_15 hv_15
        have hq_15 := Sh0_i hm_15
        clear hm_15
        obtain ⟨kI2, kJ2, hto⟩ := hv_15
        have r1_5_I2 : I2 1 5 = Ia 1 5 := Kp_at kI2 1 5 (by decide)
        have r1_6_I2 : I2 1 6 = Ia 1 6 := Kp_at kI2 1 6 (by decide)
        have rf_I2 : FU (I2 1 5) = FU (Ia 1 5) := by rw [r1_5_I2]
        refine ww_iload_n hX (pc := 15) dX3_spreadUp_15 rfl ?_
        refine ww_iload_n hX (pc := 16) dX3_spreadUp_16 rfl ?_
        refine ww_icmp_gt hX (pc := 17) (tgt := 46) dX3_spreadUp_17 (by decide) (fun h_17 => ?_) (fun h_17 => ?_)
        · simp only [w32_mod] at h_17
          refine rV hX (pc := 46) hT (Nat.le_refl 0) (Nat.le_refl 0) dX3_spreadUp_46 ?_
          exact ⟨kI2, kJ2, trivial⟩
        · simp only [w32_mod] at h_17
          have hxr := i_xor_256 (a := to) (b := a) (by omega) (by omega) (by omega) (by omega)
          refine ww_aload_n hX (pc := 20) dX3_spreadUp_20 rfl ?_
          refine ww_getR hX (pc := 21) fX3_15 (by decide) (xs_33 hL) (xr_33_6 hL) dX3_spreadUp_21 ?_
          refine ww_iload_n hX (pc := 24) dX3_spreadUp_24 rfl ?_
          refine ww_dup2 hX (pc := 25) dX3_spreadUp_25 ?_
          refine ww_lald hX (pc := 26) (xs_35 hL) (by decide) (by omega) (by omega) dX3_spreadUp_26 ?_
          refine ww_aload_n hX (pc := 27) dX3_spreadUp_27 rfl ?_
          refine ww_getR hX (pc := 28) fX3_15 (by decide) (xs_33 hL) (xr_33_6 hL) dX3_spreadUp_28 ?_
          refine ww_iload_n hX (pc := 31) dX3_spreadUp_31 rfl ?_
          refine ww_iload_n hX (pc := 32) dX3_spreadUp_32 rfl ?_
          refine ww_ixor hX (pc := 33) dX3_spreadUp_33 ?_
          refine ww_lald hX (pc := 34) (xs_35 hL) (by decide) (by omega) (by omega) dX3_spreadUp_34 ?_
          refine ww_ladd hX (pc := 35) dX3_spreadUp_35 ?_
          refine ww_last hX (pc := 36) (xs_35 hL) (by decide) (by omega) (by omega) dX3_spreadUp_36 ?_
          refine ww_nmK (fun J_36 eJ_36 => ?_)
          have kJ_36 : Kp 18 37 Ja J_36 := by rw [eJ_36]; exact Kp_up kJ2 _ _ (by decide)
          refine ww_iload_n hX (pc := 37) dX3_spreadUp_37 rfl ?_
          refine ww_iconst hX (pc := 38) (x := 1) dX3_spreadUp_38 rfl ?_
          refine ww_iadd hX (pc := 39) dX3_spreadUp_39 ?_
          refine ww_iload_n hX (pc := 40) dX3_spreadUp_40 rfl ?_
          refine ww_ior hX (pc := 41) dX3_spreadUp_41 ?_
          refine ww_nmI (fun v_42 hv_42 => ?_)
          refine ww_istore_n hX (pc := 42) (lv' := [some (kR (some 33)), some (kI a), some (kI b), some (kI v_42)]) dX3_spreadUp_42 (by decide) rfl rfl ?_
          refine ww_goto hX (pc := 43) (tgt := 15) dX3_spreadUp_43 (by decide) ?_
          have hor := i_or_ge (a := to + 1) (b := a) (by omega) (by omega) (by omega) (by omega)
          exact ih_15 _ (by have hm9 := Sh0_e hq_15; omega) v_42 I2 J_36 rfl ⟨kI2, kJ_36, ⟨by omega, by omega⟩⟩
    exact hl_15 _ a Ia Ja rfl ⟨(Kp_rf (a := 18) (b := 37)), (Kp_rf (a := 18) (b := 37)), ⟨by omega, by omega⟩⟩
  · simp only [w32_mod] at h_9
    refine rV hX (pc := 12) hT (Nat.le_refl 0) (Nat.le_refl 0) dX3_spreadUp_12 ?_
    exact ⟨(Kp_rf (a := 18) (b := 37)), (Kp_rf (a := 18) (b := 37)), trivial⟩
set_option maxHeartbeats 4000000 in
set_option maxRecDepth 20000 in
theorem c_X3_spreadDown (l0 : Launch) {Ia Ja : aI1} {Ra : aR1} {Sa : aS1} (hL : LY Ra Sa) (hI : XI Ia) {a b c : Int} (ha0 : 0 ≤ a) (ha1 : a ≤ 255) (hb0 : 0 ≤ b) (hb1 : b ≤ 255)  : CT l0 0 0 0 mX3_spreadDown [kR (some 33), kI a, kI b, kI c] Ia Ja Ra Sa (cV (fun I' J' => Kp 18 37 Ia I' ∧ Kp 18 37 Ja J' ∧ True) Ra Sa) := by
  refine ct_in pn_X3 (Nat.le_of_ble_eq_true rfl) (fun X hX hT hIn => ?_)
  have hX : aK l0 X cX3_spreadDown 5 RX3 none 0 0 0 := hX
  change WW X 0 [some (kR (some 33)), some (kI a), some (kI b), some (kI c), none] [] Ia Ja Ra Sa 0 0
  obtain ⟨hn1, hn2⟩ := hI.1
  obtain ⟨hk1, hk2⟩ := hI.2.1
  obtain ⟨hf1, hf2⟩ := hI.fu
  refine ww_aload_n hX (pc := 0) dX3_spreadDown_0 rfl ?_
  refine ww_getR hX (pc := 1) fX3_32 (by decide) (xs_33 hL) (xr_33_5 hL) dX3_spreadDown_1 ?_
  refine ww_getI hX (pc := 4) fX3_84 (by decide) (xs_1 hL) dX3_spreadDown_4 ?_
  refine ww_iload_n hX (pc := 7) dX3_spreadDown_7 rfl ?_
  refine ww_iand hX (pc := 8) dX3_spreadDown_8 ?_
  refine ww_if_eq hX (pc := 9) (tgt := 13) dX3_spreadDown_9 (by decide) (fun h_9 => ?_) (fun h_9 => ?_)
  · simp only [w32_mod] at h_9
    refine ww_iload_n hX (pc := 13) dX3_spreadDown_13 rfl ?_
    refine ww_istore hX (pc := 14) (lv' := [some (kR (some 33)), some (kI a), some (kI b), some (kI c), some (kI a)]) dX3_spreadDown_14 (by decide) rfl rfl ?_
    have hl_16 : ∀ (n_16 : Nat) (to : Int) (I2 : aI1) (J2 : aI1), (b + 1 - to).toNat = n_16 → (Kp 18 37 Ia I2 ∧ Kp 18 37 Ja J2 ∧ (0 ≤ to ∧ to < 2147483648)) → WW X 16 [some (kR (some 33)), some (kI a), some (kI b), some (kI c), some (kI to)] [] I2 J2 Ra Sa 0 0 := by
      intro n_16
      induction n_16 using Nat.strongRecOn with
      | ind n_16 ih_16 =>
        intro to I2 J2 hm_16 hv_16
        have hq_16 := Sh0_i hm_16
        clear hm_16
        obtain ⟨kI2, kJ2, hto⟩ := hv_16
        have r1_5_I2 : I2 1 5 = Ia 1 5 := Kp_at kI2 1 5 (by decide)
        have r1_6_I2 : I2 1 6 = Ia 1 6 := Kp_at kI2 1 6 (by decide)
        have rf_I2 : FU (I2 1 5) = FU (Ia 1 5) := by rw [r1_5_I2]
        refine ww_iload hX (pc := 16) dX3_spreadDown_16 rfl ?_
        refine ww_iload_n hX (pc := 18) dX3_spreadDown_18 rfl ?_
        refine ww_icmp_gt hX (pc := 19) (tgt := 54) dX3_spreadDown_19 (by decide) (fun h_19 => ?_) (fun h_19 => ?_)
        · simp only [w32_mod] at h_19
          refine rV hX (pc := 54) hT (Nat.le_refl 0) (Nat.le_refl 0) dX3_spreadDown_54 ?_
          exact ⟨kI2, kJ2, trivial⟩
        · simp only [w32_mod] at h_19
          have hxr := i_xor_256 (a := to) (b := a) (by omega) (by omega) (by omega) (by omega)
          refine ww_aload_n hX (pc := 22) dX3_spreadDown_22 rfl ?_
          refine ww_getR hX (pc := 23) fX3_19 (by decide) (xs_33 hL) (xr_33_7 hL) dX3_spreadDown_23 ?_
          refine ww_iload hX (pc := 26) dX3_spreadDown_26 rfl ?_
          refine ww_iload_n hX (pc := 28) dX3_spreadDown_28 rfl ?_
          refine ww_ixor hX (pc := 29) dX3_spreadDown_29 ?_
          refine ww_dup2 hX (pc := 30) dX3_spreadDown_30 ?_
          refine ww_iald hX (pc := 31) (xs_36 hL) (by decide) (by omega) (by omega) dX3_spreadDown_31 ?_
          refine ww_aload_n hX (pc := 32) dX3_spreadDown_32 rfl ?_
          refine ww_getR hX (pc := 33) fX3_19 (by decide) (xs_33 hL) (xr_33_7 hL) dX3_spreadDown_33 ?_
          refine ww_iload hX (pc := 36) dX3_spreadDown_36 rfl ?_
          refine ww_iald hX (pc := 38) (xs_36 hL) (by decide) (by omega) (by omega) dX3_spreadDown_38 ?_
          refine ww_iload_n hX (pc := 39) dX3_spreadDown_39 rfl ?_
          refine ww_iand hX (pc := 40) dX3_spreadDown_40 ?_
          refine ww_ior hX (pc := 41) dX3_spreadDown_41 ?_
          refine ww_iast hX (pc := 42) (xs_36 hL) (by decide) (by omega) (by omega) dX3_spreadDown_42 ?_
          refine ww_nmH (fun I_42 eI_42 => ?_)
          have kI_42 : Kp 18 37 Ia I_42 := by rw [eI_42]; exact Kp_up kI2 _ _ (by decide)
          have r1_5_I_42 : I_42 1 5 = Ia 1 5 := Kp_at kI_42 1 5 (by decide)
          have r1_6_I_42 : I_42 1 6 = Ia 1 6 := Kp_at kI_42 1 6 (by decide)
          have rf_I_42 : FU (I_42 1 5) = FU (Ia 1 5) := by rw [r1_5_I_42]
          refine ww_iload hX (pc := 43) dX3_spreadDown_43 rfl ?_
          refine ww_iconst hX (pc := 45) (x := 1) dX3_spreadDown_45 rfl ?_
          refine ww_iadd hX (pc := 46) dX3_spreadDown_46 ?_
          refine ww_iload_n hX (pc := 47) dX3_spreadDown_47 rfl ?_
          refine ww_ior hX (pc := 48) dX3_spreadDown_48 ?_
          refine ww_nmI (fun v_49 hv_49 => ?_)
          refine ww_istore hX (pc := 49) (lv' := [some (kR (some 33)), some (kI a), some (kI b), some (kI c), some (kI v_49)]) dX3_spreadDown_49 (by decide) rfl rfl ?_
          refine ww_goto hX (pc := 51) (tgt := 16) dX3_spreadDown_51 (by decide) ?_
          have hor := i_or_ge (a := to + 1) (b := a) (by omega) (by omega) (by omega) (by omega)
          exact ih_16 _ (by have hm9 := Sh0_e hq_16; omega) v_49 I_42 J2 rfl ⟨kI_42, kJ2, ⟨by omega, by omega⟩⟩
    exact hl_16 _ a Ia Ja rfl ⟨(Kp_rf (a := 18) (b := 37)), (Kp_rf (a := 18) (b := 37)), ⟨by omega, by omega⟩⟩
  · simp only [w32_mod] at h_9
    refine rV hX (pc := 12) hT (Nat.le_refl 0) (Nat.le_refl 0) dX3_spreadDown_12 ?_
    exact ⟨(Kp_rf (a := 18) (b := 37)), (Kp_rf (a := 18) (b := 37)), trivial⟩
set_option maxHeartbeats 4000000 in
set_option maxRecDepth 20000 in
theorem c_X3_countWays (l0 : Launch) {Ia Ja : aI1} {Ra : aR1} {Sa : aS1} (hL : LY Ra Sa) (hI : XI Ia)  : CT l0 1 0 0 mX3_countWays [kR (some 33)] Ia Ja Ra Sa (cV (fun I' J' => Kp 18 37 Ia I' ∧ Kp 18 37 Ja J' ∧ True) Ra Sa) := by
  refine ct_in pn_X3 (Nat.le_of_ble_eq_true rfl) (fun X hX hT hIn => ?_)
  have hX : aK l0 X cX3_countWays 4 RX3 none 1 0 0 := hX
  change WW X 0 [some (kR (some 33)), none, none, none] [] Ia Ja Ra Sa 0 0
  obtain ⟨hn1, hn2⟩ := hI.1
  obtain ⟨hk1, hk2⟩ := hI.2.1
  obtain ⟨hf1, hf2⟩ := hI.fu
  obtain ⟨hw1, hw2⟩ := hI.2.2.2.2.2.1
  refine ww_aload_n hX (pc := 0) dX3_countWays_0 rfl ?_
  refine ww_getR hX (pc := 1) fX3_15 (by decide) (xs_33 hL) (xr_33_6 hL) dX3_countWays_1 ?_
  refine ww_lconst hX (pc := 4) (x := 0) dX3_countWays_4 (by decide) ?_
  refine sV2 hX (pc := 5) sX3_56 (c_J7_fill_d0a16 l0 (xs_35 hL) (by decide)) (by decide) (Nat.le_refl 0) (Nat.le_refl 0) (Nat.le_of_ble_eq_true rfl) dX3_countWays_5 (fun I_5 J_5 h_5 => ?_)
  obtain ⟨rfl, eJ_5⟩ := h_5
  have kJ_5 : Kp 18 37 Ja J_5 := by rw [eJ_5]; exact Kp_upR (Kp_rf (a := 18) (b := 37)) _ (by decide)
  refine ww_aload_n hX (pc := 8) dX3_countWays_8 rfl ?_
  refine ww_getR hX (pc := 9) fX3_15 (by decide) (xs_33 hL) (xr_33_6 hL) dX3_countWays_9 ?_
  refine ww_iconst hX (pc := 12) (x := 0) dX3_countWays_12 rfl ?_
  refine ww_lconst hX (pc := 13) (x := 1) dX3_countWays_13 (by decide) ?_
  refine ww_last hX (pc := 14) (xs_35 hL) (by decide) (by omega) (by omega) dX3_countWays_14 ?_
  refine ww_nmK (fun J_14 eJ_14 => ?_)
  have kJ_14 : Kp 18 37 Ja J_14 := by rw [eJ_14]; exact Kp_up kJ_5 _ _ (by decide)
  refine ww_aload_n hX (pc := 15) dX3_countWays_15 rfl ?_
  refine ww_getR hX (pc := 16) fX3_32 (by decide) (xs_33 hL) (xr_33_5 hL) dX3_countWays_16 ?_
  refine vI0 hX (pc := 19) sX3_62 (xs_1 hL) (c_X1_full l0 hL hI) (by decide) (Nat.le_refl 0) (Nat.le_refl 0) (Nat.le_of_ble_eq_true rfl) dX3_countWays_19 (fun x_19 I_19 J_19 h_19 => ?_)
  obtain ⟨rfl, rfl, h_19⟩ := h_19
  refine ww_istore_n hX (pc := 22) (lv' := [some (kR (some 33)), some (kI x_19), none, none]) dX3_countWays_22 (by decide) rfl rfl ?_
  refine ww_iconst hX (pc := 23) (x := 0) dX3_countWays_23 rfl ?_
  refine ww_istore_n hX (pc := 24) (lv' := [some (kR (some 33)), some (kI x_19), some (kI 0), none]) dX3_countWays_24 (by decide) rfl rfl ?_
  have hl_25 : ∀ (n_25 : Nat) (i : Int) (I2 : aI1) (J2 : aI1), (Ia 1 11 - i).toNat = n_25 → (Kp 18 37 Ia I2 ∧ Kp 18 37 Ja J2 ∧ (0 ≤ i ∧ i ≤ Ia 1 11)) → WW X 25 [some (kR (some 33)), some (kI x_19), some (kI i), none] [] I2 J2 Ra Sa 0 0 := by
    intro n_25
    induction n_25 using Nat.strongRecOn with
    | ind n_25 ih_25 =>
      intro i I2 J2 hm_25 hv_25
      have hq_25 := Sh0_i hm_25
      clear hm_25
      obtain ⟨kI2, kJ2, hi⟩ := hv_25
      have r1_5_I2 : I2 1 5 = Ia 1 5 := Kp_at kI2 1 5 (by decide)
      have r1_6_I2 : I2 1 6 = Ia 1 6 := Kp_at kI2 1 6 (by decide)
      have r1_11_I2 : I2 1 11 = Ia 1 11 := Kp_at kI2 1 11 (by decide)
      have rf_I2 : FU (I2 1 5) = FU (Ia 1 5) := by rw [r1_5_I2]
      refine ww_iload_n hX (pc := 25) dX3_countWays_25 rfl ?_
      refine ww_aload_n hX (pc := 26) dX3_countWays_26 rfl ?_
      refine ww_getR hX (pc := 27) fX3_32 (by decide) (xs_33 hL) (xr_33_5 hL) dX3_countWays_27 ?_
      refine ww_getI hX (pc := 30) fX3_68 (by decide) (xs_1 hL) dX3_countWays_30 ?_
      refine ww_icmp_ge hX (pc := 33) (tgt := 110) dX3_countWays_33 (by decide) (fun h_33 => ?_) (fun h_33 => ?_)
      · simp only [w32_mod] at h_33
        refine rV hX (pc := 110) hT (Nat.le_refl 0) (Nat.le_refl 0) dX3_countWays_110 ?_
        exact ⟨kI2, kJ2, trivial⟩
      · simp only [w32_mod] at h_33
        refine ww_iconst hX (pc := 36) (x := 0) dX3_countWays_36 rfl ?_
        refine ww_istore_n hX (pc := 37) (lv' := [some (kR (some 33)), some (kI x_19), some (kI i), some (kI 0)]) dX3_countWays_37 (by decide) rfl rfl ?_
        have hl_38 : ∀ (n_38 : Nat) (la : Int) (I2 : aI1) (J2 : aI1), (Ia 1 5 - la).toNat = n_38 → (Kp 18 37 Ia I2 ∧ Kp 18 37 Ja J2 ∧ (0 ≤ la ∧ la ≤ Ia 1 5)) → WW X 38 [some (kR (some 33)), some (kI x_19), some (kI i), some (kI la)] [] I2 J2 Ra Sa 0 0 := by
          intro n_38
          induction n_38 using Nat.strongRecOn with
          | ind n_38 ih_38 =>
            intro la I2 J2 hm_38 hv_38
            have hq_38 := Sh0_i hm_38
            clear hm_38
            obtain ⟨kI2, kJ2, hla⟩ := hv_38
            have r1_5_I2 : I2 1 5 = Ia 1 5 := Kp_at kI2 1 5 (by decide)
            have r1_6_I2 : I2 1 6 = Ia 1 6 := Kp_at kI2 1 6 (by decide)
            have r1_11_I2 : I2 1 11 = Ia 1 11 := Kp_at kI2 1 11 (by decide)
            have rf_I2 : FU (I2 1 5) = FU (Ia 1 5) := by rw [r1_5_I2]
            refine ww_iload_n hX (pc := 38) dX3_countWays_38 rfl ?_
            refine ww_aload_n hX (pc := 39) dX3_countWays_39 rfl ?_
            refine ww_getR hX (pc := 40) fX3_32 (by decide) (xs_33 hL) (xr_33_5 hL) dX3_countWays_40 ?_
            refine ww_getI hX (pc := 43) fX3_71 (by decide) (xs_1 hL) dX3_countWays_43 ?_
            refine ww_icmp_ge hX (pc := 46) (tgt := 63) dX3_countWays_46 (by decide) (fun h_46 => ?_) (fun h_46 => ?_)
            · simp only [w32_mod] at h_46
              refine ww_iconst hX (pc := 63) (x := 0) dX3_countWays_63 rfl ?_
              refine ww_istore_n hX (pc := 64) (lv' := [some (kR (some 33)), some (kI x_19), some (kI i), some (kI 0)]) dX3_countWays_64 (by decide) rfl rfl ?_
              have hl_65 : ∀ (n_65 : Nat) (q : Int) (I2 : aI1) (J2 : aI1), (x_19 + 1 - q).toNat = n_65 → (Kp 18 37 Ia I2 ∧ Kp 18 37 Ja J2 ∧ (0 ≤ q ∧ q ≤ x_19 + 1)) → WW X 65 [some (kR (some 33)), some (kI x_19), some (kI i), some (kI q)] [] I2 J2 Ra Sa 0 0 := by
                intro n_65
                induction n_65 using Nat.strongRecOn with
                | ind n_65 ih_65 =>
                  intro q I2 J2 hm_65 hv_65
                  have hq_65 := Sh0_i hm_65
                  clear hm_65
                  obtain ⟨kI2, kJ2, hq⟩ := hv_65
                  have r1_5_I2 : I2 1 5 = Ia 1 5 := Kp_at kI2 1 5 (by decide)
                  have r1_6_I2 : I2 1 6 = Ia 1 6 := Kp_at kI2 1 6 (by decide)
                  have r1_11_I2 : I2 1 11 = Ia 1 11 := Kp_at kI2 1 11 (by decide)
                  have rf_I2 : FU (I2 1 5) = FU (Ia 1 5) := by rw [r1_5_I2]
                  refine ww_iload_n hX (pc := 65) dX3_countWays_65 rfl ?_
                  refine ww_iload_n hX (pc := 66) dX3_countWays_66 rfl ?_
                  refine ww_icmp_gt hX (pc := 67) (tgt := 104) dX3_countWays_67 (by decide) (fun h_67 => ?_) (fun h_67 => ?_)
                  · simp only [w32_mod] at h_67
                    refine ww_iinc hX (pc := 104) (lv' := [some (kR (some 33)), some (kI x_19), some (kI (i + 1)), some (kI q)]) dX3_countWays_104 rfl (by decide) rfl rfl ?_
                    refine ww_goto hX (pc := 107) (tgt := 25) dX3_countWays_107 (by decide) ?_
                    refine ww_sub [some (kR (some 33)), some (kI x_19), some (kI (i + 1)), none] (aLe_s (aLe_s (aLe_s (aLe_n aLe_0)))) ?_
                    exact ih_25 _ (by have hm9 := Sh0_e hq_25; omega) (i + 1) I2 J2 rfl ⟨kI2, kJ2, ⟨by omega, by omega⟩⟩
                  · simp only [w32_mod] at h_67
                    refine ww_aload_n hX (pc := 70) dX3_countWays_70 rfl ?_
                    refine ww_getR hX (pc := 71) fX3_32 (by decide) (xs_33 hL) (xr_33_5 hL) dX3_countWays_71 ?_
                    refine ww_getR hX (pc := 74) fX3_78 (by decide) (xs_1 hL) (xr_1_1 hL) dX3_countWays_74 ?_
                    refine ww_iload_n hX (pc := 77) dX3_countWays_77 rfl ?_
                    refine ww_iald hX (pc := 78) (xs_3 hL) (by decide) (by omega) (by omega) dX3_countWays_78 ?_
                    refine ww_aload_n hX (pc := 79) dX3_countWays_79 rfl ?_
                    refine ww_getR hX (pc := 80) fX3_32 (by decide) (xs_33 hL) (xr_33_5 hL) dX3_countWays_80 ?_
                    refine ww_getR hX (pc := 83) fX3_81 (by decide) (xs_1 hL) (xr_1_4 hL) dX3_countWays_83 ?_
                    refine ww_iload_n hX (pc := 86) dX3_countWays_86 rfl ?_
                    refine ww_iald hX (pc := 87) (xs_6 hL) (by decide) (by omega) (by omega) dX3_countWays_87 ?_
                    refine ww_icmp_eq hX (pc := 88) (tgt := 98) dX3_countWays_88 (by decide) (fun h_88 => ?_) (fun h_88 => ?_)
                    · simp only [w32_mod] at h_88
                      refine ww_iinc hX (pc := 98) (lv' := [some (kR (some 33)), some (kI x_19), some (kI i), some (kI (q + 1))]) dX3_countWays_98 rfl (by decide) rfl rfl ?_
                      refine ww_goto hX (pc := 101) (tgt := 65) dX3_countWays_101 (by decide) ?_
                      exact ih_65 _ (by have hm9 := Sh0_e hq_65; omega) (q + 1) I2 J2 rfl ⟨kI2, kJ2, ⟨by omega, by omega⟩⟩
                    · simp only [w32_mod] at h_88
                      refine ww_aload_n hX (pc := 91) dX3_countWays_91 rfl ?_
                      refine ww_getR hX (pc := 92) fX3_15 (by decide) (xs_33 hL) (xr_33_6 hL) dX3_countWays_92 ?_
                      refine ww_iload_n hX (pc := 95) dX3_countWays_95 rfl ?_
                      refine ww_lconst hX (pc := 96) (x := 0) dX3_countWays_96 (by decide) ?_
                      refine ww_last hX (pc := 97) (xs_35 hL) (by decide) (by omega) (by omega) dX3_countWays_97 ?_
                      refine ww_nmK (fun J_97 eJ_97 => ?_)
                      have kJ_97 : Kp 18 37 Ja J_97 := by rw [eJ_97]; exact Kp_up kJ2 _ _ (by decide)
                      refine ww_iinc hX (pc := 98) (lv' := [some (kR (some 33)), some (kI x_19), some (kI i), some (kI (q + 1))]) dX3_countWays_98 rfl (by decide) rfl rfl ?_
                      refine ww_goto hX (pc := 101) (tgt := 65) dX3_countWays_101 (by decide) ?_
                      exact ih_65 _ (by have hm9 := Sh0_e hq_65; omega) (q + 1) I2 J_97 rfl ⟨kI2, kJ_97, ⟨by omega, by omega⟩⟩
              exact hl_65 _ 0 I2 J2 rfl ⟨kI2, kJ2, ⟨by omega, by omega⟩⟩
            · simp only [w32_mod] at h_46
              have hbt := i_shl_128 (n := la) (by omega) (by omega)
              refine ww_aload_n hX (pc := 49) dX3_countWays_49 rfl ?_
              refine ww_iconst hX (pc := 50) (x := 1) dX3_countWays_50 rfl ?_
              refine ww_iload_n hX (pc := 51) dX3_countWays_51 rfl ?_
              refine ww_ishl hX (pc := 52) dX3_countWays_52 ?_
              refine ww_iload_n hX (pc := 53) dX3_countWays_53 rfl ?_
              refine vV2 hX (pc := 54) sX3_74 (xs_33 hL) (c_X3_spreadUp l0 hL (XI_kp hI kI2 (by decide)) (by omega) (by omega) (by omega) (by omega)) (by decide) (Nat.le_refl 0) (Nat.le_refl 0) (Nat.le_of_ble_eq_true rfl) dX3_countWays_54 (fun I_54 J_54 h_54 => ?_)
              have kI_54 : Kp 18 37 Ia I_54 := Kp_tr kI2 (Kp_wd h_54.1 (by decide) (by decide))
              have kJ_54 : Kp 18 37 Ja J_54 := Kp_tr kJ2 (Kp_wd h_54.2.1 (by decide) (by decide))
              have r1_5_I_54 : I_54 1 5 = Ia 1 5 := Kp_at kI_54 1 5 (by decide)
              have r1_6_I_54 : I_54 1 6 = Ia 1 6 := Kp_at kI_54 1 6 (by decide)
              have r1_11_I_54 : I_54 1 11 = Ia 1 11 := Kp_at kI_54 1 11 (by decide)
              have rf_I_54 : FU (I_54 1 5) = FU (Ia 1 5) := by rw [r1_5_I_54]
              refine ww_iinc hX (pc := 57) (lv' := [some (kR (some 33)), some (kI x_19), some (kI i), some (kI (la + 1))]) dX3_countWays_57 rfl (by decide) rfl rfl ?_
              refine ww_goto hX (pc := 60) (tgt := 38) dX3_countWays_60 (by decide) ?_
              exact ih_38 _ (by have hm9 := Sh0_e hq_38; omega) (la + 1) I_54 J_54 rfl ⟨kI_54, kJ_54, ⟨by omega, by omega⟩⟩
        exact hl_38 _ 0 I2 J2 rfl ⟨kI2, kJ2, ⟨by omega, by omega⟩⟩
  exact hl_25 _ 0 Ia J_14 rfl ⟨(Kp_rf (a := 18) (b := 37)), kJ_14, ⟨by omega, by omega⟩⟩
set_option maxHeartbeats 4000000 in
set_option maxRecDepth 20000 in
theorem c_X3_findLeast (l0 : Launch) {Ia Ja : aI1} {Ra : aR1} {Sa : aS1} (hL : LY Ra Sa) (hI : XI Ia)  : CT l0 1 0 0 mX3_findLeast [kR (some 33)] Ia Ja Ra Sa (cV (fun I' J' => Kp 18 37 Ia I' ∧ Kp 18 37 Ja J' ∧ True) Ra Sa) := by
  refine ct_in pn_X3 (Nat.le_of_ble_eq_true rfl) (fun X hX hT hIn => ?_)
  have hX : aK l0 X cX3_findLeast 6 RX3 none 1 0 0 := hX
  change WW X 0 [some (kR (some 33)), none, none, none, none, none] [] Ia Ja Ra Sa 0 0
  obtain ⟨hn1, hn2⟩ := hI.1
  obtain ⟨hk1, hk2⟩ := hI.2.1
  obtain ⟨hf1, hf2⟩ := hI.fu
  obtain ⟨hw1, hw2⟩ := hI.2.2.2.2.2.1
  refine ww_aload_n hX (pc := 0) dX3_findLeast_0 rfl ?_
  refine ww_iconst hX (pc := 1) (x := (-1)) dX3_findLeast_1 rfl ?_
  refine ww_putI hX (pc := 2) (fun h9 => absurd h9 (by decide)) gX3_46 rfl (xs_33 hL) dX3_findLeast_2 ?_
  refine ww_nmH (fun I_2 eI_2 => ?_)
  have kI_2 : Kp 18 37 Ia I_2 := by rw [eI_2]; exact Kp_up (Kp_rf (a := 18) (b := 37)) _ _ (by decide)
  have r1_5_I_2 : I_2 1 5 = Ia 1 5 := Kp_at kI_2 1 5 (by decide)
  have r1_6_I_2 : I_2 1 6 = Ia 1 6 := Kp_at kI_2 1 6 (by decide)
  have r1_11_I_2 : I_2 1 11 = Ia 1 11 := Kp_at kI_2 1 11 (by decide)
  have rf_I_2 : FU (I_2 1 5) = FU (Ia 1 5) := by rw [r1_5_I_2]
  refine ww_lconst hX (pc := 5) (x := 0) dX3_findLeast_5 (by decide) ?_
  refine ww_lstore_n hX (pc := 6) (lv' := [some (kR (some 33)), some (kL 0), none, none, none, none]) dX3_findLeast_6 (by decide) rfl rfl ?_
  refine ww_aload_n hX (pc := 7) dX3_findLeast_7 rfl ?_
  refine ww_getR hX (pc := 8) fX3_32 (by decide) (xs_33 hL) (xr_33_5 hL) dX3_findLeast_8 ?_
  refine vI0 hX (pc := 11) sX3_62 (xs_1 hL) (c_X1_full l0 hL (XI_kp hI kI_2 (by decide))) (by decide) (Nat.le_refl 0) (Nat.le_refl 0) (Nat.le_of_ble_eq_true rfl) dX3_findLeast_11 (fun x_11 I_11 J_11 h_11 => ?_)
  obtain ⟨rfl, rfl, h_11⟩ := h_11
  refine ww_istore_n hX (pc := 14) (lv' := [some (kR (some 33)), some (kL 0), none, some (kI x_11), none, none]) dX3_findLeast_14 (by decide) rfl rfl ?_
  refine ww_iconst hX (pc := 15) (x := 0) dX3_findLeast_15 rfl ?_
  refine ww_istore hX (pc := 16) (lv' := [some (kR (some 33)), some (kL 0), none, some (kI x_11), some (kI 0), none]) dX3_findLeast_16 (by decide) rfl rfl ?_
  have hl_18 : ∀ (n_18 : Nat) (tg : Int) (q : Int) (I2 : aI1) (J2 : aI1), (x_11 + 1 - q).toNat = n_18 → (Kp 18 37 Ia I2 ∧ Kp 18 37 Ja J2 ∧ (0 ≤ q ∧ q ≤ x_11 + 1)) → WW X 18 [some (kR (some 33)), some (kL tg), none, some (kI x_11), some (kI q), none] [] I2 J2 Ra Sa 0 0 := by
    intro n_18
    induction n_18 using Nat.strongRecOn with
    | ind n_18 ih_18 =>
      intro tg q I2 J2 hm_18 hv_18
      have hq_18 := Sh0_i hm_18
      clear hm_18
      obtain ⟨kI2, kJ2, hq⟩ := hv_18
      have r1_5_I2 : I2 1 5 = Ia 1 5 := Kp_at kI2 1 5 (by decide)
      have r1_6_I2 : I2 1 6 = Ia 1 6 := Kp_at kI2 1 6 (by decide)
      have r1_11_I2 : I2 1 11 = Ia 1 11 := Kp_at kI2 1 11 (by decide)
      have rf_I2 : FU (I2 1 5) = FU (Ia 1 5) := by rw [r1_5_I2]
      refine ww_iload hX (pc := 18) dX3_findLeast_18 rfl ?_
      refine ww_iload_n hX (pc := 20) dX3_findLeast_20 rfl ?_
      refine ww_icmp_gt hX (pc := 21) (tgt := 109) dX3_findLeast_21 (by decide) (fun h_21 => ?_) (fun h_21 => ?_)
      · simp only [w32_mod] at h_21
        refine ww_aload_n hX (pc := 109) dX3_findLeast_109 rfl ?_
        refine ww_lload_n hX (pc := 110) dX3_findLeast_110 rfl ?_
        refine ww_ldc2 hX (pc := 111) (x := 1000000000) dX3_findLeast_111 tb_1020 ?_
        refine ww_lmin hX (pc := 114) tb_1021 tb_1022 tb_13 tb_1023 (by decide) (Nat.le_refl 0) (Nat.le_refl 0) (Nat.le_of_ble_eq_true rfl) dX3_findLeast_114 ?_
        refine ww_l2i hX (pc := 117) dX3_findLeast_117 ?_
        refine ww_putI hX (pc := 118) (fun h9 => absurd h9 (by decide)) gX3_98 rfl (xs_33 hL) dX3_findLeast_118 ?_
        refine ww_nmH (fun I_118 eI_118 => ?_)
        have kI_118 : Kp 18 37 Ia I_118 := by rw [eI_118]; exact Kp_up kI2 _ _ (by decide)
        have r1_5_I_118 : I_118 1 5 = Ia 1 5 := Kp_at kI_118 1 5 (by decide)
        have r1_6_I_118 : I_118 1 6 = Ia 1 6 := Kp_at kI_118 1 6 (by decide)
        have r1_11_I_118 : I_118 1 11 = Ia 1 11 := Kp_at kI_118 1 11 (by decide)
        have rf_I_118 : FU (I_118 1 5) = FU (Ia 1 5) := by rw [r1_5_I_118]
        refine rV hX (pc := 121) hT (Nat.le_refl 0) (Nat.le_refl 0) dX3_findLeast_121 ?_
        exact ⟨kI_118, kJ2, trivial⟩
      · simp only [w32_mod] at h_21
        refine ww_aload_n hX (pc := 24) dX3_findLeast_24 rfl ?_
        refine ww_getR hX (pc := 25) fX3_22 (by decide) (xs_33 hL) (xr_33_4 hL) dX3_findLeast_25 ?_
        refine ww_getR hX (pc := 28) fX3_87 (by decide) (xs_18 hL) (xr_18_1 hL) dX3_findLeast_28 ?_
        refine ww_iload hX (pc := 31) dX3_findLeast_31 rfl ?_
        refine ww_iald hX (pc := 33) (xs_19 hL) (by decide) (by omega) (by omega) dX3_findLeast_33 ?_
        refine ww_nmI (fun v_34 hv_34 => ?_)
        refine ww_istore hX (pc := 34) (lv' := [some (kR (some 33)), some (kL tg), none, some (kI x_11), some (kI q), some (kI v_34)]) dX3_findLeast_34 (by decide) rfl rfl ?_
        refine ww_aload_n hX (pc := 36) dX3_findLeast_36 rfl ?_
        refine ww_getR hX (pc := 37) fX3_15 (by decide) (xs_33 hL) (xr_33_6 hL) dX3_findLeast_37 ?_
        refine ww_iload hX (pc := 40) dX3_findLeast_40 rfl ?_
        refine ww_lald hX (pc := 42) (xs_35 hL) (by decide) (by omega) (by omega) dX3_findLeast_42 ?_
        refine ww_lconst hX (pc := 43) (x := 0) dX3_findLeast_43 (by decide) ?_
        refine ww_lcmp hX (pc := 44) dX3_findLeast_44 ?_
        refine ww_if_eq hX (pc := 45) (tgt := 103) dX3_findLeast_45 (by decide) (fun h_45 => ?_) (fun h_45 => ?_)
        · simp only [w32_mod] at h_45
          refine ww_iinc hX (pc := 103) (lv' := [some (kR (some 33)), some (kL tg), none, some (kI x_11), some (kI (q + 1)), some (kI v_34)]) dX3_findLeast_103 rfl (by decide) rfl rfl ?_
          refine ww_goto hX (pc := 106) (tgt := 18) dX3_findLeast_106 (by decide) ?_
          refine ww_sub [some (kR (some 33)), some (kL tg), none, some (kI x_11), some (kI (q + 1)), none] (aLe_s (aLe_s (aLe_n (aLe_s (aLe_s (aLe_n aLe_0)))))) ?_
          exact ih_18 _ (by have hm9 := Sh0_e hq_18; omega) tg (q + 1) I2 J2 rfl ⟨kI2, kJ2, ⟨by omega, by omega⟩⟩
        · simp only [w32_mod] at h_45
          refine ww_aload_n hX (pc := 48) dX3_findLeast_48 rfl ?_
          refine ww_getI hX (pc := 49) fX3_46 (by decide) (xs_33 hL) dX3_findLeast_49 ?_
          refine ww_iconst hX (pc := 52) (x := (-1)) dX3_findLeast_52 rfl ?_
          refine ww_icmp_eq hX (pc := 53) (tgt := 68) dX3_findLeast_53 (by decide) (fun h_53 => ?_) (fun h_53 => ?_)
          · simp only [w32_mod] at h_53
            refine ww_iload hX (pc := 68) dX3_findLeast_68 rfl ?_
            refine ww_aload_n hX (pc := 70) dX3_findLeast_70 rfl ?_
            refine ww_getI hX (pc := 71) fX3_46 (by decide) (xs_33 hL) dX3_findLeast_71 ?_
            refine ww_icmp_ne hX (pc := 74) (tgt := 89) dX3_findLeast_74 (by decide) (fun h_74 => ?_) (fun h_74 => ?_)
            · simp only [w32_mod] at h_74
              refine ww_aload_n hX (pc := 89) dX3_findLeast_89 rfl ?_
              refine ww_getR hX (pc := 90) fX3_15 (by decide) (xs_33 hL) (xr_33_6 hL) dX3_findLeast_90 ?_
              refine ww_iload hX (pc := 93) dX3_findLeast_93 rfl ?_
              refine ww_lald hX (pc := 95) (xs_35 hL) (by decide) (by omega) (by omega) dX3_findLeast_95 ?_
              refine ww_nmL (fun v_96 hv_96 => ?_)
              refine ww_lstore_n hX (pc := 96) (lv' := [some (kR (some 33)), some (kL v_96), none, some (kI x_11), some (kI q), some (kI v_34)]) dX3_findLeast_96 (by decide) rfl rfl ?_
              refine ww_aload_n hX (pc := 97) dX3_findLeast_97 rfl ?_
              refine ww_iload hX (pc := 98) dX3_findLeast_98 rfl ?_
              refine ww_putI hX (pc := 100) (fun h9 => absurd h9 (by decide)) gX3_46 rfl (xs_33 hL) dX3_findLeast_100 ?_
              refine ww_nmH (fun I_100 eI_100 => ?_)
              have kI_100 : Kp 18 37 Ia I_100 := by rw [eI_100]; exact Kp_up kI2 _ _ (by decide)
              have r1_5_I_100 : I_100 1 5 = Ia 1 5 := Kp_at kI_100 1 5 (by decide)
              have r1_6_I_100 : I_100 1 6 = Ia 1 6 := Kp_at kI_100 1 6 (by decide)
              have r1_11_I_100 : I_100 1 11 = Ia 1 11 := Kp_at kI_100 1 11 (by decide)
              have rf_I_100 : FU (I_100 1 5) = FU (Ia 1 5) := by rw [r1_5_I_100]
              refine ww_iinc hX (pc := 103) (lv' := [some (kR (some 33)), some (kL v_96), none, some (kI x_11), some (kI (q + 1)), some (kI v_34)]) dX3_findLeast_103 rfl (by decide) rfl rfl ?_
              refine ww_goto hX (pc := 106) (tgt := 18) dX3_findLeast_106 (by decide) ?_
              refine ww_sub [some (kR (some 33)), some (kL v_96), none, some (kI x_11), some (kI (q + 1)), none] (aLe_s (aLe_s (aLe_n (aLe_s (aLe_s (aLe_n aLe_0)))))) ?_
              exact ih_18 _ (by have hm9 := Sh0_e hq_18; omega) v_96 (q + 1) I_100 J2 rfl ⟨kI_100, kJ2, ⟨by omega, by omega⟩⟩
            · simp only [w32_mod] at h_74
              refine ww_lload_n hX (pc := 77) dX3_findLeast_77 rfl ?_
              refine ww_aload_n hX (pc := 78) dX3_findLeast_78 rfl ?_
              refine ww_getR hX (pc := 79) fX3_15 (by decide) (xs_33 hL) (xr_33_6 hL) dX3_findLeast_79 ?_
              refine ww_iload hX (pc := 82) dX3_findLeast_82 rfl ?_
              refine ww_lald hX (pc := 84) (xs_35 hL) (by decide) (by omega) (by omega) dX3_findLeast_84 ?_
              refine ww_ladd hX (pc := 85) dX3_findLeast_85 ?_
              refine ww_goto hX (pc := 86) (tgt := 96) dX3_findLeast_86 (by decide) ?_
              refine ww_nmL (fun v_96 hv_96 => ?_)
              refine ww_lstore_n hX (pc := 96) (lv' := [some (kR (some 33)), some (kL v_96), none, some (kI x_11), some (kI q), some (kI v_34)]) dX3_findLeast_96 (by decide) rfl rfl ?_
              refine ww_aload_n hX (pc := 97) dX3_findLeast_97 rfl ?_
              refine ww_iload hX (pc := 98) dX3_findLeast_98 rfl ?_
              refine ww_putI hX (pc := 100) (fun h9 => absurd h9 (by decide)) gX3_46 rfl (xs_33 hL) dX3_findLeast_100 ?_
              refine ww_nmH (fun I_100 eI_100 => ?_)
              have kI_100 : Kp 18 37 Ia I_100 := by rw [eI_100]; exact Kp_up kI2 _ _ (by decide)
              have r1_5_I_100 : I_100 1 5 = Ia 1 5 := Kp_at kI_100 1 5 (by decide)
              have r1_6_I_100 : I_100 1 6 = Ia 1 6 := Kp_at kI_100 1 6 (by decide)
              have r1_11_I_100 : I_100 1 11 = Ia 1 11 := Kp_at kI_100 1 11 (by decide)
              have rf_I_100 : FU (I_100 1 5) = FU (Ia 1 5) := by rw [r1_5_I_100]
              refine ww_iinc hX (pc := 103) (lv' := [some (kR (some 33)), some (kL v_96), none, some (kI x_11), some (kI (q + 1)), some (kI v_34)]) dX3_findLeast_103 rfl (by decide) rfl rfl ?_
              refine ww_goto hX (pc := 106) (tgt := 18) dX3_findLeast_106 (by decide) ?_
              refine ww_sub [some (kR (some 33)), some (kL v_96), none, some (kI x_11), some (kI (q + 1)), none] (aLe_s (aLe_s (aLe_n (aLe_s (aLe_s (aLe_n aLe_0)))))) ?_
              exact ih_18 _ (by have hm9 := Sh0_e hq_18; omega) v_96 (q + 1) I_100 J2 rfl ⟨kI_100, kJ2, ⟨by omega, by omega⟩⟩
          · simp only [w32_mod] at h_53
            refine ww_iload hX (pc := 56) dX3_findLeast_56 rfl ?_
            refine ww_aload_n hX (pc := 58) dX3_findLeast_58 rfl ?_
            refine ww_getI hX (pc := 59) fX3_46 (by decide) (xs_33 hL) dX3_findLeast_59 ?_
            refine ww_icmp_le hX (pc := 62) (tgt := 68) dX3_findLeast_62 (by decide) (fun h_62 => ?_) (fun h_62 => ?_)
            · simp only [w32_mod] at h_62
              refine ww_iload hX (pc := 68) dX3_findLeast_68 rfl ?_
              refine ww_aload_n hX (pc := 70) dX3_findLeast_70 rfl ?_
              refine ww_getI hX (pc := 71) fX3_46 (by decide) (xs_33 hL) dX3_findLeast_71 ?_
              refine ww_icmp_ne hX (pc := 74) (tgt := 89) dX3_findLeast_74 (by decide) (fun h_74 => ?_) (fun h_74 => ?_)
              · simp only [w32_mod] at h_74
                refine ww_aload_n hX (pc := 89) dX3_findLeast_89 rfl ?_
                refine ww_getR hX (pc := 90) fX3_15 (by decide) (xs_33 hL) (xr_33_6 hL) dX3_findLeast_90 ?_
                refine ww_iload hX (pc := 93) dX3_findLeast_93 rfl ?_
                refine ww_lald hX (pc := 95) (xs_35 hL) (by decide) (by omega) (by omega) dX3_findLeast_95 ?_
                refine ww_nmL (fun v_96 hv_96 => ?_)
                refine ww_lstore_n hX (pc := 96) (lv' := [some (kR (some 33)), some (kL v_96), none, some (kI x_11), some (kI q), some (kI v_34)]) dX3_findLeast_96 (by decide) rfl rfl ?_
                refine ww_aload_n hX (pc := 97) dX3_findLeast_97 rfl ?_
                refine ww_iload hX (pc := 98) dX3_findLeast_98 rfl ?_
                refine ww_putI hX (pc := 100) (fun h9 => absurd h9 (by decide)) gX3_46 rfl (xs_33 hL) dX3_findLeast_100 ?_
                refine ww_nmH (fun I_100 eI_100 => ?_)
                have kI_100 : Kp 18 37 Ia I_100 := by rw [eI_100]; exact Kp_up kI2 _ _ (by decide)
                have r1_5_I_100 : I_100 1 5 = Ia 1 5 := Kp_at kI_100 1 5 (by decide)
                have r1_6_I_100 : I_100 1 6 = Ia 1 6 := Kp_at kI_100 1 6 (by decide)
                have r1_11_I_100 : I_100 1 11 = Ia 1 11 := Kp_at kI_100 1 11 (by decide)
                have rf_I_100 : FU (I_100 1 5) = FU (Ia 1 5) := by rw [r1_5_I_100]
                refine ww_iinc hX (pc := 103) (lv' := [some (kR (some 33)), some (kL v_96), none, some (kI x_11), some (kI (q + 1)), some (kI v_34)]) dX3_findLeast_103 rfl (by decide) rfl rfl ?_
                refine ww_goto hX (pc := 106) (tgt := 18) dX3_findLeast_106 (by decide) ?_
                refine ww_sub [some (kR (some 33)), some (kL v_96), none, some (kI x_11), some (kI (q + 1)), none] (aLe_s (aLe_s (aLe_n (aLe_s (aLe_s (aLe_n aLe_0)))))) ?_
                exact ih_18 _ (by have hm9 := Sh0_e hq_18; omega) v_96 (q + 1) I_100 J2 rfl ⟨kI_100, kJ2, ⟨by omega, by omega⟩⟩
              · simp only [w32_mod] at h_74
                refine ww_lload_n hX (pc := 77) dX3_findLeast_77 rfl ?_
                refine ww_aload_n hX (pc := 78) dX3_findLeast_78 rfl ?_
                refine ww_getR hX (pc := 79) fX3_15 (by decide) (xs_33 hL) (xr_33_6 hL) dX3_findLeast_79 ?_
                refine ww_iload hX (pc := 82) dX3_findLeast_82 rfl ?_
                refine ww_lald hX (pc := 84) (xs_35 hL) (by decide) (by omega) (by omega) dX3_findLeast_84 ?_
                refine ww_ladd hX (pc := 85) dX3_findLeast_85 ?_
                refine ww_goto hX (pc := 86) (tgt := 96) dX3_findLeast_86 (by decide) ?_
                refine ww_nmL (fun v_96 hv_96 => ?_)
                refine ww_lstore_n hX (pc := 96) (lv' := [some (kR (some 33)), some (kL v_96), none, some (kI x_11), some (kI q), some (kI v_34)]) dX3_findLeast_96 (by decide) rfl rfl ?_
                refine ww_aload_n hX (pc := 97) dX3_findLeast_97 rfl ?_
                refine ww_iload hX (pc := 98) dX3_findLeast_98 rfl ?_
                refine ww_putI hX (pc := 100) (fun h9 => absurd h9 (by decide)) gX3_46 rfl (xs_33 hL) dX3_findLeast_100 ?_
                refine ww_nmH (fun I_100 eI_100 => ?_)
                have kI_100 : Kp 18 37 Ia I_100 := by rw [eI_100]; exact Kp_up kI2 _ _ (by decide)
                have r1_5_I_100 : I_100 1 5 = Ia 1 5 := Kp_at kI_100 1 5 (by decide)
                have r1_6_I_100 : I_100 1 6 = Ia 1 6 := Kp_at kI_100 1 6 (by decide)
                have r1_11_I_100 : I_100 1 11 = Ia 1 11 := Kp_at kI_100 1 11 (by decide)
                have rf_I_100 : FU (I_100 1 5) = FU (Ia 1 5) := by rw [r1_5_I_100]
                refine ww_iinc hX (pc := 103) (lv' := [some (kR (some 33)), some (kL v_96), none, some (kI x_11), some (kI (q + 1)), some (kI v_34)]) dX3_findLeast_103 rfl (by decide) rfl rfl ?_
                refine ww_goto hX (pc := 106) (tgt := 18) dX3_findLeast_106 (by decide) ?_
                refine ww_sub [some (kR (some 33)), some (kL v_96), none, some (kI x_11), some (kI (q + 1)), none] (aLe_s (aLe_s (aLe_n (aLe_s (aLe_s (aLe_n aLe_0)))))) ?_
                exact ih_18 _ (by have hm9 := Sh0_e hq_18; omega) v_96 (q + 1) I_100 J2 rfl ⟨kI_100, kJ2, ⟨by omega, by omega⟩⟩
            · simp only [w32_mod] at h_62
              refine ww_goto hX (pc := 65) (tgt := 103) dX3_findLeast_65 (by decide) ?_
              refine ww_iinc hX (pc := 103) (lv' := [some (kR (some 33)), some (kL tg), none, some (kI x_11), some (kI (q + 1)), some (kI v_34)]) dX3_findLeast_103 rfl (by decide) rfl rfl ?_
              refine ww_goto hX (pc := 106) (tgt := 18) dX3_findLeast_106 (by decide) ?_
              refine ww_sub [some (kR (some 33)), some (kL tg), none, some (kI x_11), some (kI (q + 1)), none] (aLe_s (aLe_s (aLe_n (aLe_s (aLe_s (aLe_n aLe_0)))))) ?_
              exact ih_18 _ (by have hm9 := Sh0_e hq_18; omega) tg (q + 1) I2 J2 rfl ⟨kI2, kJ2, ⟨by omega, by omega⟩⟩
  exact hl_18 _ 0 0 I_2 Ja rfl ⟨kI_2, (Kp_rf (a := 18) (b := 37)), ⟨by omega, by omega⟩⟩
set_option maxHeartbeats 4000000 in
set_option maxRecDepth 20000 in
theorem c_X3_findOpen (l0 : Launch) {Ia Ja : aI1} {Ra : aR1} {Sa : aS1} (hL : LY Ra Sa) (hI : XI Ia)  : CT l0 1 0 0 mX3_findOpen [kR (some 33)] Ia Ja Ra Sa (cV (fun I' J' => Kp 18 37 Ia I' ∧ Kp 18 37 Ja J' ∧ True) Ra Sa) := by
  refine ct_in pn_X3 (Nat.le_of_ble_eq_true rfl) (fun X hX hT hIn => ?_)
  have hX : aK l0 X cX3_findOpen 4 RX3 none 1 0 0 := hX
  change WW X 0 [some (kR (some 33)), none, none, none] [] Ia Ja Ra Sa 0 0
  obtain ⟨hn1, hn2⟩ := hI.1
  obtain ⟨hk1, hk2⟩ := hI.2.1
  obtain ⟨hf1, hf2⟩ := hI.fu
  obtain ⟨hw1, hw2⟩ := hI.2.2.2.2.2.1
  refine ww_aload_n hX (pc := 0) dX3_findOpen_0 rfl ?_
  refine ww_getR hX (pc := 1) fX3_32 (by decide) (xs_33 hL) (xr_33_5 hL) dX3_findOpen_1 ?_
  refine vI0 hX (pc := 4) sX3_62 (xs_1 hL) (c_X1_full l0 hL hI) (by decide) (Nat.le_refl 0) (Nat.le_refl 0) (Nat.le_of_ble_eq_true rfl) dX3_findOpen_4 (fun x_4 I_4 J_4 h_4 => ?_)
  obtain ⟨rfl, rfl, h_4⟩ := h_4
  refine ww_istore_n hX (pc := 7) (lv' := [some (kR (some 33)), some (kI x_4), none, none]) dX3_findOpen_7 (by decide) rfl rfl ?_
  refine ww_iconst hX (pc := 8) (x := 0) dX3_findOpen_8 rfl ?_
  refine ww_istore_n hX (pc := 9) (lv' := [some (kR (some 33)), some (kI x_4), some (kI 0), none]) dX3_findOpen_9 (by decide) rfl rfl ?_
  have hl_10 : ∀ (n_10 : Nat) (q : Int) (I2 : aI1) (J2 : aI1), (x_4 + 1 - q).toNat = n_10 → (Kp 18 37 Ia I2 ∧ Kp 18 37 Ja J2 ∧ (0 ≤ q ∧ q ≤ x_4 + 1)) → WW X 10 [some (kR (some 33)), some (kI x_4), some (kI q), none] [] I2 J2 Ra Sa 0 0 := by
    intro n_10
    induction n_10 using Nat.strongRecOn with
    | ind n_10 ih_10 =>
      intro q I2 J2 hm_10 hv_10
      have hq_10 := Sh0_i hm_10
      clear hm_10
      obtain ⟨kI2, kJ2, hq⟩ := hv_10
      have r1_5_I2 : I2 1 5 = Ia 1 5 := Kp_at kI2 1 5 (by decide)
      have r1_6_I2 : I2 1 6 = Ia 1 6 := Kp_at kI2 1 6 (by decide)
      have r1_11_I2 : I2 1 11 = Ia 1 11 := Kp_at kI2 1 11 (by decide)
      have rf_I2 : FU (I2 1 5) = FU (Ia 1 5) := by rw [r1_5_I2]
      refine ww_iload_n hX (pc := 10) dX3_findOpen_10 rfl ?_
      refine ww_iload_n hX (pc := 11) dX3_findOpen_11 rfl ?_
      refine ww_icmp_gt hX (pc := 12) (tgt := 56) dX3_findOpen_12 (by decide) (fun h_12 => ?_) (fun h_12 => ?_)
      · simp only [w32_mod] at h_12
        refine ww_aload_n hX (pc := 56) dX3_findOpen_56 rfl ?_
        refine ww_getR hX (pc := 57) fX3_32 (by decide) (xs_33 hL) (xr_33_5 hL) dX3_findOpen_57 ?_
        refine ww_getI hX (pc := 60) fX3_68 (by decide) (xs_1 hL) dX3_findOpen_60 ?_
        refine ww_iconst hX (pc := 63) (x := 1) dX3_findOpen_63 rfl ?_
        refine ww_isub hX (pc := 64) dX3_findOpen_64 ?_
        refine ww_nmI (fun v_65 hv_65 => ?_)
        refine ww_istore_n hX (pc := 65) (lv' := [some (kR (some 33)), some (kI x_4), some (kI v_65), none]) dX3_findOpen_65 (by decide) rfl rfl ?_
        have hl_66 : ∀ (n_66 : Nat) (i : Int) (I2 : aI1) (J2 : aI1), (i + 1).toNat = n_66 → (Kp 18 37 Ia I2 ∧ Kp 18 37 Ja J2 ∧ (-1 ≤ i ∧ i ≤ 15)) → WW X 66 [some (kR (some 33)), some (kI x_4), some (kI i), none] [] I2 J2 Ra Sa 0 0 := by
          intro n_66
          induction n_66 using Nat.strongRecOn with
          | ind n_66 ih_66 =>
            intro i I2 J2 hm_66 hv_66
            have hq_66 := Sh0_i hm_66
            clear hm_66
            obtain ⟨kI2, kJ2, hi⟩ := hv_66
            have r1_5_I2 : I2 1 5 = Ia 1 5 := Kp_at kI2 1 5 (by decide)
            have r1_6_I2 : I2 1 6 = Ia 1 6 := Kp_at kI2 1 6 (by decide)
            have r1_11_I2 : I2 1 11 = Ia 1 11 := Kp_at kI2 1 11 (by decide)
            have rf_I2 : FU (I2 1 5) = FU (Ia 1 5) := by rw [r1_5_I2]
            refine ww_iload_n hX (pc := 66) dX3_findOpen_66 rfl ?_
            refine ww_iconst hX (pc := 67) (x := 1) dX3_findOpen_67 rfl ?_
            refine ww_icmp_lt hX (pc := 68) (tgt := 145) dX3_findOpen_68 (by decide) (fun h_68 => ?_) (fun h_68 => ?_)
            · simp only [w32_mod] at h_68
              refine rV hX (pc := 145) hT (Nat.le_refl 0) (Nat.le_refl 0) dX3_findOpen_145 ?_
              exact ⟨kI2, kJ2, trivial⟩
            · simp only [w32_mod] at h_68
              refine ww_iconst hX (pc := 71) (x := 0) dX3_findOpen_71 rfl ?_
              refine ww_istore_n hX (pc := 72) (lv' := [some (kR (some 33)), some (kI x_4), some (kI i), some (kI 0)]) dX3_findOpen_72 (by decide) rfl rfl ?_
              have hl_73 : ∀ (n_73 : Nat) (q : Int) (I2 : aI1) (J2 : aI1), (x_4 + 1 - q).toNat = n_73 → (Kp 18 37 Ia I2 ∧ Kp 18 37 Ja J2 ∧ (0 ≤ q ∧ q ≤ x_4 + 1)) → WW X 73 [some (kR (some 33)), some (kI x_4), some (kI i), some (kI q)] [] I2 J2 Ra Sa 0 0 := by
                intro n_73
                induction n_73 using Nat.strongRecOn with
                | ind n_73 ih_73 =>
                  intro q I2 J2 hm_73 hv_73
                  have hq_73 := Sh0_i hm_73
                  clear hm_73
                  obtain ⟨kI2, kJ2, hq⟩ := hv_73
                  have r1_5_I2 : I2 1 5 = Ia 1 5 := Kp_at kI2 1 5 (by decide)
                  have r1_6_I2 : I2 1 6 = Ia 1 6 := Kp_at kI2 1 6 (by decide)
                  have r1_11_I2 : I2 1 11 = Ia 1 11 := Kp_at kI2 1 11 (by decide)
                  have rf_I2 : FU (I2 1 5) = FU (Ia 1 5) := by rw [r1_5_I2]
                  refine ww_iload_n hX (pc := 73) dX3_findOpen_73 rfl ?_
                  refine ww_iload_n hX (pc := 74) dX3_findOpen_74 rfl ?_
                  refine ww_icmp_gt hX (pc := 75) (tgt := 109) dX3_findOpen_75 (by decide) (fun h_75 => ?_) (fun h_75 => ?_)
                  · simp only [w32_mod] at h_75
                    refine ww_iconst hX (pc := 109) (x := 0) dX3_findOpen_109 rfl ?_
                    refine ww_istore_n hX (pc := 110) (lv' := [some (kR (some 33)), some (kI x_4), some (kI i), some (kI 0)]) dX3_findOpen_110 (by decide) rfl rfl ?_
                    have hl_111 : ∀ (n_111 : Nat) (la : Int) (I2 : aI1) (J2 : aI1), (Ia 1 5 - la).toNat = n_111 → (Kp 18 37 Ia I2 ∧ Kp 18 37 Ja J2 ∧ (0 ≤ la ∧ la ≤ Ia 1 5)) → WW X 111 [some (kR (some 33)), some (kI x_4), some (kI i), some (kI la)] [] I2 J2 Ra Sa 0 0 := by
                      intro n_111
                      induction n_111 using Nat.strongRecOn with
                      | ind n_111 ih_111 =>
                        intro la I2 J2 hm_111 hv_111
                        have hq_111 := Sh0_i hm_111
                        clear hm_111
                        obtain ⟨kI2, kJ2, hla⟩ := hv_111
                        have r1_5_I2 : I2 1 5 = Ia 1 5 := Kp_at kI2 1 5 (by decide)
                        have r1_6_I2 : I2 1 6 = Ia 1 6 := Kp_at kI2 1 6 (by decide)
                        have r1_11_I2 : I2 1 11 = Ia 1 11 := Kp_at kI2 1 11 (by decide)
                        have rf_I2 : FU (I2 1 5) = FU (Ia 1 5) := by rw [r1_5_I2]
                        refine ww_iload_n hX (pc := 111) dX3_findOpen_111 rfl ?_
                        refine ww_aload_n hX (pc := 112) dX3_findOpen_112 rfl ?_
                        refine ww_getR hX (pc := 113) fX3_32 (by decide) (xs_33 hL) (xr_33_5 hL) dX3_findOpen_113 ?_
                        refine ww_getI hX (pc := 116) fX3_71 (by decide) (xs_1 hL) dX3_findOpen_116 ?_
                        refine ww_icmp_ge hX (pc := 119) (tgt := 139) dX3_findOpen_119 (by decide) (fun h_119 => ?_) (fun h_119 => ?_)
                        · simp only [w32_mod] at h_119
                          refine ww_iinc hX (pc := 139) (lv' := [some (kR (some 33)), some (kI x_4), some (kI (i + (-1))), some (kI la)]) dX3_findOpen_139 rfl (by decide) rfl rfl ?_
                          refine ww_goto hX (pc := 142) (tgt := 66) dX3_findOpen_142 (by decide) ?_
                          refine ww_sub [some (kR (some 33)), some (kI x_4), some (kI (i + (-1))), none] (aLe_s (aLe_s (aLe_s (aLe_n aLe_0)))) ?_
                          exact ih_66 _ (by have hm9 := Sh0_e hq_66; omega) (i + (-1)) I2 J2 rfl ⟨kI2, kJ2, ⟨by omega, by omega⟩⟩
                        · simp only [w32_mod] at h_119
                          have hbt := i_shl_128 (n := la) (by omega) (by omega)
                          refine ww_aload_n hX (pc := 122) dX3_findOpen_122 rfl ?_
                          refine ww_iconst hX (pc := 123) (x := 1) dX3_findOpen_123 rfl ?_
                          refine ww_iload_n hX (pc := 124) dX3_findOpen_124 rfl ?_
                          refine ww_ishl hX (pc := 125) dX3_findOpen_125 ?_
                          refine ww_iload_n hX (pc := 126) dX3_findOpen_126 rfl ?_
                          refine ww_iconst hX (pc := 127) (x := 1) dX3_findOpen_127 rfl ?_
                          refine ww_iload_n hX (pc := 128) dX3_findOpen_128 rfl ?_
                          refine ww_ishl hX (pc := 129) dX3_findOpen_129 ?_
                          refine vV3 hX (pc := 130) sX3_105 (xs_33 hL) (c_X3_spreadDown l0 hL (XI_kp hI kI2 (by decide)) (by omega) (by omega) (by omega) (by omega)) (by decide) (Nat.le_refl 0) (Nat.le_refl 0) (Nat.le_of_ble_eq_true rfl) dX3_findOpen_130 (fun I_130 J_130 h_130 => ?_)
                          have kI_130 : Kp 18 37 Ia I_130 := Kp_tr kI2 (Kp_wd h_130.1 (by decide) (by decide))
                          have kJ_130 : Kp 18 37 Ja J_130 := Kp_tr kJ2 (Kp_wd h_130.2.1 (by decide) (by decide))
                          have r1_5_I_130 : I_130 1 5 = Ia 1 5 := Kp_at kI_130 1 5 (by decide)
                          have r1_6_I_130 : I_130 1 6 = Ia 1 6 := Kp_at kI_130 1 6 (by decide)
                          have r1_11_I_130 : I_130 1 11 = Ia 1 11 := Kp_at kI_130 1 11 (by decide)
                          have rf_I_130 : FU (I_130 1 5) = FU (Ia 1 5) := by rw [r1_5_I_130]
                          refine ww_iinc hX (pc := 133) (lv' := [some (kR (some 33)), some (kI x_4), some (kI i), some (kI (la + 1))]) dX3_findOpen_133 rfl (by decide) rfl rfl ?_
                          refine ww_goto hX (pc := 136) (tgt := 111) dX3_findOpen_136 (by decide) ?_
                          exact ih_111 _ (by have hm9 := Sh0_e hq_111; omega) (la + 1) I_130 J_130 rfl ⟨kI_130, kJ_130, ⟨by omega, by omega⟩⟩
                    exact hl_111 _ 0 I2 J2 rfl ⟨kI2, kJ2, ⟨by omega, by omega⟩⟩
                  · simp only [w32_mod] at h_75
                    refine ww_aload_n hX (pc := 78) dX3_findOpen_78 rfl ?_
                    refine ww_getR hX (pc := 79) fX3_19 (by decide) (xs_33 hL) (xr_33_7 hL) dX3_findOpen_79 ?_
                    refine ww_iload_n hX (pc := 82) dX3_findOpen_82 rfl ?_
                    refine ww_dup2 hX (pc := 83) dX3_findOpen_83 ?_
                    refine ww_iald hX (pc := 84) (xs_36 hL) (by decide) (by omega) (by omega) dX3_findOpen_84 ?_
                    refine ww_aload_n hX (pc := 85) dX3_findOpen_85 rfl ?_
                    refine ww_iload_n hX (pc := 86) dX3_findOpen_86 rfl ?_
                    refine ww_iload_n hX (pc := 87) dX3_findOpen_87 rfl ?_
                    refine vI2 hX (pc := 88) sX3_101 (xs_33 hL) (c_X3_goesOn l0 hL (XI_kp hI kI2 (by decide)) (by omega) (by omega) (by omega) (by omega)) (by decide) (Nat.le_refl 0) (Nat.le_refl 0) (Nat.le_of_ble_eq_true rfl) dX3_findOpen_88 (fun x_88 I_88 J_88 h_88 => ?_)
                    obtain ⟨rfl, rfl, h_88⟩ := h_88
                    refine ww_if_eq hX (pc := 91) (tgt := 100) dX3_findOpen_91 (by decide) (fun h_91 => ?_) (fun h_91 => ?_)
                    · simp only [w32_mod] at h_91
                      refine ww_iconst hX (pc := 100) (x := 0) dX3_findOpen_100 rfl ?_
                      refine ww_ior hX (pc := 101) dX3_findOpen_101 ?_
                      refine ww_iast hX (pc := 102) (xs_36 hL) (by decide) (by omega) (by omega) dX3_findOpen_102 ?_
                      refine ww_nmH (fun I_102 eI_102 => ?_)
                      have kI_102 : Kp 18 37 Ia I_102 := by rw [eI_102]; exact Kp_up kI2 _ _ (by decide)
                      have r1_5_I_102 : I_102 1 5 = Ia 1 5 := Kp_at kI_102 1 5 (by decide)
                      have r1_6_I_102 : I_102 1 6 = Ia 1 6 := Kp_at kI_102 1 6 (by decide)
                      have r1_11_I_102 : I_102 1 11 = Ia 1 11 := Kp_at kI_102 1 11 (by decide)
                      have rf_I_102 : FU (I_102 1 5) = FU (Ia 1 5) := by rw [r1_5_I_102]
                      refine ww_iinc hX (pc := 103) (lv' := [some (kR (some 33)), some (kI x_4), some (kI i), some (kI (q + 1))]) dX3_findOpen_103 rfl (by decide) rfl rfl ?_
                      refine ww_goto hX (pc := 106) (tgt := 73) dX3_findOpen_106 (by decide) ?_
                      exact ih_73 _ (by have hm9 := Sh0_e hq_73; omega) (q + 1) I_102 J2 rfl ⟨kI_102, kJ2, ⟨by omega, by omega⟩⟩
                    · simp only [w32_mod] at h_91
                      refine ww_iconst hX (pc := 94) (x := 1) dX3_findOpen_94 rfl ?_
                      refine ww_iload_n hX (pc := 95) dX3_findOpen_95 rfl ?_
                      refine ww_ishl hX (pc := 96) dX3_findOpen_96 ?_
                      refine ww_goto hX (pc := 97) (tgt := 101) dX3_findOpen_97 (by decide) ?_
                      refine ww_ior hX (pc := 101) dX3_findOpen_101 ?_
                      refine ww_iast hX (pc := 102) (xs_36 hL) (by decide) (by omega) (by omega) dX3_findOpen_102 ?_
                      refine ww_nmH (fun I_102 eI_102 => ?_)
                      have kI_102 : Kp 18 37 Ia I_102 := by rw [eI_102]; exact Kp_up kI2 _ _ (by decide)
                      have r1_5_I_102 : I_102 1 5 = Ia 1 5 := Kp_at kI_102 1 5 (by decide)
                      have r1_6_I_102 : I_102 1 6 = Ia 1 6 := Kp_at kI_102 1 6 (by decide)
                      have r1_11_I_102 : I_102 1 11 = Ia 1 11 := Kp_at kI_102 1 11 (by decide)
                      have rf_I_102 : FU (I_102 1 5) = FU (Ia 1 5) := by rw [r1_5_I_102]
                      refine ww_iinc hX (pc := 103) (lv' := [some (kR (some 33)), some (kI x_4), some (kI i), some (kI (q + 1))]) dX3_findOpen_103 rfl (by decide) rfl rfl ?_
                      refine ww_goto hX (pc := 106) (tgt := 73) dX3_findOpen_106 (by decide) ?_
                      exact ih_73 _ (by have hm9 := Sh0_e hq_73; omega) (q + 1) I_102 J2 rfl ⟨kI_102, kJ2, ⟨by omega, by omega⟩⟩
              exact hl_73 _ 0 I2 J2 rfl ⟨kI2, kJ2, ⟨by omega, by omega⟩⟩
        exact hl_66 _ v_65 I2 J2 rfl ⟨kI2, kJ2, ⟨by omega, by omega⟩⟩
      · simp only [w32_mod] at h_12
        refine ww_aload_n hX (pc := 15) dX3_findOpen_15 rfl ?_
        refine ww_getR hX (pc := 16) fX3_19 (by decide) (xs_33 hL) (xr_33_7 hL) dX3_findOpen_16 ?_
        refine ww_iload_n hX (pc := 19) dX3_findOpen_19 rfl ?_
        refine ww_aload_n hX (pc := 20) dX3_findOpen_20 rfl ?_
        refine ww_getR hX (pc := 21) fX3_22 (by decide) (xs_33 hL) (xr_33_4 hL) dX3_findOpen_21 ?_
        refine ww_getR hX (pc := 24) fX3_87 (by decide) (xs_18 hL) (xr_18_1 hL) dX3_findOpen_24 ?_
        refine ww_iload_n hX (pc := 27) dX3_findOpen_27 rfl ?_
        refine ww_iald hX (pc := 28) (xs_19 hL) (by decide) (by omega) (by omega) dX3_findOpen_28 ?_
        refine ww_aload_n hX (pc := 29) dX3_findOpen_29 rfl ?_
        refine ww_getI hX (pc := 30) fX3_46 (by decide) (xs_33 hL) dX3_findOpen_30 ?_
        refine ww_icmp_ne hX (pc := 33) (tgt := 48) dX3_findOpen_33 (by decide) (fun h_33 => ?_) (fun h_33 => ?_)
        · simp only [w32_mod] at h_33
          refine ww_iconst hX (pc := 48) (x := 0) dX3_findOpen_48 rfl ?_
          refine ww_iast hX (pc := 49) (xs_36 hL) (by decide) (by omega) (by omega) dX3_findOpen_49 ?_
          refine ww_nmH (fun I_49 eI_49 => ?_)
          have kI_49 : Kp 18 37 Ia I_49 := by rw [eI_49]; exact Kp_up kI2 _ _ (by decide)
          have r1_5_I_49 : I_49 1 5 = Ia 1 5 := Kp_at kI_49 1 5 (by decide)
          have r1_6_I_49 : I_49 1 6 = Ia 1 6 := Kp_at kI_49 1 6 (by decide)
          have r1_11_I_49 : I_49 1 11 = Ia 1 11 := Kp_at kI_49 1 11 (by decide)
          have rf_I_49 : FU (I_49 1 5) = FU (Ia 1 5) := by rw [r1_5_I_49]
          refine ww_iinc hX (pc := 50) (lv' := [some (kR (some 33)), some (kI x_4), some (kI (q + 1)), none]) dX3_findOpen_50 rfl (by decide) rfl rfl ?_
          refine ww_goto hX (pc := 53) (tgt := 10) dX3_findOpen_53 (by decide) ?_
          exact ih_10 _ (by have hm9 := Sh0_e hq_10; omega) (q + 1) I_49 J2 rfl ⟨kI_49, kJ2, ⟨by omega, by omega⟩⟩
        · simp only [w32_mod] at h_33
          refine ww_iconst hX (pc := 36) (x := 1) dX3_findOpen_36 rfl ?_
          refine ww_aload_n hX (pc := 37) dX3_findOpen_37 rfl ?_
          refine ww_getR hX (pc := 38) fX3_32 (by decide) (xs_33 hL) (xr_33_5 hL) dX3_findOpen_38 ?_
          refine ww_getI hX (pc := 41) fX3_68 (by decide) (xs_1 hL) dX3_findOpen_41 ?_
          refine ww_ishl hX (pc := 44) dX3_findOpen_44 ?_
          refine ww_goto hX (pc := 45) (tgt := 49) dX3_findOpen_45 (by decide) ?_
          refine ww_iast hX (pc := 49) (xs_36 hL) (by decide) (by omega) (by omega) dX3_findOpen_49 ?_
          refine ww_nmH (fun I_49 eI_49 => ?_)
          have kI_49 : Kp 18 37 Ia I_49 := by rw [eI_49]; exact Kp_up kI2 _ _ (by decide)
          have r1_5_I_49 : I_49 1 5 = Ia 1 5 := Kp_at kI_49 1 5 (by decide)
          have r1_6_I_49 : I_49 1 6 = Ia 1 6 := Kp_at kI_49 1 6 (by decide)
          have r1_11_I_49 : I_49 1 11 = Ia 1 11 := Kp_at kI_49 1 11 (by decide)
          have rf_I_49 : FU (I_49 1 5) = FU (Ia 1 5) := by rw [r1_5_I_49]
          refine ww_iinc hX (pc := 50) (lv' := [some (kR (some 33)), some (kI x_4), some (kI (q + 1)), none]) dX3_findOpen_50 rfl (by decide) rfl rfl ?_
          refine ww_goto hX (pc := 53) (tgt := 10) dX3_findOpen_53 (by decide) ?_
          exact ih_10 _ (by have hm9 := Sh0_e hq_10; omega) (q + 1) I_49 J2 rfl ⟨kI_49, kJ2, ⟨by omega, by omega⟩⟩
  exact hl_10 _ 0 Ia Ja rfl ⟨(Kp_rf (a := 18) (b := 37)), (Kp_rf (a := 18) (b := 37)), ⟨by omega, by omega⟩⟩
set_option maxHeartbeats 4000000 in
set_option maxRecDepth 20000 in
theorem c_X3_findStates (l0 : Launch) {Ia Ja : aI1} {Ra : aR1} {Sa : aS1} (hL : LY Ra Sa) (hI : XI Ia)  : CT l0 1 0 0 mX3_findStates [kR (some 33)] Ia Ja Ra Sa (cV (fun I' J' => Kp 18 37 Ia I' ∧ Kp 18 37 Ja J' ∧ True) Ra Sa) := by
  refine ct_in pn_X3 (Nat.le_of_ble_eq_true rfl) (fun X hX hT hIn => ?_)
  have hX : aK l0 X cX3_findStates 5 RX3 none 1 0 0 := hX
  change WW X 0 [some (kR (some 33)), none, none, none, none] [] Ia Ja Ra Sa 0 0
  obtain ⟨hn1, hn2⟩ := hI.1
  obtain ⟨hk1, hk2⟩ := hI.2.1
  obtain ⟨hf1, hf2⟩ := hI.fu
  obtain ⟨hw1, hw2⟩ := hI.2.2.2.2.2.1
  refine ww_aload_n hX (pc := 0) dX3_findStates_0 rfl ?_
  refine ww_getR hX (pc := 1) fX3_32 (by decide) (xs_33 hL) (xr_33_5 hL) dX3_findStates_1 ?_
  refine vI0 hX (pc := 4) sX3_62 (xs_1 hL) (c_X1_full l0 hL hI) (by decide) (Nat.le_refl 0) (Nat.le_refl 0) (Nat.le_of_ble_eq_true rfl) dX3_findStates_4 (fun x_4 I_4 J_4 h_4 => ?_)
  obtain ⟨rfl, rfl, h_4⟩ := h_4
  refine ww_istore_n hX (pc := 7) (lv' := [some (kR (some 33)), some (kI x_4), none, none, none]) dX3_findStates_7 (by decide) rfl rfl ?_
  refine ww_iconst hX (pc := 8) (x := 0) dX3_findStates_8 rfl ?_
  refine ww_istore_n hX (pc := 9) (lv' := [some (kR (some 33)), some (kI x_4), some (kI 0), none, none]) dX3_findStates_9 (by decide) rfl rfl ?_
  refine ww_iconst hX (pc := 10) (x := 0) dX3_findStates_10 rfl ?_
  refine ww_istore_n hX (pc := 11) (lv' := [some (kR (some 33)), some (kI x_4), some (kI 0), some (kI 0), none]) dX3_findStates_11 (by decide) rfl rfl ?_
  have hl_12 : ∀ (n_12 : Nat) (fr : Int) (i : Int) (I2 : aI1) (J2 : aI1), (Ia 1 11 - i).toNat = n_12 → (Kp 18 37 Ia I2 ∧ Kp 18 37 Ja J2 ∧ (0 ≤ i ∧ i ≤ Ia 1 11) ∧ (0 ≤ fr ∧ fr ≤ FU (Ia 1 5))) → WW X 12 [some (kR (some 33)), some (kI x_4), some (kI fr), some (kI i), none] [] I2 J2 Ra Sa 0 0 := by
    intro n_12
    induction n_12 using Nat.strongRecOn with
    | ind n_12 ih_12 =>
      intro fr i I2 J2 hm_12 hv_12
      have hq_12 := Sh0_i hm_12
      clear hm_12
      obtain ⟨kI2, kJ2, hi, hfr⟩ := hv_12
      have r1_5_I2 : I2 1 5 = Ia 1 5 := Kp_at kI2 1 5 (by decide)
      have r1_6_I2 : I2 1 6 = Ia 1 6 := Kp_at kI2 1 6 (by decide)
      have r1_11_I2 : I2 1 11 = Ia 1 11 := Kp_at kI2 1 11 (by decide)
      have rf_I2 : FU (I2 1 5) = FU (Ia 1 5) := by rw [r1_5_I2]
      refine ww_iload_n hX (pc := 12) dX3_findStates_12 rfl ?_
      refine ww_aload_n hX (pc := 13) dX3_findStates_13 rfl ?_
      refine ww_getR hX (pc := 14) fX3_32 (by decide) (xs_33 hL) (xr_33_5 hL) dX3_findStates_14 ?_
      refine ww_getI hX (pc := 17) fX3_68 (by decide) (xs_1 hL) dX3_findStates_17 ?_
      refine ww_icmp_ge hX (pc := 20) (tgt := 90) dX3_findStates_20 (by decide) (fun h_20 => ?_) (fun h_20 => ?_)
      · simp only [w32_mod] at h_20
        refine rV hX (pc := 90) hT (Nat.le_refl 0) (Nat.le_refl 0) dX3_findStates_90 ?_
        exact ⟨kI2, kJ2, trivial⟩
      · simp only [w32_mod] at h_20
        refine ww_iload_n hX (pc := 23) dX3_findStates_23 rfl ?_
        refine ww_istore hX (pc := 24) (lv' := [some (kR (some 33)), some (kI x_4), some (kI fr), some (kI i), some (kI fr)]) dX3_findStates_24 (by decide) rfl rfl ?_
        have hl_26 : ∀ (n_26 : Nat) (to : Int), (x_4 + 1 - to).toNat = n_26 → (0 ≤ to ∧ to < 2147483648) → WW X 26 [some (kR (some 33)), some (kI x_4), some (kI fr), some (kI i), some (kI to)] [] I2 J2 Ra Sa 0 0 := by
          intro n_26
          induction n_26 using Nat.strongRecOn with
          | ind n_26 ih_26 =>
            intro to hm_26 hv_26
            have hq_26 := Sh0_i hm_26
            clear hm_26
            obtain ⟨hto0, hto1⟩ := hv_26
            refine ww_iload hX (pc := 26) dX3_findStates_26 rfl ?_
            refine ww_iload_n hX (pc := 28) dX3_findStates_28 rfl ?_
            refine ww_icmp_gt hX (pc := 29) (tgt := 66) dX3_findStates_29 (by decide) (fun h_29 => ?_) (fun h_29 => ?_)
            · simp only [w32_mod] at h_29
              refine ww_iload hX (pc := 66) dX3_findStates_66 rfl ?_
              refine ww_iload_n hX (pc := 68) dX3_findStates_68 rfl ?_
              refine ww_icmp_le hX (pc := 69) (tgt := 73) dX3_findStates_69 (by decide) (fun h_69 => ?_) (fun h_69 => ?_)
              · simp only [w32_mod] at h_69
                refine ww_aload_n hX (pc := 73) dX3_findStates_73 rfl ?_
                refine ww_getR hX (pc := 74) fX3_9 (by decide) (xs_33 hL) (xr_33_0 hL) dX3_findStates_74 ?_
                refine ww_iload_n hX (pc := 77) dX3_findStates_77 rfl ?_
                refine ww_iload hX (pc := 78) dX3_findStates_78 rfl ?_
                refine ww_iast hX (pc := 80) (xs_34 hL) (by decide) (by omega) (by omega) dX3_findStates_80 ?_
                refine ww_nmH (fun I_80 eI_80 => ?_)
                have kI_80 : Kp 18 37 Ia I_80 := by rw [eI_80]; exact Kp_up kI2 _ _ (by decide)
                have r1_5_I_80 : I_80 1 5 = Ia 1 5 := Kp_at kI_80 1 5 (by decide)
                have r1_6_I_80 : I_80 1 6 = Ia 1 6 := Kp_at kI_80 1 6 (by decide)
                have r1_11_I_80 : I_80 1 11 = Ia 1 11 := Kp_at kI_80 1 11 (by decide)
                have rf_I_80 : FU (I_80 1 5) = FU (Ia 1 5) := by rw [r1_5_I_80]
                refine ww_iload hX (pc := 81) dX3_findStates_81 rfl ?_
                refine ww_istore_n hX (pc := 83) (lv' := [some (kR (some 33)), some (kI x_4), some (kI to), some (kI i), some (kI to)]) dX3_findStates_83 (by decide) rfl rfl ?_
                refine ww_iinc hX (pc := 84) (lv' := [some (kR (some 33)), some (kI x_4), some (kI to), some (kI (i + 1)), some (kI to)]) dX3_findStates_84 rfl (by decide) rfl rfl ?_
                refine ww_goto hX (pc := 87) (tgt := 12) dX3_findStates_87 (by decide) ?_
                refine ww_sub [some (kR (some 33)), some (kI x_4), some (kI to), some (kI (i + 1)), none] (aLe_s (aLe_s (aLe_s (aLe_s (aLe_n aLe_0))))) ?_
                exact ih_12 _ (by have hm9 := Sh0_e hq_12; omega) to (i + 1) I_80 J2 rfl ⟨kI_80, kJ2, ⟨by omega, by omega⟩, ⟨by omega, by omega⟩⟩
              · simp only [w32_mod] at h_69
                refine rV hX (pc := 72) hT (Nat.le_refl 0) (Nat.le_refl 0) dX3_findStates_72 ?_
                exact ⟨kI2, kJ2, trivial⟩
            · simp only [w32_mod] at h_29
              refine ww_aload_n hX (pc := 32) dX3_findStates_32 rfl ?_
              refine ww_iload hX (pc := 33) dX3_findStates_33 rfl ?_
              refine ww_iload_n hX (pc := 35) dX3_findStates_35 rfl ?_
              refine vI2 hX (pc := 36) sX3_101 (xs_33 hL) (c_X3_goesOn l0 hL (XI_kp hI kI2 (by decide)) (by omega) (by omega) (by omega) (by omega)) (by decide) (Nat.le_refl 0) (Nat.le_refl 0) (Nat.le_of_ble_eq_true rfl) dX3_findStates_36 (fun x_36 I_36 J_36 h_36 => ?_)
              obtain ⟨rfl, rfl, h_36⟩ := h_36
              refine ww_if_eq hX (pc := 39) (tgt := 55) dX3_findStates_39 (by decide) (fun h_39 => ?_) (fun h_39 => ?_)
              · simp only [w32_mod] at h_39
                refine ww_iload hX (pc := 55) dX3_findStates_55 rfl ?_
                refine ww_iconst hX (pc := 57) (x := 1) dX3_findStates_57 rfl ?_
                refine ww_iadd hX (pc := 58) dX3_findStates_58 ?_
                refine ww_iload_n hX (pc := 59) dX3_findStates_59 rfl ?_
                refine ww_ior hX (pc := 60) dX3_findStates_60 ?_
                refine ww_nmI (fun v_61 hv_61 => ?_)
                refine ww_istore hX (pc := 61) (lv' := [some (kR (some 33)), some (kI x_4), some (kI fr), some (kI i), some (kI v_61)]) dX3_findStates_61 (by decide) rfl rfl ?_
                refine ww_goto hX (pc := 63) (tgt := 26) dX3_findStates_63 (by decide) ?_
                have hor := i_or_ge (a := to + 1) (b := fr) (by omega) (by omega) (by omega) (by omega)
                exact ih_26 _ (by have hm9 := Sh0_e hq_26; omega) v_61 rfl ⟨by omega, by omega⟩
              · simp only [w32_mod] at h_39
                refine ww_aload_n hX (pc := 42) dX3_findStates_42 rfl ?_
                refine ww_getR hX (pc := 43) fX3_32 (by decide) (xs_33 hL) (xr_33_5 hL) dX3_findStates_43 ?_
                refine ww_iload_n hX (pc := 46) dX3_findStates_46 rfl ?_
                refine ww_iload hX (pc := 47) dX3_findStates_47 rfl ?_
                refine vI2 hX (pc := 49) sX3_109 (xs_1 hL) (c_X1_canLight l0 hL (XI_kp hI kI2 (by decide))) (by decide) (Nat.le_refl 0) (Nat.le_refl 0) (Nat.le_of_ble_eq_true rfl) dX3_findStates_49 (fun x_49 I_49 J_49 h_49 => ?_)
                obtain ⟨rfl, rfl, h_49⟩ := h_49
                refine ww_if_ne hX (pc := 52) (tgt := 66) dX3_findStates_52 (by decide) (fun h_52 => ?_) (fun h_52 => ?_)
                · simp only [w32_mod] at h_52
                  refine ww_iload hX (pc := 66) dX3_findStates_66 rfl ?_
                  refine ww_iload_n hX (pc := 68) dX3_findStates_68 rfl ?_
                  refine ww_icmp_le hX (pc := 69) (tgt := 73) dX3_findStates_69 (by decide) (fun h_69 => ?_) (fun h_69 => ?_)
                  · simp only [w32_mod] at h_69
                    refine ww_aload_n hX (pc := 73) dX3_findStates_73 rfl ?_
                    refine ww_getR hX (pc := 74) fX3_9 (by decide) (xs_33 hL) (xr_33_0 hL) dX3_findStates_74 ?_
                    refine ww_iload_n hX (pc := 77) dX3_findStates_77 rfl ?_
                    refine ww_iload hX (pc := 78) dX3_findStates_78 rfl ?_
                    refine ww_iast hX (pc := 80) (xs_34 hL) (by decide) (by omega) (by omega) dX3_findStates_80 ?_
                    refine ww_nmH (fun I_80 eI_80 => ?_)
                    have kI_80 : Kp 18 37 Ia I_80 := by rw [eI_80]; exact Kp_up kI2 _ _ (by decide)
                    have r1_5_I_80 : I_80 1 5 = Ia 1 5 := Kp_at kI_80 1 5 (by decide)
                    have r1_6_I_80 : I_80 1 6 = Ia 1 6 := Kp_at kI_80 1 6 (by decide)
                    have r1_11_I_80 : I_80 1 11 = Ia 1 11 := Kp_at kI_80 1 11 (by decide)
                    have rf_I_80 : FU (I_80 1 5) = FU (Ia 1 5) := by rw [r1_5_I_80]
                    refine ww_iload hX (pc := 81) dX3_findStates_81 rfl ?_
                    refine ww_istore_n hX (pc := 83) (lv' := [some (kR (some 33)), some (kI x_4), some (kI to), some (kI i), some (kI to)]) dX3_findStates_83 (by decide) rfl rfl ?_
                    refine ww_iinc hX (pc := 84) (lv' := [some (kR (some 33)), some (kI x_4), some (kI to), some (kI (i + 1)), some (kI to)]) dX3_findStates_84 rfl (by decide) rfl rfl ?_
                    refine ww_goto hX (pc := 87) (tgt := 12) dX3_findStates_87 (by decide) ?_
                    refine ww_sub [some (kR (some 33)), some (kI x_4), some (kI to), some (kI (i + 1)), none] (aLe_s (aLe_s (aLe_s (aLe_s (aLe_n aLe_0))))) ?_
                    exact ih_12 _ (by have hm9 := Sh0_e hq_12; omega) to (i + 1) I_80 J2 rfl ⟨kI_80, kJ2, ⟨by omega, by omega⟩, ⟨by omega, by omega⟩⟩
                  · simp only [w32_mod] at h_69
                    refine rV hX (pc := 72) hT (Nat.le_refl 0) (Nat.le_refl 0) dX3_findStates_72 ?_
                    exact ⟨kI2, kJ2, trivial⟩
                · simp only [w32_mod] at h_52
                  refine ww_iload hX (pc := 55) dX3_findStates_55 rfl ?_
                  refine ww_iconst hX (pc := 57) (x := 1) dX3_findStates_57 rfl ?_
                  refine ww_iadd hX (pc := 58) dX3_findStates_58 ?_
                  refine ww_iload_n hX (pc := 59) dX3_findStates_59 rfl ?_
                  refine ww_ior hX (pc := 60) dX3_findStates_60 ?_
                  refine ww_nmI (fun v_61 hv_61 => ?_)
                  refine ww_istore hX (pc := 61) (lv' := [some (kR (some 33)), some (kI x_4), some (kI fr), some (kI i), some (kI v_61)]) dX3_findStates_61 (by decide) rfl rfl ?_
                  refine ww_goto hX (pc := 63) (tgt := 26) dX3_findStates_63 (by decide) ?_
                  have hor := i_or_ge (a := to + 1) (b := fr) (by omega) (by omega) (by omega) (by omega)
                  exact ih_26 _ (by have hm9 := Sh0_e hq_26; omega) v_61 rfl ⟨by omega, by omega⟩
        exact hl_26 _ fr rfl ⟨by omega, by omega⟩
  exact hl_12 _ 0 0 Ia Ja rfl ⟨(Kp_rf (a := 18) (b := 37)), (Kp_rf (a := 18) (b := 37)), ⟨by omega, by omega⟩, ⟨by omega, by omega⟩⟩
set_option maxHeartbeats 4000000 in
set_option maxRecDepth 20000 in
theorem c_X3_solve (l0 : Launch) {Ia Ja : aI1} {Ra : aR1} {Sa : aS1} (hL : LY Ra Sa) (hI : XI Ia)  : CT l0 2 0 0 mX3_solve [kR (some 33)] Ia Ja Ra Sa (cV (fun I' J' => Kp 18 37 Ia I' ∧ Kp 18 37 Ja J' ∧ True) Ra Sa) := by
  refine ct_in pn_X3 (Nat.le_of_ble_eq_true rfl) (fun X hX hT hIn => ?_)
  have hX : aK l0 X cX3_solve 1 RX3 none 2 0 0 := hX
  change WW X 0 [some (kR (some 33))] [] Ia Ja Ra Sa 0 0
  obtain ⟨hn1, hn2⟩ := hI.1
  obtain ⟨hk1, hk2⟩ := hI.2.1
  obtain ⟨hf1, hf2⟩ := hI.fu
  obtain ⟨hw1, hw2⟩ := hI.2.2.2.2.2.1
  refine ww_aload_n hX (pc := 0) dX3_solve_0 rfl ?_
  refine ww_getI hX (pc := 1) fX3_33 (by decide) (xs_33 hL) dX3_solve_1 ?_
  refine ww_if_eq hX (pc := 4) (tgt := 8) dX3_solve_4 (by decide) (fun h_4 => ?_) (fun h_4 => ?_)
  · simp only [w32_mod] at h_4
    refine ww_aload_n hX (pc := 8) dX3_solve_8 rfl ?_
    refine ww_iconst hX (pc := 9) (x := 1) dX3_solve_9 rfl ?_
    refine ww_putZ hX (pc := 10) (fun h9 => absurd h9 (by decide)) gX3_33 rfl (by decide) (xs_33 hL) dX3_solve_10 ?_
    refine ww_nmH (fun I_10 eI_10 => ?_)
    have kI_10 : Kp 18 37 Ia I_10 := by rw [eI_10]; exact Kp_up (Kp_rf (a := 18) (b := 37)) _ _ (by decide)
    have r1_5_I_10 : I_10 1 5 = Ia 1 5 := Kp_at kI_10 1 5 (by decide)
    have r1_6_I_10 : I_10 1 6 = Ia 1 6 := Kp_at kI_10 1 6 (by decide)
    have r1_11_I_10 : I_10 1 11 = Ia 1 11 := Kp_at kI_10 1 11 (by decide)
    have rf_I_10 : FU (I_10 1 5) = FU (Ia 1 5) := by rw [r1_5_I_10]
    refine ww_aload_n hX (pc := 13) dX3_solve_13 rfl ?_
    refine ww_getR hX (pc := 14) fX3_22 (by decide) (xs_33 hL) (xr_33_4 hL) dX3_solve_14 ?_
    refine vV0 hX (pc := 17) sX3_37 (xs_18 hL) (c_X4_fillOil l0 hL (XI_kp hI kI_10 (by decide))) (by decide) (Nat.le_refl 0) (Nat.le_refl 0) (Nat.le_of_ble_eq_true rfl) dX3_solve_17 (fun I_17 J_17 h_17 => ?_)
    have kI_17 : Kp 18 37 Ia I_17 := Kp_tr kI_10 (Kp_wd h_17.1 (by decide) (by decide))
    have kJ_17 : Kp 18 37 Ja J_17 := Kp_tr (Kp_rf (a := 18) (b := 37)) (Kp_wd h_17.2.1 (by decide) (by decide))
    have r1_5_I_17 : I_17 1 5 = Ia 1 5 := Kp_at kI_17 1 5 (by decide)
    have r1_6_I_17 : I_17 1 6 = Ia 1 6 := Kp_at kI_17 1 6 (by decide)
    have r1_11_I_17 : I_17 1 11 = Ia 1 11 := Kp_at kI_17 1 11 (by decide)
    have rf_I_17 : FU (I_17 1 5) = FU (Ia 1 5) := by rw [r1_5_I_17]
    refine ww_aload_n hX (pc := 20) dX3_solve_20 rfl ?_
    refine vV0 hX (pc := 21) sX3_40 (xs_33 hL) (c_X3_countWays l0 hL (XI_kp hI kI_17 (by decide))) (by decide) (Nat.le_refl 0) (Nat.le_refl 0) (Nat.le_of_ble_eq_true rfl) dX3_solve_21 (fun I_21 J_21 h_21 => ?_)
    have kI_21 : Kp 18 37 Ia I_21 := Kp_tr kI_17 (Kp_wd h_21.1 (by decide) (by decide))
    have kJ_21 : Kp 18 37 Ja J_21 := Kp_tr kJ_17 (Kp_wd h_21.2.1 (by decide) (by decide))
    have r1_5_I_21 : I_21 1 5 = Ia 1 5 := Kp_at kI_21 1 5 (by decide)
    have r1_6_I_21 : I_21 1 6 = Ia 1 6 := Kp_at kI_21 1 6 (by decide)
    have r1_11_I_21 : I_21 1 11 = Ia 1 11 := Kp_at kI_21 1 11 (by decide)
    have rf_I_21 : FU (I_21 1 5) = FU (Ia 1 5) := by rw [r1_5_I_21]
    refine ww_aload_n hX (pc := 24) dX3_solve_24 rfl ?_
    refine vV0 hX (pc := 25) sX3_43 (xs_33 hL) (c_X3_findLeast l0 hL (XI_kp hI kI_21 (by decide))) (by decide) (Nat.le_refl 0) (Nat.le_refl 0) (Nat.le_of_ble_eq_true rfl) dX3_solve_25 (fun I_25 J_25 h_25 => ?_)
    have kI_25 : Kp 18 37 Ia I_25 := Kp_tr kI_21 (Kp_wd h_25.1 (by decide) (by decide))
    have kJ_25 : Kp 18 37 Ja J_25 := Kp_tr kJ_21 (Kp_wd h_25.2.1 (by decide) (by decide))
    have r1_5_I_25 : I_25 1 5 = Ia 1 5 := Kp_at kI_25 1 5 (by decide)
    have r1_6_I_25 : I_25 1 6 = Ia 1 6 := Kp_at kI_25 1 6 (by decide)
    have r1_11_I_25 : I_25 1 11 = Ia 1 11 := Kp_at kI_25 1 11 (by decide)
    have rf_I_25 : FU (I_25 1 5) = FU (Ia 1 5) := by rw [r1_5_I_25]
    refine ww_aload_n hX (pc := 28) dX3_solve_28 rfl ?_
    refine ww_getI hX (pc := 29) fX3_46 (by decide) (xs_33 hL) dX3_solve_29 ?_
    refine ww_iconst hX (pc := 32) (x := (-1)) dX3_solve_32 rfl ?_
    refine ww_icmp_eq hX (pc := 33) (tgt := 44) dX3_solve_33 (by decide) (fun h_33 => ?_) (fun h_33 => ?_)
    · simp only [w32_mod] at h_33
      refine rV hX (pc := 44) hT (Nat.le_refl 0) (Nat.le_refl 0) dX3_solve_44 ?_
      exact ⟨kI_25, kJ_25, trivial⟩
    · simp only [w32_mod] at h_33
      refine ww_aload_n hX (pc := 36) dX3_solve_36 rfl ?_
      refine vV0 hX (pc := 37) sX3_50 (xs_33 hL) (c_X3_findOpen l0 hL (XI_kp hI kI_25 (by decide))) (by decide) (Nat.le_refl 0) (Nat.le_refl 0) (Nat.le_of_ble_eq_true rfl) dX3_solve_37 (fun I_37 J_37 h_37 => ?_)
      have kI_37 : Kp 18 37 Ia I_37 := Kp_tr kI_25 (Kp_wd h_37.1 (by decide) (by decide))
      have kJ_37 : Kp 18 37 Ja J_37 := Kp_tr kJ_25 (Kp_wd h_37.2.1 (by decide) (by decide))
      have r1_5_I_37 : I_37 1 5 = Ia 1 5 := Kp_at kI_37 1 5 (by decide)
      have r1_6_I_37 : I_37 1 6 = Ia 1 6 := Kp_at kI_37 1 6 (by decide)
      have r1_11_I_37 : I_37 1 11 = Ia 1 11 := Kp_at kI_37 1 11 (by decide)
      have rf_I_37 : FU (I_37 1 5) = FU (Ia 1 5) := by rw [r1_5_I_37]
      refine ww_aload_n hX (pc := 40) dX3_solve_40 rfl ?_
      refine vV0 hX (pc := 41) sX3_53 (xs_33 hL) (c_X3_findStates l0 hL (XI_kp hI kI_37 (by decide))) (by decide) (Nat.le_refl 0) (Nat.le_refl 0) (Nat.le_of_ble_eq_true rfl) dX3_solve_41 (fun I_41 J_41 h_41 => ?_)
      have kI_41 : Kp 18 37 Ia I_41 := Kp_tr kI_37 (Kp_wd h_41.1 (by decide) (by decide))
      have kJ_41 : Kp 18 37 Ja J_41 := Kp_tr kJ_37 (Kp_wd h_41.2.1 (by decide) (by decide))
      have r1_5_I_41 : I_41 1 5 = Ia 1 5 := Kp_at kI_41 1 5 (by decide)
      have r1_6_I_41 : I_41 1 6 = Ia 1 6 := Kp_at kI_41 1 6 (by decide)
      have r1_11_I_41 : I_41 1 11 = Ia 1 11 := Kp_at kI_41 1 11 (by decide)
      have rf_I_41 : FU (I_41 1 5) = FU (Ia 1 5) := by rw [r1_5_I_41]
      refine rV hX (pc := 44) hT (Nat.le_refl 0) (Nat.le_refl 0) dX3_solve_44 ?_
      exact ⟨kI_41, kJ_41, trivial⟩
  · simp only [w32_mod] at h_4
    refine rV hX (pc := 7) hT (Nat.le_refl 0) (Nat.le_refl 0) dX3_solve_7 ?_
    exact ⟨(Kp_rf (a := 18) (b := 37)), (Kp_rf (a := 18) (b := 37)), trivial⟩
set_option maxHeartbeats 4000000 in
set_option maxRecDepth 20000 in
theorem c_X2_isSearched (l0 : Launch) {Ia Ja : aI1} {Ra : aR1} {Sa : aS1} {a b c : Int} (ha0 : -2147483648 ≤ a) (ha1 : a < 2147483648) (hb0 : -2147483648 ≤ b) (hb1 : b < 2147483648) (hc0 : -2147483648 ≤ c) (hc1 : c < 2147483648)  : CT l0 0 0 0 mX2_isSearched [kI a, kI b, kI c] Ia Ja Ra Sa (cI (fun x I' J' => Ia = I' ∧ Ja = J' ∧ (x = 0 ∨ x = 1) ∧ (x = 1 ↔ (1 ≤ a ∧ a ≤ 3 ∧ 2 ≤ b ∧ b ≤ 4 ∧ 0 ≤ c ∧ c ≤ 8))) Ra Sa) := by
  refine ct_in pn_X2 (Nat.le_of_ble_eq_true rfl) (fun X hX hT hIn => ?_)
  have hX : aK l0 X cX2_isSearched 3 RX2 (some .boolean) 0 0 0 := hX
  change WW X 0 [some (kI a), some (kI b), some (kI c)] [] Ia Ja Ra Sa 0 0
  refine ww_iload_n hX (pc := 0) dX2_isSearched_0 rfl ?_
  refine ww_iconst hX (pc := 1) (x := 1) dX2_isSearched_1 rfl ?_
  refine ww_icmp_lt hX (pc := 2) (tgt := 34) dX2_isSearched_2 (by decide) (fun h_2 => ?_) (fun h_2 => ?_)
  · simp only [w32_mod] at h_2
    refine ww_iconst hX (pc := 34) (x := 0) dX2_isSearched_34 rfl ?_
    refine rZ hX (pc := 35) hT (Nat.le_refl 0) (Nat.le_refl 0) dX2_isSearched_35 (by decide) ?_
    exact ⟨rfl, rfl, by omega, by omega⟩
  · simp only [w32_mod] at h_2
    refine ww_iload_n hX (pc := 5) dX2_isSearched_5 rfl ?_
    refine ww_iconst hX (pc := 6) (x := 3) dX2_isSearched_6 rfl ?_
    refine ww_icmp_gt hX (pc := 7) (tgt := 34) dX2_isSearched_7 (by decide) (fun h_7 => ?_) (fun h_7 => ?_)
    · simp only [w32_mod] at h_7
      refine ww_iconst hX (pc := 34) (x := 0) dX2_isSearched_34 rfl ?_
      refine rZ hX (pc := 35) hT (Nat.le_refl 0) (Nat.le_refl 0) dX2_isSearched_35 (by decide) ?_
      exact ⟨rfl, rfl, by omega, by omega⟩
    · simp only [w32_mod] at h_7
      refine ww_iload_n hX (pc := 10) dX2_isSearched_10 rfl ?_
      refine ww_iconst hX (pc := 11) (x := 2) dX2_isSearched_11 rfl ?_
      refine ww_icmp_lt hX (pc := 12) (tgt := 34) dX2_isSearched_12 (by decide) (fun h_12 => ?_) (fun h_12 => ?_)
      · simp only [w32_mod] at h_12
        refine ww_iconst hX (pc := 34) (x := 0) dX2_isSearched_34 rfl ?_
        refine rZ hX (pc := 35) hT (Nat.le_refl 0) (Nat.le_refl 0) dX2_isSearched_35 (by decide) ?_
        exact ⟨rfl, rfl, by omega, by omega⟩
      · simp only [w32_mod] at h_12
        refine ww_iload_n hX (pc := 15) dX2_isSearched_15 rfl ?_
        refine ww_iconst hX (pc := 16) (x := 4) dX2_isSearched_16 rfl ?_
        refine ww_icmp_gt hX (pc := 17) (tgt := 34) dX2_isSearched_17 (by decide) (fun h_17 => ?_) (fun h_17 => ?_)
        · simp only [w32_mod] at h_17
          refine ww_iconst hX (pc := 34) (x := 0) dX2_isSearched_34 rfl ?_
          refine rZ hX (pc := 35) hT (Nat.le_refl 0) (Nat.le_refl 0) dX2_isSearched_35 (by decide) ?_
          exact ⟨rfl, rfl, by omega, by omega⟩
        · simp only [w32_mod] at h_17
          refine ww_iload_n hX (pc := 20) dX2_isSearched_20 rfl ?_
          refine ww_if_lt hX (pc := 21) (tgt := 34) dX2_isSearched_21 (by decide) (fun h_21 => ?_) (fun h_21 => ?_)
          · simp only [w32_mod] at h_21
            refine ww_iconst hX (pc := 34) (x := 0) dX2_isSearched_34 rfl ?_
            refine rZ hX (pc := 35) hT (Nat.le_refl 0) (Nat.le_refl 0) dX2_isSearched_35 (by decide) ?_
            exact ⟨rfl, rfl, by omega, by omega⟩
          · simp only [w32_mod] at h_21
            refine ww_iload_n hX (pc := 24) dX2_isSearched_24 rfl ?_
            refine ww_bipush hX (pc := 25) (x := 8) dX2_isSearched_25 (by decide) ?_
            refine ww_icmp_gt hX (pc := 27) (tgt := 34) dX2_isSearched_27 (by decide) (fun h_27 => ?_) (fun h_27 => ?_)
            · simp only [w32_mod] at h_27
              refine ww_iconst hX (pc := 34) (x := 0) dX2_isSearched_34 rfl ?_
              refine rZ hX (pc := 35) hT (Nat.le_refl 0) (Nat.le_refl 0) dX2_isSearched_35 (by decide) ?_
              exact ⟨rfl, rfl, by omega, by omega⟩
            · simp only [w32_mod] at h_27
              refine ww_iconst hX (pc := 30) (x := 1) dX2_isSearched_30 rfl ?_
              refine ww_goto hX (pc := 31) (tgt := 35) dX2_isSearched_31 (by decide) ?_
              refine rZ hX (pc := 35) hT (Nat.le_refl 0) (Nat.le_refl 0) dX2_isSearched_35 (by decide) ?_
              exact ⟨rfl, rfl, by omega, by omega⟩
set_option maxHeartbeats 4000000 in
set_option maxRecDepth 20000 in
theorem c_X2_pairOf (l0 : Launch) {Ia Ja : aI1} {Ra : aR1} {Sa : aS1} {a b : Int}  : CT l0 0 0 0 mX2_pairOf [kI a, kI b] Ia Ja Ra Sa (cI (fun x I' J' => Ia = I' ∧ Ja = J' ∧ x = (a - 1) * 3 + b - 2) Ra Sa) := by
  refine ct_in pn_X2 (Nat.le_of_ble_eq_true rfl) (fun X hX hT hIn => ?_)
  have hX : aK l0 X cX2_pairOf 2 RX2 (some .int) 0 0 0 := hX
  change WW X 0 [some (kI a), some (kI b)] [] Ia Ja Ra Sa 0 0
  refine ww_iload_n hX (pc := 0) dX2_pairOf_0 rfl ?_
  refine ww_iconst hX (pc := 1) (x := 1) dX2_pairOf_1 rfl ?_
  refine ww_isub hX (pc := 2) dX2_pairOf_2 ?_
  refine ww_iconst hX (pc := 3) (x := 3) dX2_pairOf_3 rfl ?_
  refine ww_imul hX (pc := 4) dX2_pairOf_4 ?_
  refine ww_iload_n hX (pc := 5) dX2_pairOf_5 rfl ?_
  refine ww_iadd hX (pc := 6) dX2_pairOf_6 ?_
  refine ww_iconst hX (pc := 7) (x := 2) dX2_pairOf_7 rfl ?_
  refine ww_isub hX (pc := 8) dX2_pairOf_8 ?_
  refine rI hX (pc := 9) hT (Nat.le_refl 0) (Nat.le_refl 0) dX2_pairOf_9 ?_
  exact ⟨rfl, rfl, rfl⟩
