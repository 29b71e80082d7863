section
set_option maxHeartbeats 4000000 in
set_option maxRecDepth 20000 in
theorem c8_X8_isMet (l0 : Launch) {Ia Ja : aI1} {Ra : aR1} {Sa : aS1} (hL : LY Ra Sa) (hI : XI Ia) {a b : Int} (ha0 : 0 ≤ a) (ha1 : a ≤ 255) (hb0 : 0 ≤ b) (hb1 : b ≤ 8)  : CT l0 0 0 0 mX8_isMet [kR (some 31), kI a, kI b] Ia Ja Ra Sa (cI (fun x I' J' => Ia = I' ∧ Ja = J' ∧ (x = 0 ∨ x = 1) ∧ IMZ x b a (Ja 32)) Ra Sa) := by
  refine ct_in pn_X8 (Nat.le_of_ble_eq_true rfl) (fun X hX hT hIn => ?_)
  have hX : aK l0 X cX8_isMet 4 RX8 (some .boolean) 0 0 0 := hX
  change WW X 0 [some (kR (some 31)), some (kI a), some (kI b), none] [] Ia Ja Ra Sa 0 0
  obtain ⟨hn1, hn2⟩ := hI.1
  obtain ⟨hk1, hk2⟩ := hI.2.1
  obtain ⟨hf1, hf2⟩ := hI.fu
  refine ww_iconst hX (pc := 0) (x := 0) dX8_isMet_0 rfl ?_
  refine ww_istore_n hX (pc := 1) (lv' := [some (kR (some 31)), some (kI a), some (kI b), some (kI 0)]) dX8_isMet_1 (by decide) rfl rfl ?_
  have hl_2 : ∀ (n_2 : Nat) (w : Int), (b - w).toNat = n_2 → (0 ≤ w ∧ w ≤ b ∧ ∀ i : Nat, (i : Int) < w → w64 (Ja 32 (i * 256 + a.toNat)) = 0) → WW X 2 [some (kR (some 31)), some (kI a), some (kI b), some (kI w)] [] Ia Ja Ra Sa 0 0 := by
    intro n_2
    induction n_2 using Nat.strongRecOn with
    | ind n_2 ih_2 =>
      intro w hm_2 hv_2
      have hq_2 := Sh0_i hm_2
      clear hm_2
      obtain ⟨hw0, hw1, hz2⟩ := hv_2
      refine ww_iload_n hX (pc := 2) dX8_isMet_2 rfl ?_
      refine ww_iload_n hX (pc := 3) dX8_isMet_3 rfl ?_
      refine ww_icmp_ge hX (pc := 4) (tgt := 32) dX8_isMet_4 (by decide) (fun h_4 => ?_) (fun h_4 => ?_)
      · simp only [w32_mod] at h_4
        refine ww_iconst hX (pc := 32) (x := 0) dX8_isMet_32 rfl ?_
        refine rZ hX (pc := 33) hT (Nat.le_refl 0) (Nat.le_refl 0) dX8_isMet_33 (by decide) ?_
        exact ⟨rfl, rfl, by omega, fun _ i hi => hz2 i (by omega)⟩
      · simp only [w32_mod] at h_4
        refine ww_aload_n hX (pc := 7) dX8_isMet_7 rfl ?_
        refine ww_getR hX (pc := 8) fX8_9 (by decide) (xs_31 hL) (xr_31_1 hL) dX8_isMet_8 ?_
        refine ww_iload_n hX (pc := 11) dX8_isMet_11 rfl ?_
        refine ww_sipush hX (pc := 12) (x := 256) dX8_isMet_12 (by decide) ?_
        refine ww_imul hX (pc := 15) dX8_isMet_15 ?_
        refine ww_iload_n hX (pc := 16) dX8_isMet_16 rfl ?_
        refine ww_iadd hX (pc := 17) dX8_isMet_17 ?_
        refine ww_lald hX (pc := 18) (xs_32 hL) (by decide) (by omega) (by omega) dX8_isMet_18 ?_
        refine ww_lconst hX (pc := 19) (x := 0) dX8_isMet_19 (by decide) ?_
        refine ww_lcmp hX (pc := 20) dX8_isMet_20 ?_
        refine ww_if_eq hX (pc := 21) (tgt := 26) dX8_isMet_21 (by decide) (fun h_21 => ?_) (fun h_21 => ?_)
        · simp only [w32_mod] at h_21
          have hz : w64 (Ja 32 (w * 256 + a).toNat) = 0 := by
            have h9 := l_cmp_v (Ja 32 (w * 256 + a).toNat) 0
            rw [show w64 0 = 0 from rfl] at h9
            omega
          refine ww_iinc hX (pc := 26) (lv' := [some (kR (some 31)), some (kI a), some (kI b), some (kI (w + 1))]) dX8_isMet_26 rfl (by decide) rfl rfl ?_
          refine ww_goto hX (pc := 29) (tgt := 2) dX8_isMet_29 (by decide) ?_
          exact ih_2 _ (by have hm9 := Sh0_e hq_2; omega) (w + 1) rfl ⟨by omega, by omega, fun i hi => by
  by_cases e9 : (i : Int) = w
  · rw [show i * 256 + a.toNat = (w * 256 + a).toNat by omega]; exact hz
  · exact hz2 i (by omega)⟩
        · simp only [w32_mod] at h_21
          refine ww_iconst hX (pc := 24) (x := 1) dX8_isMet_24 rfl ?_
          refine rZ hX (pc := 25) hT (Nat.le_refl 0) (Nat.le_refl 0) dX8_isMet_25 (by decide) ?_
          exact ⟨rfl, rfl, by omega, fun h9 => absurd h9 (by omega)⟩
  exact hl_2 _ 0 rfl ⟨by omega, by omega, fun i hi => absurd hi (by omega)⟩
set_option maxHeartbeats 4000000 in
set_option maxRecDepth 20000 in
theorem c8_X8_spread (l0 : Launch) {Ia Ja : aI1} {Ra : aR1} {Sa : aS1} (hL : LY Ra Sa) (hI : XI Ia) {a b m e g : Int} {G : Nat} (ha0 : 0 ≤ a) (ha1 : a ≤ FU (Ia 1 5)) (hb0 : 0 ≤ b) (hb1 : b ≤ 8) (he0 : -1 ≤ e) (he1 : e ≤ 7) (hg0 : -1 ≤ g) (hg1 : g ≤ 7) (hm0 : 0 ≤ m) (hm1 : m ≤ 3) (hTR : ∀ t : Nat, (t : Int) ≤ FU (Ia 1 5) → TR m Ia Ja t) (hG : a.toNat &&& G = a.toNat) (hM : MW (PD m e g (Ia 1 6).toNat (FU (Ia 1 5) + 1).toNat Ia Ja (a.toNat)) b (FU (Ia 1 5) + 1).toNat G (Ja 32))  : CT l0 3 0 0 mX8_spread [kR (some 31), kI a, kI b, kI m, kI e, kI g] Ia Ja Ra Sa (cV (fun I' J' => Kp 21 22 Ia I' ∧ Kp 32 33 Ja J' ∧ MW (PD m e g (Ia 1 6).toNat (FU (Ia 1 5) + 1).toNat Ia Ja (a.toNat + 1)) b (FU (Ia 1 5) + 1).toNat G (J' 32)) Ra Sa) := by
  refine ct_in pn_X8 (Nat.le_of_ble_eq_true rfl) (fun X hX hT hIn => ?_)
  have hX : aK l0 X cX8_spread 10 RX8 none 3 0 0 := hX
  change WW X 0 [some (kR (some 31)), some (kI a), some (kI b), some (kI m), some (kI e), some (kI g), none, none, none, none] [] Ia Ja Ra Sa 0 0
  obtain ⟨hn1, hn2⟩ := hI.1
  obtain ⟨hk1, hk2⟩ := hI.2.1
  obtain ⟨hf1, hf2⟩ := hI.fu
  refine ww_aload_n hX (pc := 0) dX8_spread_0 rfl ?_
  refine ww_getR hX (pc := 1) fX8_15 (by decide) (xs_31 hL) (xr_31_0 hL) dX8_spread_1 ?_
  refine ww_iload_n hX (pc := 4) dX8_spread_4 rfl ?_
  refine ww_iload_n hX (pc := 5) dX8_spread_5 rfl ?_
  refine vV2 hX (pc := 6) sX8_39 (xs_18 hL) (c8_X4_chooseAll l0 hL hI (by omega) (by omega) (by omega) (by omega) hTR) (by decide) (Nat.le_refl 0) (Nat.le_refl 0) (Nat.le_of_ble_eq_true rfl) dX8_spread_6 (fun I_6 J_6 h_6 => ?_)
  have h_6j := h_6.2.1
  subst h_6j
  have kI_6 : Kp 21 22 Ia I_6 := Kp_tr (Kp_rf (a := 21) (b := 22)) (Kp_wd h_6.1 (by decide) (by decide))
  have r1_5_I_6 : I_6 1 5 = Ia 1 5 := Kp_at kI_6 1 5 (by decide)
  have r1_6_I_6 : I_6 1 6 = Ia 1 6 := Kp_at kI_6 1 6 (by decide)
  have rf_I_6 : FU (I_6 1 5) = FU (Ia 1 5) := by rw [r1_5_I_6]
  refine ww_aload_n hX (pc := 9) dX8_spread_9 rfl ?_
  refine ww_getR hX (pc := 10) fX8_15 (by decide) (xs_31 hL) (xr_31_0 hL) dX8_spread_10 ?_
  refine ww_getR hX (pc := 13) fX8_43 (by decide) (xs_18 hL) (xr_18_0 hL) dX8_spread_13 ?_
  refine ww_getR hX (pc := 16) fX8_47 (by decide) (xs_1 hL) (xr_1_1 hL) dX8_spread_16 ?_
  refine ww_iload_n hX (pc := 19) dX8_spread_19 rfl ?_
  refine ww_iald hX (pc := 20) (xs_3 hL) (by decide) (by omega) (by omega) dX8_spread_20 ?_
  refine ww_nmI (fun v_21 hv_21 => ?_)
  refine ww_istore hX (pc := 21) (lv' := [some (kR (some 31)), some (kI a), some (kI b), some (kI m), some (kI e), some (kI g), some (kI v_21), none, none, none]) dX8_spread_21 (by decide) rfl rfl ?_
  refine ww_iconst hX (pc := 23) (x := 0) dX8_spread_23 rfl ?_
  refine ww_istore hX (pc := 24) (lv' := [some (kR (some 31)), some (kI a), some (kI b), some (kI m), some (kI e), some (kI g), some (kI v_21), some (kI 0), none, none]) dX8_spread_24 (by decide) rfl rfl ?_
  have hl_26 : ∀ (n_26 : Nat) (w : Int) (J2 : aI1), (Ia 1 6 - w).toNat = n_26 → (Kp 32 33 Ja J2 ∧ MW (QW (Ia 3) (nxD m Ia (Ia 19) (Ia 24) (Ja 28)) e g (Ia 1 6).toNat (FU (Ia 1 5) + 1).toNat a.toNat w.toNat) b (FU (Ia 1 5) + 1).toNat G (J2 32) ∧ 0 ≤ w ∧ w ≤ Ia 1 6) → WW X 26 [some (kR (some 31)), some (kI a), some (kI b), some (kI m), some (kI e), some (kI g), some (kI v_21), some (kI w), none, none] [] I_6 J2 Ra Sa 0 0 := by
    intro n_26
    induction n_26 using Nat.strongRecOn with
    | ind n_26 ih_26 =>
      intro w J2 hm_26 hv_26
      have hq_26 := Sh0_i hm_26
      clear hm_26
      obtain ⟨kJ2, mw2, hw0, hw1⟩ := hv_26
      refine ww_iload hX (pc := 26) dX8_spread_26 rfl ?_
      refine ww_aload_n hX (pc := 28) dX8_spread_28 rfl ?_
      refine ww_getR hX (pc := 29) fX8_15 (by decide) (xs_31 hL) (xr_31_0 hL) dX8_spread_29 ?_
      refine ww_getR hX (pc := 32) fX8_43 (by decide) (xs_18 hL) (xr_18_0 hL) dX8_spread_32 ?_
      refine ww_getI hX (pc := 35) fX8_53 (by decide) (xs_1 hL) dX8_spread_35 ?_
      refine ww_icmp_ge hX (pc := 38) (tgt := 136) dX8_spread_38 (by decide) (fun h_38 => ?_) (fun h_38 => ?_)
      · simp only [w32_mod] at h_38
        refine rV hX (pc := 136) hT (Nat.le_refl 0) (Nat.le_refl 0) dX8_spread_136 ?_
        rw [show w.toNat = (Ia 1 6).toNat by omega] at mw2
        exact ⟨kI_6, kJ2, MW_e mw2⟩
      · simp only [w32_mod] at h_38
        refine ww_aload_n hX (pc := 41) dX8_spread_41 rfl ?_
        refine ww_getR hX (pc := 42) fX8_15 (by decide) (xs_31 hL) (xr_31_0 hL) dX8_spread_42 ?_
        refine ww_getR hX (pc := 45) fX8_57 (by decide) (xs_18 hL) (xr_18_3 hL) dX8_spread_45 ?_
        refine ww_iload hX (pc := 48) dX8_spread_48 rfl ?_
        refine ww_iald hX (pc := 50) (xs_21 hL) (by decide) (by omega) (by omega) dX8_spread_50 ?_
        refine ww_nmI (fun v_51 hv_51 => ?_)
        refine ww_istore hX (pc := 51) (lv' := [some (kR (some 31)), some (kI a), some (kI b), some (kI m), some (kI e), some (kI g), some (kI v_21), some (kI w), some (kI v_51), none]) dX8_spread_51 (by decide) rfl rfl ?_
        have hch := h_6.2.2.2 w.toNat (by omega)
        have hcd := hI.2.2.2.2.2.2.2.2.2.1 a.toNat (by omega)
        have ho9 : v_21 = Ia 3 a.toNat := by rw [hv_21, kI_6 3 (by decide)]
        have hnx0 : nxD m Ia (Ia 19) (Ia 24) (Ja 28) a.toNat w.toNat = v_51 := by
          unfold nxD
          rw [hv_51, show ((a.toNat : Nat) : Int) = a by omega]
          exact (h_6.2.2.1 w.toNat (by omega)).symm
        rw [← hv_51] at hch
        refine ww_iload hX (pc := 53) dX8_spread_53 rfl ?_
        refine ww_iload hX (pc := 55) dX8_spread_55 rfl ?_
        refine ww_icmp_eq hX (pc := 57) (tgt := 130) dX8_spread_57 (by decide) (fun h_57 => ?_) (fun h_57 => ?_)
        · simp only [w32_mod] at h_57
          have mn26 : MW (QW (Ia 3) (nxD m Ia (Ia 19) (Ia 24) (Ja 28)) e g (Ia 1 6).toNat (FU (Ia 1 5) + 1).toNat a.toNat (w.toNat + 1)) b (FU (Ia 1 5) + 1).toNat G (J2 32) := MW_own mw2 (by omega)
          refine ww_iinc hX (pc := 130) (lv' := [some (kR (some 31)), some (kI a), some (kI b), some (kI m), some (kI e), some (kI g), some (kI v_21), some (kI (w + 1)), some (kI v_51), none]) dX8_spread_130 rfl (by decide) rfl rfl ?_
          refine ww_goto hX (pc := 133) (tgt := 26) dX8_spread_133 (by decide) ?_
          refine ww_sub [some (kR (some 31)), some (kI a), some (kI b), some (kI m), some (kI e), some (kI g), some (kI v_21), some (kI (w + 1)), none, none] (aLe_s (aLe_s (aLe_s (aLe_s (aLe_s (aLe_s (aLe_s (aLe_s (aLe_n (aLe_n aLe_0)))))))))) ?_
          exact ih_26 _ (by have hm9 := Sh0_e hq_26; omega) (w + 1) J2 rfl ⟨kJ2, by rw [show (w + 1).toNat = w.toNat + 1 by omega]; exact mn26, by omega, by omega⟩
        · simp only [w32_mod] at h_57
          refine ww_iload hX (pc := 60) dX8_spread_60 rfl ?_
          refine ww_iconst hX (pc := 62) (x := (-1)) dX8_spread_62 rfl ?_
          refine ww_icmp_ne hX (pc := 63) (tgt := 69) dX8_spread_63 (by decide) (fun h_63 => ?_) (fun h_63 => ?_)
          · simp only [w32_mod] at h_63
            have hnx : nxD m Ia (Ia 19) (Ia 24) (Ja 28) a.toNat w.toNat = ((v_51.toNat : Nat) : Int) := by rw [hnx0]; omega
            refine ww_iconst hX (pc := 69) (x := 0) dX8_spread_69 rfl ?_
            refine ww_istore hX (pc := 70) (lv' := [some (kR (some 31)), some (kI a), some (kI b), some (kI m), some (kI e), some (kI g), some (kI v_21), some (kI w), some (kI v_51), some (kI 0)]) dX8_spread_70 (by decide) rfl rfl ?_
            have hl_72 : ∀ (n_72 : Nat) (u : Int) (J3 : aI1), (b - u).toNat = n_72 → (Kp 32 33 Ja J3 ∧ MW (VW (Ia 3) (nxD m Ia (Ia 19) (Ia 24) (Ja 28)) e g (Ia 1 6).toNat (FU (Ia 1 5) + 1).toNat a.toNat w.toNat u.toNat) b (FU (Ia 1 5) + 1).toNat G (J3 32) ∧ 0 ≤ u ∧ u ≤ b) → WW X 72 [some (kR (some 31)), some (kI a), some (kI b), some (kI m), some (kI e), some (kI g), some (kI v_21), some (kI w), some (kI v_51), some (kI u)] [] I_6 J3 Ra Sa 0 0 := by
              intro n_72
              induction n_72 using Nat.strongRecOn with
              | ind n_72 ih_72 =>
                intro u J3 hm_72 hv_72
                have hq_72 := Sh0_i hm_72
                clear hm_72
                obtain ⟨kJ3, mw3, hu0, hu1⟩ := hv_72
                refine ww_iload hX (pc := 72) dX8_spread_72 rfl ?_
                refine ww_iload_n hX (pc := 74) dX8_spread_74 rfl ?_
                refine ww_icmp_ge hX (pc := 75) (tgt := 130) dX8_spread_75 (by decide) (fun h_75 => ?_) (fun h_75 => ?_)
                · simp only [w32_mod] at h_75
                  have mn26 : MW (QW (Ia 3) (nxD m Ia (Ia 19) (Ia 24) (Ja 28)) e g (Ia 1 6).toNat (FU (Ia 1 5) + 1).toNat a.toNat (w.toNat + 1)) b (FU (Ia 1 5) + 1).toNat G (J3 32) := MW_out mw3 (by omega)
                  refine ww_iinc hX (pc := 130) (lv' := [some (kR (some 31)), some (kI a), some (kI b), some (kI m), some (kI e), some (kI g), some (kI v_21), some (kI (w + 1)), some (kI v_51), some (kI u)]) dX8_spread_130 rfl (by decide) rfl rfl ?_
                  refine ww_goto hX (pc := 133) (tgt := 26) dX8_spread_133 (by decide) ?_
                  refine ww_sub [some (kR (some 31)), some (kI a), some (kI b), some (kI m), some (kI e), some (kI g), some (kI v_21), some (kI (w + 1)), none, none] (aLe_s (aLe_s (aLe_s (aLe_s (aLe_s (aLe_s (aLe_s (aLe_s (aLe_n (aLe_n aLe_0)))))))))) ?_
                  exact ih_26 _ (by have hm9 := Sh0_e hq_26; omega) (w + 1) J3 rfl ⟨kJ3, by rw [show (w + 1).toNat = w.toNat + 1 by omega]; exact mn26, by omega, by omega⟩
                · simp only [w32_mod] at h_75
                  refine ww_iload hX (pc := 78) dX8_spread_78 rfl ?_
                  refine ww_iload hX (pc := 80) dX8_spread_80 rfl ?_
                  refine ww_icmp_ne hX (pc := 82) (tgt := 92) dX8_spread_82 (by decide) (fun h_82 => ?_) (fun h_82 => ?_)
                  · simp only [w32_mod] at h_82
                    refine ww_aload_n hX (pc := 92) dX8_spread_92 rfl ?_
                    refine ww_getR hX (pc := 93) fX8_9 (by decide) (xs_31 hL) (xr_31_1 hL) dX8_spread_93 ?_
                    refine ww_iload hX (pc := 96) dX8_spread_96 rfl ?_
                    refine ww_iconst hX (pc := 98) (x := 1) dX8_spread_98 rfl ?_
                    refine ww_iadd hX (pc := 99) dX8_spread_99 ?_
                    refine ww_sipush hX (pc := 100) (x := 256) dX8_spread_100 (by decide) ?_
                    refine ww_imul hX (pc := 103) dX8_spread_103 ?_
                    refine ww_iload hX (pc := 104) dX8_spread_104 rfl ?_
                    refine ww_iadd hX (pc := 106) dX8_spread_106 ?_
                    refine ww_dup2 hX (pc := 107) dX8_spread_107 ?_
                    refine ww_lald hX (pc := 108) (xs_32 hL) (by decide) (by omega) (by omega) dX8_spread_108 ?_
                    refine ww_aload_n hX (pc := 109) dX8_spread_109 rfl ?_
                    refine ww_getR hX (pc := 110) fX8_9 (by decide) (xs_31 hL) (xr_31_1 hL) dX8_spread_110 ?_
                    refine ww_iload hX (pc := 113) dX8_spread_113 rfl ?_
                    refine ww_sipush hX (pc := 115) (x := 256) dX8_spread_115 (by decide) ?_
                    refine ww_imul hX (pc := 118) dX8_spread_118 ?_
                    refine ww_iload_n hX (pc := 119) dX8_spread_119 rfl ?_
                    refine ww_iadd hX (pc := 120) dX8_spread_120 ?_
                    refine ww_lald hX (pc := 121) (xs_32 hL) (by decide) (by omega) (by omega) dX8_spread_121 ?_
                    refine ww_ladd hX (pc := 122) dX8_spread_122 ?_
                    refine ww_last hX (pc := 123) (xs_32 hL) (by decide) (by omega) (by omega) dX8_spread_123 ?_
                    refine ww_nmK (fun J_123 eJ_123 => ?_)
                    have kJ_123 : Kp 32 33 Ja J_123 := by rw [eJ_123]; exact Kp_up kJ3 _ _ (by decide)
                    have mn72 : MW (VW (Ia 3) (nxD m Ia (Ia 19) (Ia 24) (Ja 28)) e g (Ia 1 6).toNat (FU (Ia 1 5) + 1).toNat a.toNat w.toNat (u.toNat + 1)) b (FU (Ia 1 5) + 1).toNat G (J_123 32) := by
                      rw [eJ_123, up2_row]
                      exact MW_add (UpW_nxD (m := m) (I := Ia) (o := Ia 19) (L := Ia 24) (T := Ja 28) (K := (Ia 1 6).toNat) (N := (FU (Ia 1 5) + 1).toNat) rfl) (by omega) mw3 (by omega) hG (by omega) (by omega) hnx (by omega) (by omega) (fun h9 => by omega) (by omega) (by omega)
                    refine ww_iinc hX (pc := 124) (lv' := [some (kR (some 31)), some (kI a), some (kI b), some (kI m), some (kI e), some (kI g), some (kI v_21), some (kI w), some (kI v_51), some (kI (u + 1))]) dX8_spread_124 rfl (by decide) rfl rfl ?_
                    refine ww_goto hX (pc := 127) (tgt := 72) dX8_spread_127 (by decide) ?_
                    exact ih_72 _ (by have hm9 := Sh0_e hq_72; omega) (u + 1) J_123 rfl ⟨kJ_123, by rw [show (u + 1).toNat = u.toNat + 1 by omega]; exact mn72, by omega, by omega⟩
                  · simp only [w32_mod] at h_82
                    refine ww_iload hX (pc := 85) dX8_spread_85 rfl ?_
                    refine ww_iload hX (pc := 87) dX8_spread_87 rfl ?_
                    refine ww_icmp_ne hX (pc := 89) (tgt := 124) dX8_spread_89 (by decide) (fun h_89 => ?_) (fun h_89 => ?_)
                    · simp only [w32_mod] at h_89
                      have mn72 : MW (VW (Ia 3) (nxD m Ia (Ia 19) (Ia 24) (Ja 28)) e g (Ia 1 6).toNat (FU (Ia 1 5) + 1).toNat a.toNat w.toNat (u.toNat + 1)) b (FU (Ia 1 5) + 1).toNat G (J3 32) := MW_skip mw3 (by omega) (by omega)
                      refine ww_iinc hX (pc := 124) (lv' := [some (kR (some 31)), some (kI a), some (kI b), some (kI m), some (kI e), some (kI g), some (kI v_21), some (kI w), some (kI v_51), some (kI (u + 1))]) dX8_spread_124 rfl (by decide) rfl rfl ?_
                      refine ww_goto hX (pc := 127) (tgt := 72) dX8_spread_127 (by decide) ?_
                      exact ih_72 _ (by have hm9 := Sh0_e hq_72; omega) (u + 1) J3 rfl ⟨kJ3, by rw [show (u + 1).toNat = u.toNat + 1 by omega]; exact mn72, by omega, by omega⟩
                    · simp only [w32_mod] at h_89
                      refine ww_aload_n hX (pc := 92) dX8_spread_92 rfl ?_
                      refine ww_getR hX (pc := 93) fX8_9 (by decide) (xs_31 hL) (xr_31_1 hL) dX8_spread_93 ?_
                      refine ww_iload hX (pc := 96) dX8_spread_96 rfl ?_
                      refine ww_iconst hX (pc := 98) (x := 1) dX8_spread_98 rfl ?_
                      refine ww_iadd hX (pc := 99) dX8_spread_99 ?_
                      refine ww_sipush hX (pc := 100) (x := 256) dX8_spread_100 (by decide) ?_
                      refine ww_imul hX (pc := 103) dX8_spread_103 ?_
                      refine ww_iload hX (pc := 104) dX8_spread_104 rfl ?_
                      refine ww_iadd hX (pc := 106) dX8_spread_106 ?_
                      refine ww_dup2 hX (pc := 107) dX8_spread_107 ?_
                      refine ww_lald hX (pc := 108) (xs_32 hL) (by decide) (by omega) (by omega) dX8_spread_108 ?_
                      refine ww_aload_n hX (pc := 109) dX8_spread_109 rfl ?_
                      refine ww_getR hX (pc := 110) fX8_9 (by decide) (xs_31 hL) (xr_31_1 hL) dX8_spread_110 ?_
                      refine ww_iload hX (pc := 113) dX8_spread_113 rfl ?_
                      refine ww_sipush hX (pc := 115) (x := 256) dX8_spread_115 (by decide) ?_
                      refine ww_imul hX (pc := 118) dX8_spread_118 ?_
                      refine ww_iload_n hX (pc := 119) dX8_spread_119 rfl ?_
                      refine ww_iadd hX (pc := 120) dX8_spread_120 ?_
                      refine ww_lald hX (pc := 121) (xs_32 hL) (by decide) (by omega) (by omega) dX8_spread_121 ?_
                      refine ww_ladd hX (pc := 122) dX8_spread_122 ?_
                      refine ww_last hX (pc := 123) (xs_32 hL) (by decide) (by omega) (by omega) dX8_spread_123 ?_
                      refine ww_nmK (fun J_123 eJ_123 => ?_)
                      have kJ_123 : Kp 32 33 Ja J_123 := by rw [eJ_123]; exact Kp_up kJ3 _ _ (by decide)
                      have mn72 : MW (VW (Ia 3) (nxD m Ia (Ia 19) (Ia 24) (Ja 28)) e g (Ia 1 6).toNat (FU (Ia 1 5) + 1).toNat a.toNat w.toNat (u.toNat + 1)) b (FU (Ia 1 5) + 1).toNat G (J_123 32) := by
                        rw [eJ_123, up2_row]
                        exact MW_add (UpW_nxD (m := m) (I := Ia) (o := Ia 19) (L := Ia 24) (T := Ja 28) (K := (Ia 1 6).toNat) (N := (FU (Ia 1 5) + 1).toNat) rfl) (by omega) mw3 (by omega) hG (by omega) (by omega) hnx (by omega) (by omega) (fun h9 => by omega) (by omega) (by omega)
                      refine ww_iinc hX (pc := 124) (lv' := [some (kR (some 31)), some (kI a), some (kI b), some (kI m), some (kI e), some (kI g), some (kI v_21), some (kI w), some (kI v_51), some (kI (u + 1))]) dX8_spread_124 rfl (by decide) rfl rfl ?_
                      refine ww_goto hX (pc := 127) (tgt := 72) dX8_spread_127 (by decide) ?_
                      exact ih_72 _ (by have hm9 := Sh0_e hq_72; omega) (u + 1) J_123 rfl ⟨kJ_123, by rw [show (u + 1).toNat = u.toNat + 1 by omega]; exact mn72, by omega, by omega⟩
            exact hl_72 _ 0 J2 rfl ⟨kJ2, MW_in mw2, by omega, by omega⟩
          · simp only [w32_mod] at h_63
            have mn26 : MW (QW (Ia 3) (nxD m Ia (Ia 19) (Ia 24) (Ja 28)) e g (Ia 1 6).toNat (FU (Ia 1 5) + 1).toNat a.toNat (w.toNat + 1)) b (FU (Ia 1 5) + 1).toNat G (J2 32) := MW_no mw2 (by rw [hnx0]; omega)
            refine ww_goto hX (pc := 66) (tgt := 130) dX8_spread_66 (by decide) ?_
            refine ww_iinc hX (pc := 130) (lv' := [some (kR (some 31)), some (kI a), some (kI b), some (kI m), some (kI e), some (kI g), some (kI v_21), some (kI (w + 1)), some (kI v_51), none]) dX8_spread_130 rfl (by decide) rfl rfl ?_
            refine ww_goto hX (pc := 133) (tgt := 26) dX8_spread_133 (by decide) ?_
            refine ww_sub [some (kR (some 31)), some (kI a), some (kI b), some (kI m), some (kI e), some (kI g), some (kI v_21), some (kI (w + 1)), none, none] (aLe_s (aLe_s (aLe_s (aLe_s (aLe_s (aLe_s (aLe_s (aLe_s (aLe_n (aLe_n aLe_0)))))))))) ?_
            exact ih_26 _ (by have hm9 := Sh0_e hq_26; omega) (w + 1) J2 rfl ⟨kJ2, by rw [show (w + 1).toNat = w.toNat + 1 by omega]; exact mn26, by omega, by omega⟩
  exact hl_26 _ 0 Ja rfl ⟨(Kp_rf (a := 32) (b := 33)), MW_s hM, by omega, by omega⟩
set_option maxHeartbeats 4000000 in
set_option maxRecDepth 20000 in
theorem c8_X8_countRows (l0 : Launch) {Ia Ja : aI1} {Ra : aR1} {Sa : aS1} (hL : LY Ra Sa) (hI : XI Ia) (hF : FRk Ia Ja) (hO : ∀ j, j < 8 → 0 ≤ Ia 2 j ∧ Ia 2 j ≤ 99) (hK : ∀ s : Nat, (s : Int) ≤ FU (Ia 1 5) → Ia 3 s < Ia 1 6) {a b m e g : Int} (ha0 : 0 ≤ a) (ha1 : a ≤ 8) (hb0 : 0 ≤ b) (hb1 : b ≤ FU (Ia 1 5)) (hm0 : 0 ≤ m) (hm1 : m ≤ 3) (he0 : -1 ≤ e) (he1 : e ≤ 7) (hg0 : -1 ≤ g) (hg1 : g ≤ 7)  : CT l0 6 0 0 mX8_countRows [kR (some 31), kI a, kI b, kI m, kI e, kI g] Ia Ja Ra Sa (cJ (fun x I' J' => Kp 18 33 Ia I' ∧ Kp 18 33 Ja J' ∧ FRk I' J' ∧ ∃ o L T, KT m Ia o L T ∧ x = RW (Ia 3) (nxD m Ia o L T) e g (Ia 1 6).toNat (FU (Ia 1 5) + 1).toNat a.toNat b.toNat) Ra Sa) := by
  refine ct_in pn_X8 (Nat.le_of_ble_eq_true rfl) (fun X hX hT hIn => ?_)
  have hX : aK l0 X cX8_countRows 7 RX8 (some .long) 6 0 0 := hX
  change WW X 0 [some (kR (some 31)), some (kI a), some (kI b), some (kI m), some (kI e), some (kI g), none] [] Ia Ja Ra Sa 0 0
  obtain ⟨hn1, hn2⟩ := hI.1
  obtain ⟨hk1, hk2⟩ := hI.2.1
  obtain ⟨hf1, hf2⟩ := hI.fu
  refine ww_aload_n hX (pc := 0) dX8_countRows_0 rfl ?_
  refine ww_getR hX (pc := 1) fX8_15 (by decide) (xs_31 hL) (xr_31_0 hL) dX8_countRows_1 ?_
  refine ww_iload_n hX (pc := 4) dX8_countRows_4 rfl ?_
  refine vV1 hX (pc := 5) sX8_19 (xs_18 hL) (c8_X4_prepare l0 hL hI hF hK (by omega) (by omega)) (by decide) (Nat.le_refl 0) (Nat.le_refl 0) (Nat.le_of_ble_eq_true rfl) dX8_countRows_5 (fun I_5 J_5 h_5 => ?_)
  have kI_5 : Kp 18 33 Ia I_5 := Kp_tr (Kp_rf (a := 18) (b := 33)) (Kp_wd h_5.1 (by decide) (by decide))
  have kJ_5 : Kp 18 33 Ja J_5 := Kp_tr (Kp_rf (a := 18) (b := 33)) (Kp_wd h_5.2.1 (by decide) (by decide))
  have r1_5_I_5 : I_5 1 5 = Ia 1 5 := Kp_at kI_5 1 5 (by decide)
  have r1_6_I_5 : I_5 1 6 = Ia 1 6 := Kp_at kI_5 1 6 (by decide)
  have rf_I_5 : FU (I_5 1 5) = FU (Ia 1 5) := by rw [r1_5_I_5]
  have fr5 := h_5.2.2.1
  have htr5 : ∀ t : Nat, (t : Int) ≤ FU (I_5 1 5) → TR m I_5 J_5 t := TR_p (XI_kp hI h_5.1 (by decide)) (by rw [h_5.1 2 (by decide)]; exact hO) h_5.2.2.2.1 h_5.2.2.2.2.1 h_5.2.2.2.2.2
  refine ww_aload_n hX (pc := 8) dX8_countRows_8 rfl ?_
  refine ww_getR hX (pc := 9) fX8_9 (by decide) (xs_31 hL) (xr_31_1 hL) dX8_countRows_9 ?_
  refine ww_iconst hX (pc := 12) (x := 0) dX8_countRows_12 rfl ?_
  refine ww_iload_n hX (pc := 13) dX8_countRows_13 rfl ?_
  refine ww_iconst hX (pc := 14) (x := 1) dX8_countRows_14 rfl ?_
  refine ww_iadd hX (pc := 15) dX8_countRows_15 ?_
  refine ww_sipush hX (pc := 16) (x := 256) dX8_countRows_16 (by decide) ?_
  refine ww_imul hX (pc := 19) dX8_countRows_19 ?_
  refine ww_lconst hX (pc := 20) (x := 0) dX8_countRows_20 (by decide) ?_
  refine sV4 hX (pc := 21) sX8_25 (c_J7_fill_bad5a l0 (xs_32 hL) (by decide) (by omega) (by omega) (by omega)) (by decide) (Nat.le_refl 0) (Nat.le_refl 0) (Nat.le_of_ble_eq_true rfl) dX8_countRows_21 (fun I_21 J_21 h_21 => ?_)
  obtain ⟨rfl, eJ_21⟩ := h_21
  have kJ_21 : Kp 18 33 Ja J_21 := by rw [eJ_21]; exact Kp_upR kJ_5 _ (by decide)
  refine ww_aload_n hX (pc := 24) dX8_countRows_24 rfl ?_
  refine ww_getR hX (pc := 25) fX8_9 (by decide) (xs_31 hL) (xr_31_1 hL) dX8_countRows_25 ?_
  refine ww_iconst hX (pc := 28) (x := 0) dX8_countRows_28 rfl ?_
  refine ww_lconst hX (pc := 29) (x := 1) dX8_countRows_29 (by decide) ?_
  refine ww_last hX (pc := 30) (xs_32 hL) (by decide) (by omega) (by omega) dX8_countRows_30 ?_
  refine ww_nmK (fun J_30 eJ_30 => ?_)
  have kJ_30 : Kp 18 33 Ja J_30 := by rw [eJ_30]; exact Kp_up kJ_21 _ _ (by decide)
  have kq30 : Kp 32 33 J_5 J_30 := by rw [eJ_30, eJ_21]; exact Kp_up (Kp_upR Kp_rf _ (by decide)) _ _ (by decide)
  have mw30 : MW (PD m e g (Ia 1 6).toNat (FU (Ia 1 5) + 1).toNat I_5 J_5 (0)) a (FU (Ia 1 5) + 1).toNat b.toNat (J_30 32) := by
    rw [eJ_30, up2_row, eJ_21]
    exact MW_0 (by omega) (by omega) (fun k hk => by rw [upR_s]; exact if_pos (by omega))
  have hU : UpW (I_5 3) (nxD m I_5 (I_5 19) (I_5 24) (J_5 28)) (Ia 1 6).toNat (FU (Ia 1 5) + 1).toNat := UpW_nxD (by rw [rf_I_5])
  refine ww_iconst hX (pc := 31) (x := 0) dX8_countRows_31 rfl ?_
  refine ww_istore hX (pc := 32) (lv' := [some (kR (some 31)), some (kI a), some (kI b), some (kI m), some (kI e), some (kI g), some (kI 0)]) dX8_countRows_32 (by decide) rfl rfl ?_
  have hl_34 : ∀ (n_34 : Nat) (q : Int) (I2 : aI1) (J2 : aI1), (b - q).toNat = n_34 → (Kp 18 33 Ia I2 ∧ Kp 18 33 Ja J2 ∧ (0 ≤ q ∧ q ≤ b) ∧ Kp 21 22 I_5 I2 ∧ Kp 32 33 J_5 J2 ∧ MW (PD m e g (Ia 1 6).toNat (FU (Ia 1 5) + 1).toNat I_5 J_5 (q.toNat)) a (FU (Ia 1 5) + 1).toNat b.toNat (J2 32)) → WW X 34 [some (kR (some 31)), some (kI a), some (kI b), some (kI m), some (kI e), some (kI g), some (kI q)] [] I2 J2 Ra Sa 0 0 := by
    intro n_34
    induction n_34 using Nat.strongRecOn with
    | ind n_34 ih_34 =>
      intro q I2 J2 hm_34 hv_34
      have hq_34 := Sh0_i hm_34
      clear hm_34
      obtain ⟨kI2, kJ2, hq, kq, kjq, mwq⟩ := hv_34
      have r1_5_I2 : I2 1 5 = Ia 1 5 := Kp_at kI2 1 5 (by decide)
      have r1_6_I2 : I2 1 6 = Ia 1 6 := Kp_at kI2 1 6 (by decide)
      have rf_I2 : FU (I2 1 5) = FU (Ia 1 5) := by rw [r1_5_I2]
      refine ww_iload hX (pc := 34) dX8_countRows_34 rfl ?_
      refine ww_iload_n hX (pc := 36) dX8_countRows_36 rfl ?_
      refine ww_icmp_ge hX (pc := 37) (tgt := 77) dX8_countRows_37 (by decide) (fun h_37 => ?_) (fun h_37 => ?_)
      · simp only [w32_mod] at h_37
        refine ww_aload_n hX (pc := 77) dX8_countRows_77 rfl ?_
        refine ww_getR hX (pc := 78) fX8_9 (by decide) (xs_31 hL) (xr_31_1 hL) dX8_countRows_78 ?_
        refine ww_iload_n hX (pc := 81) dX8_countRows_81 rfl ?_
        refine ww_sipush hX (pc := 82) (x := 256) dX8_countRows_82 (by decide) ?_
        refine ww_imul hX (pc := 85) dX8_countRows_85 ?_
        refine ww_iload_n hX (pc := 86) dX8_countRows_86 rfl ?_
        refine ww_iadd hX (pc := 87) dX8_countRows_87 ?_
        refine ww_lald hX (pc := 88) (xs_32 hL) (by decide) (by omega) (by omega) dX8_countRows_88 ?_
        refine rJ hX (pc := 89) hT (Nat.le_refl 0) (Nat.le_refl 0) dX8_countRows_89 ?_
        have hqe : q.toNat = b.toNat := by omega
        rw [hqe] at mwq
        have h9 := MW_at hU mwq (by omega) (i := a.toNat) (by omega)
        rw [show a.toNat * 256 + b.toNat = (a * 256 + b).toNat by omega, nxD_kp (h_5.1 1 (by decide)) (h_5.1 3 (by decide)), h_5.1 3 (by decide)] at h9
        exact ⟨kI2, kJ2, FRk_kp (FRk_kp fr5 kq Kp_rf (by decide)) Kp_rf kjq (by decide), _, _, _, KT_p h_5.2.2.2.1 h_5.2.2.2.2.1 h_5.2.2.2.2.2 (h_5.1 1 (by decide)) (h_5.1 2 (by decide)) (h_5.1 3 (by decide)), h9⟩
      · simp only [w32_mod] at h_37
        refine ww_iload hX (pc := 40) dX8_countRows_40 rfl ?_
        refine ww_iload_n hX (pc := 42) dX8_countRows_42 rfl ?_
        refine ww_iand hX (pc := 43) dX8_countRows_43 ?_
        refine ww_iload hX (pc := 44) dX8_countRows_44 rfl ?_
        have hqa : i_and q b = ((q.toNat &&& b.toNat : Nat) : Int) := by
          have h9 := i_and_N (a := q.toNat) (b := b.toNat) (by omega)
          rw [show ((q.toNat : Nat) : Int) = q by omega, show ((b.toNat : Nat) : Int) = b by omega] at h9
          exact h9
        have hql : q.toNat &&& b.toNat ≤ q.toNat := Nat.and_le_left
        refine ww_icmp_ne hX (pc := 46) (tgt := 71) dX8_countRows_46 (by decide) (fun h_46 => ?_) (fun h_46 => ?_)
        · simp only [w32_mod] at h_46
          have mn34 : MW (PD m e g (Ia 1 6).toNat (FU (Ia 1 5) + 1).toNat I_5 J_5 (q.toNat + 1)) a (FU (Ia 1 5) + 1).toNat b.toNat (J2 32) := MW_np hU (by omega) mwq (fun h9 => h_46 (by rw [hqa, h9]; omega))
          refine ww_iinc hX (pc := 71) (lv' := [some (kR (some 31)), some (kI a), some (kI b), some (kI m), some (kI e), some (kI g), some (kI (q + 1))]) dX8_countRows_71 rfl (by decide) rfl rfl ?_
          refine ww_goto hX (pc := 74) (tgt := 34) dX8_countRows_74 (by decide) ?_
          exact ih_34 _ (by have hm9 := Sh0_e hq_34; omega) (q + 1) I2 J2 rfl ⟨kI2, kJ2, ⟨by omega, by omega⟩, kq, kjq, by rw [show (q + 1).toNat = q.toNat + 1 by omega]; exact mn34⟩
        · simp only [w32_mod] at h_46
          have hqg : q.toNat &&& b.toNat = q.toNat := by omega
          refine ww_aload_n hX (pc := 49) dX8_countRows_49 rfl ?_
          refine ww_iload hX (pc := 50) dX8_countRows_50 rfl ?_
          refine ww_iload_n hX (pc := 52) dX8_countRows_52 rfl ?_
          refine vI2 hX (pc := 53) sX8_31 (xs_31 hL) (c8_X8_isMet l0 hL (XI_kp hI kI2 (by decide)) (by omega) (by omega) (by omega) (by omega)) (by decide) (Nat.le_refl 0) (Nat.le_refl 0) (Nat.le_of_ble_eq_true rfl) dX8_countRows_53 (fun x_53 I_53 J_53 h_53 => ?_)
          obtain ⟨rfl, rfl, h_53⟩ := h_53
          refine ww_if_eq hX (pc := 56) (tgt := 71) dX8_countRows_56 (by decide) (fun h_56 => ?_) (fun h_56 => ?_)
          · simp only [w32_mod] at h_56
            have mn34 : MW (PD m e g (Ia 1 6).toNat (FU (Ia 1 5) + 1).toNat I_5 J_5 (q.toNat + 1)) a (FU (Ia 1 5) + 1).toNat b.toNat (J2 32) := MW_nm hU (by omega) (by omega) (by omega) mwq hqg (fun i hi => by
              have h1 := MW_bd hU (by omega) (by omega) (by omega) mwq hqg hi
              have h2 := h_53.2 (by omega) i hi
              rw [w64_id (by omega) (by omega)] at h2
              exact h2)
            refine ww_iinc hX (pc := 71) (lv' := [some (kR (some 31)), some (kI a), some (kI b), some (kI m), some (kI e), some (kI g), some (kI (q + 1))]) dX8_countRows_71 rfl (by decide) rfl rfl ?_
            refine ww_goto hX (pc := 74) (tgt := 34) dX8_countRows_74 (by decide) ?_
            exact ih_34 _ (by have hm9 := Sh0_e hq_34; omega) (q + 1) I2 J2 rfl ⟨kI2, kJ2, ⟨by omega, by omega⟩, kq, kjq, by rw [show (q + 1).toNat = q.toNat + 1 by omega]; exact mn34⟩
          · simp only [w32_mod] at h_56
            refine ww_aload_n hX (pc := 59) dX8_countRows_59 rfl ?_
            refine ww_iload hX (pc := 60) dX8_countRows_60 rfl ?_
            refine ww_iload_n hX (pc := 62) dX8_countRows_62 rfl ?_
            refine ww_iload_n hX (pc := 63) dX8_countRows_63 rfl ?_
            refine ww_iload hX (pc := 64) dX8_countRows_64 rfl ?_
            refine ww_iload hX (pc := 66) dX8_countRows_66 rfl ?_
            refine vV5 hX (pc := 68) sX8_35 (xs_31 hL) (c8_X8_spread l0 hL (XI_kp hI kI2 (by decide)) (by omega) (by omega) (by omega) (by omega) (by omega) (by omega) (by omega) (by omega) (by omega) (by omega) (fun t9 ht9 => TR_o2 (htr5 t9 (by rw [kq 1 (by decide)] at ht9; exact ht9)) (kq 19 (by decide)) (kq 24 (by decide)) (kjq 28 (by decide))) hqg (by rw [(PD_kp (kq 1 (by decide)) (kq 3 (by decide)) (kq 19 (by decide)) (kq 24 (by decide)) (kjq 28 (by decide))), rf_I2, r1_6_I2]; exact mwq)) (by decide) (Nat.le_refl 0) (Nat.le_refl 0) (Nat.le_of_ble_eq_true rfl) dX8_countRows_68 (fun I_68 J_68 h_68 => ?_)
            have kI_68 : Kp 18 33 Ia I_68 := Kp_tr kI2 (Kp_wd h_68.1 (by decide) (by decide))
            have kJ_68 : Kp 18 33 Ja J_68 := Kp_tr kJ2 (Kp_wd h_68.2.1 (by decide) (by decide))
            have r1_5_I_68 : I_68 1 5 = Ia 1 5 := Kp_at kI_68 1 5 (by decide)
            have r1_6_I_68 : I_68 1 6 = Ia 1 6 := Kp_at kI_68 1 6 (by decide)
            have rf_I_68 : FU (I_68 1 5) = FU (Ia 1 5) := by rw [r1_5_I_68]
            have mn34 : MW (PD m e g (Ia 1 6).toNat (FU (Ia 1 5) + 1).toNat I_5 J_5 (q.toNat + 1)) a (FU (Ia 1 5) + 1).toNat b.toNat (J_68 32) := by
              have h9 := h_68.2.2
              rw [(PD_kp (kq 1 (by decide)) (kq 3 (by decide)) (kq 19 (by decide)) (kq 24 (by decide)) (kjq 28 (by decide))), rf_I2, r1_6_I2] at h9
              exact h9
            refine ww_iinc hX (pc := 71) (lv' := [some (kR (some 31)), some (kI a), some (kI b), some (kI m), some (kI e), some (kI g), some (kI (q + 1))]) dX8_countRows_71 rfl (by decide) rfl rfl ?_
            refine ww_goto hX (pc := 74) (tgt := 34) dX8_countRows_74 (by decide) ?_
            exact ih_34 _ (by have hm9 := Sh0_e hq_34; omega) (q + 1) I_68 J_68 rfl ⟨kI_68, kJ_68, ⟨by omega, by omega⟩, Kp_tr kq h_68.1, Kp_tr kjq h_68.2.1, by rw [show (q + 1).toNat = q.toNat + 1 by omega]; exact mn34⟩
  exact hl_34 _ 0 I_5 J_30 rfl ⟨kI_5, kJ_30, ⟨by omega, by omega⟩, Kp_rf, kq30, mw30⟩
set_option maxHeartbeats 4000000 in
set_option maxRecDepth 20000 in
theorem c8_X10_rows (l0 : Launch) {Ia Ja : aI1} {Ra : aR1} {Sa : aS1} (hL : LY Ra Sa) (hC : CX Ia) (hF : FRk Ia Ja) {a b c : Int} (ha0 : -2147483648 ≤ a) (ha1 : a < 2147483648) (hb0 : -2147483648 ≤ b) (hb1 : b < 2147483648) (hc0 : -2147483648 ≤ c) (hc1 : c < 2147483648) (hO : ∀ j, j < 8 → 0 ≤ Ia 2 j ∧ Ia 2 j ≤ 99) (hK : ∀ s : Nat, (s : Int) ≤ FU (Ia 1 5) → Ia 3 s < Ia 1 6)  : CT l0 10 0 0 mX10_rows [kR (some 0), kI a, kI b, kI c] Ia Ja Ra Sa (cJ (fun x I' J' => (Kp 0 49 Ia I' ∧ Kp 0 49 Ja J' ∧ CX I' ∧ Fw [18, 19, 20, 21, 22, 23, 24, 25, 26, 27, 28, 29, 30, 31, 32] [] Ia I' ∧ ((0 ≤ a ∧ a ≤ 8 ∧ 0 ≤ b ∧ b ≤ FU (Ia 1 5) ∧ 0 ≤ c ∧ c ≤ 3) → ∃ o L T, KT c Ia o L T ∧ x = RW (Ia 3) (nxD c Ia o L T) (-1) (-1) (Ia 1 6).toNat (FU (Ia 1 5) + 1).toNat a.toNat b.toNat) ∧ (¬ (0 ≤ a ∧ a ≤ 8 ∧ 0 ≤ b ∧ b ≤ FU (Ia 1 5) ∧ 0 ≤ c ∧ c ≤ 3) → x = -1)) ∧ FRk I' J') Ra Sa) := by
  refine ct_in pn_X10 (Nat.le_of_ble_eq_true rfl) (fun X hX hT hIn => ?_)
  have hX : aK l0 X cX10_rows 4 RX10 (some .long) 10 0 0 := hX
  change WW X 0 [some (kR (some 0)), some (kI a), some (kI b), some (kI c)] [] Ia Ja Ra Sa 0 0
  have hI := hC.1
  have hq := XI_o hI
  refine ww_aload_n hX (pc := 0) dX10_rows_0 rfl ?_
  refine ww_iload_n hX (pc := 1) dX10_rows_1 rfl ?_
  refine ww_iload_n hX (pc := 2) dX10_rows_2 rfl ?_
  refine ww_iload_n hX (pc := 3) dX10_rows_3 rfl ?_
  refine vI3 hX (pc := 4) sX10_262 (xs_0 hL) (c_X10_isRowTo l0 hL hC.1 (by omega) (by omega) (by omega) (by omega) (by omega) (by omega)) (by decide) (Nat.le_refl 0) (Nat.le_refl 0) (Nat.le_of_ble_eq_true rfl) dX10_rows_4 (fun x_4 I_4 J_4 h_4 => ?_)
  obtain ⟨rfl, rfl, h_4⟩ := h_4
  refine ww_if_ne hX (pc := 7) (tgt := 14) dX10_rows_7 (by decide) (fun h_7 => ?_) (fun h_7 => ?_)
  · simp only [w32_mod] at h_7
    have k_4 := h_4.2.mp (by omega)
    clear h_4
    refine ww_aload_n hX (pc := 14) dX10_rows_14 rfl ?_
    refine ww_getR hX (pc := 15) fX10_57 (by decide) (xs_0 hL) (xr_0_6 hL) dX10_rows_15 ?_
    refine ww_iload_n hX (pc := 18) dX10_rows_18 rfl ?_
    refine ww_iload_n hX (pc := 19) dX10_rows_19 rfl ?_
    refine ww_iload_n hX (pc := 20) dX10_rows_20 rfl ?_
    refine ww_iconst hX (pc := 21) (x := (-1)) dX10_rows_21 rfl ?_
    refine ww_iconst hX (pc := 22) (x := (-1)) dX10_rows_22 rfl ?_
    refine vJ5 hX (pc := 23) sX10_265 (xs_31 hL) (c8_X8_countRows l0 hL hC.1 hF hO hK (by omega) (by omega) (by omega) (by omega) (by omega) (by omega) (by omega) (by omega) (by omega) (by omega)) (by decide) (Nat.le_refl 0) (Nat.le_refl 0) (Nat.le_of_ble_eq_true rfl) dX10_rows_23 (fun x_23 I_23 J_23 h_23 => ?_)
    have kI_23 : Kp 0 49 Ia I_23 := Kp_tr (Kp_rf (a := 0) (b := 49)) (Kp_wd h_23.1 (by decide) (by decide))
    have kJ_23 : Kp 0 49 Ja J_23 := Kp_tr (Kp_rf (a := 0) (b := 49)) (Kp_wd h_23.2.1 (by decide) (by decide))
    have cI_23 : CX I_23 := CX_kp hC h_23.1 (by decide) (by decide)
    have qI_23 := XI_o cI_23.1
    have r5_I_23 : I_23 1 5 = Ia 1 5 := by rw [h_23.1 1 (by decide)]
    have r6_I_23 : I_23 1 6 = Ia 1 6 := by rw [h_23.1 1 (by decide)]
    have r8_I_23 : I_23 1 8 = Ia 1 8 := by rw [h_23.1 1 (by decide)]
    have r9_I_23 : I_23 1 9 = Ia 1 9 := by rw [h_23.1 1 (by decide)]
    have r10_I_23 : I_23 1 10 = Ia 1 10 := by rw [h_23.1 1 (by decide)]
    have r11_I_23 : I_23 1 11 = Ia 1 11 := by rw [h_23.1 1 (by decide)]
    have rf_I_23 : FU (I_23 1 5) = FU (Ia 1 5) := by rw [r5_I_23]
    have wI_23 : Fw [18, 19, 20, 21, 22, 23, 24, 25, 26, 27, 28, 29, 30, 31, 32] [] Ia I_23 := Fw_kp Fw_rf h_23.1 (by decide)
    have r7_I_23 : I_23 1 7 = Ia 1 7 := by rw [h_23.1 1 (by decide)]
    have frI_23 : FRk I_23 J_23 := h_23.2.2.1
    refine rJ hX (pc := 26) hT (Nat.le_refl 0) (Nat.le_refl 0) dX10_rows_26 ?_
    exact ⟨⟨kI_23, kJ_23, cI_23, (Fw_wd wI_23 (by decide) (by decide)), (fun _ => h_23.2.2.2), (fun h9 => absurd (by omega) h9)⟩, frI_23⟩
  · simp only [w32_mod] at h_7
    refine ww_ldc2 hX (pc := 10) (x := (-1)) dX10_rows_10 tb_810 ?_
    refine rJ hX (pc := 13) hT (Nat.le_refl 0) (Nat.le_refl 0) dX10_rows_13 ?_
    exact ⟨⟨(Kp_rf (a := 0) (b := 49)), (Kp_rf (a := 0) (b := 49)), hC, Fw_rf, (fun h9 => absurd h9 (by omega)), (fun _ => rfl)⟩, hF⟩
set_option maxHeartbeats 4000000 in
set_option maxRecDepth 20000 in
theorem c8_X10_could (l0 : Launch) {Ia Ja : aI1} {Ra : aR1} {Sa : aS1} (hL : LY Ra Sa) (hC : CX Ia) (hF : FRk Ia Ja) {a b c e f : Int} (ha0 : -2147483648 ≤ a) (ha1 : a < 2147483648) (hb0 : -2147483648 ≤ b) (hb1 : b < 2147483648) (hc0 : -2147483648 ≤ c) (hc1 : c < 2147483648) (he0 : -2147483648 ≤ e) (he1 : e < 2147483648) (hf0 : -2147483648 ≤ f) (hf1 : f < 2147483648) (hO : ∀ j, j < 8 → 0 ≤ Ia 2 j ∧ Ia 2 j ≤ 99) (hK : ∀ s : Nat, (s : Int) ≤ FU (Ia 1 5) → Ia 3 s < Ia 1 6)  : CT l0 10 0 0 mX10_could [kR (some 0), kI a, kI b, kI c, kI e, kI f] Ia Ja Ra Sa (cJ (fun x I' J' => (Kp 0 49 Ia I' ∧ Kp 0 49 Ja J' ∧ CX I' ∧ Fw [18, 19, 20, 21, 22, 23, 24, 25, 26, 27, 28, 29, 30, 31, 32] [] Ia I' ∧ ((0 ≤ a ∧ a ≤ 8 ∧ 0 ≤ b ∧ b ≤ FU (Ia 1 5) ∧ 0 ≤ c ∧ c ≤ 3 ∧ 0 ≤ e ∧ e < a ∧ 0 ≤ f ∧ f < Ia 1 6) → ∃ o L T, KT c Ia o L T ∧ x = RW (Ia 3) (nxD c Ia o L T) e f (Ia 1 6).toNat (FU (Ia 1 5) + 1).toNat a.toNat b.toNat) ∧ (¬ (0 ≤ a ∧ a ≤ 8 ∧ 0 ≤ b ∧ b ≤ FU (Ia 1 5) ∧ 0 ≤ c ∧ c ≤ 3 ∧ 0 ≤ e ∧ e < a ∧ 0 ≤ f ∧ f < Ia 1 6) → x = -1)) ∧ FRk I' J') Ra Sa) := by
  refine ct_in pn_X10 (Nat.le_of_ble_eq_true rfl) (fun X hX hT hIn => ?_)
  have hX : aK l0 X cX10_could 6 RX10 (some .long) 10 0 0 := hX
  change WW X 0 [some (kR (some 0)), some (kI a), some (kI b), some (kI c), some (kI e), some (kI f)] [] Ia Ja Ra Sa 0 0
  have hI := hC.1
  have hq := XI_o hI
  refine ww_aload_n hX (pc := 0) dX10_could_0 rfl ?_
  refine ww_iload_n hX (pc := 1) dX10_could_1 rfl ?_
  refine ww_iload_n hX (pc := 2) dX10_could_2 rfl ?_
  refine ww_iload_n hX (pc := 3) dX10_could_3 rfl ?_
  refine vI3 hX (pc := 4) sX10_262 (xs_0 hL) (c_X10_isRowTo l0 hL hC.1 (by omega) (by omega) (by omega) (by omega) (by omega) (by omega)) (by decide) (Nat.le_refl 0) (Nat.le_refl 0) (Nat.le_of_ble_eq_true rfl) dX10_could_4 (fun x_4 I_4 J_4 h_4 => ?_)
  obtain ⟨rfl, rfl, h_4⟩ := h_4
  refine ww_if_eq hX (pc := 7) (tgt := 33) dX10_could_7 (by decide) (fun h_7 => ?_) (fun h_7 => ?_)
  · simp only [w32_mod] at h_7
    refine ww_ldc2 hX (pc := 33) (x := (-1)) dX10_could_33 tb_810 ?_
    refine rJ hX (pc := 36) hT (Nat.le_refl 0) (Nat.le_refl 0) dX10_could_36 ?_
    exact ⟨⟨(Kp_rf (a := 0) (b := 49)), (Kp_rf (a := 0) (b := 49)), hC, Fw_rf, (fun h9 => absurd h9 (by omega)), (fun _ => rfl)⟩, hF⟩
  · simp only [w32_mod] at h_7
    have k_4 := h_4.2.mp (by omega)
    clear h_4
    refine ww_iload hX (pc := 10) dX10_could_10 rfl ?_
    refine ww_if_lt hX (pc := 12) (tgt := 33) dX10_could_12 (by decide) (fun h_12 => ?_) (fun h_12 => ?_)
    · simp only [w32_mod] at h_12
      refine ww_ldc2 hX (pc := 33) (x := (-1)) dX10_could_33 tb_810 ?_
      refine rJ hX (pc := 36) hT (Nat.le_refl 0) (Nat.le_refl 0) dX10_could_36 ?_
      exact ⟨⟨(Kp_rf (a := 0) (b := 49)), (Kp_rf (a := 0) (b := 49)), hC, Fw_rf, (fun h9 => absurd h9 (by omega)), (fun _ => rfl)⟩, hF⟩
    · simp only [w32_mod] at h_12
      refine ww_iload hX (pc := 15) dX10_could_15 rfl ?_
      refine ww_iload_n hX (pc := 17) dX10_could_17 rfl ?_
      refine ww_icmp_ge hX (pc := 18) (tgt := 33) dX10_could_18 (by decide) (fun h_18 => ?_) (fun h_18 => ?_)
      · simp only [w32_mod] at h_18
        refine ww_ldc2 hX (pc := 33) (x := (-1)) dX10_could_33 tb_810 ?_
        refine rJ hX (pc := 36) hT (Nat.le_refl 0) (Nat.le_refl 0) dX10_could_36 ?_
        exact ⟨⟨(Kp_rf (a := 0) (b := 49)), (Kp_rf (a := 0) (b := 49)), hC, Fw_rf, (fun h9 => absurd h9 (by omega)), (fun _ => rfl)⟩, hF⟩
      · simp only [w32_mod] at h_18
        refine ww_aload_n hX (pc := 21) dX10_could_21 rfl ?_
        refine ww_getR hX (pc := 22) fX10_10 (by decide) (xs_0 hL) (xr_0_0 hL) dX10_could_22 ?_
        refine ww_iload hX (pc := 25) dX10_could_25 rfl ?_
        refine vI1 hX (pc := 27) sX10_134 (xs_1 hL) (c_X1_isNews l0 hL hC.1 (by omega)) (by decide) (Nat.le_refl 0) (Nat.le_refl 0) (Nat.le_of_ble_eq_true rfl) dX10_could_27 (fun x_27 I_27 J_27 h_27 => ?_)
        obtain ⟨rfl, rfl, h_27⟩ := h_27
        refine ww_if_ne hX (pc := 30) (tgt := 37) dX10_could_30 (by decide) (fun h_30 => ?_) (fun h_30 => ?_)
        · simp only [w32_mod] at h_30
          have k_27 := h_27.2.mp (by omega)
          clear h_27
          refine ww_aload_n hX (pc := 37) dX10_could_37 rfl ?_
          refine ww_getR hX (pc := 38) fX10_57 (by decide) (xs_0 hL) (xr_0_6 hL) dX10_could_38 ?_
          refine ww_iload_n hX (pc := 41) dX10_could_41 rfl ?_
          refine ww_iload_n hX (pc := 42) dX10_could_42 rfl ?_
          refine ww_iload_n hX (pc := 43) dX10_could_43 rfl ?_
          refine ww_iload hX (pc := 44) dX10_could_44 rfl ?_
          refine ww_iload hX (pc := 46) dX10_could_46 rfl ?_
          refine vJ5 hX (pc := 48) sX10_265 (xs_31 hL) (c8_X8_countRows l0 hL hC.1 hF hO hK (by omega) (by omega) (by omega) (by omega) (by omega) (by omega) (by omega) (by omega) (by omega) (by omega)) (by decide) (Nat.le_refl 0) (Nat.le_refl 0) (Nat.le_of_ble_eq_true rfl) dX10_could_48 (fun x_48 I_48 J_48 h_48 => ?_)
          have kI_48 : Kp 0 49 Ia I_48 := Kp_tr (Kp_rf (a := 0) (b := 49)) (Kp_wd h_48.1 (by decide) (by decide))
          have kJ_48 : Kp 0 49 Ja J_48 := Kp_tr (Kp_rf (a := 0) (b := 49)) (Kp_wd h_48.2.1 (by decide) (by decide))
          have cI_48 : CX I_48 := CX_kp hC h_48.1 (by decide) (by decide)
          have qI_48 := XI_o cI_48.1
          have r5_I_48 : I_48 1 5 = Ia 1 5 := by rw [h_48.1 1 (by decide)]
          have r6_I_48 : I_48 1 6 = Ia 1 6 := by rw [h_48.1 1 (by decide)]
          have r8_I_48 : I_48 1 8 = Ia 1 8 := by rw [h_48.1 1 (by decide)]
          have r9_I_48 : I_48 1 9 = Ia 1 9 := by rw [h_48.1 1 (by decide)]
          have r10_I_48 : I_48 1 10 = Ia 1 10 := by rw [h_48.1 1 (by decide)]
          have r11_I_48 : I_48 1 11 = Ia 1 11 := by rw [h_48.1 1 (by decide)]
          have rf_I_48 : FU (I_48 1 5) = FU (Ia 1 5) := by rw [r5_I_48]
          have wI_48 : Fw [18, 19, 20, 21, 22, 23, 24, 25, 26, 27, 28, 29, 30, 31, 32] [] Ia I_48 := Fw_kp Fw_rf h_48.1 (by decide)
          have r7_I_48 : I_48 1 7 = Ia 1 7 := by rw [h_48.1 1 (by decide)]
          have frI_48 : FRk I_48 J_48 := h_48.2.2.1
          refine rJ hX (pc := 51) hT (Nat.le_refl 0) (Nat.le_refl 0) dX10_could_51 ?_
          exact ⟨⟨kI_48, kJ_48, cI_48, (Fw_wd wI_48 (by decide) (by decide)), (fun _ => h_48.2.2.2), (fun h9 => absurd (by omega) h9)⟩, frI_48⟩
        · simp only [w32_mod] at h_30
          refine ww_ldc2 hX (pc := 33) (x := (-1)) dX10_could_33 tb_810 ?_
          refine rJ hX (pc := 36) hT (Nat.le_refl 0) (Nat.le_refl 0) dX10_could_36 ?_
          exact ⟨⟨(Kp_rf (a := 0) (b := 49)), (Kp_rf (a := 0) (b := 49)), hC, Fw_rf, (fun h9 => absurd h9 (by omega)), (fun _ => rfl)⟩, hF⟩
end
section
/-- status and refusals after a call that answers x -/
def LSt (x : Int) (I I' : aI1) : Prop := (x < 0 → I' 0 16 = x ∧ I' 48 = up1 (I 48) (-x).toNat (I 48 (-x).toNat + 1)) ∧ (0 ≤ x → I' 0 16 = 0 ∧ I' 48 = I 48)
theorem LSt_r {x k : Int} {I I1 I2 : aI1} (h : x = k ∧ I2 0 16 = k ∧ I2 48 = up1 (I1 48) (-k).toNat (I1 48 (-k).toNat + 1)) (e : I1 48 = I 48) (hk : k < 0) : LSt x I I2 := by
  obtain ⟨rfl, h2, h3⟩ := h
  exact ⟨fun _ => ⟨h2, by rw [h3, e]⟩, fun h9 => absurd h9 (by omega)⟩
theorem LSt_a {x k : Int} {I I2 : aI1} (h : x = k ∧ I2 0 16 = 0) (e : I2 48 = I 48) (hk : 0 ≤ k) : LSt x I I2 := by
  obtain ⟨rfl, h2⟩ := h
  exact ⟨fun h9 => absurd h9 (by omega), fun _ => ⟨h2, e⟩⟩
theorem FRk_w {rs : List Nat} {ws : List (Nat × Nat)} {I I' J J' : aI1} (h : FRk I J) (w : Fw rs ws I I') (hr : 1 ∉ rs ∧ 2 ∉ rs ∧ 3 ∉ rs ∧ 18 ∉ rs ∧ 19 ∉ rs ∧ 24 ∉ rs) (hw : ∀ p ∈ ws, p ≠ (1, 5) ∧ p ≠ (1, 6) ∧ p ≠ (1, 7) ∧ p.1 ≠ 2 ∧ p.1 ≠ 3 ∧ p.1 ≠ 18 ∧ p.1 ≠ 19 ∧ p.1 ≠ 24) (j18 : J' 18 = J 18) (j28 : J' 28 = J 28) : FRk I' J' :=
  FRk_of h (Fw_row w 18 (by decide) hr.2.2.2.1 (fun p hp => (hw p hp).2.2.2.2.2.1)) (w 1 5 (by decide) hr.1 (fun q => (hw _ q).1 rfl)) (w 1 6 (by decide) hr.1 (fun q => (hw _ q).2.1 rfl)) (w 1 7 (by decide) hr.1 (fun q => (hw _ q).2.2.1 rfl)) (Fw_row w 2 (by decide) hr.2.1 (fun p hp => (hw p hp).2.2.2.1)) (Fw_row w 3 (by decide) hr.2.2.1 (fun p hp => (hw p hp).2.2.2.2.1)) (Fw_row w 19 (by decide) hr.2.2.2.2.1 (fun p hp => (hw p hp).2.2.2.2.2.2.1)) (Fw_row w 24 (by decide) hr.2.2.2.2.2 (fun p hp => (hw p hp).2.2.2.2.2.2.2)) (by rw [j18]) j28
set_option maxHeartbeats 4000000 in
set_option maxRecDepth 20000 in
theorem c8_X10_law (l0 : Launch) {Ia Ja : aI1} {Ra : aR1} {Sa : aS1} (hCI : CI Ia Ra Sa) (hF : FRk Ia Ja) {f : Nat → Int} {N : Nat} (hN : Ia 8 1 = N) (hf : ∀ j, j < N → f j = Ia 9 j)  : CT l0 300 3 428 mX10_law [kR (some 0)] Ia Ja Ra Sa (dI (fun x I' J' R' S' => (CI I' R' S' ∧ (∀ k, 49 ≤ k → k < 73 → I' k = Ia k ∧ J' k = Ja k ∧ R' k = Ra k) ∧ Fw [10, 11, 12, 13, 14, 48] [(0, 16), (1, 9), (8, 1)] Ia I' ∧ R' 7 = Ra 7 ∧ (∀ k, 73 ≤ k → k < Sa.length → I' k = Ia k ∧ R' k = Ra k) ∧ I' 8 1 = 0 ∧ SX Sa S' ∧ (6 ≤ Ia 1 9 → x = -5 ∧ R' 4 = Ra 4 ∧ I' 1 9 = Ia 1 9 ∧ I' 10 0 = Ia 10 0) ∧ (Ia 1 9 < 6 → zCW f N x Ia I' Ra R' Sa S')) ∧ LSt x Ia I' ∧ FRk I' J')) := by
  refine ct_in pn_X10 (Nat.le_of_ble_eq_true rfl) (fun X hX hT hIn => ?_)
  have hX : aK l0 X cX10_law 3 RX10 (some .int) 300 3 428 := hX
  change WW X 0 [some (kR (some 0)), none, none] [] Ia Ja Ra Sa 0 0
  have hL := hCI.1
  have hC := hCI.2.1
  have hI := hC.1
  have hq := XI_o hI
  obtain ⟨z, hz⟩ : ∃ z, Sa.length = z := ⟨_, rfl⟩
  have hz73 : 73 ≤ z := by rw [← hz]; exact (List.getElem?_eq_some_iff.mp (xs_72 hL)).1
  refine ww_aload_n hX (pc := 0) dX10_law_0 rfl ?_
  refine ww_getR hX (pc := 1) fX10_10 (by decide) (xs_0 hL) (xr_0_0 hL) dX10_law_1 ?_
  refine ww_getI hX (pc := 4) fX10_170 (by decide) (xs_1 hL) dX10_law_4 ?_
  refine ww_bipush hX (pc := 7) (x := 6) dX10_law_7 (by decide) ?_
  refine ww_icmp_lt hX (pc := 9) (tgt := 27) dX10_law_9 (by decide) (fun h_9 => ?_) (fun h_9 => ?_)
  · simp only [w32_mod] at h_9
    refine ww_aload_n hX (pc := 27) dX10_law_27 rfl ?_
    refine ww_getR hX (pc := 28) fX10_32 (by decide) (xs_0 hL) (xr_0_3 hL) dX10_law_28 ?_
    refine ww_callV hX (pc := 31) (av := []) sX10_173 (xs_10 hL) (c6_X7_understand l0 hL hI hC.2.1 hz hz73 hN hf) rfl (by decide) (by omega) (by omega) (Nat.le_of_ble_eq_true rfl) dX10_law_31 (fun r_31 I_31 J_31 R_31 S_31 h_31 => ?_)
    obtain ⟨x_31, rfl, eI31, eJ31, lr31, eR31, h31⟩ := h_31
    have cI_31 : CX I_31 := ⟨XI_of hI (eI31 0 (by omega) (by decide)) (eI31 1 (by omega) (by decide)) (eI31 3 (by omega) (by decide)) (eI31 8 (by omega) (by decide)) (eI31 9 (by omega) (by decide)), lr31, FI_of hC.2.2 (eI31 44 (by omega) (by decide))⟩
    have qI_31 := XI_o cI_31.1
    have wI_31 : Fw [10, 11, 12, 13, 14] [(0, 16), (1, 9), (8, 1)] Ia I_31 := Fw_of Fw_rf (fun k h1 h2 => eI31 k (by omega) (Decidable.byContradiction (fun e9 => h2 (mem_10 (by omega) (by omega) (by decide)))))
    have r9_31 : I_31 1 9 = Ia 1 9 := by rw [eI31 1 (by omega) (by decide)]
    have hSX31 : SX Sa S_31 ∧ Sa.length ≤ S_31.length ∧ S_31.length ≤ Sa.length + 3 := by
      rcases h31 with ⟨_, rfl, _⟩ | ⟨_, N1, N2, _, _, rfl, _⟩
      · exact ⟨SX_rf, by omega, by omega⟩
      · exact ⟨SX_app (SX_app (SX_app SX_rf)), by simp, by simp⟩
    obtain ⟨hSX31, hl31, hl32⟩ := hSX31
    have hL31 : LY R_31 S_31 := LY_ext hL (fun k h1 _ _ => eR31 k (by omega)) hSX31
    have CI31 : CI I_31 R_31 S_31 := ⟨hL31, cI_31, LawsOK_hi hCI.2.2.1 (fun i hi => by rw [eR31 4 (by omega)]) (fun k h1 h2 => eI31 k (by omega) (by omega)) (fun k h1 h2 => eR31 k (by omega)) hSX31, fun i hi c' hc' => CoastOK_hi (hCI.2.2.2 i hi c' (by rw [← eR31 7 (by omega)]; exact hc')) (fun k h1 h2 => eI31 k (by omega) (by omega)) (fun k h1 h2 => eR31 k (by omega)) hSX31⟩
    have h31' : (x_31 = none ∧ ∃ fp, zTx f N = .inl fp ∧ I_31 10 0 = zPc N (zTk f N 0) fp) ∨ (x_31 = some z ∧ LawOK I_31 R_31 S_31 z ∧ ∃ qs, zTx f N = .inr qs ∧ I_31 10 0 = -1 ∧ zLR I_31 S_31 z qs) := by
      rcases h31 with ⟨h, _, hx⟩ | ⟨h, N1, N2, _, _, _, hlo⟩
      · exact Or.inl ⟨h, hx⟩
      · exact Or.inr ⟨h, hlo⟩
    clear h31
    rcases h31' with ⟨rfl, fp9, hfp1, hfp2⟩ | ⟨rfl, hlo, qs9, hqs1, hqs2, hqs3⟩
    · change WW X 34 [some (kR (some 0)), none, none] [kR none] I_31 J_31 R_31 S_31 _ _
      refine ww_astore_nN hX (pc := 34) (lv' := [some (kR (some 0)), some (kR none), none]) dX10_law_34 (by decide) rfl rfl ?_
      refine ww_aload_n hX (pc := 35) dX10_law_35 rfl ?_
      refine ww_getR hX (pc := 36) fX10_23 (by decide) (xs_0 hL31) (xr_0_2 hL31) dX10_law_36 ?_
      refine ww_iconst hX (pc := 39) (x := 0) dX10_law_39 rfl ?_
      refine ww_putI hX (pc := 40) (fun h9 => absurd h9 (by decide)) gX10_148 rfl (xs_8 hL31) dX10_law_40 ?_
      refine ww_nmH (fun I_40 eI_40 => ?_)
      have kI_40 : Kp 0 49 I_31 I_40 := by rw [eI_40]; exact Kp_up (Kp_rf (a := 0) (b := 49)) _ _ (by decide)
      have cI_40 : CX I_40 := by rw [eI_40]; exact CX_x cI_31 (XI_8_1 cI_31.1 (by omega) (by omega)) (by decide)
      have qI_40 := XI_o cI_40.1
      have r5_I_40 : I_40 1 5 = I_31 1 5 := by rw [eI_40, up2_off _ _ _ (by decide)]
      have r6_I_40 : I_40 1 6 = I_31 1 6 := by rw [eI_40, up2_off _ _ _ (by decide)]
      have r8_I_40 : I_40 1 8 = I_31 1 8 := by rw [eI_40, up2_off _ _ _ (by decide)]
      have r9_I_40 : I_40 1 9 = I_31 1 9 := by rw [eI_40, up2_off _ _ _ (by decide)]
      have r10_I_40 : I_40 1 10 = I_31 1 10 := by rw [eI_40, up2_off _ _ _ (by decide)]
      have r11_I_40 : I_40 1 11 = I_31 1 11 := by rw [eI_40, up2_off _ _ _ (by decide)]
      have rf_I_40 : FU (I_40 1 5) = FU (I_31 1 5) := by rw [r5_I_40]
      have wI_40 : Fw [10, 11, 12, 13, 14] [(0, 16), (1, 9), (8, 1)] Ia I_40 := by rw [eI_40]; exact Fw_up wI_31 (Or.inr (by decide))
      have r7_I_40 : I_40 1 7 = I_31 1 7 := by rw [eI_40, up2_n _ _ (Or.inl (by decide))]
      have z81 : I_40 8 1 = 0 := by rw [eI_40, up2_s]
      have u10_I_40 : I_40 10 0 = I_31 10 0 := by rw [eI_40, up2_off _ _ _ (by decide)]
      have u9_I_40 : I_40 1 9 = I_31 1 9 := by rw [eI_40, up2_off _ _ _ (by decide)]
      refine ww_aload_nN hX (pc := 43) dX10_law_43 rfl ?_
      refine ww_ifnonnullN hX (pc := 44) dX10_law_44 ?_
      refine ww_aload_n hX (pc := 47) dX10_law_47 rfl ?_
      refine ww_bipush hX (pc := 48) (x := (-6)) dX10_law_48 (by decide) ?_
      refine vI1 hX (pc := 50) sX10_89 (xs_0 hL31) (c8_X10_refuse l0 hL31 cI_40 (FRk_w hF wI_40 (by decide) (by decide) (eJ31 18 (by omega) (by decide)) (eJ31 28 (by omega) (by decide))) (by omega) (by omega)) (by decide) (by omega) (by omega) (Nat.le_of_ble_eq_true rfl) dX10_law_50 (fun x_50 I_50 J_50 h_50 => ?_)
      obtain ⟨h_50, fr_50⟩ := h_50
      have kI_50 : Kp 0 49 I_31 I_50 := Kp_tr kI_40 (Kp_wd h_50.1 (by decide) (by decide))
      have kJ_50 : Kp 0 49 J_31 J_50 := Kp_tr (Kp_rf (a := 0) (b := 49)) (Kp_wd h_50.2.1 (by decide) (by decide))
      have cI_50 : CX I_50 := h_50.2.2.1
      have qI_50 := XI_o cI_50.1
      have wI_50 : Fw [10, 11, 12, 13, 14, 48] [(0, 16), (1, 9), (8, 1)] Ia I_50 := Fw_tr (Fw_wd wI_40 (by decide) (by decide)) (Fw_wd h_50.2.2.2.1 (by decide) (by decide))
      have r5_I_50 : I_50 1 5 = I_40 1 5 := h_50.2.2.2.1 1 5 (by decide) (by decide) (by decide)
      have r6_I_50 : I_50 1 6 = I_40 1 6 := h_50.2.2.2.1 1 6 (by decide) (by decide) (by decide)
      have r7_I_50 : I_50 1 7 = I_40 1 7 := h_50.2.2.2.1 1 7 (by decide) (by decide) (by decide)
      have r8_I_50 : I_50 1 8 = I_40 1 8 := h_50.2.2.2.1 1 8 (by decide) (by decide) (by decide)
      have r9_I_50 : I_50 1 9 = I_40 1 9 := h_50.2.2.2.1 1 9 (by decide) (by decide) (by decide)
      have r10_I_50 : I_50 1 10 = I_40 1 10 := h_50.2.2.2.1 1 10 (by decide) (by decide) (by decide)
      have r11_I_50 : I_50 1 11 = I_40 1 11 := h_50.2.2.2.1 1 11 (by decide) (by decide) (by decide)
      have r81_I_50 : I_50 8 1 = I_40 8 1 := h_50.2.2.2.1 8 1 (by decide) (by decide) (by decide)
      have rf_I_50 : FU (I_50 1 5) = FU (I_40 1 5) := by rw [r5_I_50]
      have xv_I_50 := h_50.2.2.2.2
      have z81 : I_50 8 1 = 0 := r81_I_50.trans z81
      have u10_I_50 : I_50 10 0 = I_40 10 0 := h_50.2.2.2.1 10 0 (by decide) (by decide) (by decide)
      have u9_I_50 : I_50 1 9 = I_40 1 9 := h_50.2.2.2.1 1 9 (by decide) (by decide) (by decide)
      exact ww_iret hX (pc := 53) hT (by omega) (by omega) dX10_law_53 ⟨_, rfl, ⟨CI_low CI31 kI_50 cI_50, fun k h1 h2 => ⟨(kI_50 k (by omega)).trans (eI31 k (by omega) (by omega)), (kJ_50 k (by omega)).trans (eJ31 k (by omega) (by omega)), (eR31 k (by omega))⟩, (Fw_wd wI_50 (by decide) (by decide)), (eR31 7 (by omega)), (fun k h1 h2 => ⟨(kI_50 k (by omega)).trans (eI31 k (by omega) (by omega)), (eR31 k (by omega))⟩), z81, hSX31, (fun h9 => absurd h9 (by omega)), (fun _ => zCW_0 hfp1 ⟨xv_I_50.1, eR31 4 (by omega), by omega, by omega⟩)⟩, LSt_r h_50.2.2.2.2 (Fw_row wI_40 48 (by decide) (by decide) (by decide)) (by decide), fr_50⟩
    · change WW X 34 [some (kR (some 0)), none, none] [kR (some z)] I_31 J_31 R_31 S_31 _ _
      refine ww_astore_n hX (pc := 34) (lv' := [some (kR (some 0)), some (kR (some z)), none]) dX10_law_34 (by decide) rfl rfl ?_
      refine ww_aload_n hX (pc := 35) dX10_law_35 rfl ?_
      refine ww_getR hX (pc := 36) fX10_23 (by decide) (xs_0 hL31) (xr_0_2 hL31) dX10_law_36 ?_
      refine ww_iconst hX (pc := 39) (x := 0) dX10_law_39 rfl ?_
      refine ww_putI hX (pc := 40) (fun h9 => absurd h9 (by decide)) gX10_148 rfl (xs_8 hL31) dX10_law_40 ?_
      refine ww_nmH (fun I_40 eI_40 => ?_)
      have kI_40 : Kp 0 49 I_31 I_40 := by rw [eI_40]; exact Kp_up (Kp_rf (a := 0) (b := 49)) _ _ (by decide)
      have cI_40 : CX I_40 := by rw [eI_40]; exact CX_x cI_31 (XI_8_1 cI_31.1 (by omega) (by omega)) (by decide)
      have qI_40 := XI_o cI_40.1
      have r5_I_40 : I_40 1 5 = I_31 1 5 := by rw [eI_40, up2_off _ _ _ (by decide)]
      have r6_I_40 : I_40 1 6 = I_31 1 6 := by rw [eI_40, up2_off _ _ _ (by decide)]
      have r8_I_40 : I_40 1 8 = I_31 1 8 := by rw [eI_40, up2_off _ _ _ (by decide)]
      have r9_I_40 : I_40 1 9 = I_31 1 9 := by rw [eI_40, up2_off _ _ _ (by decide)]
      have r10_I_40 : I_40 1 10 = I_31 1 10 := by rw [eI_40, up2_off _ _ _ (by decide)]
      have r11_I_40 : I_40 1 11 = I_31 1 11 := by rw [eI_40, up2_off _ _ _ (by decide)]
      have rf_I_40 : FU (I_40 1 5) = FU (I_31 1 5) := by rw [r5_I_40]
      have wI_40 : Fw [10, 11, 12, 13, 14] [(0, 16), (1, 9), (8, 1)] Ia I_40 := by rw [eI_40]; exact Fw_up wI_31 (Or.inr (by decide))
      have r7_I_40 : I_40 1 7 = I_31 1 7 := by rw [eI_40, up2_n _ _ (Or.inl (by decide))]
      have z81 : I_40 8 1 = 0 := by rw [eI_40, up2_s]
      have u10_I_40 : I_40 10 0 = I_31 10 0 := by rw [eI_40, up2_off _ _ _ (by decide)]
      have u9_I_40 : I_40 1 9 = I_31 1 9 := by rw [eI_40, up2_off _ _ _ (by decide)]
      refine ww_aload_n hX (pc := 43) dX10_law_43 rfl ?_
      refine ww_ifnonnullS hX (pc := 44) (tgt := 54) dX10_law_44 (by decide) ?_
      refine ww_aload_n hX (pc := 54) dX10_law_54 rfl ?_
      refine ww_getR hX (pc := 55) fX10_10 (by decide) (xs_0 hL31) (xr_0_0 hL31) dX10_law_55 ?_
      refine ww_getI hX (pc := 58) fX10_170 (by decide) (xs_1 hL31) dX10_law_58 ?_
      refine ww_nmI (fun v_61 hv_61 => ?_)
      refine ww_istore_n hX (pc := 61) (lv' := [some (kR (some 0)), some (kR (some z)), some (kI v_61)]) dX10_law_61 (by decide) rfl rfl ?_
      refine ww_aload_n hX (pc := 62) dX10_law_62 rfl ?_
      refine ww_getR hX (pc := 63) fX10_10 (by decide) (xs_0 hL31) (xr_0_0 hL31) dX10_law_63 ?_
      refine ww_getR hX (pc := 66) fX10_177 (by decide) (xs_1 hL31) (xr_1_2 hL31) dX10_law_66 ?_
      refine ww_iload_n hX (pc := 69) dX10_law_69 rfl ?_
      refine ww_aload_n hX (pc := 70) dX10_law_70 rfl ?_
      refine ww_aast4 hX (pc := 71) (xs_4 hL31) (by decide) (by omega) (by omega) hlo.2.1 dX10_law_71 ?_
      have hx71 : ∃ R9, R9 = up2 R_31 4 v_61.toNat (some z) := ⟨_, rfl⟩
      obtain ⟨R_71, eR71⟩ := hx71
      rw [← eR71]
      have fR71 : ∀ k, k ≠ 4 → R_71 k = R_31 k := fun k hk => by rw [eR71, up2_off _ _ _ hk]
      have hL71 : LY R_71 S_31 := LY_ext hL31 (fun k h1 h4 _ => fR71 k h4) SX_rf
      have CI71 : CI I_31 R_71 S_31 := ⟨hL71, cI_31, fun i hi w hw => by
        by_cases hii : i = v_61.toNat
        · rw [eR71, hii, up2_s] at hw
          obtain rfl := Option.some.inj hw
          exact LawOK_ext hlo rfl rfl rfl (fR71 _ (by omega)) SX_rf
        · rw [eR71, up2_n _ _ (Or.inr hii)] at hw
          have hlw := CI31.2.2.1 i hi w hw
          have hlw73 := hlw.1
          exact LawOK_ext hlw rfl rfl rfl (fR71 w (by omega)) SX_rf, fun i hi c' hc' => CoastOK_hi (hCI.2.2.2 i hi c' (by rw [fR71 7 (by decide), eR31 7 (by omega)] at hc'; exact hc')) (fun k h1 h2 => eI31 k (by omega) (by omega)) (fun k h1 h2 => by rw [fR71 k (by omega), eR31 k (by omega)]) hSX31⟩
      refine ww_aload_n hX (pc := 72) dX10_law_72 rfl ?_
      refine ww_getR hX (pc := 73) fX10_10 (by decide) (xs_0 hL71) (xr_0_0 hL71) dX10_law_73 ?_
      refine ww_iload_n hX (pc := 76) dX10_law_76 rfl ?_
      refine ww_iconst hX (pc := 77) (x := 1) dX10_law_77 rfl ?_
      refine ww_iadd hX (pc := 78) dX10_law_78 ?_
      refine ww_putI hX (pc := 79) (fun h9 => absurd h9 (by decide)) gX10_170 rfl (xs_1 hL71) dX10_law_79 ?_
      refine ww_nmH (fun I_79 eI_79 => ?_)
      have kI_79 : Kp 0 49 I_31 I_79 := by rw [eI_79]; exact Kp_up kI_40 _ _ (by decide)
      have cI_79 : CX I_79 := by rw [eI_79]; exact CX_x cI_40 (XI_1_9 cI_40.1 (by omega) (by omega)) (by decide)
      have qI_79 := XI_o cI_79.1
      have r5_I_79 : I_79 1 5 = I_40 1 5 := by rw [eI_79, up2_n _ _ (Or.inr (by decide))]
      have r6_I_79 : I_79 1 6 = I_40 1 6 := by rw [eI_79, up2_n _ _ (Or.inr (by decide))]
      have r8_I_79 : I_79 1 8 = I_40 1 8 := by rw [eI_79, up2_n _ _ (Or.inr (by decide))]
      skip
      have r10_I_79 : I_79 1 10 = I_40 1 10 := by rw [eI_79, up2_n _ _ (Or.inr (by decide))]
      have r11_I_79 : I_79 1 11 = I_40 1 11 := by rw [eI_79, up2_n _ _ (Or.inr (by decide))]
      have rf_I_79 : FU (I_79 1 5) = FU (I_40 1 5) := by rw [r5_I_79]
      have wI_79 : Fw [10, 11, 12, 13, 14] [(0, 16), (1, 9), (8, 1)] Ia I_79 := by rw [eI_79]; exact Fw_up wI_40 (Or.inr (by decide))
      have r7_I_79 : I_79 1 7 = I_40 1 7 := by rw [eI_79, up2_n _ _ (Or.inr (by decide))]
      have z81 : I_79 8 1 = 0 := by rw [eI_79, up2_off _ _ _ (by decide)]; exact z81
      have u10_I_79 : I_79 10 0 = I_40 10 0 := by rw [eI_79, up2_off _ _ _ (by decide)]
      have u9_I_79 : I_79 1 9 = I_40 1 9 + 1 := by rw [eI_79, up2_s]; omega
      refine ww_aload_n hX (pc := 82) dX10_law_82 rfl ?_
      refine ww_iload_n hX (pc := 83) dX10_law_83 rfl ?_
      refine vI1 hX (pc := 84) sX10_114 (xs_0 hL71) (c8_X10_accept l0 hL71 cI_79 (FRk_w hF wI_79 (by decide) (by decide) (eJ31 18 (by omega) (by decide)) (eJ31 28 (by omega) (by decide)))) (by decide) (by omega) (by omega) (Nat.le_of_ble_eq_true rfl) dX10_law_84 (fun x_84 I_84 J_84 h_84 => ?_)
      obtain ⟨h_84, fr_84⟩ := h_84
      have kI_84 : Kp 0 49 I_31 I_84 := Kp_tr kI_79 (Kp_wd h_84.1 (by decide) (by decide))
      have kJ_84 : Kp 0 49 J_31 J_84 := Kp_tr (Kp_rf (a := 0) (b := 49)) (Kp_wd h_84.2.1 (by decide) (by decide))
      have cI_84 : CX I_84 := h_84.2.2.1
      have qI_84 := XI_o cI_84.1
      have wI_84 : Fw [10, 11, 12, 13, 14] [(0, 16), (1, 9), (8, 1)] Ia I_84 := Fw_tr wI_79 (Fw_wd h_84.2.2.2.1 (by decide) (by decide))
      have r5_I_84 : I_84 1 5 = I_79 1 5 := h_84.2.2.2.1 1 5 (by decide) (by decide) (by decide)
      have r6_I_84 : I_84 1 6 = I_79 1 6 := h_84.2.2.2.1 1 6 (by decide) (by decide) (by decide)
      have r7_I_84 : I_84 1 7 = I_79 1 7 := h_84.2.2.2.1 1 7 (by decide) (by decide) (by decide)
      have r8_I_84 : I_84 1 8 = I_79 1 8 := h_84.2.2.2.1 1 8 (by decide) (by decide) (by decide)
      have r9_I_84 : I_84 1 9 = I_79 1 9 := h_84.2.2.2.1 1 9 (by decide) (by decide) (by decide)
      have r10_I_84 : I_84 1 10 = I_79 1 10 := h_84.2.2.2.1 1 10 (by decide) (by decide) (by decide)
      have r11_I_84 : I_84 1 11 = I_79 1 11 := h_84.2.2.2.1 1 11 (by decide) (by decide) (by decide)
      have r81_I_84 : I_84 8 1 = I_79 8 1 := h_84.2.2.2.1 8 1 (by decide) (by decide) (by decide)
      have rf_I_84 : FU (I_84 1 5) = FU (I_79 1 5) := by rw [r5_I_84]
      have xv_I_84 := h_84.2.2.2.2
      have z81 : I_84 8 1 = 0 := r81_I_84.trans z81
      have u10_I_84 : I_84 10 0 = I_79 10 0 := h_84.2.2.2.1 10 0 (by decide) (by decide) (by decide)
      have u9_I_84 : I_84 1 9 = I_79 1 9 := h_84.2.2.2.1 1 9 (by decide) (by decide) (by decide)
      exact ww_iret hX (pc := 87) hT (by omega) (by omega) dX10_law_87 ⟨_, rfl, ⟨CI_low CI71 kI_84 cI_84, fun k h1 h2 => ⟨(kI_84 k (by omega)).trans (eI31 k (by omega) (by omega)), (kJ_84 k (by omega)).trans (eJ31 k (by omega) (by omega)), ((fR71 k (by omega)).trans (eR31 k (by omega)))⟩, (Fw_wd wI_84 (by decide) (by decide)), ((fR71 7 (by omega)).trans (eR31 7 (by omega))), (fun k h1 h2 => ⟨(kI_84 k (by omega)).trans (eI31 k (by omega) (by omega)), ((fR71 k (by omega)).trans (eR31 k (by omega)))⟩), z81, hSX31, (fun h9 => absurd h9 (by omega)), (fun _ => zCW_1 hqs1 ⟨by have h9 := xv_I_84.1; omega, by omega, by omega, by rw [eR71, up2_row, eR31 4 (by omega)]; exact congr (congrArg (up1 (Ra 4)) (by omega)) (by rw [hz]), by rw [hz]; exact hlo.2.1, by rw [hz]; exact zLR_k hqs3 (kI_84 z (by omega)) (kI_84 (z + 1) (by omega)) (kI_84 (z + 2) (by omega)) SX_rf⟩)⟩, LSt_a h_84.2.2.2.2 (Fw_row wI_84 48 (by decide) (by decide) (by decide)) (by omega), fr_84⟩
  · simp only [w32_mod] at h_9
    refine ww_aload_n hX (pc := 12) dX10_law_12 rfl ?_
    refine ww_getR hX (pc := 13) fX10_23 (by decide) (xs_0 hL) (xr_0_2 hL) dX10_law_13 ?_
    refine ww_iconst hX (pc := 16) (x := 0) dX10_law_16 rfl ?_
    refine ww_putI hX (pc := 17) (fun h9 => absurd h9 (by decide)) gX10_148 rfl (xs_8 hL) dX10_law_17 ?_
    refine ww_nmH (fun I_17 eI_17 => ?_)
    have kI_17 : Kp 0 49 Ia I_17 := by rw [eI_17]; exact Kp_up (Kp_rf (a := 0) (b := 49)) _ _ (by decide)
    have cI_17 : CX I_17 := by rw [eI_17]; exact CX_x hC (XI_8_1 hC.1 (by omega) (by omega)) (by decide)
    have qI_17 := XI_o cI_17.1
    have r5_I_17 : I_17 1 5 = Ia 1 5 := by rw [eI_17, up2_off _ _ _ (by decide)]
    have r6_I_17 : I_17 1 6 = Ia 1 6 := by rw [eI_17, up2_off _ _ _ (by decide)]
    have r8_I_17 : I_17 1 8 = Ia 1 8 := by rw [eI_17, up2_off _ _ _ (by decide)]
    have r9_I_17 : I_17 1 9 = Ia 1 9 := by rw [eI_17, up2_off _ _ _ (by decide)]
    have r10_I_17 : I_17 1 10 = Ia 1 10 := by rw [eI_17, up2_off _ _ _ (by decide)]
    have r11_I_17 : I_17 1 11 = Ia 1 11 := by rw [eI_17, up2_off _ _ _ (by decide)]
    have rf_I_17 : FU (I_17 1 5) = FU (Ia 1 5) := by rw [r5_I_17]
    have wI_17 : Fw [10, 11, 12, 13, 14] [(0, 16), (1, 9), (8, 1)] Ia I_17 := by rw [eI_17]; exact Fw_up Fw_rf (Or.inr (by decide))
    have r7_I_17 : I_17 1 7 = Ia 1 7 := by rw [eI_17, up2_n _ _ (Or.inl (by decide))]
    have z81 : I_17 8 1 = 0 := by rw [eI_17, up2_s]
    have u10_I_17 : I_17 10 0 = Ia 10 0 := by rw [eI_17, up2_off _ _ _ (by decide)]
    have u9_I_17 : I_17 1 9 = Ia 1 9 := by rw [eI_17, up2_off _ _ _ (by decide)]
    refine ww_aload_n hX (pc := 20) dX10_law_20 rfl ?_
    refine ww_bipush hX (pc := 21) (x := (-5)) dX10_law_21 (by decide) ?_
    refine vI1 hX (pc := 23) sX10_89 (xs_0 hL) (c8_X10_refuse l0 hL cI_17 (FRk_w hF wI_17 (by decide) (by decide) rfl rfl) (by omega) (by omega)) (by decide) (by omega) (by omega) (Nat.le_of_ble_eq_true rfl) dX10_law_23 (fun x_23 I_23 J_23 h_23 => ?_)
    obtain ⟨h_23, fr_23⟩ := h_23
    have kI_23 : Kp 0 49 Ia I_23 := Kp_tr kI_17 (Kp_wd h_23.1 (by decide) (by decide))
    have kJ_23 : Kp 0 49 Ja J_23 := Kp_tr (Kp_rf (a := 0) (b := 49)) (Kp_wd h_23.2.1 (by decide) (by decide))
    have cI_23 : CX I_23 := h_23.2.2.1
    have qI_23 := XI_o cI_23.1
    have wI_23 : Fw [10, 11, 12, 13, 14, 48] [(0, 16), (1, 9), (8, 1)] Ia I_23 := Fw_tr (Fw_wd wI_17 (by decide) (by decide)) (Fw_wd h_23.2.2.2.1 (by decide) (by decide))
    have r5_I_23 : I_23 1 5 = I_17 1 5 := h_23.2.2.2.1 1 5 (by decide) (by decide) (by decide)
    have r6_I_23 : I_23 1 6 = I_17 1 6 := h_23.2.2.2.1 1 6 (by decide) (by decide) (by decide)
    have r7_I_23 : I_23 1 7 = I_17 1 7 := h_23.2.2.2.1 1 7 (by decide) (by decide) (by decide)
    have r8_I_23 : I_23 1 8 = I_17 1 8 := h_23.2.2.2.1 1 8 (by decide) (by decide) (by decide)
    have r9_I_23 : I_23 1 9 = I_17 1 9 := h_23.2.2.2.1 1 9 (by decide) (by decide) (by decide)
    have r10_I_23 : I_23 1 10 = I_17 1 10 := h_23.2.2.2.1 1 10 (by decide) (by decide) (by decide)
    have r11_I_23 : I_23 1 11 = I_17 1 11 := h_23.2.2.2.1 1 11 (by decide) (by decide) (by decide)
    have r81_I_23 : I_23 8 1 = I_17 8 1 := h_23.2.2.2.1 8 1 (by decide) (by decide) (by decide)
    have rf_I_23 : FU (I_23 1 5) = FU (I_17 1 5) := by rw [r5_I_23]
    have xv_I_23 := h_23.2.2.2.2
    have z81 : I_23 8 1 = 0 := r81_I_23.trans z81
    have u10_I_23 : I_23 10 0 = I_17 10 0 := h_23.2.2.2.1 10 0 (by decide) (by decide) (by decide)
    have u9_I_23 : I_23 1 9 = I_17 1 9 := h_23.2.2.2.1 1 9 (by decide) (by decide) (by decide)
    exact ww_iret hX (pc := 26) hT (by omega) (by omega) dX10_law_26 ⟨_, rfl, ⟨CI_low hCI kI_23 cI_23, fun k h1 h2 => ⟨kI_23 k (by omega), kJ_23 k (by omega), rfl⟩, (Fw_wd wI_23 (by decide) (by decide)), rfl, (fun k h1 h2 => ⟨kI_23 k (by omega), rfl⟩), z81, SX_rf, (fun _ => ⟨by have h9 := xv_I_23.1; omega, rfl, by omega, by omega⟩), (fun h9 => absurd h9 (by omega))⟩, LSt_r h_23.2.2.2.2 (Fw_row wI_17 48 (by decide) (by decide) (by decide)) (by decide), fr_23⟩
set_option maxHeartbeats 4000000 in
set_option maxRecDepth 20000 in
theorem c8_X10_image (l0 : Launch) {Ia Ja : aI1} {Ra : aR1} {Sa : aS1} (hCI : CI Ia Ra Sa) (hF : FRk Ia Ja) {a : Int} (ha0 : -2147483648 ≤ a) (ha1 : a < 2147483648) (hDI : ∀ i j, i < 2 → j < 2 → ∀ c, Ra 7 i = some c → Ra 7 j = some c → i = j)  : CT l0 12 6 322 mX10_image [kR (some 0), kI a] Ia Ja Ra Sa (dI (fun x I' J' R' S' => (CI I' R' S' ∧ (∀ k, 49 ≤ k → k < 73 → I' k = Ia k ∧ J' k = Ja k ∧ R' k = Ra k) ∧ Fw [48] [(0, 16)] Ia I' ∧ (¬ (0 ≤ a ∧ a < 2) → x = -1 ∧ RFc Ia I' (-1)) ∧ (¬ (0 ≤ a ∧ a < 2) → R' 7 = Ra 7 ∧ R' 4 = Ra 4 ∧ (∀ k, 73 ≤ k → I' k = Ia k ∧ R' k = Ra k)) ∧ ((0 ≤ a ∧ a < 2) → x = 0 ∧ Fw [] [(0, 16)] Ia I' ∧ I' 0 16 = 0 ∧ ∃ c, R' 7 a.toNat = some c ∧ ImC Ia I' Ra R' c ∧ (∀ j, j ≠ a.toNat → R' 7 j = Ra 7 j) ∧ (∀ j, j < 2 → j ≠ a.toNat → ∀ c', Ra 7 j = some c' → (∀ k, k < 6 → I' (c' + k) = Ia (c' + k)) ∧ R' (c' + 3) = Ra (c' + 3)) ∧ ((Ra 7 a.toNat = some c ∧ R' 7 = Ra 7) ∨ c = Sa.length) ∧ R' 4 = Ra 4 ∧ (∀ k, 73 ≤ k → k < Sa.length → (k < c ∨ c + 6 ≤ k) → I' k = Ia k ∧ R' k = Ra k)) ∧ SX Sa S') ∧ FRk I' J')) := by
  refine ct_in pn_X10 (Nat.le_of_ble_eq_true rfl) (fun X hX hT hIn => ?_)
  have hX : aK l0 X cX10_image 3 RX10 (some .int) 12 6 322 := hX
  change WW X 0 [some (kR (some 0)), some (kI a), none] [] Ia Ja Ra Sa 0 0
  have hL := hCI.1
  have hC := hCI.2.1
  have hI := hC.1
  have hq := XI_o hI
  obtain ⟨z, hz⟩ : ∃ z, Sa.length = z := ⟨_, rfl⟩
  have hz73 : 73 ≤ z := by rw [← hz]; exact (List.getElem?_eq_some_iff.mp (xs_72 hL)).1
  refine ww_iload_n hX (pc := 0) dX10_image_0 rfl ?_
  refine ww_if_lt hX (pc := 1) (tgt := 9) dX10_image_1 (by decide) (fun h_1 => ?_) (fun h_1 => ?_)
  · simp only [w32_mod] at h_1
    refine ww_aload_n hX (pc := 9) dX10_image_9 rfl ?_
    refine ww_iconst hX (pc := 10) (x := (-1)) dX10_image_10 rfl ?_
    refine vI1 hX (pc := 11) sX10_89 (xs_0 hL) (c8_X10_refuse l0 hL hC hF (by omega) (by omega)) (by decide) (by omega) (by omega) (Nat.le_of_ble_eq_true rfl) dX10_image_11 (fun x_11 I_11 J_11 h_11 => ?_)
    obtain ⟨h_11, fr_11⟩ := h_11
    have kI_11 : Kp 0 49 Ia I_11 := Kp_tr (Kp_rf (a := 0) (b := 49)) (Kp_wd h_11.1 (by decide) (by decide))
    have kJ_11 : Kp 0 49 Ja J_11 := Kp_tr (Kp_rf (a := 0) (b := 49)) (Kp_wd h_11.2.1 (by decide) (by decide))
    have cI_11 : CX I_11 := h_11.2.2.1
    have qI_11 := XI_o cI_11.1
    have wI_11 : Fw [48] [(0, 16)] Ia I_11 := Fw_tr Fw_rf (Fw_wd h_11.2.2.2.1 (by decide) (by decide))
    have r5_I_11 : I_11 1 5 = Ia 1 5 := h_11.2.2.2.1 1 5 (by decide) (by decide) (by decide)
    have r6_I_11 : I_11 1 6 = Ia 1 6 := h_11.2.2.2.1 1 6 (by decide) (by decide) (by decide)
    have r7_I_11 : I_11 1 7 = Ia 1 7 := h_11.2.2.2.1 1 7 (by decide) (by decide) (by decide)
    have r8_I_11 : I_11 1 8 = Ia 1 8 := h_11.2.2.2.1 1 8 (by decide) (by decide) (by decide)
    have r9_I_11 : I_11 1 9 = Ia 1 9 := h_11.2.2.2.1 1 9 (by decide) (by decide) (by decide)
    have r10_I_11 : I_11 1 10 = Ia 1 10 := h_11.2.2.2.1 1 10 (by decide) (by decide) (by decide)
    have r11_I_11 : I_11 1 11 = Ia 1 11 := h_11.2.2.2.1 1 11 (by decide) (by decide) (by decide)
    have r81_I_11 : I_11 8 1 = Ia 8 1 := h_11.2.2.2.1 8 1 (by decide) (by decide) (by decide)
    have rf_I_11 : FU (I_11 1 5) = FU (Ia 1 5) := by rw [r5_I_11]
    have xv_I_11 := h_11.2.2.2.2
    exact ww_iret hX (pc := 14) hT (by omega) (by omega) dX10_image_14 ⟨_, rfl, ⟨CI_low hCI kI_11 cI_11, fun k h1 h2 => ⟨kI_11 k (by omega), kJ_11 k (by omega), rfl⟩, (Fw_wd wI_11 (by decide) (by decide)), (fun _ => ⟨xv_I_11.1, h_11.2.2.2.1, xv_I_11.2⟩), (fun _ => ⟨rfl, rfl, fun k hk => ⟨kI_11 k (by omega), rfl⟩⟩), (fun h9 => absurd h9 (by omega)), SX_rf⟩, fr_11⟩
  · simp only [w32_mod] at h_1
    refine ww_iload_n hX (pc := 4) dX10_image_4 rfl ?_
    refine ww_iconst hX (pc := 5) (x := 2) dX10_image_5 rfl ?_
    refine ww_icmp_lt hX (pc := 6) (tgt := 15) dX10_image_6 (by decide) (fun h_6 => ?_) (fun h_6 => ?_)
    · simp only [w32_mod] at h_6
      refine ww_aload_n hX (pc := 15) dX10_image_15 rfl ?_
      refine ww_getR hX (pc := 16) fX10_16 (by decide) (xs_0 hL) (xr_0_1 hL) dX10_image_16 ?_
      refine ww_iload_n hX (pc := 19) dX10_image_19 rfl ?_
      refine ww_aald hX (pc := 20) (Or.inr rfl) (xs_7 hL) (by decide) (by omega) (by omega) dX10_image_20 ?_
      cases hlw : Ra 7 a.toNat with
      | none =>
        refine ww_astore_nN hX (pc := 21) (lv' := [some (kR (some 0)), some (kI a), some (kR none)]) dX10_image_21 (by decide) rfl rfl ?_
        refine ww_aload_nN hX (pc := 22) dX10_image_22 rfl ?_
        refine ww_ifnonnullN hX (pc := 23) dX10_image_23 ?_
        refine ww_newz hX (pc := 26) 12 (z := z) hz cl_1 tb_29 tb_30 tb_2 rfl (by omega) (by omega) dX10_image_26 ?_
        refine ww_dupR hX (pc := 29) dX10_image_29 ?_
        refine ww_callI hX (pc := 30) (av := []) sX10_9 (c_X1_init l0 (o := z) (z := z + 1) (lz hz) (sz_n hz)) rfl (by decide) (by omega) (by omega) (Nat.le_of_ble_eq_true rfl) dX10_image_30 (fun r_30 I_30 J_30 R_30 S_30 h_30 => ?_)
        obtain ⟨rfl, h30I, h30J, h30R, h30S⟩ := h_30
        have eI30 : ∀ k, k < z → I_30 k = Ia k := fun k hk => by rw [← h30I, nI1_off (by omega) (by omega), upR_n _ _ (by omega)]
        have eJ30 : ∀ k, k < z → J_30 k = Ja k := fun k hk => by rw [← h30J]; unfold nJ_X1; rw [upR_n _ _ (by omega)]
        have eR30 : ∀ k, k < z → R_30 k = Ra k := fun k hk => by rw [← h30R, nR1_off (by omega) (by omega), upR_n _ _ (by omega)]
        have hcs30 : CoSh R_30 S_30 z := by
          rw [← h30R, ← h30S]
          refine ⟨sz_l (sz_l (sz_l (sz_l (sz_l (sz_n hz))))), sz_l (sz_l (sz_l (sz_l (sz_n (lz hz))))), sz_l (sz_l (sz_l (sz_n (lz (lz hz))))), sz_l (sz_l (sz_n (lz (lz (lz hz))))), sz_l (sz_n (lz (lz (lz (lz hz))))), sz_n (lz (lz (lz (lz (lz hz))))), ?_, ?_, ?_, ?_, ?_⟩
          all_goals unfold nR_X1
          · rw [up2_n _ _ (Or.inr (by decide)), up2_n _ _ (Or.inr (by decide)), up2_n _ _ (Or.inr (by decide)), upR_n _ _ (by omega), up2_n _ _ (Or.inr (by decide)), up2_s]
          · rw [up2_n _ _ (Or.inr (by decide)), up2_n _ _ (Or.inr (by decide)), up2_n _ _ (Or.inr (by decide)), upR_n _ _ (by omega), up2_s]
          · rw [up2_n _ _ (Or.inr (by decide)), up2_n _ _ (Or.inr (by decide)), up2_s]
          · rw [up2_n _ _ (Or.inr (by decide)), up2_s]
          · rw [up2_s]
        have hSX30 : SX Sa S_30 := by rw [← h30S]; exact SX_app (SX_app (SX_app (SX_app (SX_app (SX_app SX_rf)))))
        have hlen30 : S_30.length = z + 6 := by rw [← h30S]; exact lz (lz (lz (lz (lz (lz hz)))))
        have hL30 : LY R_30 S_30 := LY_ext hL (fun k h1 _ _ => eR30 k (by omega)) hSX30
        change WW X 33 [some (kR (some 0)), some (kI a), some (kR none)] [kR (some z)] I_30 J_30 R_30 S_30 _ _
        refine ww_astore_n hX (pc := 33) (lv' := [some (kR (some 0)), some (kI a), some (kR (some z))]) dX10_image_33 (by decide) rfl rfl ?_
        refine ww_aload_n hX (pc := 34) dX10_image_34 rfl ?_
        refine ww_getR hX (pc := 35) fX10_16 (by decide) (xs_0 hL30) (xr_0_1 hL30) dX10_image_35 ?_
        refine ww_iload_n hX (pc := 38) dX10_image_38 rfl ?_
        refine ww_aload_n hX (pc := 39) dX10_image_39 rfl ?_
        refine ww_aast5 hX (pc := 40) (xs_7 hL30) (by decide) (by omega) (by omega) hcs30.1 dX10_image_40 ?_
        have hx40 : ∃ R9, R9 = up2 R_30 7 a.toNat (some z) := ⟨_, rfl⟩
        obtain ⟨R_40, eR40⟩ := hx40
        rw [← eR40]
        have fR40 : ∀ k, k ≠ 7 → R_40 k = R_30 k := fun k hk => by rw [eR40, up2_off _ _ _ hk]
        have hLx : LY R_40 S_30 := LY_ext hL30 (fun k h1 _ h7 => fR40 k h7) SX_rf
        have hCx : CX I_30 := CX_lo hC (fun k hk => eI30 k (by omega))
        have hWx : LawsOK I_30 R_40 S_30 4 := LawsOK_hi hCI.2.2.1 (fun i hi => by rw [fR40 4 (by decide), eR30 4 (by omega)]) (fun k h1 h2 => eI30 k (by omega)) (fun k h1 h2 => by rw [fR40 k (by omega), eR30 k (by omega)]) hSX30
        have hMx : ∀ i, i < 2 → ∀ c', R_40 7 i = some c' → c' = z ∨ CoastOK I_30 R_40 S_30 c' := fun i hi c' hc' => by
          by_cases hia : i = a.toNat
          · rw [eR40, hia, up2_s] at hc'
            exact Or.inl (Option.some.inj hc').symm
          · rw [eR40, up2_n _ _ (Or.inr hia), eR30 7 (by omega)] at hc'
            exact Or.inr (CoastOK_hi (hCI.2.2.2 i hi c' hc') (fun k h1 h2 => eI30 k (by omega)) (fun k h1 h2 => by rw [fR40 k (by omega), eR30 k (by omega)]) hSX30)
        have hcx : CoSh R_40 S_30 z := CoSh_ext hcs30 (fR40 z (by omega)) SX_rf
        refine ww_aload_n hX (pc := 41) dX10_image_41 rfl ?_
        refine ww_aload_n hX (pc := 42) dX10_image_42 rfl ?_
        refine ww_getR hX (pc := 43) fX10_10 (by decide) (xs_0 hLx) (xr_0_0 hLx) dX10_image_43 ?_
        refine ww_callV hX (pc := 46) (av := [kR (some 1)]) sX10_301 hcx.1 (c_X1_copyFrom l0 (o := z) (q := 1) hcx (CoSh_1 hLx) (by omega) (fun i hi w hw => ⟨0, (hWx i hi w hw).2.1⟩)) rfl (by decide) (by omega) (by omega) (Nat.le_of_ble_eq_true rfl) dX10_image_46 (fun r_46 I_46 J_46 R_46 S_46 h_46 => ?_)
        obtain ⟨rfl, rfl, e46, eR46, rfl, he46⟩ := h_46
        change WW X 49 [some (kR (some 0)), some (kI a), some (kR (some z))] [] I_46 J_30 R_46 S_30 _ _
        have CI46 : CI I_46 R_46 S_30 := CI_img hLx hCx hWx hMx (by omega) hcx e46 eR46 he46
        have hL46 := CI46.1
        have cI_46 := CI46.2.1
        refine ww_aload_n hX (pc := 49) dX10_image_49 rfl ?_
        refine ww_iconst hX (pc := 50) (x := 0) dX10_image_50 rfl ?_
        refine vI1 hX (pc := 51) sX10_114 (xs_0 hL46) (c8_X10_accept l0 hL46 cI_46 (FRk_w (rs := []) (ws := []) hF (Fw_of Fw_rf (fun k h1 h2 => (e46 k (by omega) (by omega) (by omega) (by omega) (by omega)).trans (eI30 k (by omega)))) (by decide) (by decide) (eJ30 18 (by omega)) (eJ30 28 (by omega)))) (by decide) (by omega) (by omega) (Nat.le_of_ble_eq_true rfl) dX10_image_51 (fun x_51 I_51 J_51 h_51 => ?_)
        obtain ⟨h_51, fr_51⟩ := h_51
        have wI_51 : Fw [] [(0, 16)] Ia I_51 := Fw_tr (Fw_of Fw_rf (fun k h1 h2 => (e46 k (by omega) (by omega) (by omega) (by omega) (by omega)).trans (eI30 k (by omega)))) (Fw_wd h_51.2.2.2.1 (by decide) (by decide))
        have hk51 : ∀ k, 73 ≤ k → I_51 k = I_46 k := fun k hk => h_51.1 k (by omega)
        have n1 : I_30 1 = Ia 1 := eI30 1 (by omega)
        have n2 : I_30 2 = Ia 2 := eI30 2 (by omega)
        have n3 : I_30 3 = Ia 3 := eI30 3 (by omega)
        have n5 : I_30 5 = Ia 5 := eI30 5 (by omega)
        have n6 : I_30 6 = Ia 6 := eI30 6 (by omega)
        have nr4 : R_40 4 = Ra 4 := (fR40 4 (by decide)).trans (eR30 4 (by omega))
        have im51 : ImC Ia I_51 Ra R_46 z := ⟨by rw [hk51 _ (by omega), ← n1]; exact he46.2.2.2.2.2, by rw [hk51 _ (by omega), ← n2]; exact he46.1, by rw [hk51 _ (by omega), ← n3]; exact he46.2.1, by rw [hk51 _ (by omega), ← n5]; exact he46.2.2.2.1, by rw [hk51 _ (by omega), ← n6]; exact he46.2.2.2.2.1, by rw [← nr4]; exact he46.2.2.1⟩
        exact ww_iret hX (pc := 54) hT (by omega) (by omega) dX10_image_54 ⟨_, rfl, ⟨CI_low CI46 h_51.1 h_51.2.2.1, fun k h1 h2 => ⟨(h_51.1 k (by omega)).trans ((e46 k (by omega) (by omega) (by omega) (by omega) (by omega)).trans (eI30 k (by omega))), (h_51.2.1 k (by omega)).trans (eJ30 k (by omega)), (eR46 k (by omega)).trans ((fR40 k (by omega)).trans (eR30 k (by omega)))⟩, Fw_wd wI_51 (by decide) (by decide), (fun h9 => absurd (by omega) h9), (fun h9 => absurd (by omega) h9), (fun _ => ⟨h_51.2.2.2.2.1, wI_51, h_51.2.2.2.2.2, z, (by rw [eR46 7 (by omega), eR40, up2_s]), im51, (fun j hj => by rw [eR46 7 (by omega), eR40, up2_n _ _ (Or.inr hj), eR30 7 (by omega)]), (fun j hj _ c' hc' => by
      have hk9 := hCI.2.2.2 j hj c' hc'
      have hl9 := (List.getElem?_eq_some_iff.mp hk9.2.1.2.2.2.2.2.1).1
      have h739 := hk9.1
      exact ⟨fun k hk => by rw [hk51 _ (by omega), e46 _ (by omega) (by omega) (by omega) (by omega) (by omega), eI30 _ (by omega)], by rw [eR46 _ (by omega), fR40 _ (by omega), eR30 _ (by omega)]⟩), Or.inr hz.symm, (by rw [eR46 4 (by omega)]; exact nr4), (fun k h1 h2 h3 => ⟨(hk51 k h1).trans ((e46 k (by omega) (by omega) (by omega) (by omega) (by omega)).trans (eI30 k (by omega))), (eR46 k (by omega)).trans ((fR40 k (by omega)).trans (eR30 k (by omega)))⟩)⟩), hSX30⟩, fr_51⟩
      | some c =>
        obtain ⟨hc73, hcs, hcr, hcl⟩ := hCI.2.2.2 a.toNat (by omega) c hlw
        refine ww_astore_n hX (pc := 21) (lv' := [some (kR (some 0)), some (kI a), some (kR (some c))]) dX10_image_21 (by decide) rfl rfl ?_
        refine ww_aload_n hX (pc := 22) dX10_image_22 rfl ?_
        refine ww_ifnonnullS hX (pc := 23) (tgt := 41) dX10_image_23 (by decide) ?_
        refine ww_aload_n hX (pc := 41) dX10_image_41 rfl ?_
        refine ww_aload_n hX (pc := 42) dX10_image_42 rfl ?_
        refine ww_getR hX (pc := 43) fX10_10 (by decide) (xs_0 hL) (xr_0_0 hL) dX10_image_43 ?_
        have hLx := hL
        have hCx := hC
        have hWx := hCI.2.2.1
        have hMx : ∀ i, i < 2 → ∀ c', Ra 7 i = some c' → c' = c ∨ CoastOK Ia Ra Sa c' := fun i hi c' hc' => Or.inr (hCI.2.2.2 i hi c' hc')
        have hcx := hcs
        refine ww_callV hX (pc := 46) (av := [kR (some 1)]) sX10_301 hcx.1 (c_X1_copyFrom l0 (o := c) (q := 1) hcx (CoSh_1 hLx) (by omega) (fun i hi w hw => ⟨0, (hWx i hi w hw).2.1⟩)) rfl (by decide) (by omega) (by omega) (Nat.le_of_ble_eq_true rfl) dX10_image_46 (fun r_46 I_46 J_46 R_46 S_46 h_46 => ?_)
        obtain ⟨rfl, rfl, e46, eR46, rfl, he46⟩ := h_46
        change WW X 49 [some (kR (some 0)), some (kI a), some (kR (some c))] [] I_46 Ja R_46 Sa _ _
        have CI46 : CI I_46 R_46 Sa := CI_img hLx hCx hWx hMx (by omega) hcx e46 eR46 he46
        have hL46 := CI46.1
        have cI_46 := CI46.2.1
        refine ww_aload_n hX (pc := 49) dX10_image_49 rfl ?_
        refine ww_iconst hX (pc := 50) (x := 0) dX10_image_50 rfl ?_
        refine vI1 hX (pc := 51) sX10_114 (xs_0 hL46) (c8_X10_accept l0 hL46 cI_46 (FRk_w (rs := []) (ws := []) hF (Fw_of Fw_rf (fun k h1 h2 => (e46 k (by omega) (by omega) (by omega) (by omega) (by omega)))) (by decide) (by decide) rfl rfl)) (by decide) (by omega) (by omega) (Nat.le_of_ble_eq_true rfl) dX10_image_51 (fun x_51 I_51 J_51 h_51 => ?_)
        obtain ⟨h_51, fr_51⟩ := h_51
        have wI_51 : Fw [] [(0, 16)] Ia I_51 := Fw_tr (Fw_of Fw_rf (fun k h1 h2 => (e46 k (by omega) (by omega) (by omega) (by omega) (by omega)).trans rfl)) (Fw_wd h_51.2.2.2.1 (by decide) (by decide))
        have hk51 : ∀ k, 73 ≤ k → I_51 k = I_46 k := fun k hk => h_51.1 k (by omega)
        have n1 : Ia 1 = Ia 1 := rfl
        have n2 : Ia 2 = Ia 2 := rfl
        have n3 : Ia 3 = Ia 3 := rfl
        have n5 : Ia 5 = Ia 5 := rfl
        have n6 : Ia 6 = Ia 6 := rfl
        have nr4 : Ra 4 = Ra 4 := rfl
        have im51 : ImC Ia I_51 Ra R_46 c := ⟨by rw [hk51 _ (by omega), ← n1]; exact he46.2.2.2.2.2, by rw [hk51 _ (by omega), ← n2]; exact he46.1, by rw [hk51 _ (by omega), ← n3]; exact he46.2.1, by rw [hk51 _ (by omega), ← n5]; exact he46.2.2.2.1, by rw [hk51 _ (by omega), ← n6]; exact he46.2.2.2.2.1, by rw [← nr4]; exact he46.2.2.1⟩
        exact ww_iret hX (pc := 54) hT (by omega) (by omega) dX10_image_54 ⟨_, rfl, ⟨CI_low CI46 h_51.1 h_51.2.2.1, fun k h1 h2 => ⟨(h_51.1 k (by omega)).trans ((e46 k (by omega) (by omega) (by omega) (by omega) (by omega)).trans rfl), (h_51.2.1 k (by omega)).trans rfl, (eR46 k (by omega)).trans rfl⟩, Fw_wd wI_51 (by decide) (by decide), (fun h9 => absurd (by omega) h9), (fun h9 => absurd (by omega) h9), (fun _ => ⟨h_51.2.2.2.2.1, wI_51, h_51.2.2.2.2.2, c, (by rw [eR46 7 (by omega)]; exact hlw), im51, (fun j hj => by rw [eR46 7 (by omega)]), (fun j hj hne c' hc' => by
      have hk9 := hCI.2.2.2 j hj c' hc'
      have hcc : c' ≠ c := fun q9 => hne (hDI j a.toNat hj (by omega) c (by rw [hc', q9]) hlw)
      have ho9 := coast_off hk9.2.1 hcs hcc
      have h739 := hk9.1
      exact ⟨fun k hk => by rw [hk51 _ (by omega), e46 _ (by omega) (by omega) (by omega) (by omega) (by omega)], by rw [eR46 _ (by omega)]⟩), Or.inl ⟨hlw, eR46 7 (by omega)⟩, (eR46 4 (by omega)), (fun k h1 h2 h3 => ⟨(hk51 k h1).trans ((e46 k (by omega) (by omega) (by omega) (by omega) (by omega)).trans rfl), (eR46 k (by omega)).trans rfl⟩)⟩), SX_rf⟩, fr_51⟩
    · simp only [w32_mod] at h_6
      refine ww_aload_n hX (pc := 9) dX10_image_9 rfl ?_
      refine ww_iconst hX (pc := 10) (x := (-1)) dX10_image_10 rfl ?_
      refine vI1 hX (pc := 11) sX10_89 (xs_0 hL) (c8_X10_refuse l0 hL hC hF (by omega) (by omega)) (by decide) (by omega) (by omega) (Nat.le_of_ble_eq_true rfl) dX10_image_11 (fun x_11 I_11 J_11 h_11 => ?_)
      obtain ⟨h_11, fr_11⟩ := h_11
      have kI_11 : Kp 0 49 Ia I_11 := Kp_tr (Kp_rf (a := 0) (b := 49)) (Kp_wd h_11.1 (by decide) (by decide))
      have kJ_11 : Kp 0 49 Ja J_11 := Kp_tr (Kp_rf (a := 0) (b := 49)) (Kp_wd h_11.2.1 (by decide) (by decide))
      have cI_11 : CX I_11 := h_11.2.2.1
      have qI_11 := XI_o cI_11.1
      have wI_11 : Fw [48] [(0, 16)] Ia I_11 := Fw_tr Fw_rf (Fw_wd h_11.2.2.2.1 (by decide) (by decide))
      have r5_I_11 : I_11 1 5 = Ia 1 5 := h_11.2.2.2.1 1 5 (by decide) (by decide) (by decide)
      have r6_I_11 : I_11 1 6 = Ia 1 6 := h_11.2.2.2.1 1 6 (by decide) (by decide) (by decide)
      have r7_I_11 : I_11 1 7 = Ia 1 7 := h_11.2.2.2.1 1 7 (by decide) (by decide) (by decide)
      have r8_I_11 : I_11 1 8 = Ia 1 8 := h_11.2.2.2.1 1 8 (by decide) (by decide) (by decide)
      have r9_I_11 : I_11 1 9 = Ia 1 9 := h_11.2.2.2.1 1 9 (by decide) (by decide) (by decide)
      have r10_I_11 : I_11 1 10 = Ia 1 10 := h_11.2.2.2.1 1 10 (by decide) (by decide) (by decide)
      have r11_I_11 : I_11 1 11 = Ia 1 11 := h_11.2.2.2.1 1 11 (by decide) (by decide) (by decide)
      have r81_I_11 : I_11 8 1 = Ia 8 1 := h_11.2.2.2.1 8 1 (by decide) (by decide) (by decide)
      have rf_I_11 : FU (I_11 1 5) = FU (Ia 1 5) := by rw [r5_I_11]
      have xv_I_11 := h_11.2.2.2.2
      exact ww_iret hX (pc := 14) hT (by omega) (by omega) dX10_image_14 ⟨_, rfl, ⟨CI_low hCI kI_11 cI_11, fun k h1 h2 => ⟨kI_11 k (by omega), kJ_11 k (by omega), rfl⟩, (Fw_wd wI_11 (by decide) (by decide)), (fun _ => ⟨xv_I_11.1, h_11.2.2.2.1, xv_I_11.2⟩), (fun _ => ⟨rfl, rfl, fun k hk => ⟨kI_11 k (by omega), rfl⟩⟩), (fun h9 => absurd h9 (by omega)), SX_rf⟩, fr_11⟩
end
