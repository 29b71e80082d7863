set_option maxHeartbeats 4000000 in
set_option maxRecDepth 20000 in
theorem c8_X8_isMet (l0 : Launch) {Ia Ja : aI1} {Ra : aR1} {Sa : aS1} (hL : LY Ra Sa) (hI : XI Ia) {a b : Int} (ha0 : 0 ≤ a) (ha1 : a ≤ 255) (hb0 : 0 ≤ b) (hb1 : b ≤ 8)  : CT l0 0 0 0 mX8_isMet [kR (some 31), kI a, kI b] Ia Ja Ra Sa (cI (fun x I' J' => Ia = I' ∧ Ja = J' ∧ (x = 0 ∨ x = 1) ∧ IMZ x b a (Ja 32)) Ra Sa) := by
  refine ct_in pn_X8 (Nat.le_of_ble_eq_true rfl) (fun X hX hT hIn => ?_)
  have hX : aK l0 X cX8_isMet 4 RX8 (some .boolean) 0 0 0 := hX
  change WW X 0 [some (kR (some 31)), some (kI a), some (kI b), none] [] Ia Ja Ra Sa 0 0
  obtain ⟨hn1, hn2⟩ := hI.1
  obtain ⟨hk1, hk2⟩ := hI.2.1
  obtain ⟨hf1, hf2⟩ := hI.fu
  refine ww_iconst hX (pc := 0) (x := 0) dX8_isMet_0 rfl ?_
  refine ww_istore_n hX (pc := 1) (lv' := [some (kR (some 31)), some (kI a), some (kI b), some (kI 0)]) dX8_isMet_1 (by decide) rfl rfl ?_
  have hl_2 : ∀ (n_2 : Nat) (w : Int), (b - w).toNat = n_2 → (0 ≤ w ∧ w ≤ b ∧ ∀ i : Nat, (i : Int) < w → w64 (Ja 32 (i * 256 + a.toNat)) = 0) → WW X 2 [some (kR (some 31)), some (kI a), some (kI b), some (kI w)] [] Ia Ja Ra Sa 0 0 := by
    intro n_2
    induction n_2 using Nat.strongRecOn with
    | ind n_2 ih_2 =>
      intro w hm_2 hv_2
      have hq_2 := Sh0_i hm_2
      clear hm_2
      obtain ⟨hw0, hw1, hz2⟩ := hv_2
      refine ww_iload_n hX (pc := 2) dX8_isMet_2 rfl ?_
      refine ww_iload_n hX (pc := 3) dX8_isMet_3 rfl ?_
      refine ww_icmp_ge hX (pc := 4) (tgt := 32) dX8_isMet_4 (by decide) (fun h_4 => ?_) (fun h_4 => ?_)
      · simp only [w32_mod] at h_4
        refine ww_iconst hX (pc := 32) (x := 0) dX8_isMet_32 rfl ?_
        refine rZ hX (pc := 33) hT (Nat.le_refl 0) (Nat.le_refl 0) dX8_isMet_33 (by decide) ?_
        exact ⟨rfl, rfl, by omega, fun _ i hi => hz2 i (by omega)⟩
      · simp only [w32_mod] at h_4
        refine ww_aload_n hX (pc := 7) dX8_isMet_7 rfl ?_
        refine ww_getR hX (pc := 8) fX8_9 (by decide) (xs_31 hL) (xr_31_1 hL) dX8_isMet_8 ?_
        refine ww_iload_n hX (pc := 11) dX8_isMet_11 rfl ?_
        refine ww_sipush hX (pc := 12) (x := 256) dX8_isMet_12 (by decide) ?_
        refine ww_imul hX (pc := 15) dX8_isMet_15 ?_
        refine ww_iload_n hX (pc := 16) dX8_isMet_16 rfl ?_
        refine ww_iadd hX (pc := 17) dX8_isMet_17 ?_
        refine ww_lald hX (pc := 18) (xs_32 hL) (by decide) (by omega) (by omega) dX8_isMet_18 ?_
        refine ww_lconst hX (pc := 19) (x := 0) dX8_isMet_19 (by decide) ?_
        refine ww_lcmp hX (pc := 20) dX8_isMet_20 ?_
        refine ww_if_eq hX (pc := 21) (tgt := 26) dX8_isMet_21 (by decide) (fun h_21 => ?_) (fun h_21 => ?_)
        · simp only [w32_mod] at h_21
          have hz : w64 (Ja 32 (w * 256 + a).toNat) = 0 := by
            have h9 := l_cmp_v (Ja 32 (w * 256 + a).toNat) 0
            rw [show w64 0 = 0 from rfl] at h9
            omega
          refine ww_iinc hX (pc := 26) (lv' := [some (kR (some 31)), some (kI a), some (kI b), some (kI (w + 1))]) dX8_isMet_26 rfl (by decide) rfl rfl ?_
          refine ww_goto hX (pc := 29) (tgt := 2) dX8_isMet_29 (by decide) ?_
          exact ih_2 _ (by have hm9 := Sh0_e hq_2; omega) (w + 1) rfl ⟨by omega, by omega, fun i hi => by
  by_cases e9 : (i : Int) = w
  · rw [show i * 256 + a.toNat = (w * 256 + a).toNat by omega]; exact hz
  · exact hz2 i (by omega)⟩
        · simp only [w32_mod] at h_21
          refine ww_iconst hX (pc := 24) (x := 1) dX8_isMet_24 rfl ?_
          refine rZ hX (pc := 25) hT (Nat.le_refl 0) (Nat.le_refl 0) dX8_isMet_25 (by decide) ?_
          exact ⟨rfl, rfl, by omega, fun h9 => absurd h9 (by omega)⟩
  exact hl_2 _ 0 rfl ⟨by omega, by omega, fun i hi => absurd hi (by omega)⟩
set_option maxHeartbeats 4000000 in
set_option maxRecDepth 20000 in
theorem c8_X8_spread (l0 : Launch) {Ia Ja : aI1} {Ra : aR1} {Sa : aS1} (hL : LY Ra Sa) (hI : XI Ia) {a b m e g : Int} {G : Nat} (ha0 : 0 ≤ a) (ha1 : a ≤ FU (Ia 1 5)) (hb0 : 0 ≤ b) (hb1 : b ≤ 8) (he0 : -1 ≤ e) (he1 : e ≤ 7) (hg0 : -1 ≤ g) (hg1 : g ≤ 7) (hm0 : 0 ≤ m) (hm1 : m ≤ 3) (hTR : ∀ t : Nat, (t : Int) ≤ FU (Ia 1 5) → TR m Ia Ja t) (hG : a.toNat &&& G = a.toNat) (hM : MW (PD m e g (Ia 1 6).toNat (FU (Ia 1 5) + 1).toNat Ia Ja (a.toNat)) b (FU (Ia 1 5) + 1).toNat G (Ja 32))  : CT l0 3 0 0 mX8_spread [kR (some 31), kI a, kI b, kI m, kI e, kI g] Ia Ja Ra Sa (cV (fun I' J' => Kp 21 22 Ia I' ∧ Kp 32 33 Ja J' ∧ MW (PD m e g (Ia 1 6).toNat (FU (Ia 1 5) + 1).toNat Ia Ja (a.toNat + 1)) b (FU (Ia 1 5) + 1).toNat G (J' 32)) Ra Sa) := by
  refine ct_in pn_X8 (Nat.le_of_ble_eq_true rfl) (fun X hX hT hIn => ?_)
  have hX : aK l0 X cX8_spread 10 RX8 none 3 0 0 := hX
  change WW X 0 [some (kR (some 31)), some (kI a), some (kI b), some (kI m), some (kI e), some (kI g), none, none, none, none] [] Ia Ja Ra Sa 0 0
  obtain ⟨hn1, hn2⟩ := hI.1
  obtain ⟨hk1, hk2⟩ := hI.2.1
  obtain ⟨hf1, hf2⟩ := hI.fu
  refine ww_aload_n hX (pc := 0) dX8_spread_0 rfl ?_
  refine ww_getR hX (pc := 1) fX8_15 (by decide) (xs_31 hL) (xr_31_0 hL) dX8_spread_1 ?_
  refine ww_iload_n hX (pc := 4) dX8_spread_4 rfl ?_
  refine ww_iload_n hX (pc := 5) dX8_spread_5 rfl ?_
  refine vV2 hX (pc := 6) sX8_39 (xs_18 hL) (c8_X4_chooseAll l0 hL hI (by omega) (by omega) (by omega) (by omega) hTR) (by decide) (Nat.le_refl 0) (Nat.le_refl 0) (Nat.le_of_ble_eq_true rfl) dX8_spread_6 (fun I_6 J_6 h_6 => ?_)
  have h_6j := h_6.2.1
  subst h_6j
  have kI_6 : Kp 21 22 Ia I_6 := Kp_tr (Kp_rf (a := 21) (b := 22)) (Kp_wd h_6.1 (by decide) (by decide))
  have r1_5_I_6 : I_6 1 5 = Ia 1 5 := Kp_at kI_6 1 5 (by decide)
  have r1_6_I_6 : I_6 1 6 = Ia 1 6 := Kp_at kI_6 1 6 (by decide)
  have rf_I_6 : FU (I_6 1 5) = FU (Ia 1 5) := by rw [r1_5_I_6]
  refine ww_aload_n hX (pc := 9) dX8_spread_9 rfl ?_
  refine ww_getR hX (pc := 10) fX8_15 (by decide) (xs_31 hL) (xr_31_0 hL) dX8_spread_10 ?_
  refine ww_getR hX (pc := 13) fX8_43 (by decide) (xs_18 hL) (xr_18_0 hL) dX8_spread_13 ?_
  refine ww_getR hX (pc := 16) fX8_47 (by decide) (xs_1 hL) (xr_1_1 hL) dX8_spread_16 ?_
  refine ww_iload_n hX (pc := 19) dX8_spread_19 rfl ?_
  refine ww_iald hX (pc := 20) (xs_3 hL) (by decide) (by omega) (by omega) dX8_spread_20 ?_
  refine ww_nmI (fun v_21 hv_21 => ?_)
  refine ww_istore hX (pc := 21) (lv' := [some (kR (some 31)), some (kI a), some (kI b), some (kI m), some (kI e), some (kI g), some (kI v_21), none, none, none]) dX8_spread_21 (by decide) rfl rfl ?_
  refine ww_iconst hX (pc := 23) (x := 0) dX8_spread_23 rfl ?_
  refine ww_istore hX (pc := 24) (lv' := [some (kR (some 31)), some (kI a), some (kI b), some (kI m), some (kI e), some (kI g), some (kI v_21), some (kI 0), none, none]) dX8_spread_24 (by decide) rfl rfl ?_
  have hl_26 : ∀ (n_26 : Nat) (w : Int) (J2 : aI1), (Ia 1 6 - w).toNat = n_26 → (Kp 32 33 Ja J2 ∧ MW (QW (Ia 3) (nxD m Ia (Ia 19) (Ia 24) (Ja 28)) e g (Ia 1 6).toNat (FU (Ia 1 5) + 1).toNat a.toNat w.toNat) b (FU (Ia 1 5) + 1).toNat G (J2 32) ∧ 0 ≤ w ∧ w ≤ Ia 1 6) → WW X 26 [some (kR (some 31)), some (kI a), some (kI b), some (kI m), some (kI e), some (kI g), some (kI v_21), some (kI w), none, none] [] I_6 J2 Ra Sa 0 0 := by
    intro n_26
    induction n_26 using Nat.strongRecOn with
    | ind n_26 ih_26 =>
      intro w J2 hm_26 hv_26
      have hq_26 := Sh0_i hm_26
      clear hm_26
      obtain ⟨kJ2, mw2, hw0, hw1⟩ := hv_26
      refine ww_iload hX (pc := 26) dX8_spread_26 rfl ?_
      refine ww_aload_n hX (pc := 28) dX8_spread_28 rfl ?_
      refine ww_getR hX (pc := 29) fX8_15 (by decide) (xs_31 hL) (xr_31_0 hL) dX8_spread_29 ?_
      refine ww_getR hX (pc := 32) fX8_43 (by decide) (xs_18 hL) (xr_18_0 hL) dX8_spread_32 ?_
      refine ww_getI hX (pc := 35) fX8_53 (by decide) (xs_1 hL) dX8_spread_35 ?_
      refine ww_icmp_ge hX (pc := 38) (tgt := 136) dX8_spread_38 (by decide) (fun h_38 => ?_) (fun h_38 => ?_)
      · simp only [w32_mod] at h_38
        refine rV hX (pc := 136) hT (Nat.le_refl 0) (Nat.le_refl 0) dX8_spread_136 ?_
        rw [show w.toNat = (Ia 1 6).toNat by omega] at mw2
        exact ⟨kI_6, kJ2, MW_e mw2⟩
      · simp only [w32_mod] at h_38
        refine ww_aload_n hX (pc := 41) dX8_spread_41 rfl ?_
        refine ww_getR hX (pc := 42) fX8_15 (by decide) (xs_31 hL) (xr_31_0 hL) dX8_spread_42 ?_
        refine ww_getR hX (pc := 45) fX8_57 (by decide) (xs_18 hL) (xr_18_3 hL) dX8_spread_45 ?_
        refine ww_iload hX (pc := 48) dX8_spread_48 rfl ?_
        refine ww_iald hX (pc := 50) (xs_21 hL) (by decide) (by omega) (by omega) dX8_spread_50 ?_
        refine ww_nmI (fun v_51 hv_51 => ?_)
        refine ww_istore hX (pc := 51) (lv' := [some (kR (some 31)), some (kI a), some (kI b), some (kI m), some (kI e), some (kI g), some (kI v_21), some (kI w), some (kI v_51), none]) dX8_spread_51 (by decide) rfl rfl ?_
        have hch := h_6.2.2.2 w.toNat (by omega)
        have hcd := hI.2.2.2.2.2.2.2.2.2.1 a.toNat (by omega)
        have ho9 : v_21 = Ia 3 a.toNat := by rw [hv_21, kI_6 3 (by decide)]
        have hnx0 : nxD m Ia (Ia 19) (Ia 24) (Ja 28) a.toNat w.toNat = v_51 := by
          unfold nxD
          rw [hv_51, show ((a.toNat : Nat) : Int) = a by omega]
          exact (h_6.2.2.1 w.toNat (by omega)).symm
        rw [← hv_51] at hch
        refine ww_iload hX (pc := 53) dX8_spread_53 rfl ?_
        refine ww_iload hX (pc := 55) dX8_spread_55 rfl ?_
        refine ww_icmp_eq hX (pc := 57) (tgt := 130) dX8_spread_57 (by decide) (fun h_57 => ?_) (fun h_57 => ?_)
        · simp only [w32_mod] at h_57
          have mn26 : MW (QW (Ia 3) (nxD m Ia (Ia 19) (Ia 24) (Ja 28)) e g (Ia 1 6).toNat (FU (Ia 1 5) + 1).toNat a.toNat (w.toNat + 1)) b (FU (Ia 1 5) + 1).toNat G (J2 32) := MW_own mw2 (by omega)
          refine ww_iinc hX (pc := 130) (lv' := [some (kR (some 31)), some (kI a), some (kI b), some (kI m), some (kI e), some (kI g), some (kI v_21), some (kI (w + 1)), some (kI v_51), none]) dX8_spread_130 rfl (by decide) rfl rfl ?_
          refine ww_goto hX (pc := 133) (tgt := 26) dX8_spread_133 (by decide) ?_
          refine ww_sub [some (kR (some 31)), some (kI a), some (kI b), some (kI m), some (kI e), some (kI g), some (kI v_21), some (kI (w + 1)), none, none] (aLe_s (aLe_s (aLe_s (aLe_s (aLe_s (aLe_s (aLe_s (aLe_s (aLe_n (aLe_n aLe_0)))))))))) ?_
          exact ih_26 _ (by have hm9 := Sh0_e hq_26; omega) (w + 1) J2 rfl ⟨kJ2, by rw [show (w + 1).toNat = w.toNat + 1 by omega]; exact mn26, by omega, by omega⟩
        · simp only [w32_mod] at h_57
          refine ww_iload hX (pc := 60) dX8_spread_60 rfl ?_
          refine ww_iconst hX (pc := 62) (x := (-1)) dX8_spread_62 rfl ?_
          refine ww_icmp_ne hX (pc := 63) (tgt := 69) dX8_spread_63 (by decide) (fun h_63 => ?_) (fun h_63 => ?_)
          · simp only [w32_mod] at h_63
            have hnx : nxD m Ia (Ia 19) (Ia 24) (Ja 28) a.toNat w.toNat = ((v_51.toNat : Nat) : Int) := by rw [hnx0]; omega
            refine ww_iconst hX (pc := 69) (x := 0) dX8_spread_69 rfl ?_
            refine ww_istore hX (pc := 70) (lv' := [some (kR (some 31)), some (kI a), some (kI b), some (kI m), some (kI e), some (kI g), some (kI v_21), some (kI w), some (kI v_51), some (kI 0)]) dX8_spread_70 (by decide) rfl rfl ?_
            have hl_72 : ∀ (n_72 : Nat) (u : Int) (J3 : aI1), (b - u).toNat = n_72 → (Kp 32 33 Ja J3 ∧ MW (VW (Ia 3) (nxD m Ia (Ia 19) (Ia 24) (Ja 28)) e g (Ia 1 6).toNat (FU (Ia 1 5) + 1).toNat a.toNat w.toNat u.toNat) b (FU (Ia 1 5) + 1).toNat G (J3 32) ∧ 0 ≤ u ∧ u ≤ b) → WW X 72 [some (kR (some 31)), some (kI a), some (kI b), some (kI m), some (kI e), some (kI g), some (kI v_21), some (kI w), some (kI v_51), some (kI u)] [] I_6 J3 Ra Sa 0 0 := by
              intro n_72
              induction n_72 using Nat.strongRecOn with
              | ind n_72 ih_72 =>
                intro u J3 hm_72 hv_72
                have hq_72 := Sh0_i hm_72
                clear hm_72
                obtain ⟨kJ3, mw3, hu0, hu1⟩ := hv_72
                refine ww_iload hX (pc := 72) dX8_spread_72 rfl ?_
                refine ww_iload_n hX (pc := 74) dX8_spread_74 rfl ?_
                refine ww_icmp_ge hX (pc := 75) (tgt := 130) dX8_spread_75 (by decide) (fun h_75 => ?_) (fun h_75 => ?_)
                · simp only [w32_mod] at h_75
                  have mn26 : MW (QW (Ia 3) (nxD m Ia (Ia 19) (Ia 24) (Ja 28)) e g (Ia 1 6).toNat (FU (Ia 1 5) + 1).toNat a.toNat (w.toNat + 1)) b (FU (Ia 1 5) + 1).toNat G (J3 32) := MW_out mw3 (by omega)
                  refine ww_iinc hX (pc := 130) (lv' := [some (kR (some 31)), some (kI a), some (kI b), some (kI m), some (kI e), some (kI g), some (kI v_21), some (kI (w + 1)), some (kI v_51), some (kI u)]) dX8_spread_130 rfl (by decide) rfl rfl ?_
                  refine ww_goto hX (pc := 133) (tgt := 26) dX8_spread_133 (by decide) ?_
                  refine ww_sub [some (kR (some 31)), some (kI a), some (kI b), some (kI m), some (kI e), some (kI g), some (kI v_21), some (kI (w + 1)), none, none] (aLe_s (aLe_s (aLe_s (aLe_s (aLe_s (aLe_s (aLe_s (aLe_s (aLe_n (aLe_n aLe_0)))))))))) ?_
                  exact ih_26 _ (by have hm9 := Sh0_e hq_26; omega) (w + 1) J3 rfl ⟨kJ3, by rw [show (w + 1).toNat = w.toNat + 1 by omega]; exact mn26, by omega, by omega⟩
                · simp only [w32_mod] at h_75
                  refine ww_iload hX (pc := 78) dX8_spread_78 rfl ?_
                  refine ww_iload hX (pc := 80) dX8_spread_80 rfl ?_
                  refine ww_icmp_ne hX (pc := 82) (tgt := 92) dX8_spread_82 (by decide) (fun h_82 => ?_) (fun h_82 => ?_)
                  · simp only [w32_mod] at h_82
                    refine ww_aload_n hX (pc := 92) dX8_spread_92 rfl ?_
                    refine ww_getR hX (pc := 93) fX8_9 (by decide) (xs_31 hL) (xr_31_1 hL) dX8_spread_93 ?_
                    refine ww_iload hX (pc := 96) dX8_spread_96 rfl ?_
                    refine ww_iconst hX (pc := 98) (x := 1) dX8_spread_98 rfl ?_
                    refine ww_iadd hX (pc := 99) dX8_spread_99 ?_
                    refine ww_sipush hX (pc := 100) (x := 256) dX8_spread_100 (by decide) ?_
                    refine ww_imul hX (pc := 103) dX8_spread_103 ?_
                    refine ww_iload hX (pc := 104) dX8_spread_104 rfl ?_
                    refine ww_iadd hX (pc := 106) dX8_spread_106 ?_
                    refine ww_dup2 hX (pc := 107) dX8_spread_107 ?_
                    refine ww_lald hX (pc := 108) (xs_32 hL) (by decide) (by omega) (by omega) dX8_spread_108 ?_
                    refine ww_aload_n hX (pc := 109) dX8_spread_109 rfl ?_
                    refine ww_getR hX (pc := 110) fX8_9 (by decide) (xs_31 hL) (xr_31_1 hL) dX8_spread_110 ?_
                    refine ww_iload hX (pc := 113) dX8_spread_113 rfl ?_
                    refine ww_sipush hX (pc := 115) (x := 256) dX8_spread_115 (by decide) ?_
                    refine ww_imul hX (pc := 118) dX8_spread_118 ?_
                    refine ww_iload_n hX (pc := 119) dX8_spread_119 rfl ?_
                    refine ww_iadd hX (pc := 120) dX8_spread_120 ?_
                    refine ww_lald hX (pc := 121) (xs_32 hL) (by decide) (by omega) (by omega) dX8_spread_121 ?_
                    refine ww_ladd hX (pc := 122) dX8_spread_122 ?_
                    refine ww_last hX (pc := 123) (xs_32 hL) (by decide) (by omega) (by omega) dX8_spread_123 ?_
                    refine ww_nmK (fun J_123 eJ_123 => ?_)
                    have kJ_123 : Kp 32 33 Ja J_123 := by rw [eJ_123]; exact Kp_up kJ3 _ _ (by decide)
                    have mn72 : MW (VW (Ia 3) (nxD m Ia (Ia 19) (Ia 24) (Ja 28)) e g (Ia 1 6).toNat (FU (Ia 1 5) + 1).toNat a.toNat w.toNat (u.toNat + 1)) b (FU (Ia 1 5) + 1).toNat G (J_123 32) := by
                      rw [eJ_123, up2_row]
                      exact MW_add (UpW_nxD (m := m) (I := Ia) (o := Ia 19) (L := Ia 24) (T := Ja 28) (K := (Ia 1 6).toNat) (N := (FU (Ia 1 5) + 1).toNat) rfl) (by omega) mw3 (by omega) hG (by omega) (by omega) hnx (by omega) (by omega) (fun h9 => by omega) (by omega) (by omega)
                    refine ww_iinc hX (pc := 124) (lv' := [some (kR (some 31)), some (kI a), some (kI b), some (kI m), some (kI e), some (kI g), some (kI v_21), some (kI w), some (kI v_51), some (kI (u + 1))]) dX8_spread_124 rfl (by decide) rfl rfl ?_
                    refine ww_goto hX (pc := 127) (tgt := 72) dX8_spread_127 (by decide) ?_
                    exact ih_72 _ (by have hm9 := Sh0_e hq_72; omega) (u + 1) J_123 rfl ⟨kJ_123, by rw [show (u + 1).toNat = u.toNat + 1 by omega]; exact mn72, by omega, by omega⟩
                  · simp only [w32_mod] at h_82
                    refine ww_iload hX (pc := 85) dX8_spread_85 rfl ?_
                    refine ww_iload hX (pc := 87) dX8_spread_87 rfl ?_
                    refine ww_icmp_ne hX (pc := 89) (tgt := 124) dX8_spread_89 (by decide) (fun h_89 => ?_) (fun h_89 => ?_)
                    · simp only [w32_mod] at h_89
                      have mn72 : MW (VW (Ia 3) (nxD m Ia (Ia 19) (Ia 24) (Ja 28)) e g (Ia 1 6).toNat (FU (Ia 1 5) + 1).toNat a.toNat w.toNat (u.toNat + 1)) b (FU (Ia 1 5) + 1).toNat G (J3 32) := MW_skip mw3 (by omega) (by omega)
                      refine ww_iinc hX (pc := 124) (lv' := [some (kR (some 31)), some (kI a), some (kI b), some (kI m), some (kI e), some (kI g), some (kI v_21), some (kI w), some (kI v_51), some (kI (u + 1))]) dX8_spread_124 rfl (by decide) rfl rfl ?_
                      refine ww_goto hX (pc := 127) (tgt := 72) dX8_spread_127 (by decide) ?_
                      exact ih_72 _ (by have hm9 := Sh0_e hq_72; omega) (u + 1) J3 rfl ⟨kJ3, by rw [show (u + 1).toNat = u.toNat + 1 by omega]; exact mn72, by omega, by omega⟩
                    · simp only [w32_mod] at h_89
                      refine ww_aload_n hX (pc := 92) dX8_spread_92 rfl ?_
                      refine ww_getR hX (pc := 93) fX8_9 (by decide) (xs_31 hL) (xr_31_1 hL) dX8_spread_93 ?_
                      refine ww_iload hX (pc := 96) dX8_spread_96 rfl ?_
                      refine ww_iconst hX (pc := 98) (x := 1) dX8_spread_98 rfl ?_
                      refine ww_iadd hX (pc := 99) dX8_spread_99 ?_
                      refine ww_sipush hX (pc := 100) (x := 256) dX8_spread_100 (by decide) ?_
                      refine ww_imul hX (pc := 103) dX8_spread_103 ?_
                      refine ww_iload hX (pc := 104) dX8_spread_104 rfl ?_
                      refine ww_iadd hX (pc := 106) dX8_spread_106 ?_
                      refine ww_dup2 hX (pc := 107) dX8_spread_107 ?_
                      refine ww_lald hX (pc := 108) (xs_32 hL) (by decide) (by omega) (by omega) dX8_spread_108 ?_
                      refine ww_aload_n hX (pc := 109) dX8_spread_109 rfl ?_
                      refine ww_getR hX (pc := 110) fX8_9 (by decide) (xs_31 hL) (xr_31_1 hL) dX8_spread_110 ?_
                      refine ww_iload hX (pc := 113) dX8_spread_113 rfl ?_
                      refine ww_sipush hX (pc := 115) (x := 256) dX8_spread_115 (by decide) ?_
                      refine ww_imul hX (pc := 118) dX8_spread_118 ?_
                      refine ww_iload_n hX (pc := 119) dX8_spread_119 rfl ?_
                      refine ww_iadd hX (pc := 120) dX8_spread_120 ?_
                      refine ww_lald hX (pc := 121) (xs_32 hL) (by decide) (by omega) (by omega) dX8_spread_121 ?_
                      refine ww_ladd hX (pc := 122) dX8_spread_122 ?_
                      refine ww_last hX (pc := 123) (xs_32 hL) (by decide) (by omega) (by omega) dX8_spread_123 ?_
                      refine ww_nmK (fun J_123 eJ_123 => ?_)
                      have kJ_123 : Kp 32 33 Ja J_123 := by rw [eJ_123]; exact Kp_up kJ3 _ _ (by decide)
                      have mn72 : MW (VW (Ia 3) (nxD m Ia (Ia 19) (Ia 24) (Ja 28)) e g (Ia 1 6).toNat (FU (Ia 1 5) + 1).toNat a.toNat w.toNat (u.toNat + 1)) b (FU (Ia 1 5) + 1).toNat G (J_123 32) := by
                        rw [eJ_123, up2_row]
                        exact MW_add (UpW_nxD (m := m) (I := Ia) (o := Ia 19) (L := Ia 24) (T := Ja 28) (K := (Ia 1 6).toNat) (N := (FU (Ia 1 5) + 1).toNat) rfl) (by omega) mw3 (by omega) hG (by omega) (by omega) hnx (by omega) (by omega) (fun h9 => by omega) (by omega) (by omega)
                      refine ww_iinc hX (pc := 124) (lv' := [some (kR (some 31)), some (kI a), some (kI b), some (kI m), some (kI e), some (kI g), some (kI v_21), some (kI w), some (kI v_51), some (kI (u + 1))]) dX8_spread_124 rfl (by decide) rfl rfl ?_
                      refine ww_goto hX (pc := 127) (tgt := 72) dX8_spread_127 (by decide) ?_
                      exact ih_72 _ (by have hm9 := Sh0_e hq_72; omega) (u + 1) J_123 rfl ⟨kJ_123, by rw [show (u + 1).toNat = u.toNat + 1 by omega]; exact mn72, by omega, by omega⟩
            exact hl_72 _ 0 J2 rfl ⟨kJ2, MW_in mw2, by omega, by omega⟩
          · simp only [w32_mod] at h_63
            have mn26 : MW (QW (Ia 3) (nxD m Ia (Ia 19) (Ia 24) (Ja 28)) e g (Ia 1 6).toNat (FU (Ia 1 5) + 1).toNat a.toNat (w.toNat + 1)) b (FU (Ia 1 5) + 1).toNat G (J2 32) := MW_no mw2 (by rw [hnx0]; omega)
            refine ww_goto hX (pc := 66) (tgt := 130) dX8_spread_66 (by decide) ?_
            refine ww_iinc hX (pc := 130) (lv' := [some (kR (some 31)), some (kI a), some (kI b), some (kI m), some (kI e), some (kI g), some (kI v_21), some (kI (w + 1)), some (kI v_51), none]) dX8_spread_130 rfl (by decide) rfl rfl ?_
            refine ww_goto hX (pc := 133) (tgt := 26) dX8_spread_133 (by decide) ?_
            refine ww_sub [some (kR (some 31)), some (kI a), some (kI b), some (kI m), some (kI e), some (kI g), some (kI v_21), some (kI (w + 1)), none, none] (aLe_s (aLe_s (aLe_s (aLe_s (aLe_s (aLe_s (aLe_s (aLe_s (aLe_n (aLe_n aLe_0)))))))))) ?_
            exact ih_26 _ (by have hm9 := Sh0_e hq_26; omega) (w + 1) J2 rfl ⟨kJ2, by rw [show (w + 1).toNat = w.toNat + 1 by omega]; exact mn26, by omega, by omega⟩
  exact hl_26 _ 0 Ja rfl ⟨(Kp_rf (a := 32) (b := 33)), MW_s hM, by omega, by omega⟩
set_option maxHeartbeats 4000000 in
set_option maxRecDepth 20000 in
theorem c8_X8_countRows (l0 : Launch) {Ia Ja : aI1} {Ra : aR1} {Sa : aS1} (hL : LY Ra Sa) (hI : XI Ia) (hF : FRk Ia Ja) (hO : ∀ j, j < 8 → 0 ≤ Ia 2 j ∧ Ia 2 j ≤ 99) (hK : ∀ s : Nat, (s : Int) ≤ FU (Ia 1 5) → Ia 3 s < Ia 1 6) {a b m e g : Int} (ha0 : 0 ≤ a) (ha1 : a ≤ 8) (hb0 : 0 ≤ b) (hb1 : b ≤ FU (Ia 1 5)) (hm0 : 0 ≤ m) (hm1 : m ≤ 3) (he0 : -1 ≤ e) (he1 : e ≤ 7) (hg0 : -1 ≤ g) (hg1 : g ≤ 7)  : CT l0 6 0 0 mX8_countRows [kR (some 31), kI a, kI b, kI m, kI e, kI g] Ia Ja Ra Sa (cJ (fun x I' J' => Kp 18 33 Ia I' ∧ Kp 18 33 Ja J' ∧ FRk I' J' ∧ ∃ o L T, KT m Ia o L T ∧ x = RW (Ia 3) (nxD m Ia o L T) e g (Ia 1 6).toNat (FU (Ia 1 5) + 1).toNat a.toNat b.toNat) Ra Sa) := by
  refine ct_in pn_X8 (Nat.le_of_ble_eq_true rfl) (fun X hX hT hIn => ?_)
  have hX : aK l0 X cX8_countRows 7 RX8 (some .long) 6 0 0 := hX
  change WW X 0 [some (kR (some 31)), some (kI a), some (kI b), some (kI m), some (kI e), some (kI g), none] [] Ia Ja Ra Sa 0 0
  obtain ⟨hn1, hn2⟩ := hI.1
  obtain ⟨hk1, hk2⟩ := hI.2.1
  obtain ⟨hf1, hf2⟩ := hI.fu
  refine ww_aload_n hX (pc := 0) dX8_countRows_0 rfl ?_
  refine ww_getR hX (pc := 1) fX8_15 (by decide) (xs_31 hL) (xr_31_0 hL) dX8_countRows_1 ?_
  refine ww_iload_n hX (pc := 4) dX8_countRows_4 rfl ?_
  refine vV1 hX (pc := 5) sX8_19 (xs_18 hL) (c8_X4_prepare l0 hL hI hF hK (by omega) (by omega)) (by decide) (Nat.le_refl 0) (Nat.le_refl 0) (Nat.le_of_ble_eq_true rfl) dX8_countRows_5 (fun I_5 J_5 h_5 => ?_)
  have kI_5 : Kp 18 33 Ia I_5 := Kp_tr (Kp_rf (a := 18) (b := 33)) (Kp_wd h_5.1 (by decide) (by decide))
  have kJ_5 : Kp 18 33 Ja J_5 := Kp_tr (Kp_rf (a := 18) (b := 33)) (Kp_wd h_5.2.1 (by decide) (by decide))
  have r1_5_I_5 : I_5 1 5 = Ia 1 5 := Kp_at kI_5 1 5 (by decide)
  have r1_6_I_5 : I_5 1 6 = Ia 1 6 := Kp_at kI_5 1 6 (by decide)
  have rf_I_5 : FU (I_5 1 5) = FU (Ia 1 5) := by rw [r1_5_I_5]
  have fr5 := h_5.2.2.1
  have htr5 : ∀ t : Nat, (t : Int) ≤ FU (I_5 1 5) → TR m I_5 J_5 t := TR_p (XI_kp hI h_5.1 (by decide)) (by rw [h_5.1 2 (by decide)]; exact hO) h_5.2.2.2.1 h_5.2.2.2.2.1 h_5.2.2.2.2.2
  refine ww_aload_n hX (pc := 8) dX8_countRows_8 rfl ?_
  refine ww_getR hX (pc := 9) fX8_9 (by decide) (xs_31 hL) (xr_31_1 hL) dX8_countRows_9 ?_
  refine ww_iconst hX (pc := 12) (x := 0) dX8_countRows_12 rfl ?_
  refine ww_iload_n hX (pc := 13) dX8_countRows_13 rfl ?_
  refine ww_iconst hX (pc := 14) (x := 1) dX8_countRows_14 rfl ?_
  refine ww_iadd hX (pc := 15) dX8_countRows_15 ?_
  refine ww_sipush hX (pc := 16) (x := 256) dX8_countRows_16 (by decide) ?_
  refine ww_imul hX (pc := 19) dX8_countRows_19 ?_
  refine ww_lconst hX (pc := 20) (x := 0) dX8_countRows_20 (by decide) ?_
  refine sV4 hX (pc := 21) sX8_25 (c_J7_fill_bad5a l0 (xs_32 hL) (by decide) (by omega) (by omega) (by omega)) (by decide) (Nat.le_refl 0) (Nat.le_refl 0) (Nat.le_of_ble_eq_true rfl) dX8_countRows_21 (fun I_21 J_21 h_21 => ?_)
  obtain ⟨rfl, eJ_21⟩ := h_21
  have kJ_21 : Kp 18 33 Ja J_21 := by rw [eJ_21]; exact Kp_upR kJ_5 _ (by decide)
  refine ww_aload_n hX (pc := 24) dX8_countRows_24 rfl ?_
  refine ww_getR hX (pc := 25) fX8_9 (by decide) (xs_31 hL) (xr_31_1 hL) dX8_countRows_25 ?_
  refine ww_iconst hX (pc := 28) (x := 0) dX8_countRows_28 rfl ?_
  refine ww_lconst hX (pc := 29) (x := 1) dX8_countRows_29 (by decide) ?_
  refine ww_last hX (pc := 30) (xs_32 hL) (by decide) (by omega) (by omega) dX8_countRows_30 ?_
  refine ww_nmK (fun J_30 eJ_30 => ?_)
  have kJ_30 : Kp 18 33 Ja J_30 := by rw [eJ_30]; exact Kp_up kJ_21 _ _ (by decide)
  have kq30 : Kp 32 33 J_5 J_30 := by rw [eJ_30, eJ_21]; exact Kp_up (Kp_upR Kp_rf _ (by decide)) _ _ (by decide)
  have mw30 : MW (PD m e g (Ia 1 6).toNat (FU (Ia 1 5) + 1).toNat I_5 J_5 (0)) a (FU (Ia 1 5) + 1).toNat b.toNat (J_30 32) := by
    rw [eJ_30, up2_row, eJ_21]
    exact MW_0 (by omega) (by omega) (fun k hk => by rw [upR_s]; exact if_pos (by omega))
  have hU : UpW (I_5 3) (nxD m I_5 (I_5 19) (I_5 24) (J_5 28)) (Ia 1 6).toNat (FU (Ia 1 5) + 1).toNat := UpW_nxD (by rw [rf_I_5])
  refine ww_iconst hX (pc := 31) (x := 0) dX8_countRows_31 rfl ?_
  refine ww_istore hX (pc := 32) (lv' := [some (kR (some 31)), some (kI a), some (kI b), some (kI m), some (kI e), some (kI g), some (kI 0)]) dX8_countRows_32 (by decide) rfl rfl ?_
  have hl_34 : ∀ (n_34 : Nat) (q : Int) (I2 : aI1) (J2 : aI1), (b - q).toNat = n_34 → (Kp 18 33 Ia I2 ∧ Kp 18 33 Ja J2 ∧ (0 ≤ q ∧ q ≤ b) ∧ Kp 21 22 I_5 I2 ∧ Kp 32 33 J_5 J2 ∧ MW (PD m e g (Ia 1 6).toNat (FU (Ia 1 5) + 1).toNat I_5 J_5 (q.toNat)) a (FU (Ia 1 5) + 1).toNat b.toNat (J2 32)) → WW X 34 [some (kR (some 31)), some (kI a), some (kI b), some (kI m), some (kI e), some (kI g), some (kI q)] [] I2 J2 Ra Sa 0 0 := by
    intro n_34
    induction n_34 using Nat.strongRecOn with
    | ind n_34 ih_34 =>
      intro q I2 J2 hm_34 hv_34
      have hq_34 := Sh0_i hm_34
      clear hm_34
      obtain ⟨kI2, kJ2, hq, kq, kjq, mwq⟩ := hv_34
      have r1_5_I2 : I2 1 5 = Ia 1 5 := Kp_at kI2 1 5 (by decide)
      have r1_6_I2 : I2 1 6 = Ia 1 6 := Kp_at kI2 1 6 (by decide)
      have rf_I2 : FU (I2 1 5) = FU (Ia 1 5) := by rw [r1_5_I2]
      refine ww_iload hX (pc := 34) dX8_countRows_34 rfl ?_
      refine ww_iload_n hX (pc := 36) dX8_countRows_36 rfl ?_
      refine ww_icmp_ge hX (pc := 37) (tgt := 77) dX8_countRows_37 (by decide) (fun h_37 => ?_) (fun h_37 => ?_)
      · simp only [w32_mod] at h_37
        refine ww_aload_n hX (pc := 77) dX8_countRows_77 rfl ?_
        refine ww_getR hX (pc := 78) fX8_9 (by decide) (xs_31 hL) (xr_31_1 hL) dX8_countRows_78 ?_
        refine ww_iload_n hX (pc := 81) dX8_countRows_81 rfl ?_
        refine ww_sipush hX (pc := 82) (x := 256) dX8_countRows_82 (by decide) ?_
        refine ww_imul hX (pc := 85) dX8_countRows_85 ?_
        refine ww_iload_n hX (pc := 86) dX8_countRows_86 rfl ?_
        refine ww_iadd hX (pc := 87) dX8_countRows_87 ?_
        refine ww_lald hX (pc := 88) (xs_32 hL) (by decide) (by omega) (by omega) dX8_countRows_88 ?_
        refine rJ hX (pc := 89) hT (Nat.le_refl 0) (Nat.le_refl 0) dX8_countRows_89 ?_
        have hqe : q.toNat = b.toNat := by omega
        rw [hqe] at mwq
        have h9 := MW_at hU mwq (by omega) (i := a.toNat) (by omega)
        rw [show a.toNat * 256 + b.toNat = (a * 256 + b).toNat by omega, nxD_kp (h_5.1 1 (by decide)) (h_5.1 3 (by decide)), h_5.1 3 (by decide)] at h9
        exact ⟨kI2, kJ2, FRk_kp (FRk_kp fr5 kq Kp_rf (by decide)) Kp_rf kjq (by decide), _, _, _, KT_p h_5.2.2.2.1 h_5.2.2.2.2.1 h_5.2.2.2.2.2 (h_5.1 1 (by decide)) (h_5.1 2 (by decide)) (h_5.1 3 (by decide)), h9⟩
      · simp only [w32_mod] at h_37
        refine ww_iload hX (pc := 40) dX8_countRows_40 rfl ?_
        refine ww_iload_n hX (pc := 42) dX8_countRows_42 rfl ?_
        refine ww_iand hX (pc := 43) dX8_countRows_43 ?_
        refine ww_iload hX (pc := 44) dX8_countRows_44 rfl ?_
        have hqa : i_and q b = ((q.toNat &&& b.toNat : Nat) : Int) := by
          have h9 := i_and_N (a := q.toNat) (b := b.toNat) (by omega)
          rw [show ((q.toNat : Nat) : Int) = q by omega, show ((b.toNat : Nat) : Int) = b by omega] at h9
          exact h9
        have hql : q.toNat &&& b.toNat ≤ q.toNat := Nat.and_le_left
        refine ww_icmp_ne hX (pc := 46) (tgt := 71) dX8_countRows_46 (by decide) (fun h_46 => ?_) (fun h_46 => ?_)
        · simp only [w32_mod] at h_46
          have mn34 : MW (PD m e g (Ia 1 6).toNat (FU (Ia 1 5) + 1).toNat I_5 J_5 (q.toNat + 1)) a (FU (Ia 1 5) + 1).toNat b.toNat (J2 32) := MW_np hU (by omega) mwq (fun h9 => h_46 (by rw [hqa, h9]; omega))
          refine ww_iinc hX (pc := 71) (lv' := [some (kR (some 31)), some (kI a), some (kI b), some (kI m), some (kI e), some (kI g), some (kI (q + 1))]) dX8_countRows_71 rfl (by decide) rfl rfl ?_
          refine ww_goto hX (pc := 74) (tgt := 34) dX8_countRows_74 (by decide) ?_
          exact ih_34 _ (by have hm9 := Sh0_e hq_34; omega) (q + 1) I2 J2 rfl ⟨kI2, kJ2, ⟨by omega, by omega⟩, kq, kjq, by rw [show (q + 1).toNat = q.toNat + 1 by omega]; exact mn34⟩
        · simp only [w32_mod] at h_46
          have hqg : q.toNat &&& b.toNat = q.toNat := by omega
          refine ww_aload_n hX (pc := 49) dX8_countRows_49 rfl ?_
          refine ww_iload hX (pc := 50) dX8_countRows_50 rfl ?_
          refine ww_iload_n hX (pc := 52) dX8_countRows_52 rfl ?_
          refine vI2 hX (pc := 53) sX8_31 (xs_31 hL) (c8_X8_isMet l0 hL (XI_kp hI kI2 (by decide)) (by omega) (by omega) (by omega) (by omega)) (by decide) (Nat.le_refl 0) (Nat.le_refl 0) (Nat.le_of_ble_eq_true rfl) dX8_countRows_53 (fun x_53 I_53 J_53 h_53 => ?_)
          obtain ⟨rfl, rfl, h_53⟩ := h_53
          refine ww_if_eq hX (pc := 56) (tgt := 71) dX8_countRows_56 (by decide) (fun h_56 => ?_) (fun h_56 => ?_)
          · simp only [w32_mod] at h_56
            have mn34 : MW (PD m e g (Ia 1 6).toNat (FU (Ia 1 5) + 1).toNat I_5 J_5 (q.toNat + 1)) a (FU (Ia 1 5) + 1).toNat b.toNat (J2 32) := MW_nm hU (by omega) (by omega) (by omega) mwq hqg (fun i hi => by
              have h1 := MW_bd hU (by omega) (by omega) (by omega) mwq hqg hi
              have h2 := h_53.2 (by omega) i hi
              rw [w64_id (by omega) (by omega)] at h2
              exact h2)
            refine ww_iinc hX (pc := 71) (lv' := [some (kR (some 31)), some (kI a), some (kI b), some (kI m), some (kI e), some (kI g), some (kI (q + 1))]) dX8_countRows_71 rfl (by decide) rfl rfl ?_
            refine ww_goto hX (pc := 74) (tgt := 34) dX8_countRows_74 (by decide) ?_
            exact ih_34 _ (by have hm9 := Sh0_e hq_34; omega) (q + 1) I2 J2 rfl ⟨kI2, kJ2, ⟨by omega, by omega⟩, kq, kjq, by rw [show (q + 1).toNat = q.toNat + 1 by omega]; exact mn34⟩
          · simp only [w32_mod] at h_56
            refine ww_aload_n hX (pc := 59) dX8_countRows_59 rfl ?_
            refine ww_iload hX (pc := 60) dX8_countRows_60 rfl ?_
            refine ww_iload_n hX (pc := 62) dX8_countRows_62 rfl ?_
            refine ww_iload_n hX (pc := 63) dX8_countRows_63 rfl ?_
            refine ww_iload hX (pc := 64) dX8_countRows_64 rfl ?_
            refine ww_iload hX (pc := 66) dX8_countRows_66 rfl ?_
            refine vV5 hX (pc := 68) sX8_35 (xs_31 hL) (c8_X8_spread l0 hL (XI_kp hI kI2 (by decide)) (by omega) (by omega) (by omega) (by omega) (by omega) (by omega) (by omega) (by omega) (by omega) (by omega) (fun t9 ht9 => TR_o2 (htr5 t9 (by rw [kq 1 (by decide)] at ht9; exact ht9)) (kq 19 (by decide)) (kq 24 (by decide)) (kjq 28 (by decide))) hqg (by rw [(PD_kp (kq 1 (by decide)) (kq 3 (by decide)) (kq 19 (by decide)) (kq 24 (by decide)) (kjq 28 (by decide))), rf_I2, r1_6_I2]; exact mwq)) (by decide) (Nat.le_refl 0) (Nat.le_refl 0) (Nat.le_of_ble_eq_true rfl) dX8_countRows_68 (fun I_68 J_68 h_68 => ?_)
            have kI_68 : Kp 18 33 Ia I_68 := Kp_tr kI2 (Kp_wd h_68.1 (by decide) (by decide))
            have kJ_68 : Kp 18 33 Ja J_68 := Kp_tr kJ2 (Kp_wd h_68.2.1 (by decide) (by decide))
            have r1_5_I_68 : I_68 1 5 = Ia 1 5 := Kp_at kI_68 1 5 (by decide)
            have r1_6_I_68 : I_68 1 6 = Ia 1 6 := Kp_at kI_68 1 6 (by decide)
            have rf_I_68 : FU (I_68 1 5) = FU (Ia 1 5) := by rw [r1_5_I_68]
            have mn34 : MW (PD m e g (Ia 1 6).toNat (FU (Ia 1 5) + 1).toNat I_5 J_5 (q.toNat + 1)) a (FU (Ia 1 5) + 1).toNat b.toNat (J_68 32) := by
              have h9 := h_68.2.2
              rw [(PD_kp (kq 1 (by decide)) (kq 3 (by decide)) (kq 19 (by decide)) (kq 24 (by decide)) (kjq 28 (by decide))), rf_I2, r1_6_I2] at h9
              exact h9
            refine ww_iinc hX (pc := 71) (lv' := [some (kR (some 31)), some (kI a), some (kI b), some (kI m), some (kI e), some (kI g), some (kI (q + 1))]) dX8_countRows_71 rfl (by decide) rfl rfl ?_
            refine ww_goto hX (pc := 74) (tgt := 34) dX8_countRows_74 (by decide) ?_
            exact ih_34 _ (by have hm9 := Sh0_e hq_34; omega) (q + 1) I_68 J_68 rfl ⟨kI_68, kJ_68, ⟨by omega, by omega⟩, Kp_tr kq h_68.1, Kp_tr kjq h_68.2.1, by rw [show (q + 1).toNat = q.toNat + 1 by omega]; exact mn34⟩
  exact hl_34 _ 0 I_5 J_30 rfl ⟨kI_5, kJ_30, ⟨by omega, by omega⟩, Kp_rf, kq30, mw30⟩
set_option maxHeartbeats 4000000 in
set_option maxRecDepth 20000 in
theorem c8_X10_rows (l0 : Launch) {Ia Ja : aI1} {Ra : aR1} {Sa : aS1} (hL : LY Ra Sa) (hC : CX Ia) (hF : FRk Ia Ja) {a b c : Int} (ha0 : -2147483648 ≤ a) (ha1 : a < 2147483648) (hb0 : -2147483648 ≤ b) (hb1 : b < 2147483648) (hc0 : -2147483648 ≤ c) (hc1 : c < 2147483648) (hO : ∀ j, j < 8 → 0 ≤ Ia 2 j ∧ Ia 2 j ≤ 99) (hK : ∀ s : Nat, (s : Int) ≤ FU (Ia 1 5) → Ia 3 s < Ia 1 6)  : CT l0 10 0 0 mX10_rows [kR (some 0), kI a, kI b, kI c] Ia Ja Ra Sa (cJ (fun x I' J' => (Kp 0 49 Ia I' ∧ Kp 0 49 Ja J' ∧ CX I' ∧ Fw [18, 19, 20, 21, 22, 23, 24, 25, 26, 27, 28, 29, 30, 31, 32] [] Ia I' ∧ ((0 ≤ a ∧ a ≤ 8 ∧ 0 ≤ b ∧ b ≤ FU (Ia 1 5) ∧ 0 ≤ c ∧ c ≤ 3) → ∃ o L T, KT c Ia o L T ∧ x = RW (Ia 3) (nxD c Ia o L T) (-1) (-1) (Ia 1 6).toNat (FU (Ia 1 5) + 1).toNat a.toNat b.toNat) ∧ (¬ (0 ≤ a ∧ a ≤ 8 ∧ 0 ≤ b ∧ b ≤ FU (Ia 1 5) ∧ 0 ≤ c ∧ c ≤ 3) → x = -1)) ∧ FRk I' J') Ra Sa) := by
  refine ct_in pn_X10 (Nat.le_of_ble_eq_true rfl) (fun X hX hT hIn => ?_)
  have hX : aK l0 X cX10_rows 4 RX10 (some .long) 10 0 0 := hX
  change WW X 0 [some (kR (some 0)), some (kI a), some (kI b), some (kI c)] [] Ia Ja Ra Sa 0 0
  have hI := hC.1
  have hq := XI_o hI
  refine ww_aload_n hX (pc := 0) dX10_rows_0 rfl ?_
  refine ww_iload_n hX (pc := 1) dX10_rows_1 rfl ?_
  refine ww_iload_n hX (pc := 2) dX10_rows_2 rfl ?_
  refine ww_iload_n hX (pc := 3) dX10_rows_3 rfl ?_
  refine vI3 hX (pc := 4) sX10_262 (xs_0 hL) (c_X10_isRowTo l0 hL hC.1 (by omega) (by omega) (by omega) (by omega) (by omega) (by omega)) (by decide) (Nat.le_refl 0) (Nat.le_refl 0) (Nat.le_of_ble_eq_true rfl) dX10_rows_4 (fun x_4 I_4 J_4 h_4 => ?_)
  obtain ⟨rfl, rfl, h_4⟩ := h_4
  refine ww_if_ne hX (pc := 7) (tgt := 14) dX10_rows_7 (by decide) (fun h_7 => ?_) (fun h_7 => ?_)
  · simp only [w32_mod] at h_7
    have k_4 := h_4.2.mp (by omega)
    clear h_4
    refine ww_aload_n hX (pc := 14) dX10_rows_14 rfl ?_
    refine ww_getR hX (pc := 15) fX10_57 (by decide) (xs_0 hL) (xr_0_6 hL) dX10_rows_15 ?_
    refine ww_iload_n hX (pc := 18) dX10_rows_18 rfl ?_
    refine ww_iload_n hX (pc := 19) dX10_rows_19 rfl ?_
    refine ww_iload_n hX (pc := 20) dX10_rows_20 rfl ?_
    refine ww_iconst hX (pc := 21) (x := (-1)) dX10_rows_21 rfl ?_
    refine ww_iconst hX (pc := 22) (x := (-1)) dX10_rows_22 rfl ?_
    refine vJ5 hX (pc := 23) sX10_265 (xs_31 hL) (c8_X8_countRows l0 hL hC.1 hF hO hK (by omega) (by omega) (by omega) (by omega) (by omega) (by omega) (by omega) (by omega) (by omega) (by omega)) (by decide) (Nat.le_refl 0) (Nat.le_refl 0) (Nat.le_of_ble_eq_true rfl) dX10_rows_23 (fun x_23 I_23 J_23 h_23 => ?_)
    have kI_23 : Kp 0 49 Ia I_23 := Kp_tr (Kp_rf (a := 0) (b := 49)) (Kp_wd h_23.1 (by decide) (by decide))
    have kJ_23 : Kp 0 49 Ja J_23 := Kp_tr (Kp_rf (a := 0) (b := 49)) (Kp_wd h_23.2.1 (by decide) (by decide))
    have cI_23 : CX I_23 := CX_kp hC h_23.1 (by decide) (by decide)
    have qI_23 := XI_o cI_23.1
    have r5_I_23 : I_23 1 5 = Ia 1 5 := by rw [h_23.1 1 (by decide)]
    have r6_I_23 : I_23 1 6 = Ia 1 6 := by rw [h_23.1 1 (by decide)]
    have r8_I_23 : I_23 1 8 = Ia 1 8 := by rw [h_23.1 1 (by decide)]
    have r9_I_23 : I_23 1 9 = Ia 1 9 := by rw [h_23.1 1 (by decide)]
    have r10_I_23 : I_23 1 10 = Ia 1 10 := by rw [h_23.1 1 (by decide)]
    have r11_I_23 : I_23 1 11 = Ia 1 11 := by rw [h_23.1 1 (by decide)]
    have rf_I_23 : FU (I_23 1 5) = FU (Ia 1 5) := by rw [r5_I_23]
    have wI_23 : Fw [18, 19, 20, 21, 22, 23, 24, 25, 26, 27, 28, 29, 30, 31, 32] [] Ia I_23 := Fw_kp Fw_rf h_23.1 (by decide)
    have r7_I_23 : I_23 1 7 = Ia 1 7 := by rw [h_23.1 1 (by decide)]
    have frI_23 : FRk I_23 J_23 := h_23.2.2.1
    refine rJ hX (pc := 26) hT (Nat.le_refl 0) (Nat.le_refl 0) dX10_rows_26 ?_
    exact ⟨⟨kI_23, kJ_23, cI_23, (Fw_wd wI_23 (by decide) (by decide)), (fun _ => h_23.2.2.2), (fun h9 => absurd (by omega) h9)⟩, frI_23⟩
  · simp only [w32_mod] at h_7
    refine ww_ldc2 hX (pc := 10) (x := (-1)) dX10_rows_10 tb_810 ?_
    refine rJ hX (pc := 13) hT (Nat.le_refl 0) (Nat.le_refl 0) dX10_rows_13 ?_
    exact ⟨⟨(Kp_rf (a := 0) (b := 49)), (Kp_rf (a := 0) (b := 49)), hC, Fw_rf, (fun h9 => absurd h9 (by omega)), (fun _ => rfl)⟩, hF⟩
set_option maxHeartbeats 4000000 in
set_option maxRecDepth 20000 in
theorem c8_X10_could (l0 : Launch) {Ia Ja : aI1} {Ra : aR1} {Sa : aS1} (hL : LY Ra Sa) (hC : CX Ia) (hF : FRk Ia Ja) {a b c e f : Int} (ha0 : -2147483648 ≤ a) (ha1 : a < 2147483648) (hb0 : -2147483648 ≤ b) (hb1 : b < 2147483648) (hc0 : -2147483648 ≤ c) (hc1 : c < 2147483648) (he0 : -2147483648 ≤ e) (he1 : e < 2147483648) (hf0 : -2147483648 ≤ f) (hf1 : f < 2147483648) (hO : ∀ j, j < 8 → 0 ≤ Ia 2 j ∧ Ia 2 j ≤ 99) (hK : ∀ s : Nat, (s : Int) ≤ FU (Ia 1 5) → Ia 3 s < Ia 1 6)  : CT l0 10 0 0 mX10_could [kR (some 0), kI a, kI b, kI c, kI e, kI f] Ia Ja Ra Sa (cJ (fun x I' J' => (Kp 0 49 Ia I' ∧ Kp 0 49 Ja J' ∧ CX I' ∧ Fw [18, 19, 20, 21, 22, 23, 24, 25, 26, 27, 28, 29, 30, 31, 32] [] Ia I' ∧ ((0 ≤ a ∧ a ≤ 8 ∧ 0 ≤ b ∧ b ≤ FU (Ia 1 5) ∧ 0 ≤ c ∧ c ≤ 3 ∧ 0 ≤ e ∧ e < a ∧ 0 ≤ f ∧ f < Ia 1 6) → ∃ o L T, KT c Ia o L T ∧ x = RW (Ia 3) (nxD c Ia o L T) e f (Ia 1 6).toNat (FU (Ia 1 5) + 1).toNat a.toNat b.toNat) ∧ (¬ (0 ≤ a ∧ a ≤ 8 ∧ 0 ≤ b ∧ b ≤ FU (Ia 1 5) ∧ 0 ≤ c ∧ c ≤ 3 ∧ 0 ≤ e ∧ e < a ∧ 0 ≤ f ∧ f < Ia 1 6) → x = -1)) ∧ FRk I' J') Ra Sa) := by
  refine ct_in pn_X10 (Nat.le_of_ble_eq_true rfl) (fun X hX hT hIn => ?_)
  have hX : aK l0 X cX10_could 6 RX10 (some .long) 10 0 0 := hX
  change WW X 0 [some (kR (some 0)), some (kI a), some (kI b), some (kI c), some (kI e), some (kI f)] [] Ia Ja Ra Sa 0 0
  have hI := hC.1
  have hq := XI_o hI
  refine ww_aload_n hX (pc := 0) dX10_could_0 rfl ?_
  refine ww_iload_n hX (pc := 1) dX10_could_1 rfl ?_
  refine ww_iload_n hX (pc := 2) dX10_could_2 rfl ?_
  refine ww_iload_n hX (pc := 3) dX10_could_3 rfl ?_
  refine vI3 hX (pc := 4) sX10_262 (xs_0 hL) (c_X10_isRowTo l0 hL hC.1 (by omega) (by omega) (by omega) (by omega) (by omega) (by omega)) (by decide) (Nat.le_refl 0) (Nat.le_refl 0) (Nat.le_of_ble_eq_true rfl) dX10_could_4 (fun x_4 I_4 J_4 h_4 => ?_)
  obtain ⟨rfl, rfl, h_4⟩ := h_4
  refine ww_if_eq hX (pc := 7) (tgt := 33) dX10_could_7 (by decide) (fun h_7 => ?_) (fun h_7 => ?_)
  · simp only [w32_mod] at h_7
    refine ww_ldc2 hX (pc := 33) (x := (-1)) dX10_could_33 tb_810 ?_
    refine rJ hX (pc := 36) hT (Nat.le_refl 0) (Nat.le_refl 0) dX10_could_36 ?_
    exact ⟨⟨(Kp_rf (a := 0) (b := 49)), (Kp_rf (a := 0) (b := 49)), hC, Fw_rf, (fun h9 => absurd h9 (by omega)), (fun _ => rfl)⟩, hF⟩
  · simp only [w32_mod] at h_7
    have k_4 := h_4.2.mp (by omega)
    clear h_4
    refine ww_iload hX (pc := 10) dX10_could_10 rfl ?_
    refine ww_if_lt hX (pc := 12) (tgt := 33) dX10_could_12 (by decide) (fun h_12 => ?_) (fun h_12 => ?_)
    · simp only [w32_mod] at h_12
      refine ww_ldc2 hX (pc := 33) (x := (-1)) dX10_could_33 tb_810 ?_
      refine rJ hX (pc := 36) hT (Nat.le_refl 0) (Nat.le_refl 0) dX10_could_36 ?_
      exact ⟨⟨(Kp_rf (a := 0) (b := 49)), (Kp_rf (a := 0) (b := 49)), hC, Fw_rf, (fun h9 => absurd h9 (by omega)), (fun _ => rfl)⟩, hF⟩
    · simp only [w32_mod] at h_12
      refine ww_iload hX (pc := 15) dX10_could_15 rfl ?_
      refine ww_iload_n hX (pc := 17) dX10_could_17 rfl ?_
      refine ww_icmp_ge hX (pc := 18) (tgt := 33) dX10_could_18 (by decide) (fun h_18 => ?_) (fun h_18 => ?_)
      · simp only [w32_mod] at h_18
        refine ww_ldc2 hX (pc := 33) (x := (-1)) dX10_could_33 tb_810 ?_
        refine rJ hX (pc := 36) hT (Nat.le_refl 0) (Nat.le_refl 0) dX10_could_36 ?_
        exact ⟨⟨(Kp_rf (a := 0) (b := 49)), (Kp_rf (a := 0) (b := 49)), hC, Fw_rf, (fun h9 => absurd h9 (by omega)), (fun _ => rfl)⟩, hF⟩
      · simp only [w32_mod] at h_18
        refine ww_aload_n hX (pc := 21) dX10_could_21 rfl ?_
        refine ww_getR hX (pc := 22) fX10_10 (by decide) (xs_0 hL) (xr_0_0 hL) dX10_could_22 ?_
        refine ww_iload hX (pc := 25) dX10_could_25 rfl ?_
        refine vI1 hX (pc := 27) sX10_134 (xs_1 hL) (c_X1_isNews l0 hL hC.1 (by omega)) (by decide) (Nat.le_refl 0) (Nat.le_refl 0) (Nat.le_of_ble_eq_true rfl) dX10_could_27 (fun x_27 I_27 J_27 h_27 => ?_)
        obtain ⟨rfl, rfl, h_27⟩ := h_27
        refine ww_if_ne hX (pc := 30) (tgt := 37) dX10_could_30 (by decide) (fun h_30 => ?_) (fun h_30 => ?_)
        · simp only [w32_mod] at h_30
          have k_27 := h_27.2.mp (by omega)
          clear h_27
          refine ww_aload_n hX (pc := 37) dX10_could_37 rfl ?_
          refine ww_getR hX (pc := 38) fX10_57 (by decide) (xs_0 hL) (xr_0_6 hL) dX10_could_38 ?_
          refine ww_iload_n hX (pc := 41) dX10_could_41 rfl ?_
          refine ww_iload_n hX (pc := 42) dX10_could_42 rfl ?_
          refine ww_iload_n hX (pc := 43) dX10_could_43 rfl ?_
          refine ww_iload hX (pc := 44) dX10_could_44 rfl ?_
          refine ww_iload hX (pc := 46) dX10_could_46 rfl ?_
          refine vJ5 hX (pc := 48) sX10_265 (xs_31 hL) (c8_X8_countRows l0 hL hC.1 hF hO hK (by omega) (by omega) (by omega) (by omega) (by omega) (by omega) (by omega) (by omega) (by omega) (by omega)) (by decide) (Nat.le_refl 0) (Nat.le_refl 0) (Nat.le_of_ble_eq_true rfl) dX10_could_48 (fun x_48 I_48 J_48 h_48 => ?_)
          have kI_48 : Kp 0 49 Ia I_48 := Kp_tr (Kp_rf (a := 0) (b := 49)) (Kp_wd h_48.1 (by decide) (by decide))
          have kJ_48 : Kp 0 49 Ja J_48 := Kp_tr (Kp_rf (a := 0) (b := 49)) (Kp_wd h_48.2.1 (by decide) (by decide))
          have cI_48 : CX I_48 := CX_kp hC h_48.1 (by decide) (by decide)
          have qI_48 := XI_o cI_48.1
          have r5_I_48 : I_48 1 5 = Ia 1 5 := by rw [h_48.1 1 (by decide)]
          have r6_I_48 : I_48 1 6 = Ia 1 6 := by rw [h_48.1 1 (by decide)]
          have r8_I_48 : I_48 1 8 = Ia 1 8 := by rw [h_48.1 1 (by decide)]
          have r9_I_48 : I_48 1 9 = Ia 1 9 := by rw [h_48.1 1 (by decide)]
          have r10_I_48 : I_48 1 10 = Ia 1 10 := by rw [h_48.1 1 (by decide)]
          have r11_I_48 : I_48 1 11 = Ia 1 11 := by rw [h_48.1 1 (by decide)]
          have rf_I_48 : FU (I_48 1 5) = FU (Ia 1 5) := by rw [r5_I_48]
          have wI_48 : Fw [18, 19, 20, 21, 22, 23, 24, 25, 26, 27, 28, 29, 30, 31, 32] [] Ia I_48 := Fw_kp Fw_rf h_48.1 (by decide)
          have r7_I_48 : I_48 1 7 = Ia 1 7 := by rw [h_48.1 1 (by decide)]
          have frI_48 : FRk I_48 J_48 := h_48.2.2.1
          refine rJ hX (pc := 51) hT (Nat.le_refl 0) (Nat.le_refl 0) dX10_could_51 ?_
          exact ⟨⟨kI_48, kJ_48, cI_48, (Fw_wd wI_48 (by decide) (by decide)), (fun _ => h_48.2.2.2), (fun h9 => absurd (by omega) h9)⟩, frI_48⟩
        · simp only [w32_mod] at h_30
          refine ww_ldc2 hX (pc := 33) (x := (-1)) dX10_could_33 tb_810 ?_
          refine rJ hX (pc := 36) hT (Nat.le_refl 0) (Nat.le_refl 0) dX10_could_36 ?_
          exact ⟨⟨(Kp_rf (a := 0) (b := 49)), (Kp_rf (a := 0) (b := 49)), hC, Fw_rf, (fun h9 => absurd h9 (by omega)), (fun _ => rfl)⟩, hF⟩
