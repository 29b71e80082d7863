set_option maxHeartbeats 4000000 in
set_option maxRecDepth 20000 in
theorem c8_X8_isMet (l0 : Launch) {Ia Ja : aI1} {Ra : aR1} {Sa : aS1} (hL : LY Ra Sa) (hI : XI Ia) {a b : Int} (ha0 : 0 ≤ a) (ha1 : a ≤ 255) (hb0 : 0 ≤ b) (hb1 : b ≤ 8)  : CT l0 0 0 0 mX8_isMet [kR (some 31), kI a, kI b] Ia Ja Ra Sa (cI (fun x I' J' => Ia = I' ∧ Ja = J' ∧ (x = 0 ∨ x = 1) ∧ IMZ x b a (Ja 32)) Ra Sa) := by
  refine ct_in pn_X8 (Nat.le_of_ble_eq_true rfl) (fun X hX hT hIn => ?_)
  have hX : aK l0 X cX8_isMet 4 RX8 (some .boolean) 0 0 0 := hX
  change WW X 0 [some (kR (some 31)), some (kI a), some (kI b), none] [] Ia Ja Ra Sa 0 0
  obtain ⟨hn1, hn2⟩ := hI.1
  obtain ⟨hk1, hk2⟩ := hI.2.1
  obtain ⟨hf1, hf2⟩ := hI.fu
  refine ww_iconst hX (pc := 0) (x := 0) dX8_isMet_0 rfl ?_
  refine ww_istore_n hX (pc := 1) (lv' := [some (kR (some 31)), some (kI a), some (kI b), some (kI 0)]) dX8_isMet_1 (by decide) rfl rfl ?_
  have hl_2 : ∀ (n_2 : Nat) (w : Int), (b - w).toNat = n_2 → (0 ≤ w ∧ w ≤ b ∧ ∀ i : Nat, (i : Int) < w → w64 (Ja 32 (i * 256 + a.toNat)) = 0) → WW X 2 [some (kR (some 31)), some (kI a), some (kI b), some (kI w)] [] Ia Ja Ra Sa 0 0 := by
    intro n_2
    induction n_2 using Nat.strongRecOn with
    | ind n_2 ih_2 =>
      intro w hm_2 hv_2
      have hq_2 := Sh0_i hm_2
      clear hm_2
      obtain ⟨hw0, hw1, hz2⟩ := hv_2
      refine ww_iload_n hX (pc := 2) dX8_isMet_2 rfl ?_
      refine ww_iload_n hX (pc := 3) dX8_isMet_3 rfl ?_
      refine ww_icmp_ge hX (pc := 4) (tgt := 32) dX8_isMet_4 (by decide) (fun h_4 => ?_) (fun h_4 => ?_)
      · simp only [w32_mod] at h_4
        refine ww_iconst hX (pc := 32) (x := 0) dX8_isMet_32 rfl ?_
        refine rZ hX (pc := 33) hT (Nat.le_refl 0) (Nat.le_refl 0) dX8_isMet_33 (by decide) ?_
        exact ⟨rfl, rfl, by omega, fun _ i hi => hz2 i (by omega)⟩
      · simp only [w32_mod] at h_4
        refine ww_aload_n hX (pc := 7) dX8_isMet_7 rfl ?_
        refine ww_getR hX (pc := 8) fX8_9 (by decide) (xs_31 hL) (xr_31_1 hL) dX8_isMet_8 ?_
        refine ww_iload_n hX (pc := 11) dX8_isMet_11 rfl ?_
        refine ww_sipush hX (pc := 12) (x := 256) dX8_isMet_12 (by decide) ?_
        refine ww_imul hX (pc := 15) dX8_isMet_15 ?_
        refine ww_iload_n hX (pc := 16) dX8_isMet_16 rfl ?_
        refine ww_iadd hX (pc := 17) dX8_isMet_17 ?_
        refine ww_lald hX (pc := 18) (xs_32 hL) (by decide) (by omega) (by omega) dX8_isMet_18 ?_
        refine ww_lconst hX (pc := 19) (x := 0) dX8_isMet_19 (by decide) ?_
        refine ww_lcmp hX (pc := 20) dX8_isMet_20 ?_
        refine ww_if_eq hX (pc := 21) (tgt := 26) dX8_isMet_21 (by decide) (fun h_21 => ?_) (fun h_21 => ?_)
        · simp only [w32_mod] at h_21
          have hz : w64 (Ja 32 (w * 256 + a).toNat) = 0 := by
            have h9 := l_cmp_v (Ja 32 (w * 256 + a).toNat) 0
            rw [show w64 0 = 0 from rfl] at h9
            omega
          refine ww_iinc hX (pc := 26) (lv' := [some (kR (some 31)), some (kI a), some (kI b), some (kI (w + 1))]) dX8_isMet_26 rfl (by decide) rfl rfl ?_
          refine ww_goto hX (pc := 29) (tgt := 2) dX8_isMet_29 (by decide) ?_
          exact ih_2 _ (by have hm9 := Sh0_e hq_2; omega) (w + 1) rfl ⟨by omega, by omega, fun i hi => by
  by_cases e9 : (i : Int) = w
  · rw [show i * 256 + a.toNat = (w * 256 + a).toNat by omega]; exact hz
  · exact hz2 i (by omega)⟩
        · simp only [w32_mod] at h_21
          refine ww_iconst hX (pc := 24) (x := 1) dX8_isMet_24 rfl ?_
          refine rZ hX (pc := 25) hT (Nat.le_refl 0) (Nat.le_refl 0) dX8_isMet_25 (by decide) ?_
          exact ⟨rfl, rfl, by omega, fun h9 => absurd h9 (by omega)⟩
  exact hl_2 _ 0 rfl ⟨by omega, by omega, fun i hi => absurd hi (by omega)⟩
set_option maxHeartbeats 4000000 in
set_option maxRecDepth 20000 in
theorem c8_X8_spread (l0 : Launch) {Ia Ja : aI1} {Ra : aR1} {Sa : aS1} (hL : LY Ra Sa) (hI : XI Ia) {a b m e g : Int} {G : Nat} (ha0 : 0 ≤ a) (ha1 : a ≤ FU (Ia 1 5)) (hb0 : 0 ≤ b) (hb1 : b ≤ 8) (he0 : -1 ≤ e) (he1 : e ≤ 7) (hg0 : -1 ≤ g) (hg1 : g ≤ 7) (hm0 : 0 ≤ m) (hm1 : m ≤ 3) (hTR : ∀ t : Nat, (t : Int) ≤ FU (Ia 1 5) → TR m Ia Ja t) (hG : a.toNat &&& G = a.toNat) (hM : MW (PD m e g (Ia 1 6).toNat (FU (Ia 1 5) + 1).toNat Ia Ja (a.toNat)) b (FU (Ia 1 5) + 1).toNat G (Ja 32))  : CT l0 3 0 0 mX8_spread [kR (some 31), kI a, kI b, kI m, kI e, kI g] Ia Ja Ra Sa (cV (fun I' J' => Kp 21 22 Ia I' ∧ Kp 32 33 Ja J' ∧ MW (PD m e g (Ia 1 6).toNat (FU (Ia 1 5) + 1).toNat Ia Ja (a.toNat + 1)) b (FU (Ia 1 5) + 1).toNat G (J' 32)) Ra Sa) := by
  refine ct_in pn_X8 (Nat.le_of_ble_eq_true rfl) (fun X hX hT hIn => ?_)
  have hX : aK l0 X cX8_spread 10 RX8 none 3 0 0 := hX
  change WW X 0 [some (kR (some 31)), some (kI a), some (kI b), some (kI m), some (kI e), some (kI g), none, none, none, none] [] Ia Ja Ra Sa 0 0
  obtain ⟨hn1, hn2⟩ := hI.1
  obtain ⟨hk1, hk2⟩ := hI.2.1
  obtain ⟨hf1, hf2⟩ := hI.fu
  refine ww_aload_n hX (pc := 0) dX8_spread_0 rfl ?_
  refine ww_getR hX (pc := 1) fX8_15 (by decide) (xs_31 hL) (xr_31_0 hL) dX8_spread_1 ?_
  refine ww_iload_n hX (pc := 4) dX8_spread_4 rfl ?_
  refine ww_iload_n hX (pc := 5) dX8_spread_5 rfl ?_
  refine vV2 hX (pc := 6) sX8_39 (xs_18 hL) (c8_X4_chooseAll l0 hL hI (by omega) (by omega) (by omega) (by omega) hTR) (by decide) (Nat.le_refl 0) (Nat.le_refl 0) (Nat.le_of_ble_eq_true rfl) dX8_spread_6 (fun I_6 J_6 h_6 => ?_)
  have h_6j := h_6.2.1
  subst h_6j
  have kI_6 : Kp 21 22 Ia I_6 := Kp_tr (Kp_rf (a := 21) (b := 22)) (Kp_wd h_6.1 (by decide) (by decide))
  have r1_5_I_6 : I_6 1 5 = Ia 1 5 := Kp_at kI_6 1 5 (by decide)
  have r1_6_I_6 : I_6 1 6 = Ia 1 6 := Kp_at kI_6 1 6 (by decide)
  have rf_I_6 : FU (I_6 1 5) = FU (Ia 1 5) := by rw [r1_5_I_6]
  refine ww_aload_n hX (pc := 9) dX8_spread_9 rfl ?_
  refine ww_getR hX (pc := 10) fX8_15 (by decide) (xs_31 hL) (xr_31_0 hL) dX8_spread_10 ?_
  refine ww_getR hX (pc := 13) fX8_43 (by decide) (xs_18 hL) (xr_18_0 hL) dX8_spread_13 ?_
  refine ww_getR hX (pc := 16) fX8_47 (by decide) (xs_1 hL) (xr_1_1 hL) dX8_spread_16 ?_
  refine ww_iload_n hX (pc := 19) dX8_spread_19 rfl ?_
  refine ww_iald hX (pc := 20) (xs_3 hL) (by decide) (by omega) (by omega) dX8_spread_20 ?_
  refine ww_nmI (fun v_21 hv_21 => ?_)
  refine ww_istore hX (pc := 21) (lv' := [some (kR (some 31)), some (kI a), some (kI b), some (kI m), some (kI e), some (kI g), some (kI v_21), none, none, none]) dX8_spread_21 (by decide) rfl rfl ?_
  refine ww_iconst hX (pc := 23) (x := 0) dX8_spread_23 rfl ?_
  refine ww_istore hX (pc := 24) (lv' := [some (kR (some 31)), some (kI a), some (kI b), some (kI m), some (kI e), some (kI g), some (kI v_21), some (kI 0), none, none]) dX8_spread_24 (by decide) rfl rfl ?_
  have hl_26 : ∀ (n_26 : Nat) (w : Int) (J2 : aI1), (Ia 1 6 - w).toNat = n_26 → (Kp 32 33 Ja J2 ∧ MW (QW (Ia 3) (nxD m Ia (Ia 19) (Ia 24) (Ja 28)) e g (Ia 1 6).toNat (FU (Ia 1 5) + 1).toNat a.toNat w.toNat) b (FU (Ia 1 5) + 1).toNat G (J2 32) ∧ 0 ≤ w ∧ w ≤ Ia 1 6) → WW X 26 [some (kR (some 31)), some (kI a), some (kI b), some (kI m), some (kI e), some (kI g), some (kI v_21), some (kI w), none, none] [] I_6 J2 Ra Sa 0 0 := by
    intro n_26
    induction n_26 using Nat.strongRecOn with
    | ind n_26 ih_26 =>
      intro w J2 hm_26 hv_26
      have hq_26 := Sh0_i hm_26
      clear hm_26
      obtain ⟨kJ2, mw2, hw0, hw1⟩ := hv_26
      refine ww_iload hX (pc := 26) dX8_spread_26 rfl ?_
      refine ww_aload_n hX (pc := 28) dX8_spread_28 rfl ?_
      refine ww_getR hX (pc := 29) fX8_15 (by decide) (xs_31 hL) (xr_31_0 hL) dX8_spread_29 ?_
      refine ww_getR hX (pc := 32) fX8_43 (by decide) (xs_18 hL) (xr_18_0 hL) dX8_spread_32 ?_
      refine ww_getI hX (pc := 35) fX8_53 (by decide) (xs_1 hL) dX8_spread_35 ?_
      refine ww_icmp_ge hX (pc := 38) (tgt := 136) dX8_spread_38 (by decide) (fun h_38 => ?_) (fun h_38 => ?_)
      · simp only [w32_mod] at h_38
        refine rV hX (pc := 136) hT (Nat.le_refl 0) (Nat.le_refl 0) dX8_spread_136 ?_
        rw [show w.toNat = (Ia 1 6).toNat by omega] at mw2
        exact ⟨kI_6, kJ2, MW_e mw2⟩
      · simp only [w32_mod] at h_38
        refine ww_aload_n hX (pc := 41) dX8_spread_41 rfl ?_
        refine ww_getR hX (pc := 42) fX8_15 (by decide) (xs_31 hL) (xr_31_0 hL) dX8_spread_42 ?_
        refine ww_getR hX (pc := 45) fX8_57 (by decide) (xs_18 hL) (xr_18_3 hL) dX8_spread_45 ?_
        refine ww_iload hX (pc := 48) dX8_spread_48 rfl ?_
        refine ww_iald hX (pc := 50) (xs_21 hL) (by decide) (by omega) (by omega) dX8_spread_50 ?_
        refine ww_nmI (fun v_51 hv_51 => ?_)
        refine ww_istore hX (pc := 51) (lv' := [some (kR (some 31)), some (kI a), some (kI b), some (kI m), some (kI e), some (kI g), some (kI v_21), some (kI w), some (kI v_51), none]) dX8_spread_51 (by decide) rfl rfl ?_
        have hch := h_6.2.2.2 w.toNat (by omega)
        have hcd := hI.2.2.2.2.2.2.2.2.2.1 a.toNat (by omega)
        have ho9 : v_21 = Ia 3 a.toNat := by rw [hv_21, kI_6 3 (by decide)]
        have hnx0 : nxD m Ia (Ia 19) (Ia 24) (Ja 28) a.toNat w.toNat = v_51 := by
          unfold nxD
          rw [hv_51, show ((a.toNat : Nat) : Int) = a by omega]
          exact (h_6.2.2.1 w.toNat (by omega)).symm
        rw [← hv_51] at hch
        refine ww_iload hX (pc := 53) dX8_spread_53 rfl ?_
        refine ww_iload hX (pc := 55) dX8_spread_55 rfl ?_
        refine ww_icmp_eq hX (pc := 57) (tgt := 130) dX8_spread_57 (by decide) (fun h_57 => ?_) (fun h_57 => ?_)
        · simp only [w32_mod] at h_57
          have mn26 : MW (QW (Ia 3) (nxD m Ia (Ia 19) (Ia 24) (Ja 28)) e g (Ia 1 6).toNat (FU (Ia 1 5) + 1).toNat a.toNat (w.toNat + 1)) b (FU (Ia 1 5) + 1).toNat G (J2 32) := MW_own mw2 (by omega)
          refine ww_iinc hX (pc := 130) (lv' := [some (kR (some 31)), some (kI a), some (kI b), some (kI m), some (kI e), some (kI g), some (kI v_21), some (kI (w + 1)), some (kI v_51), none]) dX8_spread_130 rfl (by decide) rfl rfl ?_
          refine ww_goto hX (pc := 133) (tgt := 26) dX8_spread_133 (by decide) ?_
          refine ww_sub [some (kR (some 31)), some (kI a), some (kI b), some (kI m), some (kI e), some (kI g), some (kI v_21), some (kI (w + 1)), none, none] (aLe_s (aLe_s (aLe_s (aLe_s (aLe_s (aLe_s (aLe_s (aLe_s (aLe_n (aLe_n aLe_0)))))))))) ?_
          exact ih_26 _ (by have hm9 := Sh0_e hq_26; omega) (w + 1) J2 rfl ⟨kJ2, by rw [show (w + 1).toNat = w.toNat + 1 by omega]; exact mn26, by omega, by omega⟩
        · simp only [w32_mod] at h_57
          refine ww_iload hX (pc := 60) dX8_spread_60 rfl ?_
          refine ww_iconst hX (pc := 62) (x := (-1)) dX8_spread_62 rfl ?_
          refine ww_icmp_ne hX (pc := 63) (tgt := 69) dX8_spread_63 (by decide) (fun h_63 => ?_) (fun h_63 => ?_)
          · simp only [w32_mod] at h_63
            have hnx : nxD m Ia (Ia 19) (Ia 24) (Ja 28) a.toNat w.toNat = ((v_51.toNat : Nat) : Int) := by rw [hnx0]; omega
            refine ww_iconst hX (pc := 69) (x := 0) dX8_spread_69 rfl ?_
            refine ww_istore hX (pc := 70) (lv' := [some (kR (some 31)), some (kI a), some (kI b), some (kI m), some (kI e), some (kI g), some (kI v_21), some (kI w), some (kI v_51), some (kI 0)]) dX8_spread_70 (by decide) rfl rfl ?_
            have hl_72 : ∀ (n_72 : Nat) (u : Int) (J3 : aI1), (b - u).toNat = n_72 → (Kp 32 33 Ja J3 ∧ MW (VW (Ia 3) (nxD m Ia (Ia 19) (Ia 24) (Ja 28)) e g (Ia 1 6).toNat (FU (Ia 1 5) + 1).toNat a.toNat w.toNat u.toNat) b (FU (Ia 1 5) + 1).toNat G (J3 32) ∧ 0 ≤ u ∧ u ≤ b) → WW X 72 [some (kR (some 31)), some (kI a), some (kI b), some (kI m), some (kI e), some (kI g), some (kI v_21), some (kI w), some (kI v_51), some (kI u)] [] I_6 J3 Ra Sa 0 0 := by
              intro n_72
              induction n_72 using Nat.strongRecOn with
              | ind n_72 ih_72 =>
                intro u J3 hm_72 hv_72
                have hq_72 := Sh0_i hm_72
                clear hm_72
                obtain ⟨kJ3, mw3, hu0, hu1⟩ := hv_72
                refine ww_iload hX (pc := 72) dX8_spread_72 rfl ?_
                refine ww_iload_n hX (pc := 74) dX8_spread_74 rfl ?_
                refine ww_icmp_ge hX (pc := 75) (tgt := 130) dX8_spread_75 (by decide) (fun h_75 => ?_) (fun h_75 => ?_)
                · simp only [w32_mod] at h_75
                  have mn26 : MW (QW (Ia 3) (nxD m Ia (Ia 19) (Ia 24) (Ja 28)) e g (Ia 1 6).toNat (FU (Ia 1 5) + 1).toNat a.toNat (w.toNat + 1)) b (FU (Ia 1 5) + 1).toNat G (J3 32) := MW_out mw3 (by omega)
                  refine ww_iinc hX (pc := 130) (lv' := [some (kR (some 31)), some (kI a), some (kI b), some (kI m), some (kI e), some (kI g), some (kI v_21), some (kI (w + 1)), some (kI v_51), some (kI u)]) dX8_spread_130 rfl (by decide) rfl rfl ?_
                  refine ww_goto hX (pc := 133) (tgt := 26) dX8_spread_133 (by decide) ?_
                  refine ww_sub [some (kR (some 31)), some (kI a), some (kI b), some (kI m), some (kI e), some (kI g), some (kI v_21), some (kI (w + 1)), none, none] (aLe_s (aLe_s (aLe_s (aLe_s (aLe_s (aLe_s (aLe_s (aLe_s (aLe_n (aLe_n aLe_0)))))))))) ?_
                  exact ih_26 _ (by have hm9 := Sh0_e hq_26; omega) (w + 1) J3 rfl ⟨kJ3, by rw [show (w + 1).toNat = w.toNat + 1 by omega]; exact mn26, by omega, by omega⟩
                · simp only [w32_mod] at h_75
                  refine ww_iload hX (pc := 78) dX8_spread_78 rfl ?_
                  refine ww_iload hX (pc := 80) dX8_spread_80 rfl ?_
                  refine ww_icmp_ne hX (pc := 82) (tgt := 92) dX8_spread_82 (by decide) (fun h_82 => ?_) (fun h_82 => ?_)
                  · simp only [w32_mod] at h_82
                    refine ww_aload_n hX (pc := 92) dX8_spread_92 rfl ?_
                    refine ww_getR hX (pc := 93) fX8_9 (by decide) (xs_31 hL) (xr_31_1 hL) dX8_spread_93 ?_
                    refine ww_iload hX (pc := 96) dX8_spread_96 rfl ?_
                    refine ww_iconst hX (pc := 98) (x := 1) dX8_spread_98 rfl ?_
                    refine ww_iadd hX (pc := 99) dX8_spread_99 ?_
                    refine ww_sipush hX (pc := 100) (x := 256) dX8_spread_100 (by decide) ?_
                    refine ww_imul hX (pc := 103) dX8_spread_103 ?_
                    refine ww_iload hX (pc := 104) dX8_spread_104 rfl ?_
                    refine ww_iadd hX (pc := 106) dX8_spread_106 ?_
                    refine ww_dup2 hX (pc := 107) dX8_spread_107 ?_
                    refine ww_lald hX (pc := 108) (xs_32 hL) (by decide) (by omega) (by omega) dX8_spread_108 ?_
                    refine ww_aload_n hX (pc := 109) dX8_spread_109 rfl ?_
                    refine ww_getR hX (pc := 110) fX8_9 (by decide) (xs_31 hL) (xr_31_1 hL) dX8_spread_110 ?_
                    refine ww_iload hX (pc := 113) dX8_spread_113 rfl ?_
                    refine ww_sipush hX (pc := 115) (x := 256) dX8_spread_115 (by decide) ?_
                    refine ww_imul hX (pc := 118) dX8_spread_118 ?_
                    refine ww_iload_n hX (pc := 119) dX8_spread_119 rfl ?_
                    refine ww_iadd hX (pc := 120) dX8_spread_120 ?_
                    refine ww_lald hX (pc := 121) (xs_32 hL) (by decide) (by omega) (by omega) dX8_spread_121 ?_
                    refine ww_ladd hX (pc := 122) dX8_spread_122 ?_
                    refine ww_last hX (pc := 123) (xs_32 hL) (by decide) (by omega) (by omega) dX8_spread_123 ?_
                    refine ww_nmK (fun J_123 eJ_123 => ?_)
                    have kJ_123 : Kp 32 33 Ja J_123 := by rw [eJ_123]; exact Kp_up kJ3 _ _ (by decide)
                    have mn72 : MW (VW (Ia 3) (nxD m Ia (Ia 19) (Ia 24) (Ja 28)) e g (Ia 1 6).toNat (FU (Ia 1 5) + 1).toNat a.toNat w.toNat (u.toNat + 1)) b (FU (Ia 1 5) + 1).toNat G (J_123 32) := by
                      rw [eJ_123, up2_row]
                      exact MW_add (UpW_nxD (m := m) (I := Ia) (o := Ia 19) (L := Ia 24) (T := Ja 28) (K := (Ia 1 6).toNat) (N := (FU (Ia 1 5) + 1).toNat) rfl) (by omega) mw3 (by omega) hG (by omega) (by omega) hnx (by omega) (by omega) (fun h9 => by omega) (by omega) (by omega)
                    refine ww_iinc hX (pc := 124) (lv' := [some (kR (some 31)), some (kI a), some (kI b), some (kI m), some (kI e), some (kI g), some (kI v_21), some (kI w), some (kI v_51), some (kI (u + 1))]) dX8_spread_124 rfl (by decide) rfl rfl ?_
                    refine ww_goto hX (pc := 127) (tgt := 72) dX8_spread_127 (by decide) ?_
                    exact ih_72 _ (by have hm9 := Sh0_e hq_72; omega) (u + 1) J_123 rfl ⟨kJ_123, by rw [show (u + 1).toNat = u.toNat + 1 by omega]; exact mn72, by omega, by omega⟩
                  · simp only [w32_mod] at h_82
                    refine ww_iload hX (pc := 85) dX8_spread_85 rfl ?_
                    refine ww_iload hX (pc := 87) dX8_spread_87 rfl ?_
                    refine ww_icmp_ne hX (pc := 89) (tgt := 124) dX8_spread_89 (by decide) (fun h_89 => ?_) (fun h_89 => ?_)
                    · simp only [w32_mod] at h_89
                      have mn72 : MW (VW (Ia 3) (nxD m Ia (Ia 19) (Ia 24) (Ja 28)) e g (Ia 1 6).toNat (FU (Ia 1 5) + 1).toNat a.toNat w.toNat (u.toNat + 1)) b (FU (Ia 1 5) + 1).toNat G (J3 32) := MW_skip mw3 (by omega) (by omega)
                      refine ww_iinc hX (pc := 124) (lv' := [some (kR (some 31)), some (kI a), some (kI b), some (kI m), some (kI e), some (kI g), some (kI v_21), some (kI w), some (kI v_51), some (kI (u + 1))]) dX8_spread_124 rfl (by decide) rfl rfl ?_
                      refine ww_goto hX (pc := 127) (tgt := 72) dX8_spread_127 (by decide) ?_
                      exact ih_72 _ (by have hm9 := Sh0_e hq_72; omega) (u + 1) J3 rfl ⟨kJ3, by rw [show (u + 1).toNat = u.toNat + 1 by omega]; exact mn72, by omega, by omega⟩
                    · simp only [w32_mod] at h_89
                      refine ww_aload_n hX (pc := 92) dX8_spread_92 rfl ?_
                      refine ww_getR hX (pc := 93) fX8_9 (by decide) (xs_31 hL) (xr_31_1 hL) dX8_spread_93 ?_
                      refine ww_iload hX (pc := 96) dX8_spread_96 rfl ?_
                      refine ww_iconst hX (pc := 98) (x := 1) dX8_spread_98 rfl ?_
                      refine ww_iadd hX (pc := 99) dX8_spread_99 ?_
                      refine ww_sipush hX (pc := 100) (x := 256) dX8_spread_100 (by decide) ?_
                      refine ww_imul hX (pc := 103) dX8_spread_103 ?_
                      refine ww_iload hX (pc := 104) dX8_spread_104 rfl ?_
                      refine ww_iadd hX (pc := 106) dX8_spread_106 ?_
                      refine ww_dup2 hX (pc := 107) dX8_spread_107 ?_
                      refine ww_lald hX (pc := 108) (xs_32 hL) (by decide) (by omega) (by omega) dX8_spread_108 ?_
                      refine ww_aload_n hX (pc := 109) dX8_spread_109 rfl ?_
                      refine ww_getR hX (pc := 110) fX8_9 (by decide) (xs_31 hL) (xr_31_1 hL) dX8_spread_110 ?_
                      refine ww_iload hX (pc := 113) dX8_spread_113 rfl ?_
                      refine ww_sipush hX (pc := 115) (x := 256) dX8_spread_115 (by decide) ?_
                      refine ww_imul hX (pc := 118) dX8_spread_118 ?_
                      refine ww_iload_n hX (pc := 119) dX8_spread_119 rfl ?_
                      refine ww_iadd hX (pc := 120) dX8_spread_120 ?_
                      refine ww_lald hX (pc := 121) (xs_32 hL) (by decide) (by omega) (by omega) dX8_spread_121 ?_
                      refine ww_ladd hX (pc := 122) dX8_spread_122 ?_
                      refine ww_last hX (pc := 123) (xs_32 hL) (by decide) (by omega) (by omega) dX8_spread_123 ?_
                      refine ww_nmK (fun J_123 eJ_123 => ?_)
                      have kJ_123 : Kp 32 33 Ja J_123 := by rw [eJ_123]; exact Kp_up kJ3 _ _ (by decide)
                      have mn72 : MW (VW (Ia 3) (nxD m Ia (Ia 19) (Ia 24) (Ja 28)) e g (Ia 1 6).toNat (FU (Ia 1 5) + 1).toNat a.toNat w.toNat (u.toNat + 1)) b (FU (Ia 1 5) + 1).toNat G (J_123 32) := by
                        rw [eJ_123, up2_row]
                        exact MW_add (UpW_nxD (m := m) (I := Ia) (o := Ia 19) (L := Ia 24) (T := Ja 28) (K := (Ia 1 6).toNat) (N := (FU (Ia 1 5) + 1).toNat) rfl) (by omega) mw3 (by omega) hG (by omega) (by omega) hnx (by omega) (by omega) (fun h9 => by omega) (by omega) (by omega)
                      refine ww_iinc hX (pc := 124) (lv' := [some (kR (some 31)), some (kI a), some (kI b), some (kI m), some (kI e), some (kI g), some (kI v_21), some (kI w), some (kI v_51), some (kI (u + 1))]) dX8_spread_124 rfl (by decide) rfl rfl ?_
                      refine ww_goto hX (pc := 127) (tgt := 72) dX8_spread_127 (by decide) ?_
                      exact ih_72 _ (by have hm9 := Sh0_e hq_72; omega) (u + 1) J_123 rfl ⟨kJ_123, by rw [show (u + 1).toNat = u.toNat + 1 by omega]; exact mn72, by omega, by omega⟩
            exact hl_72 _ 0 J2 rfl ⟨kJ2, MW_in mw2, by omega, by omega⟩
          · simp only [w32_mod] at h_63
            have mn26 : MW (QW (Ia 3) (nxD m Ia (Ia 19) (Ia 24) (Ja 28)) e g (Ia 1 6).toNat (FU (Ia 1 5) + 1).toNat a.toNat (w.toNat + 1)) b (FU (Ia 1 5) + 1).toNat G (J2 32) := MW_no mw2 (by rw [hnx0]; omega)
            refine ww_goto hX (pc := 66) (tgt := 130) dX8_spread_66 (by decide) ?_
            refine ww_iinc hX (pc := 130) (lv' := [some (kR (some 31)), some (kI a), some (kI b), some (kI m), some (kI e), some (kI g), some (kI v_21), some (kI (w + 1)), some (kI v_51), none]) dX8_spread_130 rfl (by decide) rfl rfl ?_
            refine ww_goto hX (pc := 133) (tgt := 26) dX8_spread_133 (by decide) ?_
            refine ww_sub [some (kR (some 31)), some (kI a), some (kI b), some (kI m), some (kI e), some (kI g), some (kI v_21), some (kI (w + 1)), none, none] (aLe_s (aLe_s (aLe_s (aLe_s (aLe_s (aLe_s (aLe_s (aLe_s (aLe_n (aLe_n aLe_0)))))))))) ?_
            exact ih_26 _ (by have hm9 := Sh0_e hq_26; omega) (w + 1) J2 rfl ⟨kJ2, by rw [show (w + 1).toNat = w.toNat + 1 by omega]; exact mn26, by omega, by omega⟩
  exact hl_26 _ 0 Ja rfl ⟨(Kp_rf (a := 32) (b := 33)), MW_s hM, by omega, by omega⟩
