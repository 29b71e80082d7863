section
set_option maxHeartbeats 4000000 in
set_option maxRecDepth 20000 in
theorem c_X11_positiveOf (l0 : Launch) {Ia Ja : aI1} {Ra : aR1} {Sa : aS1} (hL : LY Ra Sa) (hQ : RX Ia) {la : Int} (hla : 0 ≤ la ∧ la ≤ 1) {t a : Nat} {c : Nat → Int} (hE : EV Ia t c a) {m b : Nat} (hG : GPom c m a b) (hrec : ∀ mp, m = mp + 1 → ETest l0 mp)  : CT l0 (4 * m + 6) 0 0 mX11_positiveOf [kR (some 49), kI la] Ia Ja Ra Sa (cI (fun x I' J' => Ch [] [19, 21] Ia I' ∧ Kp 49 73 Ja J' ∧ RX I' ∧ EV I' t c b ∧ (0 ≤ x ∧ x ≤ 1)) Ra Sa) := by
  refine ct_in pn_X11 (Nat.le_of_ble_eq_true rfl) (fun X hX hT hIn => ?_)
  have hX : aK l0 X cX11_positiveOf 7 RX11 (some .boolean) (4 * m + 6) 0 0 := hX
  change WW X 0 [some (kR (some 49)), some (kI la), none, none, none, none, none] [] Ia Ja Ra Sa 0 0
  have qIa := RX_w hQ
  have oIa := EV_o hE
  refine ww_aload_n hX (pc := 0) dX11_positiveOf_0 rfl ?_
  refine ww_bipush hX (pc := 1) (x := 40) dX11_positiveOf_1 (by decide) ?_
  refine sI1 hX (pc := 3) sX11_190 (c_X11_sign l0 ) (by omega) (Nat.le_refl 0) (Nat.le_refl 0) (Nat.le_of_ble_eq_true rfl) dX11_positiveOf_3 (fun x_3 I_3 J_3 h_3 => ?_)
  obtain ⟨rfl, rfl, h_3⟩ := h_3
  refine vI1 hX (pc := 6) sX11_240 (xs_49 hL) (c_X11_passes0 l0 hL hQ  (by omega) (by omega) hE) (by omega) (Nat.le_refl 0) (Nat.le_refl 0) (Nat.le_of_ble_eq_true rfl) dX11_positiveOf_6 (fun x_6 I_6 J_6 h_6 => ?_)
  have kJ_6 : Kp 49 73 Ja J_6 := Kp_tr (Kp_rf (a := 49) (b := 73)) h_6.2.1
  have kI_6 : Ch [] [19, 21] Ia I_6 := Ch_tr Ch_rf (Ch_wd h_6.1 (by decide) (by decide))
  have cI_6 : RX I_6 := h_6.2.2.1
  have qI_6 := RX_w cI_6
  have f20_I_6 : I_6 49 20 = Ia 49 20 := h_6.1.2 20 (by decide)
  have f21_I_6 : I_6 49 21 = Ia 49 21 := h_6.1.2 21 (by decide)
  have vI_6 : EV I_6 t c (a + x_6.toNat) := h_6.2.2.2.1
  have oI_6 := EV_o vI_6
  have yI_6 := h_6.2.2.2.2
  refine ww_if_eq hX (pc := 9) (tgt := 30) dX11_positiveOf_9 (by decide) (fun h_9 => ?_) (fun h_9 => ?_)
  · simp only [w32_mod] at h_9
    obtain ⟨d9, hGa, hGb⟩ := GPom_cm hG (by have := PS_0 yI_6.2 (by omega); omega)
    have hz := EV_z (i := d9 + 1) hE (GSum_nz hGb)
    have w6 : EV I_6 t c a := EV_to vI_6 (by omega)
    refine ww_aload_n hX (pc := 30) dX11_positiveOf_30 rfl ?_
    refine ww_iload_n hX (pc := 31) dX11_positiveOf_31 rfl ?_
    refine vJ1 hX (pc := 32) sX11_243 (xs_49 hL) (c_ESum l0 m hL cI_6 (by omega) w6 hGa) (by omega) (Nat.le_refl 0) (Nat.le_refl 0) (Nat.le_of_ble_eq_true rfl) dX11_positiveOf_32 (fun x_32 I_32 J_32 h_32 => ?_)
    have kJ_32 : Kp 49 73 Ja J_32 := Kp_tr kJ_6 h_32.2.1
    have kI_32 : Ch [] [19, 21] Ia I_32 := Ch_tr kI_6 (Ch_wd h_32.1 (by decide) (by decide))
    have cI_32 : RX I_32 := h_32.2.2.1
    have qI_32 := RX_w cI_32
    have f20_I_32 : I_32 49 20 = I_6 49 20 := h_32.1.2 20 (by decide)
    have vI_32 : EV I_32 t c d9 := h_32.2.2.2.1
    have oI_32 := EV_o vI_32
    have yI_32 := h_32.2.2.2.2
    refine ww_lstore_n hX (pc := 35) (lv' := [some (kR (some 49)), some (kI la), some (kL x_32), none, none, none, none]) dX11_positiveOf_35 (by decide) rfl rfl ?_
    refine ww_aload_n hX (pc := 36) dX11_positiveOf_36 rfl ?_
    refine ww_aload_n hX (pc := 37) dX11_positiveOf_37 rfl ?_
    refine ww_getI hX (pc := 38) fX11_215 (by decide) (xs_49 hL) dX11_positiveOf_38 ?_
    refine vI1 hX (pc := 41) sX11_218 (xs_49 hL) (c_X11_codeAt l0 hL cI_32  rfl vI_32) (by omega) (Nat.le_refl 0) (Nat.le_refl 0) (Nat.le_of_ble_eq_true rfl) dX11_positiveOf_41 (fun x_41 I_41 J_41 h_41 => ?_)
    obtain ⟨rfl, rfl, h_41⟩ := h_41
    refine ww_istore hX (pc := 44) (lv' := [some (kR (some 49)), some (kI la), some (kL x_32), none, some (kI x_41), none, none]) dX11_positiveOf_44 (by decide) rfl rfl ?_
    refine ww_aload_n hX (pc := 46) dX11_positiveOf_46 rfl ?_
    refine ww_dupR hX (pc := 47) dX11_positiveOf_47 ?_
    refine ww_getI hX (pc := 48) fX11_215 (by decide) (xs_49 hL) dX11_positiveOf_48 ?_
    refine ww_iconst hX (pc := 51) (x := 1) dX11_positiveOf_51 rfl ?_
    refine ww_iadd hX (pc := 52) dX11_positiveOf_52 ?_
    refine ww_putI hX (pc := 53) (fun h9 => absurd h9 (by decide)) gX11_215 rfl (xs_49 hL) dX11_positiveOf_53 ?_
    refine ww_nmH (fun I_53 eI_53 => ?_)
    have kI_53 : Ch [] [19, 21] Ia I_53 := by rw [eI_53]; exact Ch_f kI_32 (by decide)
    have cI_53 : RX I_53 := by rw [eI_53]; exact RX_f cI_32 (by decide)
    have qI_53 := RX_w cI_53
    have f20_I_53 : I_53 49 20 = I_32 49 20 := by rw [eI_53, up2_n _ _ (Or.inr (by decide))]
    have f21_I_53 : I_53 49 21 = I_32 49 21 := by rw [eI_53, up2_n _ _ (Or.inr (by decide))]
    have vI_53 : EV I_53 t c (d9 + 1) := EV_st vI_32 (by rw [eI_53, up2_off _ _ _ (by decide)]) (by omega) (by rw [eI_53, up2_s]; omega) (by omega)
    have oI_53 := EV_o vI_53
    refine ww_aload_n hX (pc := 56) dX11_positiveOf_56 rfl ?_
    refine ww_iload_n hX (pc := 57) dX11_positiveOf_57 rfl ?_
    refine vJ1 hX (pc := 58) sX11_243 (xs_49 hL) (c_ESum l0 m hL cI_53 (by omega) vI_53 hGb) (by omega) (Nat.le_refl 0) (Nat.le_refl 0) (Nat.le_of_ble_eq_true rfl) dX11_positiveOf_58 (fun x_58 I_58 J_58 h_58 => ?_)
    have kJ_58 : Kp 49 73 Ja J_58 := Kp_tr kJ_32 h_58.2.1
    have kI_58 : Ch [] [19, 21] Ia I_58 := Ch_tr kI_53 (Ch_wd h_58.1 (by decide) (by decide))
    have cI_58 : RX I_58 := h_58.2.2.1
    have qI_58 := RX_w cI_58
    have f20_I_58 : I_58 49 20 = I_53 49 20 := h_58.1.2 20 (by decide)
    have vI_58 : EV I_58 t c b := h_58.2.2.2.1
    have oI_58 := EV_o vI_58
    have yI_58 := h_58.2.2.2.2
    refine ww_lstore hX (pc := 61) (lv' := [some (kR (some 49)), some (kI la), some (kL x_32), none, some (kI x_41), some (kL x_58), none]) dX11_positiveOf_61 (by decide) rfl rfl ?_
    refine ww_iload_n hX (pc := 63) dX11_positiveOf_63 rfl ?_
    refine ww_if_eq hX (pc := 64) (tgt := 125) dX11_positiveOf_64 (by decide) (fun h_64 => ?_) (fun h_64 => ?_)
    · simp only [w32_mod] at h_64
      refine ww_iconst hX (pc := 125) (x := 0) dX11_positiveOf_125 rfl ?_
      refine rZ hX (pc := 126) hT (Nat.le_refl 0) (Nat.le_refl 0) dX11_positiveOf_126 (by decide) ?_
      exact ⟨kI_58, kJ_58, cI_58, EV_to vI_58 (by omega), by omega⟩
    · simp only [w32_mod] at h_64
      refine ww_aload_n hX (pc := 67) dX11_positiveOf_67 rfl ?_
      refine ww_getI hX (pc := 68) fX11_225 (by decide) (xs_49 hL) dX11_positiveOf_68 ?_
      refine ww_if_ne hX (pc := 71) (tgt := 125) dX11_positiveOf_71 (by decide) (fun h_71 => ?_) (fun h_71 => ?_)
      · simp only [w32_mod] at h_71
        refine ww_iconst hX (pc := 125) (x := 0) dX11_positiveOf_125 rfl ?_
        refine rZ hX (pc := 126) hT (Nat.le_refl 0) (Nat.le_refl 0) dX11_positiveOf_126 (by decide) ?_
        exact ⟨kI_58, kJ_58, cI_58, EV_to vI_58 (by omega), by omega⟩
      · simp only [w32_mod] at h_71
        refine ww_iload hX (pc := 74) dX11_positiveOf_74 rfl ?_
        refine ww_bipush hX (pc := 76) (x := 60) dX11_positiveOf_76 (by decide) ?_
        refine sI1 hX (pc := 78) sX11_190 (c_X11_sign l0 ) (by omega) (Nat.le_refl 0) (Nat.le_refl 0) (Nat.le_of_ble_eq_true rfl) dX11_positiveOf_78 (fun x_78 I_78 J_78 h_78 => ?_)
        obtain ⟨rfl, rfl, h_78⟩ := h_78
        refine ww_icmp_ne hX (pc := 81) (tgt := 94) dX11_positiveOf_81 (by decide) (fun h_81 => ?_) (fun h_81 => ?_)
        · simp only [w32_mod] at h_81
          refine ww_iload hX (pc := 94) dX11_positiveOf_94 rfl ?_
          refine ww_bipush hX (pc := 96) (x := 62) dX11_positiveOf_96 (by decide) ?_
          refine sI1 hX (pc := 98) sX11_190 (c_X11_sign l0 ) (by omega) (Nat.le_refl 0) (Nat.le_refl 0) (Nat.le_of_ble_eq_true rfl) dX11_positiveOf_98 (fun x_98 I_98 J_98 h_98 => ?_)
          obtain ⟨rfl, rfl, h_98⟩ := h_98
          refine ww_icmp_ne hX (pc := 101) (tgt := 114) dX11_positiveOf_101 (by decide) (fun h_101 => ?_) (fun h_101 => ?_)
          · simp only [w32_mod] at h_101
            refine ww_lload_n hX (pc := 114) dX11_positiveOf_114 rfl ?_
            refine ww_lload hX (pc := 115) dX11_positiveOf_115 rfl ?_
            refine ww_lcmp hX (pc := 117) dX11_positiveOf_117 ?_
            refine ww_if_ne hX (pc := 118) (tgt := 125) dX11_positiveOf_118 (by decide) (fun h_118 => ?_) (fun h_118 => ?_)
            · simp only [w32_mod] at h_118
              refine ww_iconst hX (pc := 125) (x := 0) dX11_positiveOf_125 rfl ?_
              refine rZ hX (pc := 126) hT (Nat.le_refl 0) (Nat.le_refl 0) dX11_positiveOf_126 (by decide) ?_
              exact ⟨kI_58, kJ_58, cI_58, EV_to vI_58 (by omega), by omega⟩
            · simp only [w32_mod] at h_118
              refine ww_iconst hX (pc := 121) (x := 1) dX11_positiveOf_121 rfl ?_
              refine ww_goto hX (pc := 122) (tgt := 126) dX11_positiveOf_122 (by decide) ?_
              refine rZ hX (pc := 126) hT (Nat.le_refl 0) (Nat.le_refl 0) dX11_positiveOf_126 (by decide) ?_
              exact ⟨kI_58, kJ_58, cI_58, EV_to vI_58 (by omega), by omega⟩
          · simp only [w32_mod] at h_101
            refine ww_lload_n hX (pc := 104) dX11_positiveOf_104 rfl ?_
            refine ww_lload hX (pc := 105) dX11_positiveOf_105 rfl ?_
            refine ww_lcmp hX (pc := 107) dX11_positiveOf_107 ?_
            refine ww_if_le hX (pc := 108) (tgt := 125) dX11_positiveOf_108 (by decide) (fun h_108 => ?_) (fun h_108 => ?_)
            · simp only [w32_mod] at h_108
              refine ww_iconst hX (pc := 125) (x := 0) dX11_positiveOf_125 rfl ?_
              refine rZ hX (pc := 126) hT (Nat.le_refl 0) (Nat.le_refl 0) dX11_positiveOf_126 (by decide) ?_
              exact ⟨kI_58, kJ_58, cI_58, EV_to vI_58 (by omega), by omega⟩
            · simp only [w32_mod] at h_108
              refine ww_goto hX (pc := 111) (tgt := 121) dX11_positiveOf_111 (by decide) ?_
              refine ww_iconst hX (pc := 121) (x := 1) dX11_positiveOf_121 rfl ?_
              refine ww_goto hX (pc := 122) (tgt := 126) dX11_positiveOf_122 (by decide) ?_
              refine rZ hX (pc := 126) hT (Nat.le_refl 0) (Nat.le_refl 0) dX11_positiveOf_126 (by decide) ?_
              exact ⟨kI_58, kJ_58, cI_58, EV_to vI_58 (by omega), by omega⟩
        · simp only [w32_mod] at h_81
          refine ww_lload_n hX (pc := 84) dX11_positiveOf_84 rfl ?_
          refine ww_lload hX (pc := 85) dX11_positiveOf_85 rfl ?_
          refine ww_lcmp hX (pc := 87) dX11_positiveOf_87 ?_
          refine ww_if_ge hX (pc := 88) (tgt := 125) dX11_positiveOf_88 (by decide) (fun h_88 => ?_) (fun h_88 => ?_)
          · simp only [w32_mod] at h_88
            refine ww_iconst hX (pc := 125) (x := 0) dX11_positiveOf_125 rfl ?_
            refine rZ hX (pc := 126) hT (Nat.le_refl 0) (Nat.le_refl 0) dX11_positiveOf_126 (by decide) ?_
            exact ⟨kI_58, kJ_58, cI_58, EV_to vI_58 (by omega), by omega⟩
          · simp only [w32_mod] at h_88
            refine ww_goto hX (pc := 91) (tgt := 121) dX11_positiveOf_91 (by decide) ?_
            refine ww_iconst hX (pc := 121) (x := 1) dX11_positiveOf_121 rfl ?_
            refine ww_goto hX (pc := 122) (tgt := 126) dX11_positiveOf_122 (by decide) ?_
            refine rZ hX (pc := 126) hT (Nat.le_refl 0) (Nat.le_refl 0) dX11_positiveOf_126 (by decide) ?_
            exact ⟨kI_58, kJ_58, cI_58, EV_to vI_58 (by omega), by omega⟩
  · simp only [w32_mod] at h_9
    obtain ⟨mp, hmp, d9, hGd, hcd, hbd⟩ := GPom_br hG (by have := PS_1 yI_6.2 (by omega); omega)
    have hz := EV_z (i := d9) hE (by omega)
    have w6 : EV I_6 t c (a + 1) := EV_to vI_6 (by omega)
    refine ww_aload_n hX (pc := 12) dX11_positiveOf_12 rfl ?_
    refine ww_iload_n hX (pc := 13) dX11_positiveOf_13 rfl ?_
    refine vI1 hX (pc := 14) sX11_256 (xs_49 hL) (hrec mp hmp hL cI_6 (by omega) w6 hGd) (by omega) (Nat.le_refl 0) (Nat.le_refl 0) (Nat.le_of_ble_eq_true rfl) dX11_positiveOf_14 (fun x_14 I_14 J_14 h_14 => ?_)
    have kJ_14 : Kp 49 73 Ja J_14 := Kp_tr kJ_6 h_14.2.1
    have kI_14 : Ch [] [19, 21] Ia I_14 := Ch_tr kI_6 (Ch_wd h_14.1 (by decide) (by decide))
    have cI_14 : RX I_14 := h_14.2.2.1
    have qI_14 := RX_w cI_14
    have f20_I_14 : I_14 49 20 = I_6 49 20 := h_14.1.2 20 (by decide)
    have vI_14 : EV I_14 t c d9 := h_14.2.2.2.1
    have oI_14 := EV_o vI_14
    have yI_14 := h_14.2.2.2.2
    refine ww_istore_n hX (pc := 17) (lv' := [some (kR (some 49)), some (kI la), some (kI x_14), none, none, none, none]) dX11_positiveOf_17 (by decide) rfl rfl ?_
    refine ww_aload_n hX (pc := 18) dX11_positiveOf_18 rfl ?_
    refine ww_dupR hX (pc := 19) dX11_positiveOf_19 ?_
    refine ww_getI hX (pc := 20) fX11_215 (by decide) (xs_49 hL) dX11_positiveOf_20 ?_
    refine ww_iconst hX (pc := 23) (x := 1) dX11_positiveOf_23 rfl ?_
    refine ww_iadd hX (pc := 24) dX11_positiveOf_24 ?_
    refine ww_putI hX (pc := 25) (fun h9 => absurd h9 (by decide)) gX11_215 rfl (xs_49 hL) dX11_positiveOf_25 ?_
    refine ww_nmH (fun I_25 eI_25 => ?_)
    have kI_25 : Ch [] [19, 21] Ia I_25 := by rw [eI_25]; exact Ch_f kI_14 (by decide)
    have cI_25 : RX I_25 := by rw [eI_25]; exact RX_f cI_14 (by decide)
    have qI_25 := RX_w cI_25
    have f20_I_25 : I_25 49 20 = I_14 49 20 := by rw [eI_25, up2_n _ _ (Or.inr (by decide))]
    have f21_I_25 : I_25 49 21 = I_14 49 21 := by rw [eI_25, up2_n _ _ (Or.inr (by decide))]
    have vI_25 : EV I_25 t c (d9 + 1) := EV_st vI_14 (by rw [eI_25, up2_off _ _ _ (by decide)]) (by omega) (by rw [eI_25, up2_s]; omega) (by omega)
    have oI_25 := EV_o vI_25
    refine ww_iload_n hX (pc := 28) dX11_positiveOf_28 rfl ?_
    refine rZ hX (pc := 29) hT (Nat.le_refl 0) (Nat.le_refl 0) dX11_positiveOf_29 (by omega) ?_
    exact ⟨kI_25, kJ_14, cI_25, EV_to vI_25 (by omega), by omega⟩
set_option maxHeartbeats 4000000 in
set_option maxRecDepth 20000 in
theorem c_X11_plainOf (l0 : Launch) {Ia Ja : aI1} {Ra : aR1} {Sa : aS1} (hL : LY Ra Sa) (hQ : RX Ia) {la : Int} (hla : 0 ≤ la ∧ la ≤ 1) {t a : Nat} {c : Nat → Int} (hE : EV Ia t c a) {m b : Nat} (hG : GPlm c m a b) (hrec : ∀ mp, m = mp + 1 → ETest l0 mp)  : CT l0 (4 * m + 7) 0 0 mX11_plainOf [kR (some 49), kI la] Ia Ja Ra Sa (cI (fun x I' J' => Ch [] [19, 21] Ia I' ∧ Kp 49 73 Ja J' ∧ RX I' ∧ EV I' t c b ∧ (0 ≤ x ∧ x ≤ 1)) Ra Sa) := by
  refine ct_in pn_X11 (Nat.le_of_ble_eq_true rfl) (fun X hX hT hIn => ?_)
  have hX : aK l0 X cX11_plainOf 3 RX11 (some .boolean) (4 * m + 7) 0 0 := hX
  change WW X 0 [some (kR (some 49)), some (kI la), none] [] Ia Ja Ra Sa 0 0
  have qIa := RX_w hQ
  have oIa := EV_o hE
  have hGn := GPlm_eq hG
  refine ww_iconst hX (pc := 0) (x := 0) dX11_plainOf_0 rfl ?_
  refine ww_istore_n hX (pc := 1) (lv' := [some (kR (some 49)), some (kI la), some (kI 0)]) dX11_plainOf_1 (by decide) rfl rfl ?_
  have hl_2 : ∀ (n_2 : Nat) (ng : Int) (I2 : aI1) (J2 : aI1), (400 * t + b - I2 49 19).toNat = n_2 → (Ch [] [19, 21] Ia I2 ∧ RX I2 ∧ Kp 49 73 Ja J2 ∧ (0 ≤ ng ∧ ng ≤ 1) ∧ ∃ p9 : Nat, EV I2 t c p9 ∧ ∃ n, GNots (GPom c m) c n p9 b) → WW X 2 [some (kR (some 49)), some (kI la), some (kI ng)] [] I2 J2 Ra Sa 0 0 := by
    intro n_2
    induction n_2 using Nat.strongRecOn with
    | ind n_2 ih_2 =>
      intro ng I2 J2 hm_2 hv_2
      have hq_2 := Sh0_i hm_2
      clear hm_2
      obtain ⟨kI2, cI2, kJ2, hng, p9, vI2, hR2⟩ := hv_2
      have qI2 := RX_w cI2
      have oI2 := EV_o vI2
      refine ww_aload_n hX (pc := 2) dX11_plainOf_2 rfl ?_
      refine ww_iconst hX (pc := 3) (x := 5) dX11_plainOf_3 rfl ?_
      refine vI1 hX (pc := 4) sX11_240 (xs_49 hL) (c_X11_passes0 l0 hL cI2  (by omega) (by omega) vI2) (by omega) (Nat.le_refl 0) (Nat.le_refl 0) (Nat.le_of_ble_eq_true rfl) dX11_plainOf_4 (fun x_4 I_4 J_4 h_4 => ?_)
      have kJ_4 : Kp 49 73 Ja J_4 := Kp_tr kJ2 h_4.2.1
      have kI_4 : Ch [] [19, 21] Ia I_4 := Ch_tr kI2 (Ch_wd h_4.1 (by decide) (by decide))
      have cI_4 : RX I_4 := h_4.2.2.1
      have qI_4 := RX_w cI_4
      have f20_I_4 : I_4 49 20 = I2 49 20 := h_4.1.2 20 (by decide)
      have f21_I_4 : I_4 49 21 = I2 49 21 := h_4.1.2 21 (by decide)
      have vI_4 : EV I_4 t c (p9 + x_4.toNat) := h_4.2.2.2.1
      have oI_4 := EV_o vI_4
      have yI_4 := h_4.2.2.2.2
      refine ww_if_eq hX (pc := 7) (tgt := 23) dX11_plainOf_7 (by decide) (fun h_7 => ?_) (fun h_7 => ?_)
      · simp only [w32_mod] at h_7
        have hQ9 := GNots_no hR2 (PS_0 yI_4.2 (by omega))
        have w4 : EV I_4 t c p9 := EV_to vI_4 (by omega)
        refine ww_aload_n hX (pc := 23) dX11_plainOf_23 rfl ?_
        refine ww_iload_n hX (pc := 24) dX11_plainOf_24 rfl ?_
        refine vI1 hX (pc := 25) sX11_253 (xs_49 hL) (c_X11_positiveOf l0 hL cI_4  (by omega) w4 hQ9 hrec) (by omega) (Nat.le_refl 0) (Nat.le_refl 0) (Nat.le_of_ble_eq_true rfl) dX11_plainOf_25 (fun x_25 I_25 J_25 h_25 => ?_)
        have kJ_25 : Kp 49 73 Ja J_25 := Kp_tr kJ_4 h_25.2.1
        have kI_25 : Ch [] [19, 21] Ia I_25 := Ch_tr kI_4 (Ch_wd h_25.1 (by decide) (by decide))
        have cI_25 : RX I_25 := h_25.2.2.1
        have qI_25 := RX_w cI_25
        have f20_I_25 : I_25 49 20 = I_4 49 20 := h_25.1.2 20 (by decide)
        have vI_25 : EV I_25 t c b := h_25.2.2.2.1
        have oI_25 := EV_o vI_25
        have yI_25 := h_25.2.2.2.2
        refine ww_iload_n hX (pc := 28) dX11_plainOf_28 rfl ?_
        refine ww_icmp_eq hX (pc := 29) (tgt := 36) dX11_plainOf_29 (by decide) (fun h_29 => ?_) (fun h_29 => ?_)
        · simp only [w32_mod] at h_29
          refine ww_iconst hX (pc := 36) (x := 0) dX11_plainOf_36 rfl ?_
          refine rZ hX (pc := 37) hT (Nat.le_refl 0) (Nat.le_refl 0) dX11_plainOf_37 (by decide) ?_
          exact ⟨kI_25, kJ_25, cI_25, vI_25, by omega⟩
        · simp only [w32_mod] at h_29
          refine ww_iconst hX (pc := 32) (x := 1) dX11_plainOf_32 rfl ?_
          refine ww_goto hX (pc := 33) (tgt := 37) dX11_plainOf_33 (by decide) ?_
          refine rZ hX (pc := 37) hT (Nat.le_refl 0) (Nat.le_refl 0) dX11_plainOf_37 (by decide) ?_
          exact ⟨kI_25, kJ_25, cI_25, vI_25, by omega⟩
      · simp only [w32_mod] at h_7
        have hR9 := GNots_op hR2 (PS_1 yI_4.2 (by omega))
        obtain ⟨n9, hn9⟩ := hR9
        have hlt9 := GNots_lt (GPom_lt m) _ _ _ hn9
        have w4 : EV I_4 t c (p9 + 1) := EV_to vI_4 (by omega)
        refine ww_iload_n hX (pc := 10) dX11_plainOf_10 rfl ?_
        refine ww_if_ne hX (pc := 11) (tgt := 18) dX11_plainOf_11 (by decide) (fun h_11 => ?_) (fun h_11 => ?_)
        · simp only [w32_mod] at h_11
          refine ww_iconst hX (pc := 18) (x := 0) dX11_plainOf_18 rfl ?_
          refine ww_istore_n hX (pc := 19) (lv' := [some (kR (some 49)), some (kI la), some (kI 0)]) dX11_plainOf_19 (by decide) rfl rfl ?_
          refine ww_goto hX (pc := 20) (tgt := 2) dX11_plainOf_20 (by decide) ?_
          exact ih_2 _ (by have hm9 := Sh0_e hq_2; omega) 0 I_4 J_4 rfl ⟨kI_4, cI_4, kJ_4, by omega, ⟨p9 + 1, w4, ⟨n9, hn9⟩⟩⟩
        · simp only [w32_mod] at h_11
          refine ww_iconst hX (pc := 14) (x := 1) dX11_plainOf_14 rfl ?_
          refine ww_goto hX (pc := 15) (tgt := 19) dX11_plainOf_15 (by decide) ?_
          refine ww_istore_n hX (pc := 19) (lv' := [some (kR (some 49)), some (kI la), some (kI 1)]) dX11_plainOf_19 (by decide) rfl rfl ?_
          refine ww_goto hX (pc := 20) (tgt := 2) dX11_plainOf_20 (by decide) ?_
          exact ih_2 _ (by have hm9 := Sh0_e hq_2; omega) 1 I_4 J_4 rfl ⟨kI_4, cI_4, kJ_4, by omega, ⟨p9 + 1, w4, ⟨n9, hn9⟩⟩⟩
  exact hl_2 _ 0 Ia Ja rfl ⟨Ch_rf, hQ, (Kp_rf (a := 49) (b := 73)), by omega, ⟨a, hE, hGn⟩⟩
set_option maxHeartbeats 4000000 in
set_option maxRecDepth 20000 in
theorem c_X11_bothOf (l0 : Launch) {Ia Ja : aI1} {Ra : aR1} {Sa : aS1} (hL : LY Ra Sa) (hQ : RX Ia) {la : Int} (hla : 0 ≤ la ∧ la ≤ 1) {t a : Nat} {c : Nat → Int} (hE : EV Ia t c a) {m b : Nat} (hG : GSeq (GPlm c m) opA c a b) (hrec : ∀ mp, m = mp + 1 → ETest l0 mp)  : CT l0 (4 * m + 8) 0 0 mX11_bothOf [kR (some 49), kI la] Ia Ja Ra Sa (cI (fun x I' J' => Ch [] [19, 21] Ia I' ∧ Kp 49 73 Ja J' ∧ RX I' ∧ EV I' t c b ∧ (0 ≤ x ∧ x ≤ 1)) Ra Sa) := by
  refine ct_in pn_X11 (Nat.le_of_ble_eq_true rfl) (fun X hX hT hIn => ?_)
  have hX : aK l0 X cX11_bothOf 4 RX11 (some .boolean) (4 * m + 8) 0 0 := hX
  change WW X 0 [some (kR (some 49)), some (kI la), none, none] [] Ia Ja Ra Sa 0 0
  have qIa := RX_w hQ
  have oIa := EV_o hE
  obtain ⟨a1, hG1, hRs⟩ := hG
  refine ww_aload_n hX (pc := 0) dX11_bothOf_0 rfl ?_
  refine ww_iload_n hX (pc := 1) dX11_bothOf_1 rfl ?_
  refine vI1 hX (pc := 2) sX11_250 (xs_49 hL) (c_X11_plainOf l0 hL hQ  (by omega) hE hG1 hrec) (by omega) (Nat.le_refl 0) (Nat.le_refl 0) (Nat.le_of_ble_eq_true rfl) dX11_bothOf_2 (fun x_2 I_2 J_2 h_2 => ?_)
  have kJ_2 : Kp 49 73 Ja J_2 := Kp_tr (Kp_rf (a := 49) (b := 73)) h_2.2.1
  have kI_2 : Ch [] [19, 21] Ia I_2 := Ch_tr Ch_rf (Ch_wd h_2.1 (by decide) (by decide))
  have cI_2 : RX I_2 := h_2.2.2.1
  have qI_2 := RX_w cI_2
  have f20_I_2 : I_2 49 20 = Ia 49 20 := h_2.1.2 20 (by decide)
  have vI_2 : EV I_2 t c a1 := h_2.2.2.2.1
  have oI_2 := EV_o vI_2
  have yI_2 := h_2.2.2.2.2
  refine ww_istore_n hX (pc := 5) (lv' := [some (kR (some 49)), some (kI la), some (kI x_2), none]) dX11_bothOf_5 (by decide) rfl rfl ?_
  have hl_6 : ∀ (n_6 : Nat) (v9 : Int) (I6 : aI1) (J6 : aI1), (400 * t + b - I6 49 19).toNat = n_6 → (Ch [] [19, 21] Ia I6 ∧ RX I6 ∧ Kp 49 73 Ja J6 ∧ (0 ≤ v9 ∧ v9 ≤ 1) ∧ ∃ p9 : Nat, EV I6 t c p9 ∧ ∃ n, GRest (GPlm c m) opA c n p9 b) → WW X 6 [some (kR (some 49)), some (kI la), some (kI v9), none] [] I6 J6 Ra Sa 0 0 := by
    intro n_6
    induction n_6 using Nat.strongRecOn with
    | ind n_6 ih_6 =>
      intro v9 I6 J6 hm_6 hv_6
      have hq_6 := Sh0_i hm_6
      clear hm_6
      obtain ⟨kI6, cI6, kJ6, hv9, p9, vI6, hR6⟩ := hv_6
      have qI6 := RX_w cI6
      have oI6 := EV_o vI6
      refine ww_aload_n hX (pc := 6) dX11_bothOf_6 rfl ?_
      refine ww_iconst hX (pc := 7) (x := 4) dX11_bothOf_7 rfl ?_
      refine vI1 hX (pc := 8) sX11_240 (xs_49 hL) (c_X11_passes0 l0 hL cI6  (by omega) (by omega) vI6) (by omega) (Nat.le_refl 0) (Nat.le_refl 0) (Nat.le_of_ble_eq_true rfl) dX11_bothOf_8 (fun x_8 I_8 J_8 h_8 => ?_)
      have kJ_8 : Kp 49 73 Ja J_8 := Kp_tr kJ6 h_8.2.1
      have kI_8 : Ch [] [19, 21] Ia I_8 := Ch_tr kI6 (Ch_wd h_8.1 (by decide) (by decide))
      have cI_8 : RX I_8 := h_8.2.2.1
      have qI_8 := RX_w cI_8
      have f20_I_8 : I_8 49 20 = I6 49 20 := h_8.1.2 20 (by decide)
      have f21_I_8 : I_8 49 21 = I6 49 21 := h_8.1.2 21 (by decide)
      have vI_8 : EV I_8 t c (p9 + x_8.toNat) := h_8.2.2.2.1
      have oI_8 := EV_o vI_8
      have yI_8 := h_8.2.2.2.2
      refine ww_if_eq hX (pc := 11) (tgt := 49) dX11_bothOf_11 (by decide) (fun h_11 => ?_) (fun h_11 => ?_)
      · simp only [w32_mod] at h_11
        have hb9 := GRest_no hR6 (show ¬ opA (c p9) from PS_0 yI_8.2 (by omega))
        have w8 : EV I_8 t c p9 := EV_to vI_8 (by omega)
        refine ww_iload_n hX (pc := 49) dX11_bothOf_49 rfl ?_
        refine rZ hX (pc := 50) hT (Nat.le_refl 0) (Nat.le_refl 0) dX11_bothOf_50 (by omega) ?_
        exact ⟨kI_8, kJ_8, cI_8, EV_to w8 hb9, by omega⟩
      · simp only [w32_mod] at h_11
        have hop : opA (c p9) := PS_1 yI_8.2 (by omega)
        obtain ⟨d9, hT9, hR9⟩ := GRest_op hR6 hop
        have hlt9 := GPlm_lt m _ _ hT9
        have hle9 := GRest_l2 (GPlm_lt m) hR9
        have w8 : EV I_8 t c (p9 + 1) := EV_to vI_8 (by omega)
        refine ww_aload_n hX (pc := 14) dX11_bothOf_14 rfl ?_
        refine ww_iload_n hX (pc := 15) dX11_bothOf_15 rfl ?_
        refine ww_if_eq hX (pc := 16) (tgt := 27) dX11_bothOf_16 (by decide) (fun h_16 => ?_) (fun h_16 => ?_)
        · simp only [w32_mod] at h_16
          refine ww_iconst hX (pc := 27) (x := 0) dX11_bothOf_27 rfl ?_
          refine vI1 hX (pc := 28) sX11_250 (xs_49 hL) (c_X11_plainOf l0 hL cI_8  (by omega) w8 hT9 hrec) (by omega) (Nat.le_refl 0) (Nat.le_refl 0) (Nat.le_of_ble_eq_true rfl) dX11_bothOf_28 (fun x_28 I_28 J_28 h_28 => ?_)
          have kJ_28 : Kp 49 73 Ja J_28 := Kp_tr kJ_8 h_28.2.1
          have kI_28 : Ch [] [19, 21] Ia I_28 := Ch_tr kI_8 (Ch_wd h_28.1 (by decide) (by decide))
          have cI_28 : RX I_28 := h_28.2.2.1
          have qI_28 := RX_w cI_28
          have f20_I_28 : I_28 49 20 = I_8 49 20 := h_28.1.2 20 (by decide)
          have vI_28 : EV I_28 t c d9 := h_28.2.2.2.1
          have oI_28 := EV_o vI_28
          have yI_28 := h_28.2.2.2.2
          refine ww_istore_n hX (pc := 31) (lv' := [some (kR (some 49)), some (kI la), some (kI v9), some (kI x_28)]) dX11_bothOf_31 (by decide) rfl rfl ?_
          refine ww_iload_n hX (pc := 32) dX11_bothOf_32 rfl ?_
          refine ww_if_eq hX (pc := 33) (tgt := 44) dX11_bothOf_33 (by decide) (fun h_33 => ?_) (fun h_33 => ?_)
          · simp only [w32_mod] at h_33
            refine ww_iconst hX (pc := 44) (x := 0) dX11_bothOf_44 rfl ?_
            refine ww_istore_n hX (pc := 45) (lv' := [some (kR (some 49)), some (kI la), some (kI 0), some (kI x_28)]) dX11_bothOf_45 (by decide) rfl rfl ?_
            refine ww_goto hX (pc := 46) (tgt := 6) dX11_bothOf_46 (by decide) ?_
            refine ww_sub [some (kR (some 49)), some (kI la), some (kI 0), none] (aLe_s (aLe_s (aLe_s (aLe_n aLe_0)))) ?_
            exact ih_6 _ (by have hm9 := Sh0_e hq_6; omega) 0 I_28 J_28 rfl ⟨kI_28, cI_28, kJ_28, by omega, ⟨d9, vI_28, hR9⟩⟩
          · simp only [w32_mod] at h_33
            refine ww_iload_n hX (pc := 36) dX11_bothOf_36 rfl ?_
            refine ww_if_eq hX (pc := 37) (tgt := 44) dX11_bothOf_37 (by decide) (fun h_37 => ?_) (fun h_37 => ?_)
            · simp only [w32_mod] at h_37
              refine ww_iconst hX (pc := 44) (x := 0) dX11_bothOf_44 rfl ?_
              refine ww_istore_n hX (pc := 45) (lv' := [some (kR (some 49)), some (kI la), some (kI 0), some (kI x_28)]) dX11_bothOf_45 (by decide) rfl rfl ?_
              refine ww_goto hX (pc := 46) (tgt := 6) dX11_bothOf_46 (by decide) ?_
              refine ww_sub [some (kR (some 49)), some (kI la), some (kI 0), none] (aLe_s (aLe_s (aLe_s (aLe_n aLe_0)))) ?_
              exact ih_6 _ (by have hm9 := Sh0_e hq_6; omega) 0 I_28 J_28 rfl ⟨kI_28, cI_28, kJ_28, by omega, ⟨d9, vI_28, hR9⟩⟩
            · simp only [w32_mod] at h_37
              refine ww_iconst hX (pc := 40) (x := 1) dX11_bothOf_40 rfl ?_
              refine ww_goto hX (pc := 41) (tgt := 45) dX11_bothOf_41 (by decide) ?_
              refine ww_istore_n hX (pc := 45) (lv' := [some (kR (some 49)), some (kI la), some (kI 1), some (kI x_28)]) dX11_bothOf_45 (by decide) rfl rfl ?_
              refine ww_goto hX (pc := 46) (tgt := 6) dX11_bothOf_46 (by decide) ?_
              refine ww_sub [some (kR (some 49)), some (kI la), some (kI 1), none] (aLe_s (aLe_s (aLe_s (aLe_n aLe_0)))) ?_
              exact ih_6 _ (by have hm9 := Sh0_e hq_6; omega) 1 I_28 J_28 rfl ⟨kI_28, cI_28, kJ_28, by omega, ⟨d9, vI_28, hR9⟩⟩
        · simp only [w32_mod] at h_16
          refine ww_iload_n hX (pc := 19) dX11_bothOf_19 rfl ?_
          refine ww_if_eq hX (pc := 20) (tgt := 27) dX11_bothOf_20 (by decide) (fun h_20 => ?_) (fun h_20 => ?_)
          · simp only [w32_mod] at h_20
            refine ww_iconst hX (pc := 27) (x := 0) dX11_bothOf_27 rfl ?_
            refine vI1 hX (pc := 28) sX11_250 (xs_49 hL) (c_X11_plainOf l0 hL cI_8  (by omega) w8 hT9 hrec) (by omega) (Nat.le_refl 0) (Nat.le_refl 0) (Nat.le_of_ble_eq_true rfl) dX11_bothOf_28 (fun x_28 I_28 J_28 h_28 => ?_)
            have kJ_28 : Kp 49 73 Ja J_28 := Kp_tr kJ_8 h_28.2.1
            have kI_28 : Ch [] [19, 21] Ia I_28 := Ch_tr kI_8 (Ch_wd h_28.1 (by decide) (by decide))
            have cI_28 : RX I_28 := h_28.2.2.1
            have qI_28 := RX_w cI_28
            have f20_I_28 : I_28 49 20 = I_8 49 20 := h_28.1.2 20 (by decide)
            have vI_28 : EV I_28 t c d9 := h_28.2.2.2.1
            have oI_28 := EV_o vI_28
            have yI_28 := h_28.2.2.2.2
            refine ww_istore_n hX (pc := 31) (lv' := [some (kR (some 49)), some (kI la), some (kI v9), some (kI x_28)]) dX11_bothOf_31 (by decide) rfl rfl ?_
            refine ww_iload_n hX (pc := 32) dX11_bothOf_32 rfl ?_
            refine ww_if_eq hX (pc := 33) (tgt := 44) dX11_bothOf_33 (by decide) (fun h_33 => ?_) (fun h_33 => ?_)
            · simp only [w32_mod] at h_33
              refine ww_iconst hX (pc := 44) (x := 0) dX11_bothOf_44 rfl ?_
              refine ww_istore_n hX (pc := 45) (lv' := [some (kR (some 49)), some (kI la), some (kI 0), some (kI x_28)]) dX11_bothOf_45 (by decide) rfl rfl ?_
              refine ww_goto hX (pc := 46) (tgt := 6) dX11_bothOf_46 (by decide) ?_
              refine ww_sub [some (kR (some 49)), some (kI la), some (kI 0), none] (aLe_s (aLe_s (aLe_s (aLe_n aLe_0)))) ?_
              exact ih_6 _ (by have hm9 := Sh0_e hq_6; omega) 0 I_28 J_28 rfl ⟨kI_28, cI_28, kJ_28, by omega, ⟨d9, vI_28, hR9⟩⟩
            · simp only [w32_mod] at h_33
              refine ww_iload_n hX (pc := 36) dX11_bothOf_36 rfl ?_
              refine ww_if_eq hX (pc := 37) (tgt := 44) dX11_bothOf_37 (by decide) (fun h_37 => ?_) (fun h_37 => ?_)
              · simp only [w32_mod] at h_37
                refine ww_iconst hX (pc := 44) (x := 0) dX11_bothOf_44 rfl ?_
                refine ww_istore_n hX (pc := 45) (lv' := [some (kR (some 49)), some (kI la), some (kI 0), some (kI x_28)]) dX11_bothOf_45 (by decide) rfl rfl ?_
                refine ww_goto hX (pc := 46) (tgt := 6) dX11_bothOf_46 (by decide) ?_
                refine ww_sub [some (kR (some 49)), some (kI la), some (kI 0), none] (aLe_s (aLe_s (aLe_s (aLe_n aLe_0)))) ?_
                exact ih_6 _ (by have hm9 := Sh0_e hq_6; omega) 0 I_28 J_28 rfl ⟨kI_28, cI_28, kJ_28, by omega, ⟨d9, vI_28, hR9⟩⟩
              · simp only [w32_mod] at h_37
                refine ww_iconst hX (pc := 40) (x := 1) dX11_bothOf_40 rfl ?_
                refine ww_goto hX (pc := 41) (tgt := 45) dX11_bothOf_41 (by decide) ?_
                refine ww_istore_n hX (pc := 45) (lv' := [some (kR (some 49)), some (kI la), some (kI 1), some (kI x_28)]) dX11_bothOf_45 (by decide) rfl rfl ?_
                refine ww_goto hX (pc := 46) (tgt := 6) dX11_bothOf_46 (by decide) ?_
                refine ww_sub [some (kR (some 49)), some (kI la), some (kI 1), none] (aLe_s (aLe_s (aLe_s (aLe_n aLe_0)))) ?_
                exact ih_6 _ (by have hm9 := Sh0_e hq_6; omega) 1 I_28 J_28 rfl ⟨kI_28, cI_28, kJ_28, by omega, ⟨d9, vI_28, hR9⟩⟩
          · simp only [w32_mod] at h_20
            refine ww_iconst hX (pc := 23) (x := 1) dX11_bothOf_23 rfl ?_
            refine ww_goto hX (pc := 24) (tgt := 28) dX11_bothOf_24 (by decide) ?_
            refine vI1 hX (pc := 28) sX11_250 (xs_49 hL) (c_X11_plainOf l0 hL cI_8  (by omega) w8 hT9 hrec) (by omega) (Nat.le_refl 0) (Nat.le_refl 0) (Nat.le_of_ble_eq_true rfl) dX11_bothOf_28 (fun x_28 I_28 J_28 h_28 => ?_)
            have kJ_28 : Kp 49 73 Ja J_28 := Kp_tr kJ_8 h_28.2.1
            have kI_28 : Ch [] [19, 21] Ia I_28 := Ch_tr kI_8 (Ch_wd h_28.1 (by decide) (by decide))
            have cI_28 : RX I_28 := h_28.2.2.1
            have qI_28 := RX_w cI_28
            have f20_I_28 : I_28 49 20 = I_8 49 20 := h_28.1.2 20 (by decide)
            have vI_28 : EV I_28 t c d9 := h_28.2.2.2.1
            have oI_28 := EV_o vI_28
            have yI_28 := h_28.2.2.2.2
            refine ww_istore_n hX (pc := 31) (lv' := [some (kR (some 49)), some (kI la), some (kI v9), some (kI x_28)]) dX11_bothOf_31 (by decide) rfl rfl ?_
            refine ww_iload_n hX (pc := 32) dX11_bothOf_32 rfl ?_
            refine ww_if_eq hX (pc := 33) (tgt := 44) dX11_bothOf_33 (by decide) (fun h_33 => ?_) (fun h_33 => ?_)
            · simp only [w32_mod] at h_33
              refine ww_iconst hX (pc := 44) (x := 0) dX11_bothOf_44 rfl ?_
              refine ww_istore_n hX (pc := 45) (lv' := [some (kR (some 49)), some (kI la), some (kI 0), some (kI x_28)]) dX11_bothOf_45 (by decide) rfl rfl ?_
              refine ww_goto hX (pc := 46) (tgt := 6) dX11_bothOf_46 (by decide) ?_
              refine ww_sub [some (kR (some 49)), some (kI la), some (kI 0), none] (aLe_s (aLe_s (aLe_s (aLe_n aLe_0)))) ?_
              exact ih_6 _ (by have hm9 := Sh0_e hq_6; omega) 0 I_28 J_28 rfl ⟨kI_28, cI_28, kJ_28, by omega, ⟨d9, vI_28, hR9⟩⟩
            · simp only [w32_mod] at h_33
              refine ww_iload_n hX (pc := 36) dX11_bothOf_36 rfl ?_
              refine ww_if_eq hX (pc := 37) (tgt := 44) dX11_bothOf_37 (by decide) (fun h_37 => ?_) (fun h_37 => ?_)
              · simp only [w32_mod] at h_37
                refine ww_iconst hX (pc := 44) (x := 0) dX11_bothOf_44 rfl ?_
                refine ww_istore_n hX (pc := 45) (lv' := [some (kR (some 49)), some (kI la), some (kI 0), some (kI x_28)]) dX11_bothOf_45 (by decide) rfl rfl ?_
                refine ww_goto hX (pc := 46) (tgt := 6) dX11_bothOf_46 (by decide) ?_
                refine ww_sub [some (kR (some 49)), some (kI la), some (kI 0), none] (aLe_s (aLe_s (aLe_s (aLe_n aLe_0)))) ?_
                exact ih_6 _ (by have hm9 := Sh0_e hq_6; omega) 0 I_28 J_28 rfl ⟨kI_28, cI_28, kJ_28, by omega, ⟨d9, vI_28, hR9⟩⟩
              · simp only [w32_mod] at h_37
                refine ww_iconst hX (pc := 40) (x := 1) dX11_bothOf_40 rfl ?_
                refine ww_goto hX (pc := 41) (tgt := 45) dX11_bothOf_41 (by decide) ?_
                refine ww_istore_n hX (pc := 45) (lv' := [some (kR (some 49)), some (kI la), some (kI 1), some (kI x_28)]) dX11_bothOf_45 (by decide) rfl rfl ?_
                refine ww_goto hX (pc := 46) (tgt := 6) dX11_bothOf_46 (by decide) ?_
                refine ww_sub [some (kR (some 49)), some (kI la), some (kI 1), none] (aLe_s (aLe_s (aLe_s (aLe_n aLe_0)))) ?_
                exact ih_6 _ (by have hm9 := Sh0_e hq_6; omega) 1 I_28 J_28 rfl ⟨kI_28, cI_28, kJ_28, by omega, ⟨d9, vI_28, hR9⟩⟩
  exact hl_6 _ x_2 I_2 J_2 rfl ⟨kI_2, cI_2, kJ_2, by omega, ⟨a1, vI_2, hRs⟩⟩
set_option maxHeartbeats 4000000 in
set_option maxRecDepth 20000 in
theorem c_X11_testOf (l0 : Launch) {Ia Ja : aI1} {Ra : aR1} {Sa : aS1} (hL : LY Ra Sa) (hQ : RX Ia) {la : Int} (hla : 0 ≤ la ∧ la ≤ 1) {t a : Nat} {c : Nat → Int} (hE : EV Ia t c a) {m b : Nat} (hG : GTest c m a b) (hrec : ∀ mp, m = mp + 1 → ETest l0 mp)  : CT l0 (4 * m + 9) 0 0 mX11_testOf [kR (some 49), kI la] Ia Ja Ra Sa (cI (fun x I' J' => Ch [] [19, 21] Ia I' ∧ Kp 49 73 Ja J' ∧ RX I' ∧ EV I' t c b ∧ (0 ≤ x ∧ x ≤ 1)) Ra Sa) := by
  refine ct_in pn_X11 (Nat.le_of_ble_eq_true rfl) (fun X hX hT hIn => ?_)
  have hX : aK l0 X cX11_testOf 4 RX11 (some .boolean) (4 * m + 9) 0 0 := hX
  change WW X 0 [some (kR (some 49)), some (kI la), none, none] [] Ia Ja Ra Sa 0 0
  have qIa := RX_w hQ
  have oIa := EV_o hE
  rw [GTest_eq] at hG
  obtain ⟨a1, hG1, hRs⟩ := hG
  refine ww_aload_n hX (pc := 0) dX11_testOf_0 rfl ?_
  refine ww_iload_n hX (pc := 1) dX11_testOf_1 rfl ?_
  refine vI1 hX (pc := 2) sX11_246 (xs_49 hL) (c_X11_bothOf l0 hL hQ  (by omega) hE hG1 hrec) (by omega) (Nat.le_refl 0) (Nat.le_refl 0) (Nat.le_of_ble_eq_true rfl) dX11_testOf_2 (fun x_2 I_2 J_2 h_2 => ?_)
  have kJ_2 : Kp 49 73 Ja J_2 := Kp_tr (Kp_rf (a := 49) (b := 73)) h_2.2.1
  have kI_2 : Ch [] [19, 21] Ia I_2 := Ch_tr Ch_rf (Ch_wd h_2.1 (by decide) (by decide))
  have cI_2 : RX I_2 := h_2.2.2.1
  have qI_2 := RX_w cI_2
  have f20_I_2 : I_2 49 20 = Ia 49 20 := h_2.1.2 20 (by decide)
  have vI_2 : EV I_2 t c a1 := h_2.2.2.2.1
  have oI_2 := EV_o vI_2
  have yI_2 := h_2.2.2.2.2
  refine ww_istore_n hX (pc := 5) (lv' := [some (kR (some 49)), some (kI la), some (kI x_2), none]) dX11_testOf_5 (by decide) rfl rfl ?_
  have hl_6 : ∀ (n_6 : Nat) (v9 : Int) (I6 : aI1) (J6 : aI1), (400 * t + b - I6 49 19).toNat = n_6 → (Ch [] [19, 21] Ia I6 ∧ RX I6 ∧ Kp 49 73 Ja J6 ∧ (0 ≤ v9 ∧ v9 ≤ 1) ∧ ∃ p9 : Nat, EV I6 t c p9 ∧ ∃ n, GRest (GSeq (GPlm c m) opA c) opO c n p9 b) → WW X 6 [some (kR (some 49)), some (kI la), some (kI v9), none] [] I6 J6 Ra Sa 0 0 := by
    intro n_6
    induction n_6 using Nat.strongRecOn with
    | ind n_6 ih_6 =>
      intro v9 I6 J6 hm_6 hv_6
      have hq_6 := Sh0_i hm_6
      clear hm_6
      obtain ⟨kI6, cI6, kJ6, hv9, p9, vI6, hR6⟩ := hv_6
      have qI6 := RX_w cI6
      have oI6 := EV_o vI6
      refine ww_aload_n hX (pc := 6) dX11_testOf_6 rfl ?_
      refine ww_iconst hX (pc := 7) (x := 3) dX11_testOf_7 rfl ?_
      refine vI1 hX (pc := 8) sX11_240 (xs_49 hL) (c_X11_passes0 l0 hL cI6  (by omega) (by omega) vI6) (by omega) (Nat.le_refl 0) (Nat.le_refl 0) (Nat.le_of_ble_eq_true rfl) dX11_testOf_8 (fun x_8 I_8 J_8 h_8 => ?_)
      have kJ_8 : Kp 49 73 Ja J_8 := Kp_tr kJ6 h_8.2.1
      have kI_8 : Ch [] [19, 21] Ia I_8 := Ch_tr kI6 (Ch_wd h_8.1 (by decide) (by decide))
      have cI_8 : RX I_8 := h_8.2.2.1
      have qI_8 := RX_w cI_8
      have f20_I_8 : I_8 49 20 = I6 49 20 := h_8.1.2 20 (by decide)
      have f21_I_8 : I_8 49 21 = I6 49 21 := h_8.1.2 21 (by decide)
      have vI_8 : EV I_8 t c (p9 + x_8.toNat) := h_8.2.2.2.1
      have oI_8 := EV_o vI_8
      have yI_8 := h_8.2.2.2.2
      refine ww_if_eq hX (pc := 11) (tgt := 49) dX11_testOf_11 (by decide) (fun h_11 => ?_) (fun h_11 => ?_)
      · simp only [w32_mod] at h_11
        have hb9 := GRest_no hR6 (show ¬ opO (c p9) from PS_0 yI_8.2 (by omega))
        have w8 : EV I_8 t c p9 := EV_to vI_8 (by omega)
        refine ww_iload_n hX (pc := 49) dX11_testOf_49 rfl ?_
        refine rZ hX (pc := 50) hT (Nat.le_refl 0) (Nat.le_refl 0) dX11_testOf_50 (by omega) ?_
        exact ⟨kI_8, kJ_8, cI_8, EV_to w8 hb9, by omega⟩
      · simp only [w32_mod] at h_11
        have hop : opO (c p9) := PS_1 yI_8.2 (by omega)
        obtain ⟨d9, hT9, hR9⟩ := GRest_op hR6 hop
        have hlt9 := GSeq_lt (GPlm_lt m) _ _ hT9
        have hle9 := GRest_l2 (GSeq_lt (GPlm_lt m)) hR9
        have w8 : EV I_8 t c (p9 + 1) := EV_to vI_8 (by omega)
        refine ww_aload_n hX (pc := 14) dX11_testOf_14 rfl ?_
        refine ww_iload_n hX (pc := 15) dX11_testOf_15 rfl ?_
        refine ww_if_eq hX (pc := 16) (tgt := 27) dX11_testOf_16 (by decide) (fun h_16 => ?_) (fun h_16 => ?_)
        · simp only [w32_mod] at h_16
          refine ww_iconst hX (pc := 27) (x := 0) dX11_testOf_27 rfl ?_
          refine vI1 hX (pc := 28) sX11_246 (xs_49 hL) (c_X11_bothOf l0 hL cI_8  (by omega) w8 hT9 hrec) (by omega) (Nat.le_refl 0) (Nat.le_refl 0) (Nat.le_of_ble_eq_true rfl) dX11_testOf_28 (fun x_28 I_28 J_28 h_28 => ?_)
          have kJ_28 : Kp 49 73 Ja J_28 := Kp_tr kJ_8 h_28.2.1
          have kI_28 : Ch [] [19, 21] Ia I_28 := Ch_tr kI_8 (Ch_wd h_28.1 (by decide) (by decide))
          have cI_28 : RX I_28 := h_28.2.2.1
          have qI_28 := RX_w cI_28
          have f20_I_28 : I_28 49 20 = I_8 49 20 := h_28.1.2 20 (by decide)
          have vI_28 : EV I_28 t c d9 := h_28.2.2.2.1
          have oI_28 := EV_o vI_28
          have yI_28 := h_28.2.2.2.2
          refine ww_istore_n hX (pc := 31) (lv' := [some (kR (some 49)), some (kI la), some (kI v9), some (kI x_28)]) dX11_testOf_31 (by decide) rfl rfl ?_
          refine ww_iload_n hX (pc := 32) dX11_testOf_32 rfl ?_
          refine ww_if_ne hX (pc := 33) (tgt := 40) dX11_testOf_33 (by decide) (fun h_33 => ?_) (fun h_33 => ?_)
          · simp only [w32_mod] at h_33
            refine ww_iconst hX (pc := 40) (x := 1) dX11_testOf_40 rfl ?_
            refine ww_goto hX (pc := 41) (tgt := 45) dX11_testOf_41 (by decide) ?_
            refine ww_istore_n hX (pc := 45) (lv' := [some (kR (some 49)), some (kI la), some (kI 1), some (kI x_28)]) dX11_testOf_45 (by decide) rfl rfl ?_
            refine ww_goto hX (pc := 46) (tgt := 6) dX11_testOf_46 (by decide) ?_
            refine ww_sub [some (kR (some 49)), some (kI la), some (kI 1), none] (aLe_s (aLe_s (aLe_s (aLe_n aLe_0)))) ?_
            exact ih_6 _ (by have hm9 := Sh0_e hq_6; omega) 1 I_28 J_28 rfl ⟨kI_28, cI_28, kJ_28, by omega, ⟨d9, vI_28, hR9⟩⟩
          · simp only [w32_mod] at h_33
            refine ww_iload_n hX (pc := 36) dX11_testOf_36 rfl ?_
            refine ww_if_eq hX (pc := 37) (tgt := 44) dX11_testOf_37 (by decide) (fun h_37 => ?_) (fun h_37 => ?_)
            · simp only [w32_mod] at h_37
              refine ww_iconst hX (pc := 44) (x := 0) dX11_testOf_44 rfl ?_
              refine ww_istore_n hX (pc := 45) (lv' := [some (kR (some 49)), some (kI la), some (kI 0), some (kI x_28)]) dX11_testOf_45 (by decide) rfl rfl ?_
              refine ww_goto hX (pc := 46) (tgt := 6) dX11_testOf_46 (by decide) ?_
              refine ww_sub [some (kR (some 49)), some (kI la), some (kI 0), none] (aLe_s (aLe_s (aLe_s (aLe_n aLe_0)))) ?_
              exact ih_6 _ (by have hm9 := Sh0_e hq_6; omega) 0 I_28 J_28 rfl ⟨kI_28, cI_28, kJ_28, by omega, ⟨d9, vI_28, hR9⟩⟩
            · simp only [w32_mod] at h_37
              refine ww_iconst hX (pc := 40) (x := 1) dX11_testOf_40 rfl ?_
              refine ww_goto hX (pc := 41) (tgt := 45) dX11_testOf_41 (by decide) ?_
              refine ww_istore_n hX (pc := 45) (lv' := [some (kR (some 49)), some (kI la), some (kI 1), some (kI x_28)]) dX11_testOf_45 (by decide) rfl rfl ?_
              refine ww_goto hX (pc := 46) (tgt := 6) dX11_testOf_46 (by decide) ?_
              refine ww_sub [some (kR (some 49)), some (kI la), some (kI 1), none] (aLe_s (aLe_s (aLe_s (aLe_n aLe_0)))) ?_
              exact ih_6 _ (by have hm9 := Sh0_e hq_6; omega) 1 I_28 J_28 rfl ⟨kI_28, cI_28, kJ_28, by omega, ⟨d9, vI_28, hR9⟩⟩
        · simp only [w32_mod] at h_16
          refine ww_iload_n hX (pc := 19) dX11_testOf_19 rfl ?_
          refine ww_if_ne hX (pc := 20) (tgt := 27) dX11_testOf_20 (by decide) (fun h_20 => ?_) (fun h_20 => ?_)
          · simp only [w32_mod] at h_20
            refine ww_iconst hX (pc := 27) (x := 0) dX11_testOf_27 rfl ?_
            refine vI1 hX (pc := 28) sX11_246 (xs_49 hL) (c_X11_bothOf l0 hL cI_8  (by omega) w8 hT9 hrec) (by omega) (Nat.le_refl 0) (Nat.le_refl 0) (Nat.le_of_ble_eq_true rfl) dX11_testOf_28 (fun x_28 I_28 J_28 h_28 => ?_)
            have kJ_28 : Kp 49 73 Ja J_28 := Kp_tr kJ_8 h_28.2.1
            have kI_28 : Ch [] [19, 21] Ia I_28 := Ch_tr kI_8 (Ch_wd h_28.1 (by decide) (by decide))
            have cI_28 : RX I_28 := h_28.2.2.1
            have qI_28 := RX_w cI_28
            have f20_I_28 : I_28 49 20 = I_8 49 20 := h_28.1.2 20 (by decide)
            have vI_28 : EV I_28 t c d9 := h_28.2.2.2.1
            have oI_28 := EV_o vI_28
            have yI_28 := h_28.2.2.2.2
            refine ww_istore_n hX (pc := 31) (lv' := [some (kR (some 49)), some (kI la), some (kI v9), some (kI x_28)]) dX11_testOf_31 (by decide) rfl rfl ?_
            refine ww_iload_n hX (pc := 32) dX11_testOf_32 rfl ?_
            refine ww_if_ne hX (pc := 33) (tgt := 40) dX11_testOf_33 (by decide) (fun h_33 => ?_) (fun h_33 => ?_)
            · simp only [w32_mod] at h_33
              refine ww_iconst hX (pc := 40) (x := 1) dX11_testOf_40 rfl ?_
              refine ww_goto hX (pc := 41) (tgt := 45) dX11_testOf_41 (by decide) ?_
              refine ww_istore_n hX (pc := 45) (lv' := [some (kR (some 49)), some (kI la), some (kI 1), some (kI x_28)]) dX11_testOf_45 (by decide) rfl rfl ?_
              refine ww_goto hX (pc := 46) (tgt := 6) dX11_testOf_46 (by decide) ?_
              refine ww_sub [some (kR (some 49)), some (kI la), some (kI 1), none] (aLe_s (aLe_s (aLe_s (aLe_n aLe_0)))) ?_
              exact ih_6 _ (by have hm9 := Sh0_e hq_6; omega) 1 I_28 J_28 rfl ⟨kI_28, cI_28, kJ_28, by omega, ⟨d9, vI_28, hR9⟩⟩
            · simp only [w32_mod] at h_33
              refine ww_iload_n hX (pc := 36) dX11_testOf_36 rfl ?_
              refine ww_if_eq hX (pc := 37) (tgt := 44) dX11_testOf_37 (by decide) (fun h_37 => ?_) (fun h_37 => ?_)
              · simp only [w32_mod] at h_37
                refine ww_iconst hX (pc := 44) (x := 0) dX11_testOf_44 rfl ?_
                refine ww_istore_n hX (pc := 45) (lv' := [some (kR (some 49)), some (kI la), some (kI 0), some (kI x_28)]) dX11_testOf_45 (by decide) rfl rfl ?_
                refine ww_goto hX (pc := 46) (tgt := 6) dX11_testOf_46 (by decide) ?_
                refine ww_sub [some (kR (some 49)), some (kI la), some (kI 0), none] (aLe_s (aLe_s (aLe_s (aLe_n aLe_0)))) ?_
                exact ih_6 _ (by have hm9 := Sh0_e hq_6; omega) 0 I_28 J_28 rfl ⟨kI_28, cI_28, kJ_28, by omega, ⟨d9, vI_28, hR9⟩⟩
              · simp only [w32_mod] at h_37
                refine ww_iconst hX (pc := 40) (x := 1) dX11_testOf_40 rfl ?_
                refine ww_goto hX (pc := 41) (tgt := 45) dX11_testOf_41 (by decide) ?_
                refine ww_istore_n hX (pc := 45) (lv' := [some (kR (some 49)), some (kI la), some (kI 1), some (kI x_28)]) dX11_testOf_45 (by decide) rfl rfl ?_
                refine ww_goto hX (pc := 46) (tgt := 6) dX11_testOf_46 (by decide) ?_
                refine ww_sub [some (kR (some 49)), some (kI la), some (kI 1), none] (aLe_s (aLe_s (aLe_s (aLe_n aLe_0)))) ?_
                exact ih_6 _ (by have hm9 := Sh0_e hq_6; omega) 1 I_28 J_28 rfl ⟨kI_28, cI_28, kJ_28, by omega, ⟨d9, vI_28, hR9⟩⟩
          · simp only [w32_mod] at h_20
            refine ww_iconst hX (pc := 23) (x := 1) dX11_testOf_23 rfl ?_
            refine ww_goto hX (pc := 24) (tgt := 28) dX11_testOf_24 (by decide) ?_
            refine vI1 hX (pc := 28) sX11_246 (xs_49 hL) (c_X11_bothOf l0 hL cI_8  (by omega) w8 hT9 hrec) (by omega) (Nat.le_refl 0) (Nat.le_refl 0) (Nat.le_of_ble_eq_true rfl) dX11_testOf_28 (fun x_28 I_28 J_28 h_28 => ?_)
            have kJ_28 : Kp 49 73 Ja J_28 := Kp_tr kJ_8 h_28.2.1
            have kI_28 : Ch [] [19, 21] Ia I_28 := Ch_tr kI_8 (Ch_wd h_28.1 (by decide) (by decide))
            have cI_28 : RX I_28 := h_28.2.2.1
            have qI_28 := RX_w cI_28
            have f20_I_28 : I_28 49 20 = I_8 49 20 := h_28.1.2 20 (by decide)
            have vI_28 : EV I_28 t c d9 := h_28.2.2.2.1
            have oI_28 := EV_o vI_28
            have yI_28 := h_28.2.2.2.2
            refine ww_istore_n hX (pc := 31) (lv' := [some (kR (some 49)), some (kI la), some (kI v9), some (kI x_28)]) dX11_testOf_31 (by decide) rfl rfl ?_
            refine ww_iload_n hX (pc := 32) dX11_testOf_32 rfl ?_
            refine ww_if_ne hX (pc := 33) (tgt := 40) dX11_testOf_33 (by decide) (fun h_33 => ?_) (fun h_33 => ?_)
            · simp only [w32_mod] at h_33
              refine ww_iconst hX (pc := 40) (x := 1) dX11_testOf_40 rfl ?_
              refine ww_goto hX (pc := 41) (tgt := 45) dX11_testOf_41 (by decide) ?_
              refine ww_istore_n hX (pc := 45) (lv' := [some (kR (some 49)), some (kI la), some (kI 1), some (kI x_28)]) dX11_testOf_45 (by decide) rfl rfl ?_
              refine ww_goto hX (pc := 46) (tgt := 6) dX11_testOf_46 (by decide) ?_
              refine ww_sub [some (kR (some 49)), some (kI la), some (kI 1), none] (aLe_s (aLe_s (aLe_s (aLe_n aLe_0)))) ?_
              exact ih_6 _ (by have hm9 := Sh0_e hq_6; omega) 1 I_28 J_28 rfl ⟨kI_28, cI_28, kJ_28, by omega, ⟨d9, vI_28, hR9⟩⟩
            · simp only [w32_mod] at h_33
              refine ww_iload_n hX (pc := 36) dX11_testOf_36 rfl ?_
              refine ww_if_eq hX (pc := 37) (tgt := 44) dX11_testOf_37 (by decide) (fun h_37 => ?_) (fun h_37 => ?_)
              · simp only [w32_mod] at h_37
                refine ww_iconst hX (pc := 44) (x := 0) dX11_testOf_44 rfl ?_
                refine ww_istore_n hX (pc := 45) (lv' := [some (kR (some 49)), some (kI la), some (kI 0), some (kI x_28)]) dX11_testOf_45 (by decide) rfl rfl ?_
                refine ww_goto hX (pc := 46) (tgt := 6) dX11_testOf_46 (by decide) ?_
                refine ww_sub [some (kR (some 49)), some (kI la), some (kI 0), none] (aLe_s (aLe_s (aLe_s (aLe_n aLe_0)))) ?_
                exact ih_6 _ (by have hm9 := Sh0_e hq_6; omega) 0 I_28 J_28 rfl ⟨kI_28, cI_28, kJ_28, by omega, ⟨d9, vI_28, hR9⟩⟩
              · simp only [w32_mod] at h_37
                refine ww_iconst hX (pc := 40) (x := 1) dX11_testOf_40 rfl ?_
                refine ww_goto hX (pc := 41) (tgt := 45) dX11_testOf_41 (by decide) ?_
                refine ww_istore_n hX (pc := 45) (lv' := [some (kR (some 49)), some (kI la), some (kI 1), some (kI x_28)]) dX11_testOf_45 (by decide) rfl rfl ?_
                refine ww_goto hX (pc := 46) (tgt := 6) dX11_testOf_46 (by decide) ?_
                refine ww_sub [some (kR (some 49)), some (kI la), some (kI 1), none] (aLe_s (aLe_s (aLe_s (aLe_n aLe_0)))) ?_
                exact ih_6 _ (by have hm9 := Sh0_e hq_6; omega) 1 I_28 J_28 rfl ⟨kI_28, cI_28, kJ_28, by omega, ⟨d9, vI_28, hR9⟩⟩
  exact hl_6 _ x_2 I_2 J_2 rfl ⟨kI_2, cI_2, kJ_2, by omega, ⟨a1, vI_2, hRs⟩⟩
theorem c_ETest (l0 : Launch) : ∀ m : Nat, ETest l0 m
  | 0 => fun hL hQ _ hla _ _ _ hE _ hG => c_X11_testOf l0 hL hQ hla hE (m := 0) hG (fun mp e => absurd e (by omega))
  | m + 1 => fun hL hQ _ hla _ _ _ hE _ hG => c_X11_testOf l0 hL hQ hla hE (m := m + 1) hG (fun mp e => by
      obtain rfl : m = mp := by omega
      exact c_ETest l0 m)
end
section
/-- kept shut -/
def Shut (p : Prop) : Prop := p
set_option maxHeartbeats 4000000 in
set_option maxRecDepth 20000 in
theorem c_X11_toldBy (l0 : Launch) {Ia Ja : aI1} {Ra : aR1} {Sa : aS1} (hL : LY Ra Sa) (hQ : RX Ia) {q : Int} (hq0 : 0 ≤ q) (hq1 : q < Ia 51 310)  : CT l0 46 0 0 mX11_toldBy [kR (some 49), kI q] Ia Ja Ra Sa (cI (fun x I' J' => Ch [] [19, 20, 21] Ia I' ∧ Kp 49 73 Ja J' ∧ RX I' ∧ True) Ra Sa) := by
  refine ct_in pn_X11 (Nat.le_of_ble_eq_true rfl) (fun X hX hT hIn => ?_)
  have hX : aK l0 X cX11_toldBy 8 RX11 (some .int) 46 0 0 := hX
  change WW X 0 [some (kR (some 49)), some (kI q), none, none, none, none, none, none] [] Ia Ja Ra Sa 0 0
  have qIa := RX_w hQ
  have h310 := hQ.1.2.2.2.2.2.1
  refine ww_aload_n hX (pc := 0) dX11_toldBy_0 rfl ?_
  refine ww_sipush hX (pc := 1) (x := 400) dX11_toldBy_1 (by decide) ?_
  refine ww_iload_n hX (pc := 4) dX11_toldBy_4 rfl ?_
  refine ww_imul hX (pc := 5) dX11_toldBy_5 ?_
  refine ww_putI hX (pc := 6) (fun h9 => absurd h9 (by decide)) gX11_215 rfl (xs_49 hL) dX11_toldBy_6 ?_
  refine ww_nmH (fun I_6 eI_6 => ?_)
  have kI_6 : Ch [] [19, 20, 21] Ia I_6 := by rw [eI_6]; exact Ch_f Ch_rf (by decide)
  have cI_6 : RX I_6 := by rw [eI_6]; exact RX_f hQ (by decide)
  have qI_6 := RX_w cI_6
  have f20_I_6 : I_6 49 20 = Ia 49 20 := by rw [eI_6, up2_n _ _ (Or.inr (by decide))]
  have f21_I_6 : I_6 49 21 = Ia 49 21 := by rw [eI_6, up2_n _ _ (Or.inr (by decide))]
  have g6 : I_6 49 19 = 400 * q := by rw [eI_6, up2_s]
  refine ww_aload_n hX (pc := 9) dX11_toldBy_9 rfl ?_
  refine ww_aload_n hX (pc := 10) dX11_toldBy_10 rfl ?_
  refine ww_getI hX (pc := 11) fX11_215 (by decide) (xs_49 hL) dX11_toldBy_11 ?_
  refine ww_aload_n hX (pc := 14) dX11_toldBy_14 rfl ?_
  refine ww_getR hX (pc := 15) fX11_20 (by decide) (xs_49 hL) (xr_49_3 hL) dX11_toldBy_15 ?_
  refine ww_sipush hX (pc := 18) (x := 311) dX11_toldBy_18 (by decide) ?_
  refine ww_iload_n hX (pc := 21) dX11_toldBy_21 rfl ?_
  refine ww_iadd hX (pc := 22) dX11_toldBy_22 ?_
  refine ww_iald hX (pc := 23) (xs_51 hL) (by decide) (by omega) (by omega) dX11_toldBy_23 ?_
  refine ww_iadd hX (pc := 24) dX11_toldBy_24 ?_
  refine ww_putI hX (pc := 25) (fun h9 => absurd h9 (by decide)) gX11_212 rfl (xs_49 hL) dX11_toldBy_25 ?_
  refine ww_nmH (fun I_25 eI_25 => ?_)
  have kI_25 : Ch [] [19, 20, 21] Ia I_25 := by rw [eI_25]; exact Ch_f kI_6 (by decide)
  have cI_25 : RX I_25 := by rw [eI_25]; exact RX_f cI_6 (by decide)
  have qI_25 := RX_w cI_25
  have f19_I_25 : I_25 49 19 = I_6 49 19 := by rw [eI_25, up2_n _ _ (Or.inr (by decide))]
  have f21_I_25 : I_25 49 21 = I_6 49 21 := by rw [eI_25, up2_n _ _ (Or.inr (by decide))]
  have g19 : I_25 49 19 = 400 * q := by omega
  have g20 : I_25 49 20 = 400 * q + I_25 51 (311 + q).toNat := by rw [eI_25, up2_s, up2_off _ _ _ (by decide)]; omega
  have hq9 : q < I_25 51 310 := by rw [show I_25 51 = Ia 51 from kI_25.1 51 (by decide) (by decide)]; exact hq1
  obtain ⟨t, ht9⟩ : ∃ t, q.toNat = t := ⟨_, rfl⟩
  have vI_25 := EV_0 cI_25 hq0 hq9 g19 g20
  have hlaw := (RX_lg cI_25 q.toNat (by omega)).2
  rw [ht9] at vI_25 hlaw
  obtain ⟨c, hc9⟩ : ∃ c, cvw (I_25 51) t = c := ⟨_, rfl⟩
  obtain ⟨n9, hn9⟩ : ∃ n9, (I_25 51 (311 + t)).toNat = n9 := ⟨_, rfl⟩
  rw [hc9] at vI_25 hlaw
  rw [hn9] at hlaw
  have oI_25 := EV_o vI_25
  have s25 : I_25 51 (311 + t) = Ia 51 (311 + t) := by rw [show I_25 51 = Ia 51 from kI_25.1 51 (by decide) (by decide)]
  refine ww_ldc2 hX (pc := 28) (x := (-1)) dX11_toldBy_28 tb_1398 ?_
  refine ww_lstore_n hX (pc := 31) (lv' := [some (kR (some 49)), some (kI q), some (kL (-1)), none, none, none, none, none]) dX11_toldBy_31 (by decide) rfl rfl ?_
  have hl_32 : ∀ (n_32 : Nat) (td : Int) (I32 : aI1) (J32 : aI1), (400 * t + 402 - I32 49 19).toNat = n_32 → (Ch [] [19, 20, 21] Ia I32 ∧ RX I32 ∧ Kp 49 73 Ja J32 ∧ ∃ p9 : Nat, EV I32 t c p9 ∧ Shut (n9 ≤ p9 ∨ ∃ m, GLaw c n9 m p9)) → WW X 32 [some (kR (some 49)), some (kI q), some (kL td), none, none, none, none, none] [] I32 J32 Ra Sa 0 0 := by
    intro n_32
    induction n_32 using Nat.strongRecOn with
    | ind n_32 ih_32 =>
      intro td I32 J32 hm_32 hv_32
      have hq_32 := Sh0_i hm_32
      clear hm_32
      obtain ⟨kI32, cI32, kJ32, p9, vI32, hor⟩ := hv_32
      have qI32 := RX_w cI32
      have oI32 := EV_o vI32
      refine ww_aload_n hX (pc := 32) dX11_toldBy_32 rfl ?_
      refine ww_getI hX (pc := 33) fX11_215 (by decide) (xs_49 hL) dX11_toldBy_33 ?_
      refine ww_aload_n hX (pc := 36) dX11_toldBy_36 rfl ?_
      refine ww_getI hX (pc := 37) fX11_212 (by decide) (xs_49 hL) dX11_toldBy_37 ?_
      refine ww_icmp_ge hX (pc := 40) (tgt := 132) dX11_toldBy_40 (by decide) (fun h_40 => ?_) (fun h_40 => ?_)
      · simp only [w32_mod] at h_40
        refine ww_lload_n hX (pc := 132) dX11_toldBy_132 rfl ?_
        refine ww_lconst hX (pc := 133) (x := 0) dX11_toldBy_133 (by decide) ?_
        refine ww_lcmp hX (pc := 134) dX11_toldBy_134 ?_
        refine ww_if_lt hX (pc := 135) (tgt := 157) dX11_toldBy_135 (by decide) (fun h_135 => ?_) (fun h_135 => ?_)
        · simp only [w32_mod] at h_135
          refine ww_iconst hX (pc := 157) (x := (-1)) dX11_toldBy_157 rfl ?_
          refine rI hX (pc := 158) hT (Nat.le_refl 0) (Nat.le_refl 0) dX11_toldBy_158 ?_
          exact ⟨kI32, kJ32, cI32, trivial⟩
        · simp only [w32_mod] at h_135
          refine ww_lload_n hX (pc := 138) dX11_toldBy_138 rfl ?_
          refine ww_aload_n hX (pc := 139) dX11_toldBy_139 rfl ?_
          refine ww_getR hX (pc := 140) fX11_20 (by decide) (xs_49 hL) (xr_49_3 hL) dX11_toldBy_140 ?_
          refine ww_sipush hX (pc := 143) (x := 305) dX11_toldBy_143 (by decide) ?_
          refine ww_iald hX (pc := 146) (xs_51 hL) (by decide) (by omega) (by omega) dX11_toldBy_146 ?_
          refine ww_toI (b := I32 51 305) rfl ?_
          refine ww_i2l hX (pc := 147) dX11_toldBy_147 ?_
          refine ww_lcmp hX (pc := 148) dX11_toldBy_148 ?_
          refine ww_if_ge hX (pc := 149) (tgt := 157) dX11_toldBy_149 (by decide) (fun h_149 => ?_) (fun h_149 => ?_)
          · simp only [w32_mod] at h_149
            refine ww_iconst hX (pc := 157) (x := (-1)) dX11_toldBy_157 rfl ?_
            refine rI hX (pc := 158) hT (Nat.le_refl 0) (Nat.le_refl 0) dX11_toldBy_158 ?_
            exact ⟨kI32, kJ32, cI32, trivial⟩
          · simp only [w32_mod] at h_149
            refine ww_lload_n hX (pc := 152) dX11_toldBy_152 rfl ?_
            refine ww_l2i hX (pc := 153) dX11_toldBy_153 ?_
            refine ww_goto hX (pc := 154) (tgt := 158) dX11_toldBy_154 (by decide) ?_
            refine rI hX (pc := 158) hT (Nat.le_refl 0) (Nat.le_refl 0) dX11_toldBy_158 ?_
            exact ⟨kI32, kJ32, cI32, trivial⟩
      · simp only [w32_mod] at h_40
        have s32 : I32 51 (311 + t) = Ia 51 (311 + t) := by rw [show I32 51 = Ia 51 from kI32.1 51 (by decide) (by decide)]
        obtain ⟨m9, hm9⟩ : ∃ m, GLaw c n9 m p9 := Or.resolve_left hor (by omega)
        obtain ⟨b9, hcl, hbn, hnx9⟩ := GLaw_cl hm9
        have hnx : Shut (n9 ≤ b9 + 1 ∨ ∃ m, GLaw c n9 m (b9 + 1)) := hnx9.imp (fun e => by omega) (fun e => e)
        clear hnx9
        have hlt9 := GClause_lt hcl
        obtain ⟨hc1, d9, hGs, hds⟩ := hcl
        replace hds : Shut _ := hds
        have hz9 := EV_z (i := p9) vI32 (by omega)
        refine ww_aload_n hX (pc := 43) dX11_toldBy_43 rfl ?_
        refine ww_iconst hX (pc := 44) (x := 0) dX11_toldBy_44 rfl ?_
        refine ww_putZ hX (pc := 45) (fun h9 => absurd h9 (by decide)) gX11_225 rfl (by decide) (xs_49 hL) dX11_toldBy_45 ?_
        refine ww_nmH (fun I_45 eI_45 => ?_)
        have kI_45 : Ch [] [19, 20, 21] Ia I_45 := by rw [eI_45]; exact Ch_f kI32 (by decide)
        have cI_45 : RX I_45 := by rw [eI_45]; exact RX_f cI32 (by decide)
        have qI_45 := RX_w cI_45
        have f19_I_45 : I_45 49 19 = I32 49 19 := by rw [eI_45, up2_n _ _ (Or.inr (by decide))]
        have f20_I_45 : I_45 49 20 = I32 49 20 := by rw [eI_45, up2_n _ _ (Or.inr (by decide))]
        have vI_45 : EV I_45 t c p9 := EV_st vI32 (by rw [eI_45, up2_off _ _ _ (by decide)]) (by omega) (by omega) (by omega)
        have oI_45 := EV_o vI_45
        refine ww_aload_n hX (pc := 48) dX11_toldBy_48 rfl ?_
        refine ww_dupR hX (pc := 49) dX11_toldBy_49 ?_
        refine ww_getI hX (pc := 50) fX11_215 (by decide) (xs_49 hL) dX11_toldBy_50 ?_
        refine ww_iconst hX (pc := 53) (x := 1) dX11_toldBy_53 rfl ?_
        refine ww_iadd hX (pc := 54) dX11_toldBy_54 ?_
        refine ww_putI hX (pc := 55) (fun h9 => absurd h9 (by decide)) gX11_215 rfl (xs_49 hL) dX11_toldBy_55 ?_
        refine ww_nmH (fun I_55 eI_55 => ?_)
        have kI_55 : Ch [] [19, 20, 21] Ia I_55 := by rw [eI_55]; exact Ch_f kI_45 (by decide)
        have cI_55 : RX I_55 := by rw [eI_55]; exact RX_f cI_45 (by decide)
        have qI_55 := RX_w cI_55
        have f20_I_55 : I_55 49 20 = I_45 49 20 := by rw [eI_55, up2_n _ _ (Or.inr (by decide))]
        have f21_I_55 : I_55 49 21 = I_45 49 21 := by rw [eI_55, up2_n _ _ (Or.inr (by decide))]
        have vI_55 : EV I_55 t c (p9 + 1) := EV_st vI_45 (by rw [eI_55, up2_off _ _ _ (by decide)]) (by omega) (by rw [eI_55, up2_s]; omega) (by omega)
        have oI_55 := EV_o vI_55
        refine ww_aload_n hX (pc := 58) dX11_toldBy_58 rfl ?_
        refine ww_iconst hX (pc := 59) (x := 1) dX11_toldBy_59 rfl ?_
        refine vJ1 hX (pc := 60) sX11_243 (xs_49 hL) (c_ESum l0 8 hL cI_55 (by omega) vI_55 hGs) (by decide) (Nat.le_refl 0) (Nat.le_refl 0) (Nat.le_of_ble_eq_true rfl) dX11_toldBy_60 (fun x_60 I_60 J_60 h_60 => ?_)
        have kJ_60 : Kp 49 73 Ja J_60 := Kp_tr kJ32 h_60.2.1
        have kI_60 : Ch [] [19, 20, 21] Ia I_60 := Ch_tr kI_55 (Ch_wd h_60.1 (by decide) (by decide))
        have cI_60 : RX I_60 := h_60.2.2.1
        have qI_60 := RX_w cI_60
        have f20_I_60 : I_60 49 20 = I_55 49 20 := h_60.1.2 20 (by decide)
        have vI_60 : EV I_60 t c d9 := h_60.2.2.2.1
        have oI_60 := EV_o vI_60
        have yI_60 := h_60.2.2.2.2
        refine ww_lstore hX (pc := 63) (lv' := [some (kR (some 49)), some (kI q), some (kL td), none, some (kL x_60), none, none, none]) dX11_toldBy_63 (by decide) rfl rfl ?_
        refine ww_aload_n hX (pc := 65) dX11_toldBy_65 rfl ?_
        refine ww_getI hX (pc := 66) fX11_225 (by decide) (xs_49 hL) dX11_toldBy_66 ?_
        refine ww_nmI (fun v_69 hv_69 => ?_)
        refine ww_istore hX (pc := 69) (lv' := [some (kR (some 49)), some (kI q), some (kL td), none, some (kL x_60), none, some (kI v_69), none]) dX11_toldBy_69 (by decide) rfl rfl ?_
        refine ww_aload_n hX (pc := 71) dX11_toldBy_71 rfl ?_
        refine ww_iconst hX (pc := 72) (x := 0) dX11_toldBy_72 rfl ?_
        refine ww_putZ hX (pc := 73) (fun h9 => absurd h9 (by decide)) gX11_225 rfl (by decide) (xs_49 hL) dX11_toldBy_73 ?_
        refine ww_nmH (fun I_73 eI_73 => ?_)
        have kI_73 : Ch [] [19, 20, 21] Ia I_73 := by rw [eI_73]; exact Ch_f kI_60 (by decide)
        have cI_73 : RX I_73 := by rw [eI_73]; exact RX_f cI_60 (by decide)
        have qI_73 := RX_w cI_73
        have f19_I_73 : I_73 49 19 = I_60 49 19 := by rw [eI_73, up2_n _ _ (Or.inr (by decide))]
        have f20_I_73 : I_73 49 20 = I_60 49 20 := by rw [eI_73, up2_n _ _ (Or.inr (by decide))]
        have vI_73 : EV I_73 t c d9 := EV_st vI_60 (by rw [eI_73, up2_off _ _ _ (by decide)]) (by omega) (by omega) (by omega)
        have oI_73 := EV_o vI_73
        refine ww_aload_n hX (pc := 76) dX11_toldBy_76 rfl ?_
        refine ww_iconst hX (pc := 77) (x := 2) dX11_toldBy_77 rfl ?_
        refine vI1 hX (pc := 78) sX11_240 (xs_49 hL) (c_X11_passes0 l0 hL cI_73  (by omega) (by omega) vI_73) (by decide) (Nat.le_refl 0) (Nat.le_refl 0) (Nat.le_of_ble_eq_true rfl) dX11_toldBy_78 (fun x_78 I_78 J_78 h_78 => ?_)
        have kJ_78 : Kp 49 73 Ja J_78 := Kp_tr kJ_60 h_78.2.1
        have kI_78 : Ch [] [19, 20, 21] Ia I_78 := Ch_tr kI_73 (Ch_wd h_78.1 (by decide) (by decide))
        have cI_78 : RX I_78 := h_78.2.2.1
        have qI_78 := RX_w cI_78
        have f20_I_78 : I_78 49 20 = I_73 49 20 := h_78.1.2 20 (by decide)
        have f21_I_78 : I_78 49 21 = I_73 49 21 := h_78.1.2 21 (by decide)
        have vI_78 : EV I_78 t c (d9 + x_78.toNat) := h_78.2.2.2.1
        have oI_78 := EV_o vI_78
        have yI_78 := h_78.2.2.2.2
        refine ww_if_eq hX (pc := 81) (tgt := 92) dX11_toldBy_81 (by decide) (fun h_81 => ?_) (fun h_81 => ?_)
        · simp only [w32_mod] at h_81
          have hds1 : b9 = d9 := (Or.resolve_left hds (fun g => PS_0 yI_78.2 (by omega) g.1)).2
          have w78 : EV I_78 t c b9 := EV_to vI_78 (by omega)
          refine ww_iconst hX (pc := 92) (x := 1) dX11_toldBy_92 rfl ?_
          refine ww_goto hX (pc := 93) (tgt := 97) dX11_toldBy_93 (by decide) ?_
          refine ww_istore hX (pc := 97) (lv' := [some (kR (some 49)), some (kI q), some (kL td), none, some (kL x_60), none, some (kI v_69), some (kI 1)]) dX11_toldBy_97 (by decide) rfl rfl ?_
          refine ww_iload hX (pc := 99) dX11_toldBy_99 rfl ?_
          refine ww_if_eq hX (pc := 101) (tgt := 119) dX11_toldBy_101 (by decide) (fun h_101 => ?_) (fun h_101 => ?_)
          · simp only [w32_mod] at h_101
            refine ww_aload_n hX (pc := 119) dX11_toldBy_119 rfl ?_
            refine ww_dupR hX (pc := 120) dX11_toldBy_120 ?_
            refine ww_getI hX (pc := 121) fX11_215 (by decide) (xs_49 hL) dX11_toldBy_121 ?_
            refine ww_iconst hX (pc := 124) (x := 1) dX11_toldBy_124 rfl ?_
            refine ww_iadd hX (pc := 125) dX11_toldBy_125 ?_
            refine ww_putI hX (pc := 126) (fun h9 => absurd h9 (by decide)) gX11_215 rfl (xs_49 hL) dX11_toldBy_126 ?_
            refine ww_nmH (fun I_126 eI_126 => ?_)
            have kI_126 : Ch [] [19, 20, 21] Ia I_126 := by rw [eI_126]; exact Ch_f kI_78 (by decide)
            have cI_126 : RX I_126 := by rw [eI_126]; exact RX_f cI_78 (by decide)
            have qI_126 := RX_w cI_126
            have f20_I_126 : I_126 49 20 = I_78 49 20 := by rw [eI_126, up2_n _ _ (Or.inr (by decide))]
            have f21_I_126 : I_126 49 21 = I_78 49 21 := by rw [eI_126, up2_n _ _ (Or.inr (by decide))]
            have vI_126 : EV I_126 t c (b9 + 1) := EV_st w78 (by rw [eI_126, up2_off _ _ _ (by decide)]) (by omega) (by rw [eI_126, up2_s]; omega) (by omega)
            have oI_126 := EV_o vI_126
            refine ww_goto hX (pc := 129) (tgt := 32) dX11_toldBy_129 (by decide) ?_
            refine ww_sub [some (kR (some 49)), some (kI q), some (kL td), none, none, none, none, none] (aLe_s (aLe_s (aLe_s (aLe_n (aLe_n (aLe_n (aLe_n (aLe_n aLe_0)))))))) ?_
            exact ih_32 _ (by have hm9 := Sh0_e hq_32; omega) td I_126 J_78 rfl ⟨kI_126, cI_126, kJ_78, ⟨b9 + 1, vI_126, hnx⟩⟩
          · simp only [w32_mod] at h_101
            refine ww_aload_n hX (pc := 104) dX11_toldBy_104 rfl ?_
            refine ww_getI hX (pc := 105) fX11_225 (by decide) (xs_49 hL) dX11_toldBy_105 ?_
            refine ww_if_ne hX (pc := 108) (tgt := 119) dX11_toldBy_108 (by decide) (fun h_108 => ?_) (fun h_108 => ?_)
            · simp only [w32_mod] at h_108
              refine ww_aload_n hX (pc := 119) dX11_toldBy_119 rfl ?_
              refine ww_dupR hX (pc := 120) dX11_toldBy_120 ?_
              refine ww_getI hX (pc := 121) fX11_215 (by decide) (xs_49 hL) dX11_toldBy_121 ?_
              refine ww_iconst hX (pc := 124) (x := 1) dX11_toldBy_124 rfl ?_
              refine ww_iadd hX (pc := 125) dX11_toldBy_125 ?_
              refine ww_putI hX (pc := 126) (fun h9 => absurd h9 (by decide)) gX11_215 rfl (xs_49 hL) dX11_toldBy_126 ?_
              refine ww_nmH (fun I_126 eI_126 => ?_)
              have kI_126 : Ch [] [19, 20, 21] Ia I_126 := by rw [eI_126]; exact Ch_f kI_78 (by decide)
              have cI_126 : RX I_126 := by rw [eI_126]; exact RX_f cI_78 (by decide)
              have qI_126 := RX_w cI_126
              have f20_I_126 : I_126 49 20 = I_78 49 20 := by rw [eI_126, up2_n _ _ (Or.inr (by decide))]
              have f21_I_126 : I_126 49 21 = I_78 49 21 := by rw [eI_126, up2_n _ _ (Or.inr (by decide))]
              have vI_126 : EV I_126 t c (b9 + 1) := EV_st w78 (by rw [eI_126, up2_off _ _ _ (by decide)]) (by omega) (by rw [eI_126, up2_s]; omega) (by omega)
              have oI_126 := EV_o vI_126
              refine ww_goto hX (pc := 129) (tgt := 32) dX11_toldBy_129 (by decide) ?_
              refine ww_sub [some (kR (some 49)), some (kI q), some (kL td), none, none, none, none, none] (aLe_s (aLe_s (aLe_s (aLe_n (aLe_n (aLe_n (aLe_n (aLe_n aLe_0)))))))) ?_
              exact ih_32 _ (by have hm9 := Sh0_e hq_32; omega) td I_126 J_78 rfl ⟨kI_126, cI_126, kJ_78, ⟨b9 + 1, vI_126, hnx⟩⟩
            · simp only [w32_mod] at h_108
              refine ww_iload hX (pc := 111) dX11_toldBy_111 rfl ?_
              refine ww_if_ne hX (pc := 113) (tgt := 119) dX11_toldBy_113 (by decide) (fun h_113 => ?_) (fun h_113 => ?_)
              · simp only [w32_mod] at h_113
                refine ww_aload_n hX (pc := 119) dX11_toldBy_119 rfl ?_
                refine ww_dupR hX (pc := 120) dX11_toldBy_120 ?_
                refine ww_getI hX (pc := 121) fX11_215 (by decide) (xs_49 hL) dX11_toldBy_121 ?_
                refine ww_iconst hX (pc := 124) (x := 1) dX11_toldBy_124 rfl ?_
                refine ww_iadd hX (pc := 125) dX11_toldBy_125 ?_
                refine ww_putI hX (pc := 126) (fun h9 => absurd h9 (by decide)) gX11_215 rfl (xs_49 hL) dX11_toldBy_126 ?_
                refine ww_nmH (fun I_126 eI_126 => ?_)
                have kI_126 : Ch [] [19, 20, 21] Ia I_126 := by rw [eI_126]; exact Ch_f kI_78 (by decide)
                have cI_126 : RX I_126 := by rw [eI_126]; exact RX_f cI_78 (by decide)
                have qI_126 := RX_w cI_126
                have f20_I_126 : I_126 49 20 = I_78 49 20 := by rw [eI_126, up2_n _ _ (Or.inr (by decide))]
                have f21_I_126 : I_126 49 21 = I_78 49 21 := by rw [eI_126, up2_n _ _ (Or.inr (by decide))]
                have vI_126 : EV I_126 t c (b9 + 1) := EV_st w78 (by rw [eI_126, up2_off _ _ _ (by decide)]) (by omega) (by rw [eI_126, up2_s]; omega) (by omega)
                have oI_126 := EV_o vI_126
                refine ww_goto hX (pc := 129) (tgt := 32) dX11_toldBy_129 (by decide) ?_
                refine ww_sub [some (kR (some 49)), some (kI q), some (kL td), none, none, none, none, none] (aLe_s (aLe_s (aLe_s (aLe_n (aLe_n (aLe_n (aLe_n (aLe_n aLe_0)))))))) ?_
                exact ih_32 _ (by have hm9 := Sh0_e hq_32; omega) td I_126 J_78 rfl ⟨kI_126, cI_126, kJ_78, ⟨b9 + 1, vI_126, hnx⟩⟩
              · simp only [w32_mod] at h_113
                refine ww_lload hX (pc := 116) dX11_toldBy_116 rfl ?_
                refine ww_lstore_n hX (pc := 118) (lv' := [some (kR (some 49)), some (kI q), some (kL x_60), none, some (kL x_60), none, some (kI v_69), some (kI 1)]) dX11_toldBy_118 (by decide) rfl rfl ?_
                refine ww_aload_n hX (pc := 119) dX11_toldBy_119 rfl ?_
                refine ww_dupR hX (pc := 120) dX11_toldBy_120 ?_
                refine ww_getI hX (pc := 121) fX11_215 (by decide) (xs_49 hL) dX11_toldBy_121 ?_
                refine ww_iconst hX (pc := 124) (x := 1) dX11_toldBy_124 rfl ?_
                refine ww_iadd hX (pc := 125) dX11_toldBy_125 ?_
                refine ww_putI hX (pc := 126) (fun h9 => absurd h9 (by decide)) gX11_215 rfl (xs_49 hL) dX11_toldBy_126 ?_
                refine ww_nmH (fun I_126 eI_126 => ?_)
                have kI_126 : Ch [] [19, 20, 21] Ia I_126 := by rw [eI_126]; exact Ch_f kI_78 (by decide)
                have cI_126 : RX I_126 := by rw [eI_126]; exact RX_f cI_78 (by decide)
                have qI_126 := RX_w cI_126
                have f20_I_126 : I_126 49 20 = I_78 49 20 := by rw [eI_126, up2_n _ _ (Or.inr (by decide))]
                have f21_I_126 : I_126 49 21 = I_78 49 21 := by rw [eI_126, up2_n _ _ (Or.inr (by decide))]
                have vI_126 : EV I_126 t c (b9 + 1) := EV_st w78 (by rw [eI_126, up2_off _ _ _ (by decide)]) (by omega) (by rw [eI_126, up2_s]; omega) (by omega)
                have oI_126 := EV_o vI_126
                refine ww_goto hX (pc := 129) (tgt := 32) dX11_toldBy_129 (by decide) ?_
                refine ww_sub [some (kR (some 49)), some (kI q), some (kL x_60), none, none, none, none, none] (aLe_s (aLe_s (aLe_s (aLe_n (aLe_n (aLe_n (aLe_n (aLe_n aLe_0)))))))) ?_
                exact ih_32 _ (by have hm9 := Sh0_e hq_32; omega) x_60 I_126 J_78 rfl ⟨kI_126, cI_126, kJ_78, ⟨b9 + 1, vI_126, hnx⟩⟩
        · simp only [w32_mod] at h_81
          have hGt := (Or.resolve_right hds (fun g => g.1 (PS_1 yI_78.2 (by omega)))).2
          have w78 : EV I_78 t c (d9 + 1) := EV_to vI_78 (by omega)
          refine ww_aload_n hX (pc := 84) dX11_toldBy_84 rfl ?_
          refine ww_iconst hX (pc := 85) (x := 1) dX11_toldBy_85 rfl ?_
          refine vI1 hX (pc := 86) sX11_256 (xs_49 hL) (c_ETest l0 8 hL cI_78 (by omega) w78 hGt) (by decide) (Nat.le_refl 0) (Nat.le_refl 0) (Nat.le_of_ble_eq_true rfl) dX11_toldBy_86 (fun x_86 I_86 J_86 h_86 => ?_)
          have kJ_86 : Kp 49 73 Ja J_86 := Kp_tr kJ_78 h_86.2.1
          have kI_86 : Ch [] [19, 20, 21] Ia I_86 := Ch_tr kI_78 (Ch_wd h_86.1 (by decide) (by decide))
          have cI_86 : RX I_86 := h_86.2.2.1
          have qI_86 := RX_w cI_86
          have f20_I_86 : I_86 49 20 = I_78 49 20 := h_86.1.2 20 (by decide)
          have vI_86 : EV I_86 t c b9 := h_86.2.2.2.1
          have oI_86 := EV_o vI_86
          have yI_86 := h_86.2.2.2.2
          refine ww_if_eq hX (pc := 89) (tgt := 96) dX11_toldBy_89 (by decide) (fun h_89 => ?_) (fun h_89 => ?_)
          · simp only [w32_mod] at h_89
            refine ww_iconst hX (pc := 96) (x := 0) dX11_toldBy_96 rfl ?_
            refine ww_istore hX (pc := 97) (lv' := [some (kR (some 49)), some (kI q), some (kL td), none, some (kL x_60), none, some (kI v_69), some (kI 0)]) dX11_toldBy_97 (by decide) rfl rfl ?_
            refine ww_iload hX (pc := 99) dX11_toldBy_99 rfl ?_
            refine ww_if_eq hX (pc := 101) (tgt := 119) dX11_toldBy_101 (by decide) (fun h_101 => ?_) (fun h_101 => ?_)
            · simp only [w32_mod] at h_101
              refine ww_aload_n hX (pc := 119) dX11_toldBy_119 rfl ?_
              refine ww_dupR hX (pc := 120) dX11_toldBy_120 ?_
              refine ww_getI hX (pc := 121) fX11_215 (by decide) (xs_49 hL) dX11_toldBy_121 ?_
              refine ww_iconst hX (pc := 124) (x := 1) dX11_toldBy_124 rfl ?_
              refine ww_iadd hX (pc := 125) dX11_toldBy_125 ?_
              refine ww_putI hX (pc := 126) (fun h9 => absurd h9 (by decide)) gX11_215 rfl (xs_49 hL) dX11_toldBy_126 ?_
              refine ww_nmH (fun I_126 eI_126 => ?_)
              have kI_126 : Ch [] [19, 20, 21] Ia I_126 := by rw [eI_126]; exact Ch_f kI_86 (by decide)
              have cI_126 : RX I_126 := by rw [eI_126]; exact RX_f cI_86 (by decide)
              have qI_126 := RX_w cI_126
              have f20_I_126 : I_126 49 20 = I_86 49 20 := by rw [eI_126, up2_n _ _ (Or.inr (by decide))]
              have f21_I_126 : I_126 49 21 = I_86 49 21 := by rw [eI_126, up2_n _ _ (Or.inr (by decide))]
              have vI_126 : EV I_126 t c (b9 + 1) := EV_st vI_86 (by rw [eI_126, up2_off _ _ _ (by decide)]) (by omega) (by rw [eI_126, up2_s]; omega) (by omega)
              have oI_126 := EV_o vI_126
              refine ww_goto hX (pc := 129) (tgt := 32) dX11_toldBy_129 (by decide) ?_
              refine ww_sub [some (kR (some 49)), some (kI q), some (kL td), none, none, none, none, none] (aLe_s (aLe_s (aLe_s (aLe_n (aLe_n (aLe_n (aLe_n (aLe_n aLe_0)))))))) ?_
              exact ih_32 _ (by have hm9 := Sh0_e hq_32; omega) td I_126 J_86 rfl ⟨kI_126, cI_126, kJ_86, ⟨b9 + 1, vI_126, hnx⟩⟩
            · simp only [w32_mod] at h_101
              refine ww_aload_n hX (pc := 104) dX11_toldBy_104 rfl ?_
              refine ww_getI hX (pc := 105) fX11_225 (by decide) (xs_49 hL) dX11_toldBy_105 ?_
              refine ww_if_ne hX (pc := 108) (tgt := 119) dX11_toldBy_108 (by decide) (fun h_108 => ?_) (fun h_108 => ?_)
              · simp only [w32_mod] at h_108
                refine ww_aload_n hX (pc := 119) dX11_toldBy_119 rfl ?_
                refine ww_dupR hX (pc := 120) dX11_toldBy_120 ?_
                refine ww_getI hX (pc := 121) fX11_215 (by decide) (xs_49 hL) dX11_toldBy_121 ?_
                refine ww_iconst hX (pc := 124) (x := 1) dX11_toldBy_124 rfl ?_
                refine ww_iadd hX (pc := 125) dX11_toldBy_125 ?_
                refine ww_putI hX (pc := 126) (fun h9 => absurd h9 (by decide)) gX11_215 rfl (xs_49 hL) dX11_toldBy_126 ?_
                refine ww_nmH (fun I_126 eI_126 => ?_)
                have kI_126 : Ch [] [19, 20, 21] Ia I_126 := by rw [eI_126]; exact Ch_f kI_86 (by decide)
                have cI_126 : RX I_126 := by rw [eI_126]; exact RX_f cI_86 (by decide)
                have qI_126 := RX_w cI_126
                have f20_I_126 : I_126 49 20 = I_86 49 20 := by rw [eI_126, up2_n _ _ (Or.inr (by decide))]
                have f21_I_126 : I_126 49 21 = I_86 49 21 := by rw [eI_126, up2_n _ _ (Or.inr (by decide))]
                have vI_126 : EV I_126 t c (b9 + 1) := EV_st vI_86 (by rw [eI_126, up2_off _ _ _ (by decide)]) (by omega) (by rw [eI_126, up2_s]; omega) (by omega)
                have oI_126 := EV_o vI_126
                refine ww_goto hX (pc := 129) (tgt := 32) dX11_toldBy_129 (by decide) ?_
                refine ww_sub [some (kR (some 49)), some (kI q), some (kL td), none, none, none, none, none] (aLe_s (aLe_s (aLe_s (aLe_n (aLe_n (aLe_n (aLe_n (aLe_n aLe_0)))))))) ?_
                exact ih_32 _ (by have hm9 := Sh0_e hq_32; omega) td I_126 J_86 rfl ⟨kI_126, cI_126, kJ_86, ⟨b9 + 1, vI_126, hnx⟩⟩
              · simp only [w32_mod] at h_108
                refine ww_iload hX (pc := 111) dX11_toldBy_111 rfl ?_
                refine ww_if_ne hX (pc := 113) (tgt := 119) dX11_toldBy_113 (by decide) (fun h_113 => ?_) (fun h_113 => ?_)
                · simp only [w32_mod] at h_113
                  refine ww_aload_n hX (pc := 119) dX11_toldBy_119 rfl ?_
                  refine ww_dupR hX (pc := 120) dX11_toldBy_120 ?_
                  refine ww_getI hX (pc := 121) fX11_215 (by decide) (xs_49 hL) dX11_toldBy_121 ?_
                  refine ww_iconst hX (pc := 124) (x := 1) dX11_toldBy_124 rfl ?_
                  refine ww_iadd hX (pc := 125) dX11_toldBy_125 ?_
                  refine ww_putI hX (pc := 126) (fun h9 => absurd h9 (by decide)) gX11_215 rfl (xs_49 hL) dX11_toldBy_126 ?_
                  refine ww_nmH (fun I_126 eI_126 => ?_)
                  have kI_126 : Ch [] [19, 20, 21] Ia I_126 := by rw [eI_126]; exact Ch_f kI_86 (by decide)
                  have cI_126 : RX I_126 := by rw [eI_126]; exact RX_f cI_86 (by decide)
                  have qI_126 := RX_w cI_126
                  have f20_I_126 : I_126 49 20 = I_86 49 20 := by rw [eI_126, up2_n _ _ (Or.inr (by decide))]
                  have f21_I_126 : I_126 49 21 = I_86 49 21 := by rw [eI_126, up2_n _ _ (Or.inr (by decide))]
                  have vI_126 : EV I_126 t c (b9 + 1) := EV_st vI_86 (by rw [eI_126, up2_off _ _ _ (by decide)]) (by omega) (by rw [eI_126, up2_s]; omega) (by omega)
                  have oI_126 := EV_o vI_126
                  refine ww_goto hX (pc := 129) (tgt := 32) dX11_toldBy_129 (by decide) ?_
                  refine ww_sub [some (kR (some 49)), some (kI q), some (kL td), none, none, none, none, none] (aLe_s (aLe_s (aLe_s (aLe_n (aLe_n (aLe_n (aLe_n (aLe_n aLe_0)))))))) ?_
                  exact ih_32 _ (by have hm9 := Sh0_e hq_32; omega) td I_126 J_86 rfl ⟨kI_126, cI_126, kJ_86, ⟨b9 + 1, vI_126, hnx⟩⟩
                · simp only [w32_mod] at h_113
                  refine ww_lload hX (pc := 116) dX11_toldBy_116 rfl ?_
                  refine ww_lstore_n hX (pc := 118) (lv' := [some (kR (some 49)), some (kI q), some (kL x_60), none, some (kL x_60), none, some (kI v_69), some (kI 0)]) dX11_toldBy_118 (by decide) rfl rfl ?_
                  refine ww_aload_n hX (pc := 119) dX11_toldBy_119 rfl ?_
                  refine ww_dupR hX (pc := 120) dX11_toldBy_120 ?_
                  refine ww_getI hX (pc := 121) fX11_215 (by decide) (xs_49 hL) dX11_toldBy_121 ?_
                  refine ww_iconst hX (pc := 124) (x := 1) dX11_toldBy_124 rfl ?_
                  refine ww_iadd hX (pc := 125) dX11_toldBy_125 ?_
                  refine ww_putI hX (pc := 126) (fun h9 => absurd h9 (by decide)) gX11_215 rfl (xs_49 hL) dX11_toldBy_126 ?_
                  refine ww_nmH (fun I_126 eI_126 => ?_)
                  have kI_126 : Ch [] [19, 20, 21] Ia I_126 := by rw [eI_126]; exact Ch_f kI_86 (by decide)
                  have cI_126 : RX I_126 := by rw [eI_126]; exact RX_f cI_86 (by decide)
                  have qI_126 := RX_w cI_126
                  have f20_I_126 : I_126 49 20 = I_86 49 20 := by rw [eI_126, up2_n _ _ (Or.inr (by decide))]
                  have f21_I_126 : I_126 49 21 = I_86 49 21 := by rw [eI_126, up2_n _ _ (Or.inr (by decide))]
                  have vI_126 : EV I_126 t c (b9 + 1) := EV_st vI_86 (by rw [eI_126, up2_off _ _ _ (by decide)]) (by omega) (by rw [eI_126, up2_s]; omega) (by omega)
                  have oI_126 := EV_o vI_126
                  refine ww_goto hX (pc := 129) (tgt := 32) dX11_toldBy_129 (by decide) ?_
                  refine ww_sub [some (kR (some 49)), some (kI q), some (kL x_60), none, none, none, none, none] (aLe_s (aLe_s (aLe_s (aLe_n (aLe_n (aLe_n (aLe_n (aLe_n aLe_0)))))))) ?_
                  exact ih_32 _ (by have hm9 := Sh0_e hq_32; omega) x_60 I_126 J_86 rfl ⟨kI_126, cI_126, kJ_86, ⟨b9 + 1, vI_126, hnx⟩⟩
          · simp only [w32_mod] at h_89
            refine ww_iconst hX (pc := 92) (x := 1) dX11_toldBy_92 rfl ?_
            refine ww_goto hX (pc := 93) (tgt := 97) dX11_toldBy_93 (by decide) ?_
            refine ww_istore hX (pc := 97) (lv' := [some (kR (some 49)), some (kI q), some (kL td), none, some (kL x_60), none, some (kI v_69), some (kI 1)]) dX11_toldBy_97 (by decide) rfl rfl ?_
            refine ww_iload hX (pc := 99) dX11_toldBy_99 rfl ?_
            refine ww_if_eq hX (pc := 101) (tgt := 119) dX11_toldBy_101 (by decide) (fun h_101 => ?_) (fun h_101 => ?_)
            · simp only [w32_mod] at h_101
              refine ww_aload_n hX (pc := 119) dX11_toldBy_119 rfl ?_
              refine ww_dupR hX (pc := 120) dX11_toldBy_120 ?_
              refine ww_getI hX (pc := 121) fX11_215 (by decide) (xs_49 hL) dX11_toldBy_121 ?_
              refine ww_iconst hX (pc := 124) (x := 1) dX11_toldBy_124 rfl ?_
              refine ww_iadd hX (pc := 125) dX11_toldBy_125 ?_
              refine ww_putI hX (pc := 126) (fun h9 => absurd h9 (by decide)) gX11_215 rfl (xs_49 hL) dX11_toldBy_126 ?_
              refine ww_nmH (fun I_126 eI_126 => ?_)
              have kI_126 : Ch [] [19, 20, 21] Ia I_126 := by rw [eI_126]; exact Ch_f kI_86 (by decide)
              have cI_126 : RX I_126 := by rw [eI_126]; exact RX_f cI_86 (by decide)
              have qI_126 := RX_w cI_126
              have f20_I_126 : I_126 49 20 = I_86 49 20 := by rw [eI_126, up2_n _ _ (Or.inr (by decide))]
              have f21_I_126 : I_126 49 21 = I_86 49 21 := by rw [eI_126, up2_n _ _ (Or.inr (by decide))]
              have vI_126 : EV I_126 t c (b9 + 1) := EV_st vI_86 (by rw [eI_126, up2_off _ _ _ (by decide)]) (by omega) (by rw [eI_126, up2_s]; omega) (by omega)
              have oI_126 := EV_o vI_126
              refine ww_goto hX (pc := 129) (tgt := 32) dX11_toldBy_129 (by decide) ?_
              refine ww_sub [some (kR (some 49)), some (kI q), some (kL td), none, none, none, none, none] (aLe_s (aLe_s (aLe_s (aLe_n (aLe_n (aLe_n (aLe_n (aLe_n aLe_0)))))))) ?_
              exact ih_32 _ (by have hm9 := Sh0_e hq_32; omega) td I_126 J_86 rfl ⟨kI_126, cI_126, kJ_86, ⟨b9 + 1, vI_126, hnx⟩⟩
            · simp only [w32_mod] at h_101
              refine ww_aload_n hX (pc := 104) dX11_toldBy_104 rfl ?_
              refine ww_getI hX (pc := 105) fX11_225 (by decide) (xs_49 hL) dX11_toldBy_105 ?_
              refine ww_if_ne hX (pc := 108) (tgt := 119) dX11_toldBy_108 (by decide) (fun h_108 => ?_) (fun h_108 => ?_)
              · simp only [w32_mod] at h_108
                refine ww_aload_n hX (pc := 119) dX11_toldBy_119 rfl ?_
                refine ww_dupR hX (pc := 120) dX11_toldBy_120 ?_
                refine ww_getI hX (pc := 121) fX11_215 (by decide) (xs_49 hL) dX11_toldBy_121 ?_
                refine ww_iconst hX (pc := 124) (x := 1) dX11_toldBy_124 rfl ?_
                refine ww_iadd hX (pc := 125) dX11_toldBy_125 ?_
                refine ww_putI hX (pc := 126) (fun h9 => absurd h9 (by decide)) gX11_215 rfl (xs_49 hL) dX11_toldBy_126 ?_
                refine ww_nmH (fun I_126 eI_126 => ?_)
                have kI_126 : Ch [] [19, 20, 21] Ia I_126 := by rw [eI_126]; exact Ch_f kI_86 (by decide)
                have cI_126 : RX I_126 := by rw [eI_126]; exact RX_f cI_86 (by decide)
                have qI_126 := RX_w cI_126
                have f20_I_126 : I_126 49 20 = I_86 49 20 := by rw [eI_126, up2_n _ _ (Or.inr (by decide))]
                have f21_I_126 : I_126 49 21 = I_86 49 21 := by rw [eI_126, up2_n _ _ (Or.inr (by decide))]
                have vI_126 : EV I_126 t c (b9 + 1) := EV_st vI_86 (by rw [eI_126, up2_off _ _ _ (by decide)]) (by omega) (by rw [eI_126, up2_s]; omega) (by omega)
                have oI_126 := EV_o vI_126
                refine ww_goto hX (pc := 129) (tgt := 32) dX11_toldBy_129 (by decide) ?_
                refine ww_sub [some (kR (some 49)), some (kI q), some (kL td), none, none, none, none, none] (aLe_s (aLe_s (aLe_s (aLe_n (aLe_n (aLe_n (aLe_n (aLe_n aLe_0)))))))) ?_
                exact ih_32 _ (by have hm9 := Sh0_e hq_32; omega) td I_126 J_86 rfl ⟨kI_126, cI_126, kJ_86, ⟨b9 + 1, vI_126, hnx⟩⟩
              · simp only [w32_mod] at h_108
                refine ww_iload hX (pc := 111) dX11_toldBy_111 rfl ?_
                refine ww_if_ne hX (pc := 113) (tgt := 119) dX11_toldBy_113 (by decide) (fun h_113 => ?_) (fun h_113 => ?_)
                · simp only [w32_mod] at h_113
                  refine ww_aload_n hX (pc := 119) dX11_toldBy_119 rfl ?_
                  refine ww_dupR hX (pc := 120) dX11_toldBy_120 ?_
                  refine ww_getI hX (pc := 121) fX11_215 (by decide) (xs_49 hL) dX11_toldBy_121 ?_
                  refine ww_iconst hX (pc := 124) (x := 1) dX11_toldBy_124 rfl ?_
                  refine ww_iadd hX (pc := 125) dX11_toldBy_125 ?_
                  refine ww_putI hX (pc := 126) (fun h9 => absurd h9 (by decide)) gX11_215 rfl (xs_49 hL) dX11_toldBy_126 ?_
                  refine ww_nmH (fun I_126 eI_126 => ?_)
                  have kI_126 : Ch [] [19, 20, 21] Ia I_126 := by rw [eI_126]; exact Ch_f kI_86 (by decide)
                  have cI_126 : RX I_126 := by rw [eI_126]; exact RX_f cI_86 (by decide)
                  have qI_126 := RX_w cI_126
                  have f20_I_126 : I_126 49 20 = I_86 49 20 := by rw [eI_126, up2_n _ _ (Or.inr (by decide))]
                  have f21_I_126 : I_126 49 21 = I_86 49 21 := by rw [eI_126, up2_n _ _ (Or.inr (by decide))]
                  have vI_126 : EV I_126 t c (b9 + 1) := EV_st vI_86 (by rw [eI_126, up2_off _ _ _ (by decide)]) (by omega) (by rw [eI_126, up2_s]; omega) (by omega)
                  have oI_126 := EV_o vI_126
                  refine ww_goto hX (pc := 129) (tgt := 32) dX11_toldBy_129 (by decide) ?_
                  refine ww_sub [some (kR (some 49)), some (kI q), some (kL td), none, none, none, none, none] (aLe_s (aLe_s (aLe_s (aLe_n (aLe_n (aLe_n (aLe_n (aLe_n aLe_0)))))))) ?_
                  exact ih_32 _ (by have hm9 := Sh0_e hq_32; omega) td I_126 J_86 rfl ⟨kI_126, cI_126, kJ_86, ⟨b9 + 1, vI_126, hnx⟩⟩
                · simp only [w32_mod] at h_113
                  refine ww_lload hX (pc := 116) dX11_toldBy_116 rfl ?_
                  refine ww_lstore_n hX (pc := 118) (lv' := [some (kR (some 49)), some (kI q), some (kL x_60), none, some (kL x_60), none, some (kI v_69), some (kI 1)]) dX11_toldBy_118 (by decide) rfl rfl ?_
                  refine ww_aload_n hX (pc := 119) dX11_toldBy_119 rfl ?_
                  refine ww_dupR hX (pc := 120) dX11_toldBy_120 ?_
                  refine ww_getI hX (pc := 121) fX11_215 (by decide) (xs_49 hL) dX11_toldBy_121 ?_
                  refine ww_iconst hX (pc := 124) (x := 1) dX11_toldBy_124 rfl ?_
                  refine ww_iadd hX (pc := 125) dX11_toldBy_125 ?_
                  refine ww_putI hX (pc := 126) (fun h9 => absurd h9 (by decide)) gX11_215 rfl (xs_49 hL) dX11_toldBy_126 ?_
                  refine ww_nmH (fun I_126 eI_126 => ?_)
                  have kI_126 : Ch [] [19, 20, 21] Ia I_126 := by rw [eI_126]; exact Ch_f kI_86 (by decide)
                  have cI_126 : RX I_126 := by rw [eI_126]; exact RX_f cI_86 (by decide)
                  have qI_126 := RX_w cI_126
                  have f20_I_126 : I_126 49 20 = I_86 49 20 := by rw [eI_126, up2_n _ _ (Or.inr (by decide))]
                  have f21_I_126 : I_126 49 21 = I_86 49 21 := by rw [eI_126, up2_n _ _ (Or.inr (by decide))]
                  have vI_126 : EV I_126 t c (b9 + 1) := EV_st vI_86 (by rw [eI_126, up2_off _ _ _ (by decide)]) (by omega) (by rw [eI_126, up2_s]; omega) (by omega)
                  have oI_126 := EV_o vI_126
                  refine ww_goto hX (pc := 129) (tgt := 32) dX11_toldBy_129 (by decide) ?_
                  refine ww_sub [some (kR (some 49)), some (kI q), some (kL x_60), none, none, none, none, none] (aLe_s (aLe_s (aLe_s (aLe_n (aLe_n (aLe_n (aLe_n (aLe_n aLe_0)))))))) ?_
                  exact ih_32 _ (by have hm9 := Sh0_e hq_32; omega) x_60 I_126 J_86 rfl ⟨kI_126, cI_126, kJ_86, ⟨b9 + 1, vI_126, hnx⟩⟩
  exact hl_32 _ (-1) I_25 Ja rfl ⟨kI_25, cI_25, (Kp_rf (a := 49) (b := 73)), ⟨0, vI_25, Or.inr hlaw⟩⟩
set_option maxHeartbeats 4000000 in
set_option maxRecDepth 20000 in
theorem c_X11_asksOf (l0 : Launch) {Ia Ja : aI1} {Ra : aR1} {Sa : aS1} (hL : LY Ra Sa) (hQ : RX Ia) {a : Int}  : CT l0 1 0 0 mX11_asksOf [kR (some 49), kI a] Ia Ja Ra Sa (cV (fun I' J' => Ch [60] [] Ia I' ∧ Kp 49 73 Ja J' ∧ RX I' ∧ True) Ra Sa) := by
  refine ct_in pn_X11 (Nat.le_of_ble_eq_true rfl) (fun X hX hT hIn => ?_)
  have hX : aK l0 X cX11_asksOf 7 RX11 none 1 0 0 := hX
  change WW X 0 [some (kR (some 49)), some (kI a), none, none, none, none, none] [] Ia Ja Ra Sa 0 0
  have qIa := RX_o hQ
  refine ww_iconst hX (pc := 0) (x := 0) dX11_asksOf_0 rfl ?_
  refine ww_istore_n hX (pc := 1) (lv' := [some (kR (some 49)), some (kI a), some (kI 0), none, none, none, none]) dX11_asksOf_1 (by decide) rfl rfl ?_
  refine ww_iconst hX (pc := 2) (x := 0) dX11_asksOf_2 rfl ?_
  refine ww_istore_n hX (pc := 3) (lv' := [some (kR (some 49)), some (kI a), some (kI 0), some (kI 0), none, none, none]) dX11_asksOf_3 (by decide) rfl rfl ?_
  refine ww_iconst hX (pc := 4) (x := (-1)) dX11_asksOf_4 rfl ?_
  refine ww_istore hX (pc := 5) (lv' := [some (kR (some 49)), some (kI a), some (kI 0), some (kI 0), some (kI (-1)), none, none]) dX11_asksOf_5 (by decide) rfl rfl ?_
  refine ww_iconst hX (pc := 7) (x := (-1)) dX11_asksOf_7 rfl ?_
  refine ww_istore hX (pc := 8) (lv' := [some (kR (some 49)), some (kI a), some (kI 0), some (kI 0), some (kI (-1)), some (kI (-1)), none]) dX11_asksOf_8 (by decide) rfl rfl ?_
  refine ww_iconst hX (pc := 10) (x := 0) dX11_asksOf_10 rfl ?_
  refine ww_istore hX (pc := 11) (lv' := [some (kR (some 49)), some (kI a), some (kI 0), some (kI 0), some (kI (-1)), some (kI (-1)), some (kI 0)]) dX11_asksOf_11 (by decide) rfl rfl ?_
  have hl_13 : ∀ (n_13 : Nat) (v2 : Int) (v3 : Int) (v4 : Int) (v5 : Int) (v6 : Int), (8 - v6).toNat = n_13 → ((0 ≤ v6 ∧ v6 ≤ 8)) → WW X 13 [some (kR (some 49)), some (kI a), some (kI v2), some (kI v3), some (kI v4), some (kI v5), some (kI v6)] [] Ia Ja Ra Sa 0 0 := by
    intro n_13
    induction n_13 using Nat.strongRecOn with
    | ind n_13 ih_13 =>
      intro v2 v3 v4 v5 v6 hm_13 hv_13
      have hq_13 := Sh0_i hm_13
      clear hm_13
      have hv := hv_13
      refine ww_iload hX (pc := 13) dX11_asksOf_13 rfl ?_
      refine ww_aload_n hX (pc := 15) dX11_asksOf_15 rfl ?_
      refine ww_getR hX (pc := 16) fX11_20 (by decide) (xs_49 hL) (xr_49_3 hL) dX11_asksOf_16 ?_
      refine ww_sipush hX (pc := 19) (x := 304) dX11_asksOf_19 (by decide) ?_
      refine ww_iald hX (pc := 22) (xs_51 hL) (by decide) (by omega) (by omega) dX11_asksOf_22 ?_
      refine ww_toI (b := Ia 51 304) rfl ?_
      refine ww_icmp_ge hX (pc := 23) (tgt := 77) dX11_asksOf_23 (by decide) (fun h_23 => ?_) (fun h_23 => ?_)
      · simp only [w32_mod] at h_23
        refine ww_aload_n hX (pc := 77) dX11_asksOf_77 rfl ?_
        refine ww_getR hX (pc := 78) fX11_52 (by decide) (xs_49 hL) (xr_49_22 hL) dX11_asksOf_78 ?_
        refine ww_iconst hX (pc := 81) (x := 0) dX11_asksOf_81 rfl ?_
        refine ww_iload_n hX (pc := 82) dX11_asksOf_82 rfl ?_
        refine ww_iast hX (pc := 83) (xs_60 hL) (by decide) (by omega) (by omega) dX11_asksOf_83 ?_
        refine ww_nmH (fun I_83 eI_83 => ?_)
        have kI_83 : Ch [60] [] Ia I_83 := by rw [eI_83]; exact Ch_r Ch_rf (by decide) (by decide)
        have cI_83 : RX I_83 := by rw [eI_83]; exact RX_r hQ (by decide)
        have qI_83 := RX_o cI_83
        have r304_I_83 : I_83 51 304 = Ia 51 304 := by rw [eI_83, up2_off _ _ _ (by decide)]
        have r305_I_83 : I_83 51 305 = Ia 51 305 := by rw [eI_83, up2_off _ _ _ (by decide)]
        have rf_I_83 : FU (I_83 51 304) = FU (Ia 51 304) := by rw [r304_I_83]
        refine ww_aload_n hX (pc := 84) dX11_asksOf_84 rfl ?_
        refine ww_getR hX (pc := 85) fX11_52 (by decide) (xs_49 hL) (xr_49_22 hL) dX11_asksOf_85 ?_
        refine ww_iconst hX (pc := 88) (x := 1) dX11_asksOf_88 rfl ?_
        refine ww_iload_n hX (pc := 89) dX11_asksOf_89 rfl ?_
        refine sI1 hX (pc := 90) sX11_259 (c_X11_ones l0 ) (by decide) (Nat.le_refl 0) (Nat.le_refl 0) (Nat.le_of_ble_eq_true rfl) dX11_asksOf_90 (fun x_90 I_90 J_90 h_90 => ?_)
        obtain ⟨rfl, rfl, h_90⟩ := h_90
        refine ww_iast hX (pc := 93) (xs_60 hL) (by decide) (by omega) (by omega) dX11_asksOf_93 ?_
        refine ww_nmH (fun I_93 eI_93 => ?_)
        have kI_93 : Ch [60] [] Ia I_93 := by rw [eI_93]; exact Ch_r kI_83 (by decide) (by decide)
        have cI_93 : RX I_93 := by rw [eI_93]; exact RX_r cI_83 (by decide)
        have qI_93 := RX_o cI_93
        have r304_I_93 : I_93 51 304 = I_83 51 304 := by rw [eI_93, up2_off _ _ _ (by decide)]
        have r305_I_93 : I_93 51 305 = I_83 51 305 := by rw [eI_93, up2_off _ _ _ (by decide)]
        have rf_I_93 : FU (I_93 51 304) = FU (I_83 51 304) := by rw [r304_I_93]
        refine ww_aload_n hX (pc := 94) dX11_asksOf_94 rfl ?_
        refine ww_getR hX (pc := 95) fX11_52 (by decide) (xs_49 hL) (xr_49_22 hL) dX11_asksOf_95 ?_
        refine ww_iconst hX (pc := 98) (x := 2) dX11_asksOf_98 rfl ?_
        refine ww_iload_n hX (pc := 99) dX11_asksOf_99 rfl ?_
        refine ww_iast hX (pc := 100) (xs_60 hL) (by decide) (by omega) (by omega) dX11_asksOf_100 ?_
        refine ww_nmH (fun I_100 eI_100 => ?_)
        have kI_100 : Ch [60] [] Ia I_100 := by rw [eI_100]; exact Ch_r kI_93 (by decide) (by decide)
        have cI_100 : RX I_100 := by rw [eI_100]; exact RX_r cI_93 (by decide)
        have qI_100 := RX_o cI_100
        have r304_I_100 : I_100 51 304 = I_93 51 304 := by rw [eI_100, up2_off _ _ _ (by decide)]
        have r305_I_100 : I_100 51 305 = I_93 51 305 := by rw [eI_100, up2_off _ _ _ (by decide)]
        have rf_I_100 : FU (I_100 51 304) = FU (I_93 51 304) := by rw [r304_I_100]
        refine ww_aload_n hX (pc := 101) dX11_asksOf_101 rfl ?_
        refine ww_getR hX (pc := 102) fX11_52 (by decide) (xs_49 hL) (xr_49_22 hL) dX11_asksOf_102 ?_
        refine ww_iconst hX (pc := 105) (x := 3) dX11_asksOf_105 rfl ?_
        refine ww_iload_n hX (pc := 106) dX11_asksOf_106 rfl ?_
        refine ww_iast hX (pc := 107) (xs_60 hL) (by decide) (by omega) (by omega) dX11_asksOf_107 ?_
        refine ww_nmH (fun I_107 eI_107 => ?_)
        have kI_107 : Ch [60] [] Ia I_107 := by rw [eI_107]; exact Ch_r kI_100 (by decide) (by decide)
        have cI_107 : RX I_107 := by rw [eI_107]; exact RX_r cI_100 (by decide)
        have qI_107 := RX_o cI_107
        have r304_I_107 : I_107 51 304 = I_100 51 304 := by rw [eI_107, up2_off _ _ _ (by decide)]
        have r305_I_107 : I_107 51 305 = I_100 51 305 := by rw [eI_107, up2_off _ _ _ (by decide)]
        have rf_I_107 : FU (I_107 51 304) = FU (I_100 51 304) := by rw [r304_I_107]
        refine ww_aload_n hX (pc := 108) dX11_asksOf_108 rfl ?_
        refine ww_getR hX (pc := 109) fX11_52 (by decide) (xs_49 hL) (xr_49_22 hL) dX11_asksOf_109 ?_
        refine ww_iconst hX (pc := 112) (x := 4) dX11_asksOf_112 rfl ?_
        refine ww_iload hX (pc := 113) dX11_asksOf_113 rfl ?_
        refine ww_iast hX (pc := 115) (xs_60 hL) (by decide) (by omega) (by omega) dX11_asksOf_115 ?_
        refine ww_nmH (fun I_115 eI_115 => ?_)
        have kI_115 : Ch [60] [] Ia I_115 := by rw [eI_115]; exact Ch_r kI_107 (by decide) (by decide)
        have cI_115 : RX I_115 := by rw [eI_115]; exact RX_r cI_107 (by decide)
        have qI_115 := RX_o cI_115
        have r304_I_115 : I_115 51 304 = I_107 51 304 := by rw [eI_115, up2_off _ _ _ (by decide)]
        have r305_I_115 : I_115 51 305 = I_107 51 305 := by rw [eI_115, up2_off _ _ _ (by decide)]
        have rf_I_115 : FU (I_115 51 304) = FU (I_107 51 304) := by rw [r304_I_115]
        refine ww_aload_n hX (pc := 116) dX11_asksOf_116 rfl ?_
        refine ww_getR hX (pc := 117) fX11_52 (by decide) (xs_49 hL) (xr_49_22 hL) dX11_asksOf_117 ?_
        refine ww_iconst hX (pc := 120) (x := 5) dX11_asksOf_120 rfl ?_
        refine ww_iload hX (pc := 121) dX11_asksOf_121 rfl ?_
        refine ww_iast hX (pc := 123) (xs_60 hL) (by decide) (by omega) (by omega) dX11_asksOf_123 ?_
        refine ww_nmH (fun I_123 eI_123 => ?_)
        have kI_123 : Ch [60] [] Ia I_123 := by rw [eI_123]; exact Ch_r kI_115 (by decide) (by decide)
        have cI_123 : RX I_123 := by rw [eI_123]; exact RX_r cI_115 (by decide)
        have qI_123 := RX_o cI_123
        have r304_I_123 : I_123 51 304 = I_115 51 304 := by rw [eI_123, up2_off _ _ _ (by decide)]
        have r305_I_123 : I_123 51 305 = I_115 51 305 := by rw [eI_123, up2_off _ _ _ (by decide)]
        have rf_I_123 : FU (I_123 51 304) = FU (I_115 51 304) := by rw [r304_I_123]
        refine ww_aload_n hX (pc := 124) dX11_asksOf_124 rfl ?_
        refine ww_getR hX (pc := 125) fX11_52 (by decide) (xs_49 hL) (xr_49_22 hL) dX11_asksOf_125 ?_
        refine ww_bipush hX (pc := 128) (x := 6) dX11_asksOf_128 (by decide) ?_
        refine ww_aload_n hX (pc := 130) dX11_asksOf_130 rfl ?_
        refine ww_getR hX (pc := 131) fX11_20 (by decide) (xs_49 hL) (xr_49_3 hL) dX11_asksOf_131 ?_
        refine ww_sipush hX (pc := 134) (x := 304) dX11_asksOf_134 (by decide) ?_
        refine ww_iald hX (pc := 137) (xs_51 hL) (by decide) (by omega) (by omega) dX11_asksOf_137 ?_
        refine ww_toI (b := I_123 51 304) rfl ?_
        refine ww_iast hX (pc := 138) (xs_60 hL) (by decide) (by omega) (by omega) dX11_asksOf_138 ?_
        refine ww_nmH (fun I_138 eI_138 => ?_)
        have kI_138 : Ch [60] [] Ia I_138 := by rw [eI_138]; exact Ch_r kI_123 (by decide) (by decide)
        have cI_138 : RX I_138 := by rw [eI_138]; exact RX_r cI_123 (by decide)
        have qI_138 := RX_o cI_138
        have r304_I_138 : I_138 51 304 = I_123 51 304 := by rw [eI_138, up2_off _ _ _ (by decide)]
        have r305_I_138 : I_138 51 305 = I_123 51 305 := by rw [eI_138, up2_off _ _ _ (by decide)]
        have rf_I_138 : FU (I_138 51 304) = FU (I_123 51 304) := by rw [r304_I_138]
        refine ww_aload_n hX (pc := 139) dX11_asksOf_139 rfl ?_
        refine ww_getR hX (pc := 140) fX11_52 (by decide) (xs_49 hL) (xr_49_22 hL) dX11_asksOf_140 ?_
        refine ww_bipush hX (pc := 143) (x := 7) dX11_asksOf_143 (by decide) ?_
        refine ww_aload_n hX (pc := 145) dX11_asksOf_145 rfl ?_
        refine ww_getR hX (pc := 146) fX11_20 (by decide) (xs_49 hL) (xr_49_3 hL) dX11_asksOf_146 ?_
        refine ww_sipush hX (pc := 149) (x := 305) dX11_asksOf_149 (by decide) ?_
        refine ww_iald hX (pc := 152) (xs_51 hL) (by decide) (by omega) (by omega) dX11_asksOf_152 ?_
        refine ww_toI (b := I_138 51 305) rfl ?_
        refine ww_iast hX (pc := 153) (xs_60 hL) (by decide) (by omega) (by omega) dX11_asksOf_153 ?_
        refine ww_nmH (fun I_153 eI_153 => ?_)
        have kI_153 : Ch [60] [] Ia I_153 := by rw [eI_153]; exact Ch_r kI_138 (by decide) (by decide)
        have cI_153 : RX I_153 := by rw [eI_153]; exact RX_r cI_138 (by decide)
        have qI_153 := RX_o cI_153
        have r304_I_153 : I_153 51 304 = I_138 51 304 := by rw [eI_153, up2_off _ _ _ (by decide)]
        have r305_I_153 : I_153 51 305 = I_138 51 305 := by rw [eI_153, up2_off _ _ _ (by decide)]
        have rf_I_153 : FU (I_153 51 304) = FU (I_138 51 304) := by rw [r304_I_153]
        refine rV hX (pc := 154) hT (Nat.le_refl 0) (Nat.le_refl 0) dX11_asksOf_154 ?_
        exact ⟨kI_153, (Kp_rf (a := 49) (b := 73)), cI_153, trivial⟩
      · simp only [w32_mod] at h_23
        refine ww_iload_n hX (pc := 26) dX11_asksOf_26 rfl ?_
        refine ww_iload hX (pc := 27) dX11_asksOf_27 rfl ?_
        refine ww_ishr hX (pc := 29) dX11_asksOf_29 ?_
        refine ww_iconst hX (pc := 30) (x := 1) dX11_asksOf_30 rfl ?_
        refine ww_iand hX (pc := 31) dX11_asksOf_31 ?_
        refine ww_if_ne hX (pc := 32) (tgt := 38) dX11_asksOf_32 (by decide) (fun h_32 => ?_) (fun h_32 => ?_)
        · simp only [w32_mod] at h_32
          refine ww_iload_n hX (pc := 38) dX11_asksOf_38 rfl ?_
          refine ww_iload hX (pc := 39) dX11_asksOf_39 rfl ?_
          refine ww_iconst hX (pc := 41) (x := 1) dX11_asksOf_41 rfl ?_
          refine ww_iadd hX (pc := 42) dX11_asksOf_42 ?_
          refine ww_iadd hX (pc := 43) dX11_asksOf_43 ?_
          refine ww_nmI (fun v_44 hv_44 => ?_)
          refine ww_istore_n hX (pc := 44) (lv' := [some (kR (some 49)), some (kI a), some (kI v_44), some (kI v3), some (kI v4), some (kI v5), some (kI v6)]) dX11_asksOf_44 (by decide) rfl rfl ?_
          refine ww_iload_n hX (pc := 45) dX11_asksOf_45 rfl ?_
          refine ww_iload hX (pc := 46) dX11_asksOf_46 rfl ?_
          refine ww_iconst hX (pc := 48) (x := 1) dX11_asksOf_48 rfl ?_
          refine ww_iadd hX (pc := 49) dX11_asksOf_49 ?_
          refine ww_ixor hX (pc := 50) dX11_asksOf_50 ?_
          refine ww_nmI (fun v_51 hv_51 => ?_)
          refine ww_istore_n hX (pc := 51) (lv' := [some (kR (some 49)), some (kI a), some (kI v_44), some (kI v_51), some (kI v4), some (kI v5), some (kI v6)]) dX11_asksOf_51 (by decide) rfl rfl ?_
          refine ww_iload hX (pc := 52) dX11_asksOf_52 rfl ?_
          refine ww_iconst hX (pc := 54) (x := (-1)) dX11_asksOf_54 rfl ?_
          refine ww_icmp_ne hX (pc := 55) (tgt := 63) dX11_asksOf_55 (by decide) (fun h_55 => ?_) (fun h_55 => ?_)
          · simp only [w32_mod] at h_55
            refine ww_iload hX (pc := 63) dX11_asksOf_63 rfl ?_
            refine ww_istore hX (pc := 65) (lv' := [some (kR (some 49)), some (kI a), some (kI v_44), some (kI v_51), some (kI v4), some (kI v5), some (kI v6)]) dX11_asksOf_65 (by decide) rfl rfl ?_
            refine ww_iload hX (pc := 67) dX11_asksOf_67 rfl ?_
            refine ww_istore hX (pc := 69) (lv' := [some (kR (some 49)), some (kI a), some (kI v_44), some (kI v_51), some (kI v4), some (kI v6), some (kI v6)]) dX11_asksOf_69 (by decide) rfl rfl ?_
            refine ww_iinc hX (pc := 71) (lv' := [some (kR (some 49)), some (kI a), some (kI v_44), some (kI v_51), some (kI v4), some (kI v6), some (kI (v6 + 1))]) dX11_asksOf_71 rfl (by decide) rfl rfl ?_
            refine ww_goto hX (pc := 74) (tgt := 13) dX11_asksOf_74 (by decide) ?_
            exact ih_13 _ (by have hm9 := Sh0_e hq_13; omega) v_44 v_51 v4 v6 (v6 + 1) rfl (by omega)
          · simp only [w32_mod] at h_55
            refine ww_iload hX (pc := 58) dX11_asksOf_58 rfl ?_
            refine ww_goto hX (pc := 60) (tgt := 65) dX11_asksOf_60 (by decide) ?_
            refine ww_istore hX (pc := 65) (lv' := [some (kR (some 49)), some (kI a), some (kI v_44), some (kI v_51), some (kI v6), some (kI v5), some (kI v6)]) dX11_asksOf_65 (by decide) rfl rfl ?_
            refine ww_iload hX (pc := 67) dX11_asksOf_67 rfl ?_
            refine ww_istore hX (pc := 69) (lv' := [some (kR (some 49)), some (kI a), some (kI v_44), some (kI v_51), some (kI v6), some (kI v6), some (kI v6)]) dX11_asksOf_69 (by decide) rfl rfl ?_
            refine ww_iinc hX (pc := 71) (lv' := [some (kR (some 49)), some (kI a), some (kI v_44), some (kI v_51), some (kI v6), some (kI v6), some (kI (v6 + 1))]) dX11_asksOf_71 rfl (by decide) rfl rfl ?_
            refine ww_goto hX (pc := 74) (tgt := 13) dX11_asksOf_74 (by decide) ?_
            exact ih_13 _ (by have hm9 := Sh0_e hq_13; omega) v_44 v_51 v6 v6 (v6 + 1) rfl (by omega)
        · simp only [w32_mod] at h_32
          refine ww_goto hX (pc := 35) (tgt := 71) dX11_asksOf_35 (by decide) ?_
          refine ww_iinc hX (pc := 71) (lv' := [some (kR (some 49)), some (kI a), some (kI v2), some (kI v3), some (kI v4), some (kI v5), some (kI (v6 + 1))]) dX11_asksOf_71 rfl (by decide) rfl rfl ?_
          refine ww_goto hX (pc := 74) (tgt := 13) dX11_asksOf_74 (by decide) ?_
          exact ih_13 _ (by have hm9 := Sh0_e hq_13; omega) v2 v3 v4 v5 (v6 + 1) rfl (by omega)
  exact hl_13 _ 0 0 (-1) (-1) 0 rfl (by omega)
end
section
section NMR
variable {X : aX} {pc : Nat} {lv : List (Option aV)} {st : List aV} {I J : aI1} {R : aR1} {S : aS1} {uc us : Nat}
theorem ww_nmR (k : ∀ R' : aR1, R' = R → WW X pc lv st I J R' S uc us) : WW X pc lv st I J R S uc us := k R rfl
theorem ww_nmS (k : ∀ S' : aS1, S' = S → WW X pc lv st I J R S' uc us) : WW X pc lv st I J R S uc us := k S rfl
theorem ww_nmU (k : ∀ uc' us' : Nat, uc' = uc → us' = us → WW X pc lv st I J R S uc' us') : WW X pc lv st I J R S uc us := k uc us rfl rfl
end NMR
theorem KR_0 {k : Nat → Int} (h4 : k 304 = 3) (h5 : k 305 = 4) (h0 : ∀ j, j ≠ 304 → j ≠ 305 → k j = 0) : KR k := by
  unfold KR
  rw [h4, h5, h0 307 (by decide) (by decide), h0 308 (by decide) (by decide), h0 309 (by decide) (by decide), h0 310 (by decide) (by decide)]
  exact ⟨by omega, by omega, by omega, by omega, by omega, by omega, fun j h1 h2 => by rw [h0 j (by omega) (by omega)]; omega, fun t ht => absurd ht (by omega)⟩
theorem RX_0 {I : aI1} (z51 : I 51 = up1 (up1 (fun _ => 0) (304 : Int).toNat 3) (305 : Int).toNat 4) (z53 : I 53 = fun _ => 0) (z61 : I 61 = fun _ => 0) (z10 : I 49 10 = 0) (z33 : I 49 33 = 0) (z39 : I 49 39 = -1) (z54 : I 54 59 = 32) : RX I := by
  unfold RX
  rw [z51, z53, z61, z10, z33, z39, z54]
  refine ⟨KR_0 rfl rfl (fun j h1 h2 => ?_), fun i hi => Or.inl rfl, fun j hj => (by show (0 : Int) ≤ 0 ∧ (0 : Int) ≤ 256 - j; omega), by omega, by omega, by omega, rfl⟩
  show up1 (up1 (fun _ => 0) 304 3) 305 4 j = 0
  rw [up1_n _ _ h2, up1_n _ _ h1]
def layR2 : List (Nat × Nat × Nat) := layR.filter (fun q => 49 ≤ q.1)
theorem layR_2 {q : Nat × Nat × Nat} (h : q ∈ layR) (h2 : ¬ q.1 < 49) : q ∈ layR2 := List.mem_filter.mpr ⟨h, by simpa using h2⟩
end
