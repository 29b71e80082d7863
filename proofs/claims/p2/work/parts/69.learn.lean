/-- kept shut -/
def Shut (p : Prop) : Prop := p
set_option maxHeartbeats 4000000 in
set_option maxRecDepth 20000 in
theorem c_X11_toldBy (l0 : Launch) {Ia Ja : aI1} {Ra : aR1} {Sa : aS1} (hL : LY Ra Sa) (hQ : RX Ia) {q : Int} (hq0 : 0 ≤ q) (hq1 : q < Ia 51 310)  : CT l0 46 0 0 mX11_toldBy [kR (some 49), kI q] Ia Ja Ra Sa (cI (fun x I' J' => Ch [] [19, 20, 21] Ia I' ∧ Kp 49 73 Ja J' ∧ RX I' ∧ True) Ra Sa) := by
  refine ct_in pn_X11 (Nat.le_of_ble_eq_true rfl) (fun X hX hT hIn => ?_)
  have hX : aK l0 X cX11_toldBy 8 RX11 (some .int) 46 0 0 := hX
  change WW X 0 [some (kR (some 49)), some (kI q), none, none, none, none, none, none] [] Ia Ja Ra Sa 0 0
  have qIa := RX_w hQ
  have h310 := hQ.1.2.2.2.2.2.1
  refine ww_aload_n hX (pc := 0) dX11_toldBy_0 rfl ?_
  refine ww_sipush hX (pc := 1) (x := 400) dX11_toldBy_1 (by decide) ?_
  refine ww_iload_n hX (pc := 4) dX11_toldBy_4 rfl ?_
  refine ww_imul hX (pc := 5) dX11_toldBy_5 ?_
  refine ww_putI hX (pc := 6) (fun h9 => absurd h9 (by decide)) gX11_215 rfl (xs_49 hL) dX11_toldBy_6 ?_
  refine ww_nmH (fun I_6 eI_6 => ?_)
  have kI_6 : Ch [] [19, 20, 21] Ia I_6 := by rw [eI_6]; exact Ch_f Ch_rf (by decide)
  have cI_6 : RX I_6 := by rw [eI_6]; exact RX_f hQ (by decide)
  have qI_6 := RX_w cI_6
  have f20_I_6 : I_6 49 20 = Ia 49 20 := by rw [eI_6, up2_n _ _ (Or.inr (by decide))]
  have f21_I_6 : I_6 49 21 = Ia 49 21 := by rw [eI_6, up2_n _ _ (Or.inr (by decide))]
  have g6 : I_6 49 19 = 400 * q := by rw [eI_6, up2_s]
  refine ww_aload_n hX (pc := 9) dX11_toldBy_9 rfl ?_
  refine ww_aload_n hX (pc := 10) dX11_toldBy_10 rfl ?_
  refine ww_getI hX (pc := 11) fX11_215 (by decide) (xs_49 hL) dX11_toldBy_11 ?_
  refine ww_aload_n hX (pc := 14) dX11_toldBy_14 rfl ?_
  refine ww_getR hX (pc := 15) fX11_20 (by decide) (xs_49 hL) (xr_49_3 hL) dX11_toldBy_15 ?_
  refine ww_sipush hX (pc := 18) (x := 311) dX11_toldBy_18 (by decide) ?_
  refine ww_iload_n hX (pc := 21) dX11_toldBy_21 rfl ?_
  refine ww_iadd hX (pc := 22) dX11_toldBy_22 ?_
  refine ww_iald hX (pc := 23) (xs_51 hL) (by decide) (by omega) (by omega) dX11_toldBy_23 ?_
  refine ww_iadd hX (pc := 24) dX11_toldBy_24 ?_
  refine ww_putI hX (pc := 25) (fun h9 => absurd h9 (by decide)) gX11_212 rfl (xs_49 hL) dX11_toldBy_25 ?_
  refine ww_nmH (fun I_25 eI_25 => ?_)
  have kI_25 : Ch [] [19, 20, 21] Ia I_25 := by rw [eI_25]; exact Ch_f kI_6 (by decide)
  have cI_25 : RX I_25 := by rw [eI_25]; exact RX_f cI_6 (by decide)
  have qI_25 := RX_w cI_25
  have f19_I_25 : I_25 49 19 = I_6 49 19 := by rw [eI_25, up2_n _ _ (Or.inr (by decide))]
  have f21_I_25 : I_25 49 21 = I_6 49 21 := by rw [eI_25, up2_n _ _ (Or.inr (by decide))]
  have g19 : I_25 49 19 = 400 * q := by omega
  have g20 : I_25 49 20 = 400 * q + I_25 51 (311 + q).toNat := by rw [eI_25, up2_s, up2_off _ _ _ (by decide)]; omega
  have hq9 : q < I_25 51 310 := by rw [show I_25 51 = Ia 51 from kI_25.1 51 (by decide) (by decide)]; exact hq1
  obtain ⟨t, ht9⟩ : ∃ t, q.toNat = t := ⟨_, rfl⟩
  have vI_25 := EV_0 cI_25 hq0 hq9 g19 g20
  have hlaw := (RX_lg cI_25 q.toNat (by omega)).2
  rw [ht9] at vI_25 hlaw
  obtain ⟨c, hc9⟩ : ∃ c, cvw (I_25 51) t = c := ⟨_, rfl⟩
  obtain ⟨n9, hn9⟩ : ∃ n9, (I_25 51 (311 + t)).toNat = n9 := ⟨_, rfl⟩
  rw [hc9] at vI_25 hlaw
  rw [hn9] at hlaw
  have oI_25 := EV_o vI_25
  have s25 : I_25 51 (311 + t) = Ia 51 (311 + t) := by rw [show I_25 51 = Ia 51 from kI_25.1 51 (by decide) (by decide)]
  refine ww_ldc2 hX (pc := 28) (x := (-1)) dX11_toldBy_28 tb_1398 ?_
  refine ww_lstore_n hX (pc := 31) (lv' := [some (kR (some 49)), some (kI q), some (kL (-1)), none, none, none, none, none]) dX11_toldBy_31 (by decide) rfl rfl ?_
  have hl_32 : ∀ (n_32 : Nat) (td : Int) (I32 : aI1) (J32 : aI1), (400 * t + 402 - I32 49 19).toNat = n_32 → (Ch [] [19, 20, 21] Ia I32 ∧ RX I32 ∧ Kp 49 73 Ja J32 ∧ ∃ p9 : Nat, EV I32 t c p9 ∧ Shut (n9 ≤ p9 ∨ ∃ m, GLaw c n9 m p9)) → WW X 32 [some (kR (some 49)), some (kI q), some (kL td), none, none, none, none, none] [] I32 J32 Ra Sa 0 0 := by
    intro n_32
    induction n_32 using Nat.strongRecOn with
    | ind n_32 ih_32 =>
      intro td I32 J32 hm_32 hv_32
      obtain ⟨kI32, cI32, kJ32, p9, vI32, hor⟩ := hv_32
      have qI32 := RX_w cI32
      have oI32 := EV_o vI32
      refine ww_aload_n hX (pc := 32) dX11_toldBy_32 rfl ?_
      refine ww_getI hX (pc := 33) fX11_215 (by decide) (xs_49 hL) dX11_toldBy_33 ?_
      refine ww_aload_n hX (pc := 36) dX11_toldBy_36 rfl ?_
      refine ww_getI hX (pc := 37) fX11_212 (by decide) (xs_49 hL) dX11_toldBy_37 ?_
      refine ww_icmp_ge hX (pc := 40) (tgt := 132) dX11_toldBy_40 (by decide) (fun h_40 => ?_) (fun h_40 => ?_)
      · simp only [w32_mod] at h_40
        refine ww_lload_n hX (pc := 132) dX11_toldBy_132 rfl ?_
        refine ww_lconst hX (pc := 133) (x := 0) dX11_toldBy_133 (by decide) ?_
        refine ww_lcmp hX (pc := 134) dX11_toldBy_134 ?_
        refine ww_if_lt hX (pc := 135) (tgt := 157) dX11_toldBy_135 (by decide) (fun h_135 => ?_) (fun h_135 => ?_)
        · simp only [w32_mod] at h_135
          refine ww_iconst hX (pc := 157) (x := (-1)) dX11_toldBy_157 rfl ?_
          refine rI hX (pc := 158) hT (Nat.le_refl 0) (Nat.le_refl 0) dX11_toldBy_158 ?_
          exact ⟨kI32, kJ32, cI32, trivial⟩
        · simp only [w32_mod] at h_135
          refine ww_lload_n hX (pc := 138) dX11_toldBy_138 rfl ?_
          refine ww_aload_n hX (pc := 139) dX11_toldBy_139 rfl ?_
          refine ww_getR hX (pc := 140) fX11_20 (by decide) (xs_49 hL) (xr_49_3 hL) dX11_toldBy_140 ?_
          refine ww_sipush hX (pc := 143) (x := 305) dX11_toldBy_143 (by decide) ?_
          refine ww_iald hX (pc := 146) (xs_51 hL) (by decide) (by omega) (by omega) dX11_toldBy_146 ?_
          refine ww_toI (b := I32 51 305) rfl ?_
          refine ww_i2l hX (pc := 147) dX11_toldBy_147 ?_
          refine ww_lcmp hX (pc := 148) dX11_toldBy_148 ?_
          refine ww_if_ge hX (pc := 149) (tgt := 157) dX11_toldBy_149 (by decide) (fun h_149 => ?_) (fun h_149 => ?_)
          · simp only [w32_mod] at h_149
            refine ww_iconst hX (pc := 157) (x := (-1)) dX11_toldBy_157 rfl ?_
            refine rI hX (pc := 158) hT (Nat.le_refl 0) (Nat.le_refl 0) dX11_toldBy_158 ?_
            exact ⟨kI32, kJ32, cI32, trivial⟩
          · simp only [w32_mod] at h_149
            refine ww_lload_n hX (pc := 152) dX11_toldBy_152 rfl ?_
            refine ww_l2i hX (pc := 153) dX11_toldBy_153 ?_
            refine ww_goto hX (pc := 154) (tgt := 158) dX11_toldBy_154 (by decide) ?_
            refine rI hX (pc := 158) hT (Nat.le_refl 0) (Nat.le_refl 0) dX11_toldBy_158 ?_
            exact ⟨kI32, kJ32, cI32, trivial⟩
      · simp only [w32_mod] at h_40
        have s32 : I32 51 (311 + t) = Ia 51 (311 + t) := by rw [show I32 51 = Ia 51 from kI32.1 51 (by decide) (by decide)]
        obtain ⟨m9, hm9⟩ : ∃ m, GLaw c n9 m p9 := Or.resolve_left hor (by omega)
        obtain ⟨b9, hcl, hbn, hnx9⟩ := GLaw_cl hm9
        have hnx : Shut (n9 ≤ b9 + 1 ∨ ∃ m, GLaw c n9 m (b9 + 1)) := hnx9.imp (fun e => by omega) (fun e => e)
        clear hnx9
        have hlt9 := GClause_lt hcl
        obtain ⟨hc1, d9, hGs, hds⟩ := hcl
        replace hds : Shut _ := hds
        have hz9 := EV_z (i := p9) vI32 (by omega)
        refine ww_aload_n hX (pc := 43) dX11_toldBy_43 rfl ?_
        refine ww_iconst hX (pc := 44) (x := 0) dX11_toldBy_44 rfl ?_
        refine ww_putZ hX (pc := 45) (fun h9 => absurd h9 (by decide)) gX11_225 rfl (by decide) (xs_49 hL) dX11_toldBy_45 ?_
        refine ww_nmH (fun I_45 eI_45 => ?_)
        have kI_45 : Ch [] [19, 20, 21] Ia I_45 := by rw [eI_45]; exact Ch_f kI32 (by decide)
        have cI_45 : RX I_45 := by rw [eI_45]; exact RX_f cI32 (by decide)
        have qI_45 := RX_w cI_45
        have f19_I_45 : I_45 49 19 = I32 49 19 := by rw [eI_45, up2_n _ _ (Or.inr (by decide))]
        have f20_I_45 : I_45 49 20 = I32 49 20 := by rw [eI_45, up2_n _ _ (Or.inr (by decide))]
        have vI_45 : EV I_45 t c p9 := EV_st vI32 (by rw [eI_45, up2_off _ _ _ (by decide)]) (by omega) (by omega) (by omega)
        have oI_45 := EV_o vI_45
        refine ww_aload_n hX (pc := 48) dX11_toldBy_48 rfl ?_
        refine ww_dupR hX (pc := 49) dX11_toldBy_49 ?_
        refine ww_getI hX (pc := 50) fX11_215 (by decide) (xs_49 hL) dX11_toldBy_50 ?_
        refine ww_iconst hX (pc := 53) (x := 1) dX11_toldBy_53 rfl ?_
        refine ww_iadd hX (pc := 54) dX11_toldBy_54 ?_
        refine ww_putI hX (pc := 55) (fun h9 => absurd h9 (by decide)) gX11_215 rfl (xs_49 hL) dX11_toldBy_55 ?_
        refine ww_nmH (fun I_55 eI_55 => ?_)
        have kI_55 : Ch [] [19, 20, 21] Ia I_55 := by rw [eI_55]; exact Ch_f kI_45 (by decide)
        have cI_55 : RX I_55 := by rw [eI_55]; exact RX_f cI_45 (by decide)
        have qI_55 := RX_w cI_55
        have f20_I_55 : I_55 49 20 = I_45 49 20 := by rw [eI_55, up2_n _ _ (Or.inr (by decide))]
        have f21_I_55 : I_55 49 21 = I_45 49 21 := by rw [eI_55, up2_n _ _ (Or.inr (by decide))]
        have vI_55 : EV I_55 t c (p9 + 1) := EV_st vI_45 (by rw [eI_55, up2_off _ _ _ (by decide)]) (by omega) (by rw [eI_55, up2_s]; omega) (by omega)
        have oI_55 := EV_o vI_55
        refine ww_aload_n hX (pc := 58) dX11_toldBy_58 rfl ?_
        refine ww_iconst hX (pc := 59) (x := 1) dX11_toldBy_59 rfl ?_
        refine vJ1 hX (pc := 60) sX11_243 (xs_49 hL) (c_ESum l0 8 hL cI_55 (by omega) vI_55 hGs) (by decide) (Nat.le_refl 0) (Nat.le_refl 0) (Nat.le_of_ble_eq_true rfl) dX11_toldBy_60 (fun x_60 I_60 J_60 h_60 => ?_)
        have kJ_60 : Kp 49 73 Ja J_60 := Kp_tr kJ32 h_60.2.1
        have kI_60 : Ch [] [19, 20, 21] Ia I_60 := Ch_tr kI_55 (Ch_wd h_60.1 (by decide) (by decide))
        have cI_60 : RX I_60 := h_60.2.2.1
        have qI_60 := RX_w cI_60
        have f20_I_60 : I_60 49 20 = I_55 49 20 := h_60.1.2 20 (by decide)
        have vI_60 : EV I_60 t c d9 := h_60.2.2.2.1
        have oI_60 := EV_o vI_60
        have yI_60 := h_60.2.2.2.2
        refine ww_lstore hX (pc := 63) (lv' := [some (kR (some 49)), some (kI q), some (kL td), none, some (kL x_60), none, none, none]) dX11_toldBy_63 (by decide) rfl rfl ?_
        refine ww_aload_n hX (pc := 65) dX11_toldBy_65 rfl ?_
        refine ww_getI hX (pc := 66) fX11_225 (by decide) (xs_49 hL) dX11_toldBy_66 ?_
        refine ww_nmI (fun v_69 hv_69 => ?_)
        refine ww_istore hX (pc := 69) (lv' := [some (kR (some 49)), some (kI q), some (kL td), none, some (kL x_60), none, some (kI v_69), none]) dX11_toldBy_69 (by decide) rfl rfl ?_
        refine ww_aload_n hX (pc := 71) dX11_toldBy_71 rfl ?_
        refine ww_iconst hX (pc := 72) (x := 0) dX11_toldBy_72 rfl ?_
        refine ww_putZ hX (pc := 73) (fun h9 => absurd h9 (by decide)) gX11_225 rfl (by decide) (xs_49 hL) dX11_toldBy_73 ?_
        refine ww_nmH (fun I_73 eI_73 => ?_)
        have kI_73 : Ch [] [19, 20, 21] Ia I_73 := by rw [eI_73]; exact Ch_f kI_60 (by decide)
        have cI_73 : RX I_73 := by rw [eI_73]; exact RX_f cI_60 (by decide)
        have qI_73 := RX_w cI_73
        have f19_I_73 : I_73 49 19 = I_60 49 19 := by rw [eI_73, up2_n _ _ (Or.inr (by decide))]
        have f20_I_73 : I_73 49 20 = I_60 49 20 := by rw [eI_73, up2_n _ _ (Or.inr (by decide))]
        have vI_73 : EV I_73 t c d9 := EV_st vI_60 (by rw [eI_73, up2_off _ _ _ (by decide)]) (by omega) (by omega) (by omega)
        have oI_73 := EV_o vI_73
        refine ww_aload_n hX (pc := 76) dX11_toldBy_76 rfl ?_
        refine ww_iconst hX (pc := 77) (x := 2) dX11_toldBy_77 rfl ?_
        refine vI1 hX (pc := 78) sX11_240 (xs_49 hL) (c_X11_passes0 l0 hL cI_73  (by omega) (by omega) vI_73) (by decide) (Nat.le_refl 0) (Nat.le_refl 0) (Nat.le_of_ble_eq_true rfl) dX11_toldBy_78 (fun x_78 I_78 J_78 h_78 => ?_)
        have kJ_78 : Kp 49 73 Ja J_78 := Kp_tr kJ_60 h_78.2.1
        have kI_78 : Ch [] [19, 20, 21] Ia I_78 := Ch_tr kI_73 (Ch_wd h_78.1 (by decide) (by decide))
        have cI_78 : RX I_78 := h_78.2.2.1
        have qI_78 := RX_w cI_78
        have f20_I_78 : I_78 49 20 = I_73 49 20 := h_78.1.2 20 (by decide)
        have f21_I_78 : I_78 49 21 = I_73 49 21 := h_78.1.2 21 (by decide)
        have vI_78 : EV I_78 t c (d9 + x_78.toNat) := h_78.2.2.2.1
        have oI_78 := EV_o vI_78
        have yI_78 := h_78.2.2.2.2
        refine ww_if_eq hX (pc := 81) (tgt := 92) dX11_toldBy_81 (by decide) (fun h_81 => ?_) (fun h_81 => ?_)
        · simp only [w32_mod] at h_81
          have hds1 : b9 = d9 := (Or.resolve_left hds (fun g => PS_0 yI_78.2 (by omega) g.1)).2
          have w78 : EV I_78 t c b9 := EV_to vI_78 (by omega)
          refine ww_iconst hX (pc := 92) (x := 1) dX11_toldBy_92 rfl ?_
          refine ww_goto hX (pc := 93) (tgt := 97) dX11_toldBy_93 (by decide) ?_
          refine ww_istore hX (pc := 97) (lv' := [some (kR (some 49)), some (kI q), some (kL td), none, some (kL x_60), none, some (kI v_69), some (kI 1)]) dX11_toldBy_97 (by decide) rfl rfl ?_
          refine ww_iload hX (pc := 99) dX11_toldBy_99 rfl ?_
          refine ww_if_eq hX (pc := 101) (tgt := 119) dX11_toldBy_101 (by decide) (fun h_101 => ?_) (fun h_101 => ?_)
          · simp only [w32_mod] at h_101
            refine ww_aload_n hX (pc := 119) dX11_toldBy_119 rfl ?_
            refine ww_dupR hX (pc := 120) dX11_toldBy_120 ?_
            refine ww_getI hX (pc := 121) fX11_215 (by decide) (xs_49 hL) dX11_toldBy_121 ?_
            refine ww_iconst hX (pc := 124) (x := 1) dX11_toldBy_124 rfl ?_
            refine ww_iadd hX (pc := 125) dX11_toldBy_125 ?_
            refine ww_putI hX (pc := 126) (fun h9 => absurd h9 (by decide)) gX11_215 rfl (xs_49 hL) dX11_toldBy_126 ?_
            refine ww_nmH (fun I_126 eI_126 => ?_)
            have kI_126 : Ch [] [19, 20, 21] Ia I_126 := by rw [eI_126]; exact Ch_f kI_78 (by decide)
            have cI_126 : RX I_126 := by rw [eI_126]; exact RX_f cI_78 (by decide)
            have qI_126 := RX_w cI_126
            have f20_I_126 : I_126 49 20 = I_78 49 20 := by rw [eI_126, up2_n _ _ (Or.inr (by decide))]
            have f21_I_126 : I_126 49 21 = I_78 49 21 := by rw [eI_126, up2_n _ _ (Or.inr (by decide))]
            have vI_126 : EV I_126 t c (b9 + 1) := EV_st w78 (by rw [eI_126, up2_off _ _ _ (by decide)]) (by omega) (by rw [eI_126, up2_s]; omega) (by omega)
            have oI_126 := EV_o vI_126
            refine ww_goto hX (pc := 129) (tgt := 32) dX11_toldBy_129 (by decide) ?_
            refine ww_sub [some (kR (some 49)), some (kI q), some (kL td), none, none, none, none, none] (aLe_s (aLe_s (aLe_s (aLe_n (aLe_n (aLe_n (aLe_n (aLe_n aLe_0)))))))) ?_
            exact ih_32 _ (by omega) td I_126 J_78 rfl ⟨kI_126, cI_126, kJ_78, ⟨b9 + 1, vI_126, hnx⟩⟩
          · simp only [w32_mod] at h_101
            refine ww_aload_n hX (pc := 104) dX11_toldBy_104 rfl ?_
            refine ww_getI hX (pc := 105) fX11_225 (by decide) (xs_49 hL) dX11_toldBy_105 ?_
            refine ww_if_ne hX (pc := 108) (tgt := 119) dX11_toldBy_108 (by decide) (fun h_108 => ?_) (fun h_108 => ?_)
            · simp only [w32_mod] at h_108
              refine ww_aload_n hX (pc := 119) dX11_toldBy_119 rfl ?_
              refine ww_dupR hX (pc := 120) dX11_toldBy_120 ?_
              refine ww_getI hX (pc := 121) fX11_215 (by decide) (xs_49 hL) dX11_toldBy_121 ?_
              refine ww_iconst hX (pc := 124) (x := 1) dX11_toldBy_124 rfl ?_
              refine ww_iadd hX (pc := 125) dX11_toldBy_125 ?_
              refine ww_putI hX (pc := 126) (fun h9 => absurd h9 (by decide)) gX11_215 rfl (xs_49 hL) dX11_toldBy_126 ?_
              refine ww_nmH (fun I_126 eI_126 => ?_)
              have kI_126 : Ch [] [19, 20, 21] Ia I_126 := by rw [eI_126]; exact Ch_f kI_78 (by decide)
              have cI_126 : RX I_126 := by rw [eI_126]; exact RX_f cI_78 (by decide)
              have qI_126 := RX_w cI_126
              have f20_I_126 : I_126 49 20 = I_78 49 20 := by rw [eI_126, up2_n _ _ (Or.inr (by decide))]
              have f21_I_126 : I_126 49 21 = I_78 49 21 := by rw [eI_126, up2_n _ _ (Or.inr (by decide))]
              have vI_126 : EV I_126 t c (b9 + 1) := EV_st w78 (by rw [eI_126, up2_off _ _ _ (by decide)]) (by omega) (by rw [eI_126, up2_s]; omega) (by omega)
              have oI_126 := EV_o vI_126
              refine ww_goto hX (pc := 129) (tgt := 32) dX11_toldBy_129 (by decide) ?_
              refine ww_sub [some (kR (some 49)), some (kI q), some (kL td), none, none, none, none, none] (aLe_s (aLe_s (aLe_s (aLe_n (aLe_n (aLe_n (aLe_n (aLe_n aLe_0)))))))) ?_
              exact ih_32 _ (by omega) td I_126 J_78 rfl ⟨kI_126, cI_126, kJ_78, ⟨b9 + 1, vI_126, hnx⟩⟩
            · simp only [w32_mod] at h_108
              refine ww_iload hX (pc := 111) dX11_toldBy_111 rfl ?_
              refine ww_if_ne hX (pc := 113) (tgt := 119) dX11_toldBy_113 (by decide) (fun h_113 => ?_) (fun h_113 => ?_)
              · simp only [w32_mod] at h_113
                refine ww_aload_n hX (pc := 119) dX11_toldBy_119 rfl ?_
                refine ww_dupR hX (pc := 120) dX11_toldBy_120 ?_
                refine ww_getI hX (pc := 121) fX11_215 (by decide) (xs_49 hL) dX11_toldBy_121 ?_
                refine ww_iconst hX (pc := 124) (x := 1) dX11_toldBy_124 rfl ?_
                refine ww_iadd hX (pc := 125) dX11_toldBy_125 ?_
                refine ww_putI hX (pc := 126) (fun h9 => absurd h9 (by decide)) gX11_215 rfl (xs_49 hL) dX11_toldBy_126 ?_
                refine ww_nmH (fun I_126 eI_126 => ?_)
                have kI_126 : Ch [] [19, 20, 21] Ia I_126 := by rw [eI_126]; exact Ch_f kI_78 (by decide)
                have cI_126 : RX I_126 := by rw [eI_126]; exact RX_f cI_78 (by decide)
                have qI_126 := RX_w cI_126
                have f20_I_126 : I_126 49 20 = I_78 49 20 := by rw [eI_126, up2_n _ _ (Or.inr (by decide))]
                have f21_I_126 : I_126 49 21 = I_78 49 21 := by rw [eI_126, up2_n _ _ (Or.inr (by decide))]
                have vI_126 : EV I_126 t c (b9 + 1) := EV_st w78 (by rw [eI_126, up2_off _ _ _ (by decide)]) (by omega) (by rw [eI_126, up2_s]; omega) (by omega)
                have oI_126 := EV_o vI_126
                refine ww_goto hX (pc := 129) (tgt := 32) dX11_toldBy_129 (by decide) ?_
                refine ww_sub [some (kR (some 49)), some (kI q), some (kL td), none, none, none, none, none] (aLe_s (aLe_s (aLe_s (aLe_n (aLe_n (aLe_n (aLe_n (aLe_n aLe_0)))))))) ?_
                exact ih_32 _ (by omega) td I_126 J_78 rfl ⟨kI_126, cI_126, kJ_78, ⟨b9 + 1, vI_126, hnx⟩⟩
              · simp only [w32_mod] at h_113
                refine ww_lload hX (pc := 116) dX11_toldBy_116 rfl ?_
                refine ww_lstore_n hX (pc := 118) (lv' := [some (kR (some 49)), some (kI q), some (kL x_60), none, some (kL x_60), none, some (kI v_69), some (kI 1)]) dX11_toldBy_118 (by decide) rfl rfl ?_
                refine ww_aload_n hX (pc := 119) dX11_toldBy_119 rfl ?_
                refine ww_dupR hX (pc := 120) dX11_toldBy_120 ?_
                refine ww_getI hX (pc := 121) fX11_215 (by decide) (xs_49 hL) dX11_toldBy_121 ?_
                refine ww_iconst hX (pc := 124) (x := 1) dX11_toldBy_124 rfl ?_
                refine ww_iadd hX (pc := 125) dX11_toldBy_125 ?_
                refine ww_putI hX (pc := 126) (fun h9 => absurd h9 (by decide)) gX11_215 rfl (xs_49 hL) dX11_toldBy_126 ?_
                refine ww_nmH (fun I_126 eI_126 => ?_)
                have kI_126 : Ch [] [19, 20, 21] Ia I_126 := by rw [eI_126]; exact Ch_f kI_78 (by decide)
                have cI_126 : RX I_126 := by rw [eI_126]; exact RX_f cI_78 (by decide)
                have qI_126 := RX_w cI_126
                have f20_I_126 : I_126 49 20 = I_78 49 20 := by rw [eI_126, up2_n _ _ (Or.inr (by decide))]
                have f21_I_126 : I_126 49 21 = I_78 49 21 := by rw [eI_126, up2_n _ _ (Or.inr (by decide))]
                have vI_126 : EV I_126 t c (b9 + 1) := EV_st w78 (by rw [eI_126, up2_off _ _ _ (by decide)]) (by omega) (by rw [eI_126, up2_s]; omega) (by omega)
                have oI_126 := EV_o vI_126
                refine ww_goto hX (pc := 129) (tgt := 32) dX11_toldBy_129 (by decide) ?_
                refine ww_sub [some (kR (some 49)), some (kI q), some (kL x_60), none, none, none, none, none] (aLe_s (aLe_s (aLe_s (aLe_n (aLe_n (aLe_n (aLe_n (aLe_n aLe_0)))))))) ?_
                exact ih_32 _ (by omega) x_60 I_126 J_78 rfl ⟨kI_126, cI_126, kJ_78, ⟨b9 + 1, vI_126, hnx⟩⟩
        · simp only [w32_mod] at h_81
          have hGt := (Or.resolve_right hds (fun g => g.1 (PS_1 yI_78.2 (by omega)))).2
          have w78 : EV I_78 t c (d9 + 1) := EV_to vI_78 (by omega)
          refine ww_aload_n hX (pc := 84) dX11_toldBy_84 rfl ?_
          refine ww_iconst hX (pc := 85) (x := 1) dX11_toldBy_85 rfl ?_
          refine vI1 hX (pc := 86) sX11_256 (xs_49 hL) (c_ETest l0 8 hL cI_78 (by omega) w78 hGt) (by decide) (Nat.le_refl 0) (Nat.le_refl 0) (Nat.le_of_ble_eq_true rfl) dX11_toldBy_86 (fun x_86 I_86 J_86 h_86 => ?_)
          have kJ_86 : Kp 49 73 Ja J_86 := Kp_tr kJ_78 h_86.2.1
          have kI_86 : Ch [] [19, 20, 21] Ia I_86 := Ch_tr kI_78 (Ch_wd h_86.1 (by decide) (by decide))
          have cI_86 : RX I_86 := h_86.2.2.1
          have qI_86 := RX_w cI_86
          have f20_I_86 : I_86 49 20 = I_78 49 20 := h_86.1.2 20 (by decide)
          have vI_86 : EV I_86 t c b9 := h_86.2.2.2.1
          have oI_86 := EV_o vI_86
          have yI_86 := h_86.2.2.2.2
          refine ww_if_eq hX (pc := 89) (tgt := 96) dX11_toldBy_89 (by decide) (fun h_89 => ?_) (fun h_89 => ?_)
          · simp only [w32_mod] at h_89
            refine ww_iconst hX (pc := 96) (x := 0) dX11_toldBy_96 rfl ?_
            refine ww_istore hX (pc := 97) (lv' := [some (kR (some 49)), some (kI q), some (kL td), none, some (kL x_60), none, some (kI v_69), some (kI 0)]) dX11_toldBy_97 (by decide) rfl rfl ?_
            refine ww_iload hX (pc := 99) dX11_toldBy_99 rfl ?_
            refine ww_if_eq hX (pc := 101) (tgt := 119) dX11_toldBy_101 (by decide) (fun h_101 => ?_) (fun h_101 => ?_)
            · simp only [w32_mod] at h_101
              refine ww_aload_n hX (pc := 119) dX11_toldBy_119 rfl ?_
              refine ww_dupR hX (pc := 120) dX11_toldBy_120 ?_
              refine ww_getI hX (pc := 121) fX11_215 (by decide) (xs_49 hL) dX11_toldBy_121 ?_
              refine ww_iconst hX (pc := 124) (x := 1) dX11_toldBy_124 rfl ?_
              refine ww_iadd hX (pc := 125) dX11_toldBy_125 ?_
              refine ww_putI hX (pc := 126) (fun h9 => absurd h9 (by decide)) gX11_215 rfl (xs_49 hL) dX11_toldBy_126 ?_
              refine ww_nmH (fun I_126 eI_126 => ?_)
              have kI_126 : Ch [] [19, 20, 21] Ia I_126 := by rw [eI_126]; exact Ch_f kI_86 (by decide)
              have cI_126 : RX I_126 := by rw [eI_126]; exact RX_f cI_86 (by decide)
              have qI_126 := RX_w cI_126
              have f20_I_126 : I_126 49 20 = I_86 49 20 := by rw [eI_126, up2_n _ _ (Or.inr (by decide))]
              have f21_I_126 : I_126 49 21 = I_86 49 21 := by rw [eI_126, up2_n _ _ (Or.inr (by decide))]
              have vI_126 : EV I_126 t c (b9 + 1) := EV_st vI_86 (by rw [eI_126, up2_off _ _ _ (by decide)]) (by omega) (by rw [eI_126, up2_s]; omega) (by omega)
              have oI_126 := EV_o vI_126
              refine ww_goto hX (pc := 129) (tgt := 32) dX11_toldBy_129 (by decide) ?_
              refine ww_sub [some (kR (some 49)), some (kI q), some (kL td), none, none, none, none, none] (aLe_s (aLe_s (aLe_s (aLe_n (aLe_n (aLe_n (aLe_n (aLe_n aLe_0)))))))) ?_
              exact ih_32 _ (by omega) td I_126 J_86 rfl ⟨kI_126, cI_126, kJ_86, ⟨b9 + 1, vI_126, hnx⟩⟩
            · simp only [w32_mod] at h_101
              refine ww_aload_n hX (pc := 104) dX11_toldBy_104 rfl ?_
              refine ww_getI hX (pc := 105) fX11_225 (by decide) (xs_49 hL) dX11_toldBy_105 ?_
              refine ww_if_ne hX (pc := 108) (tgt := 119) dX11_toldBy_108 (by decide) (fun h_108 => ?_) (fun h_108 => ?_)
              · simp only [w32_mod] at h_108
                refine ww_aload_n hX (pc := 119) dX11_toldBy_119 rfl ?_
                refine ww_dupR hX (pc := 120) dX11_toldBy_120 ?_
                refine ww_getI hX (pc := 121) fX11_215 (by decide) (xs_49 hL) dX11_toldBy_121 ?_
                refine ww_iconst hX (pc := 124) (x := 1) dX11_toldBy_124 rfl ?_
                refine ww_iadd hX (pc := 125) dX11_toldBy_125 ?_
                refine ww_putI hX (pc := 126) (fun h9 => absurd h9 (by decide)) gX11_215 rfl (xs_49 hL) dX11_toldBy_126 ?_
                refine ww_nmH (fun I_126 eI_126 => ?_)
                have kI_126 : Ch [] [19, 20, 21] Ia I_126 := by rw [eI_126]; exact Ch_f kI_86 (by decide)
                have cI_126 : RX I_126 := by rw [eI_126]; exact RX_f cI_86 (by decide)
                have qI_126 := RX_w cI_126
                have f20_I_126 : I_126 49 20 = I_86 49 20 := by rw [eI_126, up2_n _ _ (Or.inr (by decide))]
                have f21_I_126 : I_126 49 21 = I_86 49 21 := by rw [eI_126, up2_n _ _ (Or.inr (by decide))]
                have vI_126 : EV I_126 t c (b9 + 1) := EV_st vI_86 (by rw [eI_126, up2_off _ _ _ (by decide)]) (by omega) (by rw [eI_126, up2_s]; omega) (by omega)
                have oI_126 := EV_o vI_126
                refine ww_goto hX (pc := 129) (tgt := 32) dX11_toldBy_129 (by decide) ?_
                refine ww_sub [some (kR (some 49)), some (kI q), some (kL td), none, none, none, none, none] (aLe_s (aLe_s (aLe_s (aLe_n (aLe_n (aLe_n (aLe_n (aLe_n aLe_0)))))))) ?_
                exact ih_32 _ (by omega) td I_126 J_86 rfl ⟨kI_126, cI_126, kJ_86, ⟨b9 + 1, vI_126, hnx⟩⟩
              · simp only [w32_mod] at h_108
                refine ww_iload hX (pc := 111) dX11_toldBy_111 rfl ?_
                refine ww_if_ne hX (pc := 113) (tgt := 119) dX11_toldBy_113 (by decide) (fun h_113 => ?_) (fun h_113 => ?_)
                · simp only [w32_mod] at h_113
                  refine ww_aload_n hX (pc := 119) dX11_toldBy_119 rfl ?_
                  refine ww_dupR hX (pc := 120) dX11_toldBy_120 ?_
                  refine ww_getI hX (pc := 121) fX11_215 (by decide) (xs_49 hL) dX11_toldBy_121 ?_
                  refine ww_iconst hX (pc := 124) (x := 1) dX11_toldBy_124 rfl ?_
                  refine ww_iadd hX (pc := 125) dX11_toldBy_125 ?_
                  refine ww_putI hX (pc := 126) (fun h9 => absurd h9 (by decide)) gX11_215 rfl (xs_49 hL) dX11_toldBy_126 ?_
                  refine ww_nmH (fun I_126 eI_126 => ?_)
                  have kI_126 : Ch [] [19, 20, 21] Ia I_126 := by rw [eI_126]; exact Ch_f kI_86 (by decide)
                  have cI_126 : RX I_126 := by rw [eI_126]; exact RX_f cI_86 (by decide)
                  have qI_126 := RX_w cI_126
                  have f20_I_126 : I_126 49 20 = I_86 49 20 := by rw [eI_126, up2_n _ _ (Or.inr (by decide))]
                  have f21_I_126 : I_126 49 21 = I_86 49 21 := by rw [eI_126, up2_n _ _ (Or.inr (by decide))]
                  have vI_126 : EV I_126 t c (b9 + 1) := EV_st vI_86 (by rw [eI_126, up2_off _ _ _ (by decide)]) (by omega) (by rw [eI_126, up2_s]; omega) (by omega)
                  have oI_126 := EV_o vI_126
                  refine ww_goto hX (pc := 129) (tgt := 32) dX11_toldBy_129 (by decide) ?_
                  refine ww_sub [some (kR (some 49)), some (kI q), some (kL td), none, none, none, none, none] (aLe_s (aLe_s (aLe_s (aLe_n (aLe_n (aLe_n (aLe_n (aLe_n aLe_0)))))))) ?_
                  exact ih_32 _ (by omega) td I_126 J_86 rfl ⟨kI_126, cI_126, kJ_86, ⟨b9 + 1, vI_126, hnx⟩⟩
                · simp only [w32_mod] at h_113
                  refine ww_lload hX (pc := 116) dX11_toldBy_116 rfl ?_
                  refine ww_lstore_n hX (pc := 118) (lv' := [some (kR (some 49)), some (kI q), some (kL x_60), none, some (kL x_60), none, some (kI v_69), some (kI 0)]) dX11_toldBy_118 (by decide) rfl rfl ?_
                  refine ww_aload_n hX (pc := 119) dX11_toldBy_119 rfl ?_
                  refine ww_dupR hX (pc := 120) dX11_toldBy_120 ?_
                  refine ww_getI hX (pc := 121) fX11_215 (by decide) (xs_49 hL) dX11_toldBy_121 ?_
                  refine ww_iconst hX (pc := 124) (x := 1) dX11_toldBy_124 rfl ?_
                  refine ww_iadd hX (pc := 125) dX11_toldBy_125 ?_
                  refine ww_putI hX (pc := 126) (fun h9 => absurd h9 (by decide)) gX11_215 rfl (xs_49 hL) dX11_toldBy_126 ?_
                  refine ww_nmH (fun I_126 eI_126 => ?_)
                  have kI_126 : Ch [] [19, 20, 21] Ia I_126 := by rw [eI_126]; exact Ch_f kI_86 (by decide)
                  have cI_126 : RX I_126 := by rw [eI_126]; exact RX_f cI_86 (by decide)
                  have qI_126 := RX_w cI_126
                  have f20_I_126 : I_126 49 20 = I_86 49 20 := by rw [eI_126, up2_n _ _ (Or.inr (by decide))]
                  have f21_I_126 : I_126 49 21 = I_86 49 21 := by rw [eI_126, up2_n _ _ (Or.inr (by decide))]
                  have vI_126 : EV I_126 t c (b9 + 1) := EV_st vI_86 (by rw [eI_126, up2_off _ _ _ (by decide)]) (by omega) (by rw [eI_126, up2_s]; omega) (by omega)
                  have oI_126 := EV_o vI_126
                  refine ww_goto hX (pc := 129) (tgt := 32) dX11_toldBy_129 (by decide) ?_
                  refine ww_sub [some (kR (some 49)), some (kI q), some (kL x_60), none, none, none, none, none] (aLe_s (aLe_s (aLe_s (aLe_n (aLe_n (aLe_n (aLe_n (aLe_n aLe_0)))))))) ?_
                  exact ih_32 _ (by omega) x_60 I_126 J_86 rfl ⟨kI_126, cI_126, kJ_86, ⟨b9 + 1, vI_126, hnx⟩⟩
          · simp only [w32_mod] at h_89
            refine ww_iconst hX (pc := 92) (x := 1) dX11_toldBy_92 rfl ?_
            refine ww_goto hX (pc := 93) (tgt := 97) dX11_toldBy_93 (by decide) ?_
            refine ww_istore hX (pc := 97) (lv' := [some (kR (some 49)), some (kI q), some (kL td), none, some (kL x_60), none, some (kI v_69), some (kI 1)]) dX11_toldBy_97 (by decide) rfl rfl ?_
            refine ww_iload hX (pc := 99) dX11_toldBy_99 rfl ?_
            refine ww_if_eq hX (pc := 101) (tgt := 119) dX11_toldBy_101 (by decide) (fun h_101 => ?_) (fun h_101 => ?_)
            · simp only [w32_mod] at h_101
              refine ww_aload_n hX (pc := 119) dX11_toldBy_119 rfl ?_
              refine ww_dupR hX (pc := 120) dX11_toldBy_120 ?_
              refine ww_getI hX (pc := 121) fX11_215 (by decide) (xs_49 hL) dX11_toldBy_121 ?_
              refine ww_iconst hX (pc := 124) (x := 1) dX11_toldBy_124 rfl ?_
              refine ww_iadd hX (pc := 125) dX11_toldBy_125 ?_
              refine ww_putI hX (pc := 126) (fun h9 => absurd h9 (by decide)) gX11_215 rfl (xs_49 hL) dX11_toldBy_126 ?_
              refine ww_nmH (fun I_126 eI_126 => ?_)
              have kI_126 : Ch [] [19, 20, 21] Ia I_126 := by rw [eI_126]; exact Ch_f kI_86 (by decide)
              have cI_126 : RX I_126 := by rw [eI_126]; exact RX_f cI_86 (by decide)
              have qI_126 := RX_w cI_126
              have f20_I_126 : I_126 49 20 = I_86 49 20 := by rw [eI_126, up2_n _ _ (Or.inr (by decide))]
              have f21_I_126 : I_126 49 21 = I_86 49 21 := by rw [eI_126, up2_n _ _ (Or.inr (by decide))]
              have vI_126 : EV I_126 t c (b9 + 1) := EV_st vI_86 (by rw [eI_126, up2_off _ _ _ (by decide)]) (by omega) (by rw [eI_126, up2_s]; omega) (by omega)
              have oI_126 := EV_o vI_126
              refine ww_goto hX (pc := 129) (tgt := 32) dX11_toldBy_129 (by decide) ?_
              refine ww_sub [some (kR (some 49)), some (kI q), some (kL td), none, none, none, none, none] (aLe_s (aLe_s (aLe_s (aLe_n (aLe_n (aLe_n (aLe_n (aLe_n aLe_0)))))))) ?_
              exact ih_32 _ (by omega) td I_126 J_86 rfl ⟨kI_126, cI_126, kJ_86, ⟨b9 + 1, vI_126, hnx⟩⟩
            · simp only [w32_mod] at h_101
              refine ww_aload_n hX (pc := 104) dX11_toldBy_104 rfl ?_
              refine ww_getI hX (pc := 105) fX11_225 (by decide) (xs_49 hL) dX11_toldBy_105 ?_
              refine ww_if_ne hX (pc := 108) (tgt := 119) dX11_toldBy_108 (by decide) (fun h_108 => ?_) (fun h_108 => ?_)
              · simp only [w32_mod] at h_108
                refine ww_aload_n hX (pc := 119) dX11_toldBy_119 rfl ?_
                refine ww_dupR hX (pc := 120) dX11_toldBy_120 ?_
                refine ww_getI hX (pc := 121) fX11_215 (by decide) (xs_49 hL) dX11_toldBy_121 ?_
                refine ww_iconst hX (pc := 124) (x := 1) dX11_toldBy_124 rfl ?_
                refine ww_iadd hX (pc := 125) dX11_toldBy_125 ?_
                refine ww_putI hX (pc := 126) (fun h9 => absurd h9 (by decide)) gX11_215 rfl (xs_49 hL) dX11_toldBy_126 ?_
                refine ww_nmH (fun I_126 eI_126 => ?_)
                have kI_126 : Ch [] [19, 20, 21] Ia I_126 := by rw [eI_126]; exact Ch_f kI_86 (by decide)
                have cI_126 : RX I_126 := by rw [eI_126]; exact RX_f cI_86 (by decide)
                have qI_126 := RX_w cI_126
                have f20_I_126 : I_126 49 20 = I_86 49 20 := by rw [eI_126, up2_n _ _ (Or.inr (by decide))]
                have f21_I_126 : I_126 49 21 = I_86 49 21 := by rw [eI_126, up2_n _ _ (Or.inr (by decide))]
                have vI_126 : EV I_126 t c (b9 + 1) := EV_st vI_86 (by rw [eI_126, up2_off _ _ _ (by decide)]) (by omega) (by rw [eI_126, up2_s]; omega) (by omega)
                have oI_126 := EV_o vI_126
                refine ww_goto hX (pc := 129) (tgt := 32) dX11_toldBy_129 (by decide) ?_
                refine ww_sub [some (kR (some 49)), some (kI q), some (kL td), none, none, none, none, none] (aLe_s (aLe_s (aLe_s (aLe_n (aLe_n (aLe_n (aLe_n (aLe_n aLe_0)))))))) ?_
                exact ih_32 _ (by omega) td I_126 J_86 rfl ⟨kI_126, cI_126, kJ_86, ⟨b9 + 1, vI_126, hnx⟩⟩
              · simp only [w32_mod] at h_108
                refine ww_iload hX (pc := 111) dX11_toldBy_111 rfl ?_
                refine ww_if_ne hX (pc := 113) (tgt := 119) dX11_toldBy_113 (by decide) (fun h_113 => ?_) (fun h_113 => ?_)
                · simp only [w32_mod] at h_113
                  refine ww_aload_n hX (pc := 119) dX11_toldBy_119 rfl ?_
                  refine ww_dupR hX (pc := 120) dX11_toldBy_120 ?_
                  refine ww_getI hX (pc := 121) fX11_215 (by decide) (xs_49 hL) dX11_toldBy_121 ?_
                  refine ww_iconst hX (pc := 124) (x := 1) dX11_toldBy_124 rfl ?_
                  refine ww_iadd hX (pc := 125) dX11_toldBy_125 ?_
                  refine ww_putI hX (pc := 126) (fun h9 => absurd h9 (by decide)) gX11_215 rfl (xs_49 hL) dX11_toldBy_126 ?_
                  refine ww_nmH (fun I_126 eI_126 => ?_)
                  have kI_126 : Ch [] [19, 20, 21] Ia I_126 := by rw [eI_126]; exact Ch_f kI_86 (by decide)
                  have cI_126 : RX I_126 := by rw [eI_126]; exact RX_f cI_86 (by decide)
                  have qI_126 := RX_w cI_126
                  have f20_I_126 : I_126 49 20 = I_86 49 20 := by rw [eI_126, up2_n _ _ (Or.inr (by decide))]
                  have f21_I_126 : I_126 49 21 = I_86 49 21 := by rw [eI_126, up2_n _ _ (Or.inr (by decide))]
                  have vI_126 : EV I_126 t c (b9 + 1) := EV_st vI_86 (by rw [eI_126, up2_off _ _ _ (by decide)]) (by omega) (by rw [eI_126, up2_s]; omega) (by omega)
                  have oI_126 := EV_o vI_126
                  refine ww_goto hX (pc := 129) (tgt := 32) dX11_toldBy_129 (by decide) ?_
                  refine ww_sub [some (kR (some 49)), some (kI q), some (kL td), none, none, none, none, none] (aLe_s (aLe_s (aLe_s (aLe_n (aLe_n (aLe_n (aLe_n (aLe_n aLe_0)))))))) ?_
                  exact ih_32 _ (by omega) td I_126 J_86 rfl ⟨kI_126, cI_126, kJ_86, ⟨b9 + 1, vI_126, hnx⟩⟩
                · simp only [w32_mod] at h_113
                  refine ww_lload hX (pc := 116) dX11_toldBy_116 rfl ?_
                  refine ww_lstore_n hX (pc := 118) (lv' := [some (kR (some 49)), some (kI q), some (kL x_60), none, some (kL x_60), none, some (kI v_69), some (kI 1)]) dX11_toldBy_118 (by decide) rfl rfl ?_
                  refine ww_aload_n hX (pc := 119) dX11_toldBy_119 rfl ?_
                  refine ww_dupR hX (pc := 120) dX11_toldBy_120 ?_
                  refine ww_getI hX (pc := 121) fX11_215 (by decide) (xs_49 hL) dX11_toldBy_121 ?_
                  refine ww_iconst hX (pc := 124) (x := 1) dX11_toldBy_124 rfl ?_
                  refine ww_iadd hX (pc := 125) dX11_toldBy_125 ?_
                  refine ww_putI hX (pc := 126) (fun h9 => absurd h9 (by decide)) gX11_215 rfl (xs_49 hL) dX11_toldBy_126 ?_
                  refine ww_nmH (fun I_126 eI_126 => ?_)
                  have kI_126 : Ch [] [19, 20, 21] Ia I_126 := by rw [eI_126]; exact Ch_f kI_86 (by decide)
                  have cI_126 : RX I_126 := by rw [eI_126]; exact RX_f cI_86 (by decide)
                  have qI_126 := RX_w cI_126
                  have f20_I_126 : I_126 49 20 = I_86 49 20 := by rw [eI_126, up2_n _ _ (Or.inr (by decide))]
                  have f21_I_126 : I_126 49 21 = I_86 49 21 := by rw [eI_126, up2_n _ _ (Or.inr (by decide))]
                  have vI_126 : EV I_126 t c (b9 + 1) := EV_st vI_86 (by rw [eI_126, up2_off _ _ _ (by decide)]) (by omega) (by rw [eI_126, up2_s]; omega) (by omega)
                  have oI_126 := EV_o vI_126
                  refine ww_goto hX (pc := 129) (tgt := 32) dX11_toldBy_129 (by decide) ?_
                  refine ww_sub [some (kR (some 49)), some (kI q), some (kL x_60), none, none, none, none, none] (aLe_s (aLe_s (aLe_s (aLe_n (aLe_n (aLe_n (aLe_n (aLe_n aLe_0)))))))) ?_
                  exact ih_32 _ (by omega) x_60 I_126 J_86 rfl ⟨kI_126, cI_126, kJ_86, ⟨b9 + 1, vI_126, hnx⟩⟩
  exact hl_32 _ (-1) I_25 Ja rfl ⟨kI_25, cI_25, (Kp_rf (a := 49) (b := 73)), ⟨0, vI_25, Or.inr hlaw⟩⟩
set_option maxHeartbeats 4000000 in
set_option maxRecDepth 20000 in
theorem c_X11_asksOf (l0 : Launch) {Ia Ja : aI1} {Ra : aR1} {Sa : aS1} (hL : LY Ra Sa) (hQ : RX Ia) {a : Int}  : CT l0 1 0 0 mX11_asksOf [kR (some 49), kI a] Ia Ja Ra Sa (cV (fun I' J' => Ch [60] [] Ia I' ∧ Kp 49 73 Ja J' ∧ RX I' ∧ True) Ra Sa) := by
  refine ct_in pn_X11 (Nat.le_of_ble_eq_true rfl) (fun X hX hT hIn => ?_)
  have hX : aK l0 X cX11_asksOf 7 RX11 none 1 0 0 := hX
  change WW X 0 [some (kR (some 49)), some (kI a), none, none, none, none, none] [] Ia Ja Ra Sa 0 0
  have qIa := RX_o hQ
  refine ww_iconst hX (pc := 0) (x := 0) dX11_asksOf_0 rfl ?_
  refine ww_istore_n hX (pc := 1) (lv' := [some (kR (some 49)), some (kI a), some (kI 0), none, none, none, none]) dX11_asksOf_1 (by decide) rfl rfl ?_
  refine ww_iconst hX (pc := 2) (x := 0) dX11_asksOf_2 rfl ?_
  refine ww_istore_n hX (pc := 3) (lv' := [some (kR (some 49)), some (kI a), some (kI 0), some (kI 0), none, none, none]) dX11_asksOf_3 (by decide) rfl rfl ?_
  refine ww_iconst hX (pc := 4) (x := (-1)) dX11_asksOf_4 rfl ?_
  refine ww_istore hX (pc := 5) (lv' := [some (kR (some 49)), some (kI a), some (kI 0), some (kI 0), some (kI (-1)), none, none]) dX11_asksOf_5 (by decide) rfl rfl ?_
  refine ww_iconst hX (pc := 7) (x := (-1)) dX11_asksOf_7 rfl ?_
  refine ww_istore hX (pc := 8) (lv' := [some (kR (some 49)), some (kI a), some (kI 0), some (kI 0), some (kI (-1)), some (kI (-1)), none]) dX11_asksOf_8 (by decide) rfl rfl ?_
  refine ww_iconst hX (pc := 10) (x := 0) dX11_asksOf_10 rfl ?_
  refine ww_istore hX (pc := 11) (lv' := [some (kR (some 49)), some (kI a), some (kI 0), some (kI 0), some (kI (-1)), some (kI (-1)), some (kI 0)]) dX11_asksOf_11 (by decide) rfl rfl ?_
  have hl_13 : ∀ (n_13 : Nat) (v2 : Int) (v3 : Int) (v4 : Int) (v5 : Int) (v6 : Int), (8 - v6).toNat = n_13 → ((0 ≤ v6 ∧ v6 ≤ 8)) → WW X 13 [some (kR (some 49)), some (kI a), some (kI v2), some (kI v3), some (kI v4), some (kI v5), some (kI v6)] [] Ia Ja Ra Sa 0 0 := by
    intro n_13
    induction n_13 using Nat.strongRecOn with
    | ind n_13 ih_13 =>
      intro v2 v3 v4 v5 v6 hm_13 hv_13
      have hv := hv_13
      refine ww_iload hX (pc := 13) dX11_asksOf_13 rfl ?_
      refine ww_aload_n hX (pc := 15) dX11_asksOf_15 rfl ?_
      refine ww_getR hX (pc := 16) fX11_20 (by decide) (xs_49 hL) (xr_49_3 hL) dX11_asksOf_16 ?_
      refine ww_sipush hX (pc := 19) (x := 304) dX11_asksOf_19 (by decide) ?_
      refine ww_iald hX (pc := 22) (xs_51 hL) (by decide) (by omega) (by omega) dX11_asksOf_22 ?_
      refine ww_toI (b := Ia 51 304) rfl ?_
      refine ww_icmp_ge hX (pc := 23) (tgt := 77) dX11_asksOf_23 (by decide) (fun h_23 => ?_) (fun h_23 => ?_)
      · simp only [w32_mod] at h_23
        refine ww_aload_n hX (pc := 77) dX11_asksOf_77 rfl ?_
        refine ww_getR hX (pc := 78) fX11_52 (by decide) (xs_49 hL) (xr_49_22 hL) dX11_asksOf_78 ?_
        refine ww_iconst hX (pc := 81) (x := 0) dX11_asksOf_81 rfl ?_
        refine ww_iload_n hX (pc := 82) dX11_asksOf_82 rfl ?_
        refine ww_iast hX (pc := 83) (xs_60 hL) (by decide) (by omega) (by omega) dX11_asksOf_83 ?_
        refine ww_nmH (fun I_83 eI_83 => ?_)
        have kI_83 : Ch [60] [] Ia I_83 := by rw [eI_83]; exact Ch_r Ch_rf (by decide) (by decide)
        have cI_83 : RX I_83 := by rw [eI_83]; exact RX_r hQ (by decide)
        have qI_83 := RX_o cI_83
        have r304_I_83 : I_83 51 304 = Ia 51 304 := by rw [eI_83, up2_off _ _ _ (by decide)]
        have r305_I_83 : I_83 51 305 = Ia 51 305 := by rw [eI_83, up2_off _ _ _ (by decide)]
        have rf_I_83 : FU (I_83 51 304) = FU (Ia 51 304) := by rw [r304_I_83]
        refine ww_aload_n hX (pc := 84) dX11_asksOf_84 rfl ?_
        refine ww_getR hX (pc := 85) fX11_52 (by decide) (xs_49 hL) (xr_49_22 hL) dX11_asksOf_85 ?_
        refine ww_iconst hX (pc := 88) (x := 1) dX11_asksOf_88 rfl ?_
        refine ww_iload_n hX (pc := 89) dX11_asksOf_89 rfl ?_
        refine sI1 hX (pc := 90) sX11_259 (c_X11_ones l0 ) (by decide) (Nat.le_refl 0) (Nat.le_refl 0) (Nat.le_of_ble_eq_true rfl) dX11_asksOf_90 (fun x_90 I_90 J_90 h_90 => ?_)
        obtain ⟨rfl, rfl, h_90⟩ := h_90
        refine ww_iast hX (pc := 93) (xs_60 hL) (by decide) (by omega) (by omega) dX11_asksOf_93 ?_
        refine ww_nmH (fun I_93 eI_93 => ?_)
        have kI_93 : Ch [60] [] Ia I_93 := by rw [eI_93]; exact Ch_r kI_83 (by decide) (by decide)
        have cI_93 : RX I_93 := by rw [eI_93]; exact RX_r cI_83 (by decide)
        have qI_93 := RX_o cI_93
        have r304_I_93 : I_93 51 304 = I_83 51 304 := by rw [eI_93, up2_off _ _ _ (by decide)]
        have r305_I_93 : I_93 51 305 = I_83 51 305 := by rw [eI_93, up2_off _ _ _ (by decide)]
        have rf_I_93 : FU (I_93 51 304) = FU (I_83 51 304) := by rw [r304_I_93]
        refine ww_aload_n hX (pc := 94) dX11_asksOf_94 rfl ?_
        refine ww_getR hX (pc := 95) fX11_52 (by decide) (xs_49 hL) (xr_49_22 hL) dX11_asksOf_95 ?_
        refine ww_iconst hX (pc := 98) (x := 2) dX11_asksOf_98 rfl ?_
        refine ww_iload_n hX (pc := 99) dX11_asksOf_99 rfl ?_
        refine ww_iast hX (pc := 100) (xs_60 hL) (by decide) (by omega) (by omega) dX11_asksOf_100 ?_
        refine ww_nmH (fun I_100 eI_100 => ?_)
        have kI_100 : Ch [60] [] Ia I_100 := by rw [eI_100]; exact Ch_r kI_93 (by decide) (by decide)
        have cI_100 : RX I_100 := by rw [eI_100]; exact RX_r cI_93 (by decide)
        have qI_100 := RX_o cI_100
        have r304_I_100 : I_100 51 304 = I_93 51 304 := by rw [eI_100, up2_off _ _ _ (by decide)]
        have r305_I_100 : I_100 51 305 = I_93 51 305 := by rw [eI_100, up2_off _ _ _ (by decide)]
        have rf_I_100 : FU (I_100 51 304) = FU (I_93 51 304) := by rw [r304_I_100]
        refine ww_aload_n hX (pc := 101) dX11_asksOf_101 rfl ?_
        refine ww_getR hX (pc := 102) fX11_52 (by decide) (xs_49 hL) (xr_49_22 hL) dX11_asksOf_102 ?_
        refine ww_iconst hX (pc := 105) (x := 3) dX11_asksOf_105 rfl ?_
        refine ww_iload_n hX (pc := 106) dX11_asksOf_106 rfl ?_
        refine ww_iast hX (pc := 107) (xs_60 hL) (by decide) (by omega) (by omega) dX11_asksOf_107 ?_
        refine ww_nmH (fun I_107 eI_107 => ?_)
        have kI_107 : Ch [60] [] Ia I_107 := by rw [eI_107]; exact Ch_r kI_100 (by decide) (by decide)
        have cI_107 : RX I_107 := by rw [eI_107]; exact RX_r cI_100 (by decide)
        have qI_107 := RX_o cI_107
        have r304_I_107 : I_107 51 304 = I_100 51 304 := by rw [eI_107, up2_off _ _ _ (by decide)]
        have r305_I_107 : I_107 51 305 = I_100 51 305 := by rw [eI_107, up2_off _ _ _ (by decide)]
        have rf_I_107 : FU (I_107 51 304) = FU (I_100 51 304) := by rw [r304_I_107]
        refine ww_aload_n hX (pc := 108) dX11_asksOf_108 rfl ?_
        refine ww_getR hX (pc := 109) fX11_52 (by decide) (xs_49 hL) (xr_49_22 hL) dX11_asksOf_109 ?_
        refine ww_iconst hX (pc := 112) (x := 4) dX11_asksOf_112 rfl ?_
        refine ww_iload hX (pc := 113) dX11_asksOf_113 rfl ?_
        refine ww_iast hX (pc := 115) (xs_60 hL) (by decide) (by omega) (by omega) dX11_asksOf_115 ?_
        refine ww_nmH (fun I_115 eI_115 => ?_)
        have kI_115 : Ch [60] [] Ia I_115 := by rw [eI_115]; exact Ch_r kI_107 (by decide) (by decide)
        have cI_115 : RX I_115 := by rw [eI_115]; exact RX_r cI_107 (by decide)
        have qI_115 := RX_o cI_115
        have r304_I_115 : I_115 51 304 = I_107 51 304 := by rw [eI_115, up2_off _ _ _ (by decide)]
        have r305_I_115 : I_115 51 305 = I_107 51 305 := by rw [eI_115, up2_off _ _ _ (by decide)]
        have rf_I_115 : FU (I_115 51 304) = FU (I_107 51 304) := by rw [r304_I_115]
        refine ww_aload_n hX (pc := 116) dX11_asksOf_116 rfl ?_
        refine ww_getR hX (pc := 117) fX11_52 (by decide) (xs_49 hL) (xr_49_22 hL) dX11_asksOf_117 ?_
        refine ww_iconst hX (pc := 120) (x := 5) dX11_asksOf_120 rfl ?_
        refine ww_iload hX (pc := 121) dX11_asksOf_121 rfl ?_
        refine ww_iast hX (pc := 123) (xs_60 hL) (by decide) (by omega) (by omega) dX11_asksOf_123 ?_
        refine ww_nmH (fun I_123 eI_123 => ?_)
        have kI_123 : Ch [60] [] Ia I_123 := by rw [eI_123]; exact Ch_r kI_115 (by decide) (by decide)
        have cI_123 : RX I_123 := by rw [eI_123]; exact RX_r cI_115 (by decide)
        have qI_123 := RX_o cI_123
        have r304_I_123 : I_123 51 304 = I_115 51 304 := by rw [eI_123, up2_off _ _ _ (by decide)]
        have r305_I_123 : I_123 51 305 = I_115 51 305 := by rw [eI_123, up2_off _ _ _ (by decide)]
        have rf_I_123 : FU (I_123 51 304) = FU (I_115 51 304) := by rw [r304_I_123]
        refine ww_aload_n hX (pc := 124) dX11_asksOf_124 rfl ?_
        refine ww_getR hX (pc := 125) fX11_52 (by decide) (xs_49 hL) (xr_49_22 hL) dX11_asksOf_125 ?_
        refine ww_bipush hX (pc := 128) (x := 6) dX11_asksOf_128 (by decide) ?_
        refine ww_aload_n hX (pc := 130) dX11_asksOf_130 rfl ?_
        refine ww_getR hX (pc := 131) fX11_20 (by decide) (xs_49 hL) (xr_49_3 hL) dX11_asksOf_131 ?_
        refine ww_sipush hX (pc := 134) (x := 304) dX11_asksOf_134 (by decide) ?_
        refine ww_iald hX (pc := 137) (xs_51 hL) (by decide) (by omega) (by omega) dX11_asksOf_137 ?_
        refine ww_toI (b := I_123 51 304) rfl ?_
        refine ww_iast hX (pc := 138) (xs_60 hL) (by decide) (by omega) (by omega) dX11_asksOf_138 ?_
        refine ww_nmH (fun I_138 eI_138 => ?_)
        have kI_138 : Ch [60] [] Ia I_138 := by rw [eI_138]; exact Ch_r kI_123 (by decide) (by decide)
        have cI_138 : RX I_138 := by rw [eI_138]; exact RX_r cI_123 (by decide)
        have qI_138 := RX_o cI_138
        have r304_I_138 : I_138 51 304 = I_123 51 304 := by rw [eI_138, up2_off _ _ _ (by decide)]
        have r305_I_138 : I_138 51 305 = I_123 51 305 := by rw [eI_138, up2_off _ _ _ (by decide)]
        have rf_I_138 : FU (I_138 51 304) = FU (I_123 51 304) := by rw [r304_I_138]
        refine ww_aload_n hX (pc := 139) dX11_asksOf_139 rfl ?_
        refine ww_getR hX (pc := 140) fX11_52 (by decide) (xs_49 hL) (xr_49_22 hL) dX11_asksOf_140 ?_
        refine ww_bipush hX (pc := 143) (x := 7) dX11_asksOf_143 (by decide) ?_
        refine ww_aload_n hX (pc := 145) dX11_asksOf_145 rfl ?_
        refine ww_getR hX (pc := 146) fX11_20 (by decide) (xs_49 hL) (xr_49_3 hL) dX11_asksOf_146 ?_
        refine ww_sipush hX (pc := 149) (x := 305) dX11_asksOf_149 (by decide) ?_
        refine ww_iald hX (pc := 152) (xs_51 hL) (by decide) (by omega) (by omega) dX11_asksOf_152 ?_
        refine ww_toI (b := I_138 51 305) rfl ?_
        refine ww_iast hX (pc := 153) (xs_60 hL) (by decide) (by omega) (by omega) dX11_asksOf_153 ?_
        refine ww_nmH (fun I_153 eI_153 => ?_)
        have kI_153 : Ch [60] [] Ia I_153 := by rw [eI_153]; exact Ch_r kI_138 (by decide) (by decide)
        have cI_153 : RX I_153 := by rw [eI_153]; exact RX_r cI_138 (by decide)
        have qI_153 := RX_o cI_153
        have r304_I_153 : I_153 51 304 = I_138 51 304 := by rw [eI_153, up2_off _ _ _ (by decide)]
        have r305_I_153 : I_153 51 305 = I_138 51 305 := by rw [eI_153, up2_off _ _ _ (by decide)]
        have rf_I_153 : FU (I_153 51 304) = FU (I_138 51 304) := by rw [r304_I_153]
        refine rV hX (pc := 154) hT (Nat.le_refl 0) (Nat.le_refl 0) dX11_asksOf_154 ?_
        exact ⟨kI_153, (Kp_rf (a := 49) (b := 73)), cI_153, trivial⟩
      · simp only [w32_mod] at h_23
        refine ww_iload_n hX (pc := 26) dX11_asksOf_26 rfl ?_
        refine ww_iload hX (pc := 27) dX11_asksOf_27 rfl ?_
        refine ww_ishr hX (pc := 29) dX11_asksOf_29 ?_
        refine ww_iconst hX (pc := 30) (x := 1) dX11_asksOf_30 rfl ?_
        refine ww_iand hX (pc := 31) dX11_asksOf_31 ?_
        refine ww_if_ne hX (pc := 32) (tgt := 38) dX11_asksOf_32 (by decide) (fun h_32 => ?_) (fun h_32 => ?_)
        · simp only [w32_mod] at h_32
          refine ww_iload_n hX (pc := 38) dX11_asksOf_38 rfl ?_
          refine ww_iload hX (pc := 39) dX11_asksOf_39 rfl ?_
          refine ww_iconst hX (pc := 41) (x := 1) dX11_asksOf_41 rfl ?_
          refine ww_iadd hX (pc := 42) dX11_asksOf_42 ?_
          refine ww_iadd hX (pc := 43) dX11_asksOf_43 ?_
          refine ww_nmI (fun v_44 hv_44 => ?_)
          refine ww_istore_n hX (pc := 44) (lv' := [some (kR (some 49)), some (kI a), some (kI v_44), some (kI v3), some (kI v4), some (kI v5), some (kI v6)]) dX11_asksOf_44 (by decide) rfl rfl ?_
          refine ww_iload_n hX (pc := 45) dX11_asksOf_45 rfl ?_
          refine ww_iload hX (pc := 46) dX11_asksOf_46 rfl ?_
          refine ww_iconst hX (pc := 48) (x := 1) dX11_asksOf_48 rfl ?_
          refine ww_iadd hX (pc := 49) dX11_asksOf_49 ?_
          refine ww_ixor hX (pc := 50) dX11_asksOf_50 ?_
          refine ww_nmI (fun v_51 hv_51 => ?_)
          refine ww_istore_n hX (pc := 51) (lv' := [some (kR (some 49)), some (kI a), some (kI v_44), some (kI v_51), some (kI v4), some (kI v5), some (kI v6)]) dX11_asksOf_51 (by decide) rfl rfl ?_
          refine ww_iload hX (pc := 52) dX11_asksOf_52 rfl ?_
          refine ww_iconst hX (pc := 54) (x := (-1)) dX11_asksOf_54 rfl ?_
          refine ww_icmp_ne hX (pc := 55) (tgt := 63) dX11_asksOf_55 (by decide) (fun h_55 => ?_) (fun h_55 => ?_)
          · simp only [w32_mod] at h_55
            refine ww_iload hX (pc := 63) dX11_asksOf_63 rfl ?_
            refine ww_istore hX (pc := 65) (lv' := [some (kR (some 49)), some (kI a), some (kI v_44), some (kI v_51), some (kI v4), some (kI v5), some (kI v6)]) dX11_asksOf_65 (by decide) rfl rfl ?_
            refine ww_iload hX (pc := 67) dX11_asksOf_67 rfl ?_
            refine ww_istore hX (pc := 69) (lv' := [some (kR (some 49)), some (kI a), some (kI v_44), some (kI v_51), some (kI v4), some (kI v6), some (kI v6)]) dX11_asksOf_69 (by decide) rfl rfl ?_
            refine ww_iinc hX (pc := 71) (lv' := [some (kR (some 49)), some (kI a), some (kI v_44), some (kI v_51), some (kI v4), some (kI v6), some (kI (v6 + 1))]) dX11_asksOf_71 rfl (by decide) rfl rfl ?_
            refine ww_goto hX (pc := 74) (tgt := 13) dX11_asksOf_74 (by decide) ?_
            exact ih_13 _ (by omega) v_44 v_51 v4 v6 (v6 + 1) rfl (by omega)
          · simp only [w32_mod] at h_55
            refine ww_iload hX (pc := 58) dX11_asksOf_58 rfl ?_
            refine ww_goto hX (pc := 60) (tgt := 65) dX11_asksOf_60 (by decide) ?_
            refine ww_istore hX (pc := 65) (lv' := [some (kR (some 49)), some (kI a), some (kI v_44), some (kI v_51), some (kI v6), some (kI v5), some (kI v6)]) dX11_asksOf_65 (by decide) rfl rfl ?_
            refine ww_iload hX (pc := 67) dX11_asksOf_67 rfl ?_
            refine ww_istore hX (pc := 69) (lv' := [some (kR (some 49)), some (kI a), some (kI v_44), some (kI v_51), some (kI v6), some (kI v6), some (kI v6)]) dX11_asksOf_69 (by decide) rfl rfl ?_
            refine ww_iinc hX (pc := 71) (lv' := [some (kR (some 49)), some (kI a), some (kI v_44), some (kI v_51), some (kI v6), some (kI v6), some (kI (v6 + 1))]) dX11_asksOf_71 rfl (by decide) rfl rfl ?_
            refine ww_goto hX (pc := 74) (tgt := 13) dX11_asksOf_74 (by decide) ?_
            exact ih_13 _ (by omega) v_44 v_51 v6 v6 (v6 + 1) rfl (by omega)
        · simp only [w32_mod] at h_32
          refine ww_goto hX (pc := 35) (tgt := 71) dX11_asksOf_35 (by decide) ?_
          refine ww_iinc hX (pc := 71) (lv' := [some (kR (some 49)), some (kI a), some (kI v2), some (kI v3), some (kI v4), some (kI v5), some (kI (v6 + 1))]) dX11_asksOf_71 rfl (by decide) rfl rfl ?_
          refine ww_goto hX (pc := 74) (tgt := 13) dX11_asksOf_74 (by decide) ?_
          exact ih_13 _ (by omega) v2 v3 v4 v5 (v6 + 1) rfl (by omega)
  exact hl_13 _ 0 0 (-1) (-1) 0 rfl (by omega)
