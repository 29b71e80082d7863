theorem zRs_en {c vl : Nat → Int} {T p : Nat} {rs : List zQ} (h : zRs c vl T p rs) (hT : T ≤ p) (hc : ¬ c p = 1) : rs = [] := by
  rcases h with ⟨h, -⟩ | ⟨m, l, h⟩
  · exact h
  · cases m with
    | zero => cases h
    | succ m =>
      rw [zLw_f (zCl_0 hc)] at h
      cases h
set_option maxHeartbeats 4000000 in
set_option maxRecDepth 20000 in
theorem c6_X11_toldBy (l0 : Launch) {Ia Ja : aI1} {Ra : aR1} {Sa : aS1} (hL : LY Ra Sa) (hQ : RX Ia) {q : Int} (hq0 : 0 ≤ q) (hq1 : q < Ia 51 310) (hK : 0 ≤ Ia 51 305 ∧ Ia 51 305 ≤ 8) {c vl : Nat → Int} (hcv : cvw (Ia 51) q.toNat = c) {n9 : Nat} (hn9 : Ia 51 (311 + q.toNat) = n9) {en : zE} (hvl : ∀ j, j < n9 → Ia 51 (2717 + 400 * q.toNat + j) = vl j ∧ 0 ≤ vl j) (hen : ∀ j, j < 8 → Ia 60 j = en j ∧ -1000 ≤ en j ∧ en j ≤ 1000) {qs : List zQ} {m9 l9 : Nat} (hzl : zLw c vl n9 m9 0 l9 = .inr qs)  : CT l0 46 0 0 mX11_toldBy [kR (some 49), kI q] Ia Ja Ra Sa (cI (fun x I' J' => Ch [] [19, 20, 21] Ia I' ∧ Kp 49 73 Ja J' ∧ RX I' ∧ x = zGv (Ia 51 305) (zTl qs en)) Ra Sa) := by
  refine ct_in pn_X11 (Nat.le_of_ble_eq_true rfl) (fun X hX hT hIn => ?_)
  have hX : aK l0 X cX11_toldBy 8 RX11 (some .int) 46 0 0 := hX
  change WW X 0 [some (kR (some 49)), some (kI q), none, none, none, none, none, none] [] Ia Ja Ra Sa 0 0
  have qIa := RX_w hQ
  have h310 := hQ.1.2.2.2.2.2.1
  obtain ⟨t, ht9⟩ : ∃ t, q.toNat = t := ⟨_, rfl⟩
  rw [ht9] at hcv hn9 hvl
  have hV : zEV Ia t vl en := ⟨fun j hj => hvl j (by omega), hen⟩
  refine ww_aload_n hX (pc := 0) dX11_toldBy_0 rfl ?_
  refine ww_sipush hX (pc := 1) (x := 400) dX11_toldBy_1 (by decide) ?_
  refine ww_iload_n hX (pc := 4) dX11_toldBy_4 rfl ?_
  refine ww_imul hX (pc := 5) dX11_toldBy_5 ?_
  refine ww_putI hX (pc := 6) (fun h9 => absurd h9 (by decide)) gX11_215 rfl (xs_49 hL) dX11_toldBy_6 ?_
  refine ww_nmH (fun I_6 eI_6 => ?_)
  have kI_6 : Ch [] [19, 20, 21] Ia I_6 := by rw [eI_6]; exact Ch_f Ch_rf (by decide)
  have cI_6 : RX I_6 := by rw [eI_6]; exact RX_f hQ (by decide)
  have qI_6 := RX_w cI_6
  have f20_I_6 : I_6 49 20 = Ia 49 20 := by rw [eI_6, up2_n _ _ (Or.inr (by decide))]
  have f21_I_6 : I_6 49 21 = Ia 49 21 := by rw [eI_6, up2_n _ _ (Or.inr (by decide))]
  have g6 : I_6 49 19 = 400 * q := by rw [eI_6, up2_s]
  refine ww_aload_n hX (pc := 9) dX11_toldBy_9 rfl ?_
  refine ww_aload_n hX (pc := 10) dX11_toldBy_10 rfl ?_
  refine ww_getI hX (pc := 11) fX11_215 (by decide) (xs_49 hL) dX11_toldBy_11 ?_
  refine ww_aload_n hX (pc := 14) dX11_toldBy_14 rfl ?_
  refine ww_getR hX (pc := 15) fX11_20 (by decide) (xs_49 hL) (xr_49_3 hL) dX11_toldBy_15 ?_
  refine ww_sipush hX (pc := 18) (x := 311) dX11_toldBy_18 (by decide) ?_
  refine ww_iload_n hX (pc := 21) dX11_toldBy_21 rfl ?_
  refine ww_iadd hX (pc := 22) dX11_toldBy_22 ?_
  refine ww_iald hX (pc := 23) (xs_51 hL) (by decide) (by omega) (by omega) dX11_toldBy_23 ?_
  refine ww_iadd hX (pc := 24) dX11_toldBy_24 ?_
  refine ww_putI hX (pc := 25) (fun h9 => absurd h9 (by decide)) gX11_212 rfl (xs_49 hL) dX11_toldBy_25 ?_
  refine ww_nmH (fun I_25 eI_25 => ?_)
  have kI_25 : Ch [] [19, 20, 21] Ia I_25 := by rw [eI_25]; exact Ch_f kI_6 (by decide)
  have cI_25 : RX I_25 := by rw [eI_25]; exact RX_f cI_6 (by decide)
  have qI_25 := RX_w cI_25
  have f19_I_25 : I_25 49 19 = I_6 49 19 := by rw [eI_25, up2_n _ _ (Or.inr (by decide))]
  have f21_I_25 : I_25 49 21 = I_6 49 21 := by rw [eI_25, up2_n _ _ (Or.inr (by decide))]
  have g19 : I_25 49 19 = 400 * q := by omega
  have g20 : I_25 49 20 = 400 * q + I_25 51 (311 + q).toNat := by rw [eI_25, up2_s, up2_off _ _ _ (by decide)]; omega
  have s51 : I_25 51 = Ia 51 := kI_25.1 51 (by decide) (by decide)
  have hq9 : q < I_25 51 310 := by rw [s51]; exact hq1
  have vI_25 := EV_0 cI_25 hq0 hq9 g19 g20
  rw [ht9, show cvw (I_25 51) t = c by rw [s51]; exact hcv] at vI_25
  have oI_25 := EV_o vI_25
  have s25 : I_25 51 (311 + t) = n9 := by rw [s51]; exact hn9
  refine ww_ldc2 hX (pc := 28) (x := (-1)) dX11_toldBy_28 tb_1398 ?_
  refine ww_lstore_n hX (pc := 31) (lv' := [some (kR (some 49)), some (kI q), some (kL (-1)), none, none, none, none, none]) dX11_toldBy_31 (by decide) rfl rfl ?_
  have hl_32 : ∀ (n_32 : Nat) (td : Int) (I32 : aI1) (J32 : aI1), (400 * t + 402 - I32 49 19).toNat = n_32 → (Ch [] [19, 20, 21] Ia I32 ∧ RX I32 ∧ Kp 49 73 Ja J32 ∧ ∃ (p9 : Nat) (dn rs : List zQ), EV I32 t c p9 ∧ qs = dn ++ rs ∧ zTd td (zTl dn en) ∧ zRs c vl n9 p9 rs) → WW X 32 [some (kR (some 49)), some (kI q), some (kL td), none, none, none, none, none] [] I32 J32 Ra Sa 0 0 := by
    intro n_32
    induction n_32 using Nat.strongRecOn with
    | ind n_32 ih_32 =>
      intro td I32 J32 hm_32 hv_32
      have hq_32 := Sh0_i hm_32
      clear hm_32
      obtain ⟨kI32, cI32, kJ32, p9, dn, rs, vI32, hqs, ht32, hR32⟩ := hv_32
      have qI32 := RX_w cI32
      have oI32 := EV_o vI32
      have hb32 := zTd_b ht32
      have s32 : I32 51 = Ia 51 := kI32.1 51 (by decide) (by decide)
      have s305 : I32 51 305 = Ia 51 305 := by rw [s32]
      have s311 : I32 51 (311 + t) = n9 := by rw [s32]; exact hn9
      refine ww_aload_n hX (pc := 32) dX11_toldBy_32 rfl ?_
      refine ww_getI hX (pc := 33) fX11_215 (by decide) (xs_49 hL) dX11_toldBy_33 ?_
      refine ww_aload_n hX (pc := 36) dX11_toldBy_36 rfl ?_
      refine ww_getI hX (pc := 37) fX11_212 (by decide) (xs_49 hL) dX11_toldBy_37 ?_
      refine ww_icmp_ge hX (pc := 40) (tgt := 132) dX11_toldBy_40 (by decide) (fun h_40 => ?_) (fun h_40 => ?_)
      · simp only [w32_mod] at h_40
        refine ww_lload_n hX (pc := 132) dX11_toldBy_132 rfl ?_
        refine ww_lconst hX (pc := 133) (x := 0) dX11_toldBy_133 (by decide) ?_
        refine ww_lcmp hX (pc := 134) dX11_toldBy_134 ?_
        refine ww_if_lt hX (pc := 135) (tgt := 157) dX11_toldBy_135 (by decide) (fun h_135 => ?_) (fun h_135 => ?_)
        · simp only [w32_mod] at h_135
          refine ww_iconst hX (pc := 157) (x := (-1)) dX11_toldBy_157 rfl ?_
          refine rI hX (pc := 158) hT (Nat.le_refl 0) (Nat.le_refl 0) dX11_toldBy_158 ?_
          exact ⟨kI32, kJ32, cI32, (by
              have hn0 : (n9 : Int) ≤ p9 := by omega
              have hc1 : ¬ c p9 = 1 := fun g => by have := EV_z (i := p9) vI32 (by omega); omega
              rw [zRs_en hR32 (by omega) hc1, List.append_nil] at hqs
              rw [hqs]
              have k1 := w64_id (x := td) (by omega) (by omega)
              have k2 := w64_id (x := Ia 51 305) (by omega) (by omega)
              have k3 := w32_id (x := td)
              have k4 := l_cmp_v td 0
              have k5 := l_cmp_v td (Ia 51 305)
              have k6 : w64 0 = 0 := rfl
              have k7 : (Ia 51 305 + 2147483648) % 4294967296 - 2147483648 = Ia 51 305 := by omega
              try rw [s305, k7] at h_149
              exact zGv_of ht32 (fun g => by omega) (fun g => by omega))⟩
        · simp only [w32_mod] at h_135
          refine ww_lload_n hX (pc := 138) dX11_toldBy_138 rfl ?_
          refine ww_aload_n hX (pc := 139) dX11_toldBy_139 rfl ?_
          refine ww_getR hX (pc := 140) fX11_20 (by decide) (xs_49 hL) (xr_49_3 hL) dX11_toldBy_140 ?_
          refine ww_sipush hX (pc := 143) (x := 305) dX11_toldBy_143 (by decide) ?_
          refine ww_iald hX (pc := 146) (xs_51 hL) (by decide) (by omega) (by omega) dX11_toldBy_146 ?_
          refine ww_toI (b := I32 51 305) rfl ?_
          refine ww_i2l hX (pc := 147) dX11_toldBy_147 ?_
          refine ww_lcmp hX (pc := 148) dX11_toldBy_148 ?_
          refine ww_if_ge hX (pc := 149) (tgt := 157) dX11_toldBy_149 (by decide) (fun h_149 => ?_) (fun h_149 => ?_)
          · simp only [w32_mod] at h_149
            refine ww_iconst hX (pc := 157) (x := (-1)) dX11_toldBy_157 rfl ?_
            refine rI hX (pc := 158) hT (Nat.le_refl 0) (Nat.le_refl 0) dX11_toldBy_158 ?_
            exact ⟨kI32, kJ32, cI32, (by
                have hn0 : (n9 : Int) ≤ p9 := by omega
                have hc1 : ¬ c p9 = 1 := fun g => by have := EV_z (i := p9) vI32 (by omega); omega
                rw [zRs_en hR32 (by omega) hc1, List.append_nil] at hqs
                rw [hqs]
                have k1 := w64_id (x := td) (by omega) (by omega)
                have k2 := w64_id (x := Ia 51 305) (by omega) (by omega)
                have k3 := w32_id (x := td)
                have k4 := l_cmp_v td 0
                have k5 := l_cmp_v td (Ia 51 305)
                have k6 : w64 0 = 0 := rfl
                have k7 : (Ia 51 305 + 2147483648) % 4294967296 - 2147483648 = Ia 51 305 := by omega
                try rw [s305, k7] at h_149
                exact zGv_of ht32 (fun g => by omega) (fun g => by omega))⟩
          · simp only [w32_mod] at h_149
            refine ww_lload_n hX (pc := 152) dX11_toldBy_152 rfl ?_
            refine ww_l2i hX (pc := 153) dX11_toldBy_153 ?_
            refine ww_goto hX (pc := 154) (tgt := 158) dX11_toldBy_154 (by decide) ?_
            refine rI hX (pc := 158) hT (Nat.le_refl 0) (Nat.le_refl 0) dX11_toldBy_158 ?_
            exact ⟨kI32, kJ32, cI32, (by
                have hn0 : (n9 : Int) ≤ p9 := by omega
                have hc1 : ¬ c p9 = 1 := fun g => by have := EV_z (i := p9) vI32 (by omega); omega
                rw [zRs_en hR32 (by omega) hc1, List.append_nil] at hqs
                rw [hqs]
                have k1 := w64_id (x := td) (by omega) (by omega)
                have k2 := w64_id (x := Ia 51 305) (by omega) (by omega)
                have k3 := w32_id (x := td)
                have k4 := l_cmp_v td 0
                have k5 := l_cmp_v td (Ia 51 305)
                have k6 : w64 0 = 0 := rfl
                have k7 : (Ia 51 305 + 2147483648) % 4294967296 - 2147483648 = Ia 51 305 := by omega
                try rw [s305, k7] at h_149
                exact zGv_of ht32 (fun g => by omega) (fun g => by omega))⟩
      · simp only [w32_mod] at h_40
        obtain ⟨q9, b9, rs9, hrs9, hc1, hbT, ⟨d9, D9, hGs, hds⟩, hnx⟩ := zRs_st hR32 (by omega)
        have hlt9 := zG_lt (zS_lt 8) hGs
        have hle9 := zDs_le hds
        have hz9 := EV_z (i := p9) vI32 (by omega)
        have hbn : b9 ≤ n9 := by
          rcases hbT with h9 | h9
          · omega
          · have := EV_z (i := b9) vI32 (by omega)
            omega
        refine ww_aload_n hX (pc := 43) dX11_toldBy_43 rfl ?_
        refine ww_iconst hX (pc := 44) (x := 0) dX11_toldBy_44 rfl ?_
        refine ww_putZ hX (pc := 45) (fun h9 => absurd h9 (by decide)) gX11_225 rfl (by decide) (xs_49 hL) dX11_toldBy_45 ?_
        refine ww_nmH (fun I_45 eI_45 => ?_)
        have kI_45 : Ch [] [19, 20, 21] Ia I_45 := by rw [eI_45]; exact Ch_f kI32 (by decide)
        have cI_45 : RX I_45 := by rw [eI_45]; exact RX_f cI32 (by decide)
        have qI_45 := RX_w cI_45
        have f19_I_45 : I_45 49 19 = I32 49 19 := by rw [eI_45, up2_n _ _ (Or.inr (by decide))]
        have f20_I_45 : I_45 49 20 = I32 49 20 := by rw [eI_45, up2_n _ _ (Or.inr (by decide))]
        have vI_45 : EV I_45 t c p9 := EV_st vI32 (by rw [eI_45, up2_off _ _ _ (by decide)]) (by omega) (by omega) (by omega)
        have oI_45 := EV_o vI_45
        have bI_45 : zB1 I_45 := by unfold zB1; rw [eI_45, up2_s]; omega
        have w21_45 : I_45 49 21 = 0 := by rw [eI_45, up2_s]
        refine ww_aload_n hX (pc := 48) dX11_toldBy_48 rfl ?_
        refine ww_dupR hX (pc := 49) dX11_toldBy_49 ?_
        refine ww_getI hX (pc := 50) fX11_215 (by decide) (xs_49 hL) dX11_toldBy_50 ?_
        refine ww_iconst hX (pc := 53) (x := 1) dX11_toldBy_53 rfl ?_
        refine ww_iadd hX (pc := 54) dX11_toldBy_54 ?_
        refine ww_putI hX (pc := 55) (fun h9 => absurd h9 (by decide)) gX11_215 rfl (xs_49 hL) dX11_toldBy_55 ?_
        refine ww_nmH (fun I_55 eI_55 => ?_)
        have kI_55 : Ch [] [19, 20, 21] Ia I_55 := by rw [eI_55]; exact Ch_f kI_45 (by decide)
        have cI_55 : RX I_55 := by rw [eI_55]; exact RX_f cI_45 (by decide)
        have qI_55 := RX_w cI_55
        have f20_I_55 : I_55 49 20 = I_45 49 20 := by rw [eI_55, up2_n _ _ (Or.inr (by decide))]
        have f21_I_55 : I_55 49 21 = I_45 49 21 := by rw [eI_55, up2_n _ _ (Or.inr (by decide))]
        have vI_55 : EV I_55 t c (p9 + 1) := EV_st vI_45 (by rw [eI_55, up2_off _ _ _ (by decide)]) (by omega) (by rw [eI_55, up2_s]; omega) (by omega)
        have oI_55 := EV_o vI_55
        have bI_55 : zB1 I_55 := zB1_e bI_45 f21_I_55
        refine ww_aload_n hX (pc := 58) dX11_toldBy_58 rfl ?_
        refine ww_iconst hX (pc := 59) (x := 1) dX11_toldBy_59 rfl ?_
        refine vJ1 hX (pc := 60) sX11_243 (xs_49 hL) (c_VSum l0 8 hL cI_55 (by omega) vI_55 (zEV_ch kI_55 (by decide) (by decide) hV) bI_55 hGs) (by decide) (Nat.le_refl 0) (Nat.le_refl 0) (Nat.le_of_ble_eq_true rfl) dX11_toldBy_60 (fun x_60 I_60 J_60 h_60 => ?_)
        have kJ_60 : Kp 49 73 Ja J_60 := Kp_tr kJ32 h_60.2.1
        have kI_60 : Ch [] [19, 20, 21] Ia I_60 := Ch_tr kI_55 (Ch_wd h_60.1 (by decide) (by decide))
        have cI_60 : RX I_60 := h_60.2.2.1
        have qI_60 := RX_w cI_60
        have f20_I_60 : I_60 49 20 = I_55 49 20 := h_60.1.2 20 (by decide)
        have vI_60 : EV I_60 t c d9 := h_60.2.2.2.1
        have oI_60 := EV_o vI_60
        have yI_60 := h_60.2.2.2.2
        have bI_60 : zB1 I_60 := yI_60.1
        refine ww_lstore hX (pc := 63) (lv' := [some (kR (some 49)), some (kI q), some (kL td), none, some (kL x_60), none, none, none]) dX11_toldBy_63 (by decide) rfl rfl ?_
        refine ww_aload_n hX (pc := 65) dX11_toldBy_65 rfl ?_
        refine ww_getI hX (pc := 66) fX11_225 (by decide) (xs_49 hL) dX11_toldBy_66 ?_
        refine ww_nmI (fun v_69 hv_69 => ?_)
        refine ww_istore hX (pc := 69) (lv' := [some (kR (some 49)), some (kI q), some (kL td), none, some (kL x_60), none, some (kI v_69), none]) dX11_toldBy_69 (by decide) rfl rfl ?_
        refine ww_aload_n hX (pc := 71) dX11_toldBy_71 rfl ?_
        refine ww_iconst hX (pc := 72) (x := 0) dX11_toldBy_72 rfl ?_
        refine ww_putZ hX (pc := 73) (fun h9 => absurd h9 (by decide)) gX11_225 rfl (by decide) (xs_49 hL) dX11_toldBy_73 ?_
        refine ww_nmH (fun I_73 eI_73 => ?_)
        have kI_73 : Ch [] [19, 20, 21] Ia I_73 := by rw [eI_73]; exact Ch_f kI_60 (by decide)
        have cI_73 : RX I_73 := by rw [eI_73]; exact RX_f cI_60 (by decide)
        have qI_73 := RX_w cI_73
        have f19_I_73 : I_73 49 19 = I_60 49 19 := by rw [eI_73, up2_n _ _ (Or.inr (by decide))]
        have f20_I_73 : I_73 49 20 = I_60 49 20 := by rw [eI_73, up2_n _ _ (Or.inr (by decide))]
        have vI_73 : EV I_73 t c d9 := EV_st vI_60 (by rw [eI_73, up2_off _ _ _ (by decide)]) (by omega) (by omega) (by omega)
        have oI_73 := EV_o vI_73
        have bI_73 : zB1 I_73 := by unfold zB1; rw [eI_73, up2_s]; omega
        have w21_73 : I_73 49 21 = 0 := by rw [eI_73, up2_s]
        refine ww_aload_n hX (pc := 76) dX11_toldBy_76 rfl ?_
        refine ww_iconst hX (pc := 77) (x := 2) dX11_toldBy_77 rfl ?_
        refine vI1 hX (pc := 78) sX11_240 (xs_49 hL) (c_X11_passes0 l0 hL cI_73  (by omega) (by omega) vI_73) (by decide) (Nat.le_refl 0) (Nat.le_refl 0) (Nat.le_of_ble_eq_true rfl) dX11_toldBy_78 (fun x_78 I_78 J_78 h_78 => ?_)
        have kJ_78 : Kp 49 73 Ja J_78 := Kp_tr kJ_60 h_78.2.1
        have kI_78 : Ch [] [19, 20, 21] Ia I_78 := Ch_tr kI_73 (Ch_wd h_78.1 (by decide) (by decide))
        have cI_78 : RX I_78 := h_78.2.2.1
        have qI_78 := RX_w cI_78
        have f20_I_78 : I_78 49 20 = I_73 49 20 := h_78.1.2 20 (by decide)
        have f21_I_78 : I_78 49 21 = I_73 49 21 := h_78.1.2 21 (by decide)
        have vI_78 : EV I_78 t c (d9 + x_78.toNat) := h_78.2.2.2.1
        have oI_78 := EV_o vI_78
        have yI_78 := h_78.2.2.2.2
        have bI_78 : zB1 I_78 := zB1_e bI_73 f21_I_78
        refine ww_if_eq hX (pc := 81) (tgt := 92) dX11_toldBy_81 (by decide) (fun h_81 => ?_) (fun h_81 => ?_)
        · simp only [w32_mod] at h_81
          obtain ⟨hd1, hq9⟩ := zDs_n hds (PS_0 yI_78.2 (by omega))
          have w78 : EV I_78 t c b9 := EV_to vI_78 (by omega)
          refine ww_iconst hX (pc := 92) (x := 1) dX11_toldBy_92 rfl ?_
          refine ww_goto hX (pc := 93) (tgt := 97) dX11_toldBy_93 (by decide) ?_
          refine ww_istore hX (pc := 97) (lv' := [some (kR (some 49)), some (kI q), some (kL td), none, some (kL x_60), none, some (kI v_69), some (kI 1)]) dX11_toldBy_97 (by decide) rfl rfl ?_
          refine ww_iload hX (pc := 99) dX11_toldBy_99 rfl ?_
          refine ww_if_eq hX (pc := 101) (tgt := 119) dX11_toldBy_101 (by decide) (fun h_101 => ?_) (fun h_101 => ?_)
          · simp only [w32_mod] at h_101
            refine ww_aload_n hX (pc := 119) dX11_toldBy_119 rfl ?_
            refine ww_dupR hX (pc := 120) dX11_toldBy_120 ?_
            refine ww_getI hX (pc := 121) fX11_215 (by decide) (xs_49 hL) dX11_toldBy_121 ?_
            refine ww_iconst hX (pc := 124) (x := 1) dX11_toldBy_124 rfl ?_
            refine ww_iadd hX (pc := 125) dX11_toldBy_125 ?_
            refine ww_putI hX (pc := 126) (fun h9 => absurd h9 (by decide)) gX11_215 rfl (xs_49 hL) dX11_toldBy_126 ?_
            refine ww_nmH (fun I_126 eI_126 => ?_)
            have kI_126 : Ch [] [19, 20, 21] Ia I_126 := by rw [eI_126]; exact Ch_f kI_78 (by decide)
            have cI_126 : RX I_126 := by rw [eI_126]; exact RX_f cI_78 (by decide)
            have qI_126 := RX_w cI_126
            have f20_I_126 : I_126 49 20 = I_78 49 20 := by rw [eI_126, up2_n _ _ (Or.inr (by decide))]
            have f21_I_126 : I_126 49 21 = I_78 49 21 := by rw [eI_126, up2_n _ _ (Or.inr (by decide))]
            have vI_126 : EV I_126 t c (b9 + 1) := EV_st w78 (by rw [eI_126, up2_off _ _ _ (by decide)]) (by omega) (by rw [eI_126, up2_s]; omega) (by omega)
            have oI_126 := EV_o vI_126
            have bI_126 : zB1 I_126 := zB1_e bI_78 f21_I_126
            refine ww_goto hX (pc := 129) (tgt := 32) dX11_toldBy_129 (by decide) ?_
            refine ww_sub [some (kR (some 49)), some (kI q), some (kL td), none, none, none, none, none] (aLe_s (aLe_s (aLe_s (aLe_n (aLe_n (aLe_n (aLe_n (aLe_n aLe_0)))))))) ?_
            exact ih_32 _ (by have hm9 := Sh0_e hq_32; omega) td I_126 J_78 rfl ⟨kI_126, cI_126, kJ_78, ⟨b9 + 1, dn ++ [q9], rs9, vI_126, (by rw [hqs, hrs9, List.append_assoc]; rfl), zTd_s0 ht32 hq9 (zRv_cg yI_60.2 (by omega) rfl) (fun g => by have u8 := bI_60; have u9 := bI_78; unfold zB1 at u8 u9; omega) (fun g => by have u8 := bI_60; have u9 := bI_78; unfold zB1 at u8 u9; omega), hnx⟩⟩
          · simp only [w32_mod] at h_101
            refine ww_aload_n hX (pc := 104) dX11_toldBy_104 rfl ?_
            refine ww_getI hX (pc := 105) fX11_225 (by decide) (xs_49 hL) dX11_toldBy_105 ?_
            refine ww_if_ne hX (pc := 108) (tgt := 119) dX11_toldBy_108 (by decide) (fun h_108 => ?_) (fun h_108 => ?_)
            · simp only [w32_mod] at h_108
              refine ww_aload_n hX (pc := 119) dX11_toldBy_119 rfl ?_
              refine ww_dupR hX (pc := 120) dX11_toldBy_120 ?_
              refine ww_getI hX (pc := 121) fX11_215 (by decide) (xs_49 hL) dX11_toldBy_121 ?_
              refine ww_iconst hX (pc := 124) (x := 1) dX11_toldBy_124 rfl ?_
              refine ww_iadd hX (pc := 125) dX11_toldBy_125 ?_
              refine ww_putI hX (pc := 126) (fun h9 => absurd h9 (by decide)) gX11_215 rfl (xs_49 hL) dX11_toldBy_126 ?_
              refine ww_nmH (fun I_126 eI_126 => ?_)
              have kI_126 : Ch [] [19, 20, 21] Ia I_126 := by rw [eI_126]; exact Ch_f kI_78 (by decide)
              have cI_126 : RX I_126 := by rw [eI_126]; exact RX_f cI_78 (by decide)
              have qI_126 := RX_w cI_126
              have f20_I_126 : I_126 49 20 = I_78 49 20 := by rw [eI_126, up2_n _ _ (Or.inr (by decide))]
              have f21_I_126 : I_126 49 21 = I_78 49 21 := by rw [eI_126, up2_n _ _ (Or.inr (by decide))]
              have vI_126 : EV I_126 t c (b9 + 1) := EV_st w78 (by rw [eI_126, up2_off _ _ _ (by decide)]) (by omega) (by rw [eI_126, up2_s]; omega) (by omega)
              have oI_126 := EV_o vI_126
              have bI_126 : zB1 I_126 := zB1_e bI_78 f21_I_126
              refine ww_goto hX (pc := 129) (tgt := 32) dX11_toldBy_129 (by decide) ?_
              refine ww_sub [some (kR (some 49)), some (kI q), some (kL td), none, none, none, none, none] (aLe_s (aLe_s (aLe_s (aLe_n (aLe_n (aLe_n (aLe_n (aLe_n aLe_0)))))))) ?_
              exact ih_32 _ (by have hm9 := Sh0_e hq_32; omega) td I_126 J_78 rfl ⟨kI_126, cI_126, kJ_78, ⟨b9 + 1, dn ++ [q9], rs9, vI_126, (by rw [hqs, hrs9, List.append_assoc]; rfl), zTd_s0 ht32 hq9 (zRv_cg yI_60.2 (by omega) rfl) (fun g => by have u8 := bI_60; have u9 := bI_78; unfold zB1 at u8 u9; omega) (fun g => by have u8 := bI_60; have u9 := bI_78; unfold zB1 at u8 u9; omega), hnx⟩⟩
            · simp only [w32_mod] at h_108
              refine ww_iload hX (pc := 111) dX11_toldBy_111 rfl ?_
              refine ww_if_ne hX (pc := 113) (tgt := 119) dX11_toldBy_113 (by decide) (fun h_113 => ?_) (fun h_113 => ?_)
              · simp only [w32_mod] at h_113
                refine ww_aload_n hX (pc := 119) dX11_toldBy_119 rfl ?_
                refine ww_dupR hX (pc := 120) dX11_toldBy_120 ?_
                refine ww_getI hX (pc := 121) fX11_215 (by decide) (xs_49 hL) dX11_toldBy_121 ?_
                refine ww_iconst hX (pc := 124) (x := 1) dX11_toldBy_124 rfl ?_
                refine ww_iadd hX (pc := 125) dX11_toldBy_125 ?_
                refine ww_putI hX (pc := 126) (fun h9 => absurd h9 (by decide)) gX11_215 rfl (xs_49 hL) dX11_toldBy_126 ?_
                refine ww_nmH (fun I_126 eI_126 => ?_)
                have kI_126 : Ch [] [19, 20, 21] Ia I_126 := by rw [eI_126]; exact Ch_f kI_78 (by decide)
                have cI_126 : RX I_126 := by rw [eI_126]; exact RX_f cI_78 (by decide)
                have qI_126 := RX_w cI_126
                have f20_I_126 : I_126 49 20 = I_78 49 20 := by rw [eI_126, up2_n _ _ (Or.inr (by decide))]
                have f21_I_126 : I_126 49 21 = I_78 49 21 := by rw [eI_126, up2_n _ _ (Or.inr (by decide))]
                have vI_126 : EV I_126 t c (b9 + 1) := EV_st w78 (by rw [eI_126, up2_off _ _ _ (by decide)]) (by omega) (by rw [eI_126, up2_s]; omega) (by omega)
                have oI_126 := EV_o vI_126
                have bI_126 : zB1 I_126 := zB1_e bI_78 f21_I_126
                refine ww_goto hX (pc := 129) (tgt := 32) dX11_toldBy_129 (by decide) ?_
                refine ww_sub [some (kR (some 49)), some (kI q), some (kL td), none, none, none, none, none] (aLe_s (aLe_s (aLe_s (aLe_n (aLe_n (aLe_n (aLe_n (aLe_n aLe_0)))))))) ?_
                exact ih_32 _ (by have hm9 := Sh0_e hq_32; omega) td I_126 J_78 rfl ⟨kI_126, cI_126, kJ_78, ⟨b9 + 1, dn ++ [q9], rs9, vI_126, (by rw [hqs, hrs9, List.append_assoc]; rfl), zTd_s0 ht32 hq9 (zRv_cg yI_60.2 (by omega) rfl) (fun g => by have u8 := bI_60; have u9 := bI_78; unfold zB1 at u8 u9; omega) (fun g => by have u8 := bI_60; have u9 := bI_78; unfold zB1 at u8 u9; omega), hnx⟩⟩
              · simp only [w32_mod] at h_113
                refine ww_lload hX (pc := 116) dX11_toldBy_116 rfl ?_
                refine ww_lstore_n hX (pc := 118) (lv' := [some (kR (some 49)), some (kI q), some (kL x_60), none, some (kL x_60), none, some (kI v_69), some (kI 1)]) dX11_toldBy_118 (by decide) rfl rfl ?_
                refine ww_aload_n hX (pc := 119) dX11_toldBy_119 rfl ?_
                refine ww_dupR hX (pc := 120) dX11_toldBy_120 ?_
                refine ww_getI hX (pc := 121) fX11_215 (by decide) (xs_49 hL) dX11_toldBy_121 ?_
                refine ww_iconst hX (pc := 124) (x := 1) dX11_toldBy_124 rfl ?_
                refine ww_iadd hX (pc := 125) dX11_toldBy_125 ?_
                refine ww_putI hX (pc := 126) (fun h9 => absurd h9 (by decide)) gX11_215 rfl (xs_49 hL) dX11_toldBy_126 ?_
                refine ww_nmH (fun I_126 eI_126 => ?_)
                have kI_126 : Ch [] [19, 20, 21] Ia I_126 := by rw [eI_126]; exact Ch_f kI_78 (by decide)
                have cI_126 : RX I_126 := by rw [eI_126]; exact RX_f cI_78 (by decide)
                have qI_126 := RX_w cI_126
                have f20_I_126 : I_126 49 20 = I_78 49 20 := by rw [eI_126, up2_n _ _ (Or.inr (by decide))]
                have f21_I_126 : I_126 49 21 = I_78 49 21 := by rw [eI_126, up2_n _ _ (Or.inr (by decide))]
                have vI_126 : EV I_126 t c (b9 + 1) := EV_st w78 (by rw [eI_126, up2_off _ _ _ (by decide)]) (by omega) (by rw [eI_126, up2_s]; omega) (by omega)
                have oI_126 := EV_o vI_126
                have bI_126 : zB1 I_126 := zB1_e bI_78 f21_I_126
                refine ww_goto hX (pc := 129) (tgt := 32) dX11_toldBy_129 (by decide) ?_
                refine ww_sub [some (kR (some 49)), some (kI q), some (kL x_60), none, none, none, none, none] (aLe_s (aLe_s (aLe_s (aLe_n (aLe_n (aLe_n (aLe_n (aLe_n aLe_0)))))))) ?_
                exact ih_32 _ (by have hm9 := Sh0_e hq_32; omega) x_60 I_126 J_78 rfl ⟨kI_126, cI_126, kJ_78, ⟨b9 + 1, dn ++ [q9], rs9, vI_126, (by rw [hqs, hrs9, List.append_assoc]; rfl), zTd_s0 ht32 hq9 (zRv_cg yI_60.2 (by omega) rfl) (fun g => by have u8 := bI_60; have u9 := bI_78; unfold zB1 at u8 u9; omega) (fun g => by have u8 := bI_60; have u9 := bI_78; unfold zB1 at u8 u9; omega), hnx⟩⟩
        · simp only [w32_mod] at h_81
          have hc2 := PS_1 yI_78.2 (by omega)
          obtain ⟨F9, hGF, hq9⟩ := zDs_s hds hc2
          have w78 : EV I_78 t c (d9 + 1) := EV_to vI_78 (by omega)
          refine ww_aload_n hX (pc := 84) dX11_toldBy_84 rfl ?_
          refine ww_iconst hX (pc := 85) (x := 1) dX11_toldBy_85 rfl ?_
          refine vI1 hX (pc := 86) sX11_256 (xs_49 hL) (c_VTest l0 8 hL cI_78 (by omega) w78 (zEV_ch kI_78 (by decide) (by decide) hV) bI_78 hGF) (by decide) (Nat.le_refl 0) (Nat.le_refl 0) (Nat.le_of_ble_eq_true rfl) dX11_toldBy_86 (fun x_86 I_86 J_86 h_86 => ?_)
          have kJ_86 : Kp 49 73 Ja J_86 := Kp_tr kJ_78 h_86.2.1
          have kI_86 : Ch [] [19, 20, 21] Ia I_86 := Ch_tr kI_78 (Ch_wd h_86.1 (by decide) (by decide))
          have cI_86 : RX I_86 := h_86.2.2.1
          have qI_86 := RX_w cI_86
          have f20_I_86 : I_86 49 20 = I_78 49 20 := h_86.1.2 20 (by decide)
          have vI_86 : EV I_86 t c b9 := h_86.2.2.2.1
          have oI_86 := EV_o vI_86
          have yI_86 := h_86.2.2.2.2
          have bI_86 : zB1 I_86 := yI_86.1
          refine ww_if_eq hX (pc := 89) (tgt := 96) dX11_toldBy_89 (by decide) (fun h_89 => ?_) (fun h_89 => ?_)
          · simp only [w32_mod] at h_89
            refine ww_iconst hX (pc := 96) (x := 0) dX11_toldBy_96 rfl ?_
            refine ww_istore hX (pc := 97) (lv' := [some (kR (some 49)), some (kI q), some (kL td), none, some (kL x_60), none, some (kI v_69), some (kI 0)]) dX11_toldBy_97 (by decide) rfl rfl ?_
            refine ww_iload hX (pc := 99) dX11_toldBy_99 rfl ?_
            refine ww_if_eq hX (pc := 101) (tgt := 119) dX11_toldBy_101 (by decide) (fun h_101 => ?_) (fun h_101 => ?_)
            · simp only [w32_mod] at h_101
              refine ww_aload_n hX (pc := 119) dX11_toldBy_119 rfl ?_
              refine ww_dupR hX (pc := 120) dX11_toldBy_120 ?_
              refine ww_getI hX (pc := 121) fX11_215 (by decide) (xs_49 hL) dX11_toldBy_121 ?_
              refine ww_iconst hX (pc := 124) (x := 1) dX11_toldBy_124 rfl ?_
              refine ww_iadd hX (pc := 125) dX11_toldBy_125 ?_
              refine ww_putI hX (pc := 126) (fun h9 => absurd h9 (by decide)) gX11_215 rfl (xs_49 hL) dX11_toldBy_126 ?_
              refine ww_nmH (fun I_126 eI_126 => ?_)
              have kI_126 : Ch [] [19, 20, 21] Ia I_126 := by rw [eI_126]; exact Ch_f kI_86 (by decide)
              have cI_126 : RX I_126 := by rw [eI_126]; exact RX_f cI_86 (by decide)
              have qI_126 := RX_w cI_126
              have f20_I_126 : I_126 49 20 = I_86 49 20 := by rw [eI_126, up2_n _ _ (Or.inr (by decide))]
              have f21_I_126 : I_126 49 21 = I_86 49 21 := by rw [eI_126, up2_n _ _ (Or.inr (by decide))]
              have vI_126 : EV I_126 t c (b9 + 1) := EV_st vI_86 (by rw [eI_126, up2_off _ _ _ (by decide)]) (by omega) (by rw [eI_126, up2_s]; omega) (by omega)
              have oI_126 := EV_o vI_126
              have bI_126 : zB1 I_126 := zB1_e bI_86 f21_I_126
              refine ww_goto hX (pc := 129) (tgt := 32) dX11_toldBy_129 (by decide) ?_
              refine ww_sub [some (kR (some 49)), some (kI q), some (kL td), none, none, none, none, none] (aLe_s (aLe_s (aLe_s (aLe_n (aLe_n (aLe_n (aLe_n (aLe_n aLe_0)))))))) ?_
              exact ih_32 _ (by have hm9 := Sh0_e hq_32; omega) td I_126 J_86 rfl ⟨kI_126, cI_126, kJ_86, ⟨b9 + 1, dn ++ [q9], rs9, vI_126, (by rw [hqs, hrs9, List.append_assoc]; rfl), zTd_s1 ht32 hq9 (zRv_cg yI_60.2 (by omega) rfl) (zRv_cg yI_86.2.2 (by omega) rfl) yI_86.2.1 (fun g g2 g3 => by have u8 := bI_60; have u9 := bI_86; unfold zB1 at u8 u9; omega) (fun g => by have u8 := bI_60; have u9 := bI_86; unfold zB1 at u8 u9; omega), hnx⟩⟩
            · simp only [w32_mod] at h_101
              refine ww_aload_n hX (pc := 104) dX11_toldBy_104 rfl ?_
              refine ww_getI hX (pc := 105) fX11_225 (by decide) (xs_49 hL) dX11_toldBy_105 ?_
              refine ww_if_ne hX (pc := 108) (tgt := 119) dX11_toldBy_108 (by decide) (fun h_108 => ?_) (fun h_108 => ?_)
              · simp only [w32_mod] at h_108
                refine ww_aload_n hX (pc := 119) dX11_toldBy_119 rfl ?_
                refine ww_dupR hX (pc := 120) dX11_toldBy_120 ?_
                refine ww_getI hX (pc := 121) fX11_215 (by decide) (xs_49 hL) dX11_toldBy_121 ?_
                refine ww_iconst hX (pc := 124) (x := 1) dX11_toldBy_124 rfl ?_
                refine ww_iadd hX (pc := 125) dX11_toldBy_125 ?_
                refine ww_putI hX (pc := 126) (fun h9 => absurd h9 (by decide)) gX11_215 rfl (xs_49 hL) dX11_toldBy_126 ?_
                refine ww_nmH (fun I_126 eI_126 => ?_)
                have kI_126 : Ch [] [19, 20, 21] Ia I_126 := by rw [eI_126]; exact Ch_f kI_86 (by decide)
                have cI_126 : RX I_126 := by rw [eI_126]; exact RX_f cI_86 (by decide)
                have qI_126 := RX_w cI_126
                have f20_I_126 : I_126 49 20 = I_86 49 20 := by rw [eI_126, up2_n _ _ (Or.inr (by decide))]
                have f21_I_126 : I_126 49 21 = I_86 49 21 := by rw [eI_126, up2_n _ _ (Or.inr (by decide))]
                have vI_126 : EV I_126 t c (b9 + 1) := EV_st vI_86 (by rw [eI_126, up2_off _ _ _ (by decide)]) (by omega) (by rw [eI_126, up2_s]; omega) (by omega)
                have oI_126 := EV_o vI_126
                have bI_126 : zB1 I_126 := zB1_e bI_86 f21_I_126
                refine ww_goto hX (pc := 129) (tgt := 32) dX11_toldBy_129 (by decide) ?_
                refine ww_sub [some (kR (some 49)), some (kI q), some (kL td), none, none, none, none, none] (aLe_s (aLe_s (aLe_s (aLe_n (aLe_n (aLe_n (aLe_n (aLe_n aLe_0)))))))) ?_
                exact ih_32 _ (by have hm9 := Sh0_e hq_32; omega) td I_126 J_86 rfl ⟨kI_126, cI_126, kJ_86, ⟨b9 + 1, dn ++ [q9], rs9, vI_126, (by rw [hqs, hrs9, List.append_assoc]; rfl), zTd_s1 ht32 hq9 (zRv_cg yI_60.2 (by omega) rfl) (zRv_cg yI_86.2.2 (by omega) rfl) yI_86.2.1 (fun g g2 g3 => by have u8 := bI_60; have u9 := bI_86; unfold zB1 at u8 u9; omega) (fun g => by have u8 := bI_60; have u9 := bI_86; unfold zB1 at u8 u9; omega), hnx⟩⟩
              · simp only [w32_mod] at h_108
                refine ww_iload hX (pc := 111) dX11_toldBy_111 rfl ?_
                refine ww_if_ne hX (pc := 113) (tgt := 119) dX11_toldBy_113 (by decide) (fun h_113 => ?_) (fun h_113 => ?_)
                · simp only [w32_mod] at h_113
                  refine ww_aload_n hX (pc := 119) dX11_toldBy_119 rfl ?_
                  refine ww_dupR hX (pc := 120) dX11_toldBy_120 ?_
                  refine ww_getI hX (pc := 121) fX11_215 (by decide) (xs_49 hL) dX11_toldBy_121 ?_
                  refine ww_iconst hX (pc := 124) (x := 1) dX11_toldBy_124 rfl ?_
                  refine ww_iadd hX (pc := 125) dX11_toldBy_125 ?_
                  refine ww_putI hX (pc := 126) (fun h9 => absurd h9 (by decide)) gX11_215 rfl (xs_49 hL) dX11_toldBy_126 ?_
                  refine ww_nmH (fun I_126 eI_126 => ?_)
                  have kI_126 : Ch [] [19, 20, 21] Ia I_126 := by rw [eI_126]; exact Ch_f kI_86 (by decide)
                  have cI_126 : RX I_126 := by rw [eI_126]; exact RX_f cI_86 (by decide)
                  have qI_126 := RX_w cI_126
                  have f20_I_126 : I_126 49 20 = I_86 49 20 := by rw [eI_126, up2_n _ _ (Or.inr (by decide))]
                  have f21_I_126 : I_126 49 21 = I_86 49 21 := by rw [eI_126, up2_n _ _ (Or.inr (by decide))]
                  have vI_126 : EV I_126 t c (b9 + 1) := EV_st vI_86 (by rw [eI_126, up2_off _ _ _ (by decide)]) (by omega) (by rw [eI_126, up2_s]; omega) (by omega)
                  have oI_126 := EV_o vI_126
                  have bI_126 : zB1 I_126 := zB1_e bI_86 f21_I_126
                  refine ww_goto hX (pc := 129) (tgt := 32) dX11_toldBy_129 (by decide) ?_
                  refine ww_sub [some (kR (some 49)), some (kI q), some (kL td), none, none, none, none, none] (aLe_s (aLe_s (aLe_s (aLe_n (aLe_n (aLe_n (aLe_n (aLe_n aLe_0)))))))) ?_
                  exact ih_32 _ (by have hm9 := Sh0_e hq_32; omega) td I_126 J_86 rfl ⟨kI_126, cI_126, kJ_86, ⟨b9 + 1, dn ++ [q9], rs9, vI_126, (by rw [hqs, hrs9, List.append_assoc]; rfl), zTd_s1 ht32 hq9 (zRv_cg yI_60.2 (by omega) rfl) (zRv_cg yI_86.2.2 (by omega) rfl) yI_86.2.1 (fun g g2 g3 => by have u8 := bI_60; have u9 := bI_86; unfold zB1 at u8 u9; omega) (fun g => by have u8 := bI_60; have u9 := bI_86; unfold zB1 at u8 u9; omega), hnx⟩⟩
                · simp only [w32_mod] at h_113
                  refine ww_lload hX (pc := 116) dX11_toldBy_116 rfl ?_
                  refine ww_lstore_n hX (pc := 118) (lv' := [some (kR (some 49)), some (kI q), some (kL x_60), none, some (kL x_60), none, some (kI v_69), some (kI 0)]) dX11_toldBy_118 (by decide) rfl rfl ?_
                  refine ww_aload_n hX (pc := 119) dX11_toldBy_119 rfl ?_
                  refine ww_dupR hX (pc := 120) dX11_toldBy_120 ?_
                  refine ww_getI hX (pc := 121) fX11_215 (by decide) (xs_49 hL) dX11_toldBy_121 ?_
                  refine ww_iconst hX (pc := 124) (x := 1) dX11_toldBy_124 rfl ?_
                  refine ww_iadd hX (pc := 125) dX11_toldBy_125 ?_
                  refine ww_putI hX (pc := 126) (fun h9 => absurd h9 (by decide)) gX11_215 rfl (xs_49 hL) dX11_toldBy_126 ?_
                  refine ww_nmH (fun I_126 eI_126 => ?_)
                  have kI_126 : Ch [] [19, 20, 21] Ia I_126 := by rw [eI_126]; exact Ch_f kI_86 (by decide)
                  have cI_126 : RX I_126 := by rw [eI_126]; exact RX_f cI_86 (by decide)
                  have qI_126 := RX_w cI_126
                  have f20_I_126 : I_126 49 20 = I_86 49 20 := by rw [eI_126, up2_n _ _ (Or.inr (by decide))]
                  have f21_I_126 : I_126 49 21 = I_86 49 21 := by rw [eI_126, up2_n _ _ (Or.inr (by decide))]
                  have vI_126 : EV I_126 t c (b9 + 1) := EV_st vI_86 (by rw [eI_126, up2_off _ _ _ (by decide)]) (by omega) (by rw [eI_126, up2_s]; omega) (by omega)
                  have oI_126 := EV_o vI_126
                  have bI_126 : zB1 I_126 := zB1_e bI_86 f21_I_126
                  refine ww_goto hX (pc := 129) (tgt := 32) dX11_toldBy_129 (by decide) ?_
                  refine ww_sub [some (kR (some 49)), some (kI q), some (kL x_60), none, none, none, none, none] (aLe_s (aLe_s (aLe_s (aLe_n (aLe_n (aLe_n (aLe_n (aLe_n aLe_0)))))))) ?_
                  exact ih_32 _ (by have hm9 := Sh0_e hq_32; omega) x_60 I_126 J_86 rfl ⟨kI_126, cI_126, kJ_86, ⟨b9 + 1, dn ++ [q9], rs9, vI_126, (by rw [hqs, hrs9, List.append_assoc]; rfl), zTd_s1 ht32 hq9 (zRv_cg yI_60.2 (by omega) rfl) (zRv_cg yI_86.2.2 (by omega) rfl) yI_86.2.1 (fun g g2 g3 => by have u8 := bI_60; have u9 := bI_86; unfold zB1 at u8 u9; omega) (fun g => by have u8 := bI_60; have u9 := bI_86; unfold zB1 at u8 u9; omega), hnx⟩⟩
          · simp only [w32_mod] at h_89
            refine ww_iconst hX (pc := 92) (x := 1) dX11_toldBy_92 rfl ?_
            refine ww_goto hX (pc := 93) (tgt := 97) dX11_toldBy_93 (by decide) ?_
            refine ww_istore hX (pc := 97) (lv' := [some (kR (some 49)), some (kI q), some (kL td), none, some (kL x_60), none, some (kI v_69), some (kI 1)]) dX11_toldBy_97 (by decide) rfl rfl ?_
            refine ww_iload hX (pc := 99) dX11_toldBy_99 rfl ?_
            refine ww_if_eq hX (pc := 101) (tgt := 119) dX11_toldBy_101 (by decide) (fun h_101 => ?_) (fun h_101 => ?_)
            · simp only [w32_mod] at h_101
              refine ww_aload_n hX (pc := 119) dX11_toldBy_119 rfl ?_
              refine ww_dupR hX (pc := 120) dX11_toldBy_120 ?_
              refine ww_getI hX (pc := 121) fX11_215 (by decide) (xs_49 hL) dX11_toldBy_121 ?_
              refine ww_iconst hX (pc := 124) (x := 1) dX11_toldBy_124 rfl ?_
              refine ww_iadd hX (pc := 125) dX11_toldBy_125 ?_
              refine ww_putI hX (pc := 126) (fun h9 => absurd h9 (by decide)) gX11_215 rfl (xs_49 hL) dX11_toldBy_126 ?_
              refine ww_nmH (fun I_126 eI_126 => ?_)
              have kI_126 : Ch [] [19, 20, 21] Ia I_126 := by rw [eI_126]; exact Ch_f kI_86 (by decide)
              have cI_126 : RX I_126 := by rw [eI_126]; exact RX_f cI_86 (by decide)
              have qI_126 := RX_w cI_126
              have f20_I_126 : I_126 49 20 = I_86 49 20 := by rw [eI_126, up2_n _ _ (Or.inr (by decide))]
              have f21_I_126 : I_126 49 21 = I_86 49 21 := by rw [eI_126, up2_n _ _ (Or.inr (by decide))]
              have vI_126 : EV I_126 t c (b9 + 1) := EV_st vI_86 (by rw [eI_126, up2_off _ _ _ (by decide)]) (by omega) (by rw [eI_126, up2_s]; omega) (by omega)
              have oI_126 := EV_o vI_126
              have bI_126 : zB1 I_126 := zB1_e bI_86 f21_I_126
              refine ww_goto hX (pc := 129) (tgt := 32) dX11_toldBy_129 (by decide) ?_
              refine ww_sub [some (kR (some 49)), some (kI q), some (kL td), none, none, none, none, none] (aLe_s (aLe_s (aLe_s (aLe_n (aLe_n (aLe_n (aLe_n (aLe_n aLe_0)))))))) ?_
              exact ih_32 _ (by have hm9 := Sh0_e hq_32; omega) td I_126 J_86 rfl ⟨kI_126, cI_126, kJ_86, ⟨b9 + 1, dn ++ [q9], rs9, vI_126, (by rw [hqs, hrs9, List.append_assoc]; rfl), zTd_s1 ht32 hq9 (zRv_cg yI_60.2 (by omega) rfl) (zRv_cg yI_86.2.2 (by omega) rfl) yI_86.2.1 (fun g g2 g3 => by have u8 := bI_60; have u9 := bI_86; unfold zB1 at u8 u9; omega) (fun g => by have u8 := bI_60; have u9 := bI_86; unfold zB1 at u8 u9; omega), hnx⟩⟩
            · simp only [w32_mod] at h_101
              refine ww_aload_n hX (pc := 104) dX11_toldBy_104 rfl ?_
              refine ww_getI hX (pc := 105) fX11_225 (by decide) (xs_49 hL) dX11_toldBy_105 ?_
              refine ww_if_ne hX (pc := 108) (tgt := 119) dX11_toldBy_108 (by decide) (fun h_108 => ?_) (fun h_108 => ?_)
              · simp only [w32_mod] at h_108
                refine ww_aload_n hX (pc := 119) dX11_toldBy_119 rfl ?_
                refine ww_dupR hX (pc := 120) dX11_toldBy_120 ?_
                refine ww_getI hX (pc := 121) fX11_215 (by decide) (xs_49 hL) dX11_toldBy_121 ?_
                refine ww_iconst hX (pc := 124) (x := 1) dX11_toldBy_124 rfl ?_
                refine ww_iadd hX (pc := 125) dX11_toldBy_125 ?_
                refine ww_putI hX (pc := 126) (fun h9 => absurd h9 (by decide)) gX11_215 rfl (xs_49 hL) dX11_toldBy_126 ?_
                refine ww_nmH (fun I_126 eI_126 => ?_)
                have kI_126 : Ch [] [19, 20, 21] Ia I_126 := by rw [eI_126]; exact Ch_f kI_86 (by decide)
                have cI_126 : RX I_126 := by rw [eI_126]; exact RX_f cI_86 (by decide)
                have qI_126 := RX_w cI_126
                have f20_I_126 : I_126 49 20 = I_86 49 20 := by rw [eI_126, up2_n _ _ (Or.inr (by decide))]
                have f21_I_126 : I_126 49 21 = I_86 49 21 := by rw [eI_126, up2_n _ _ (Or.inr (by decide))]
                have vI_126 : EV I_126 t c (b9 + 1) := EV_st vI_86 (by rw [eI_126, up2_off _ _ _ (by decide)]) (by omega) (by rw [eI_126, up2_s]; omega) (by omega)
                have oI_126 := EV_o vI_126
                have bI_126 : zB1 I_126 := zB1_e bI_86 f21_I_126
                refine ww_goto hX (pc := 129) (tgt := 32) dX11_toldBy_129 (by decide) ?_
                refine ww_sub [some (kR (some 49)), some (kI q), some (kL td), none, none, none, none, none] (aLe_s (aLe_s (aLe_s (aLe_n (aLe_n (aLe_n (aLe_n (aLe_n aLe_0)))))))) ?_
                exact ih_32 _ (by have hm9 := Sh0_e hq_32; omega) td I_126 J_86 rfl ⟨kI_126, cI_126, kJ_86, ⟨b9 + 1, dn ++ [q9], rs9, vI_126, (by rw [hqs, hrs9, List.append_assoc]; rfl), zTd_s1 ht32 hq9 (zRv_cg yI_60.2 (by omega) rfl) (zRv_cg yI_86.2.2 (by omega) rfl) yI_86.2.1 (fun g g2 g3 => by have u8 := bI_60; have u9 := bI_86; unfold zB1 at u8 u9; omega) (fun g => by have u8 := bI_60; have u9 := bI_86; unfold zB1 at u8 u9; omega), hnx⟩⟩
              · simp only [w32_mod] at h_108
                refine ww_iload hX (pc := 111) dX11_toldBy_111 rfl ?_
                refine ww_if_ne hX (pc := 113) (tgt := 119) dX11_toldBy_113 (by decide) (fun h_113 => ?_) (fun h_113 => ?_)
                · simp only [w32_mod] at h_113
                  refine ww_aload_n hX (pc := 119) dX11_toldBy_119 rfl ?_
                  refine ww_dupR hX (pc := 120) dX11_toldBy_120 ?_
                  refine ww_getI hX (pc := 121) fX11_215 (by decide) (xs_49 hL) dX11_toldBy_121 ?_
                  refine ww_iconst hX (pc := 124) (x := 1) dX11_toldBy_124 rfl ?_
                  refine ww_iadd hX (pc := 125) dX11_toldBy_125 ?_
                  refine ww_putI hX (pc := 126) (fun h9 => absurd h9 (by decide)) gX11_215 rfl (xs_49 hL) dX11_toldBy_126 ?_
                  refine ww_nmH (fun I_126 eI_126 => ?_)
                  have kI_126 : Ch [] [19, 20, 21] Ia I_126 := by rw [eI_126]; exact Ch_f kI_86 (by decide)
                  have cI_126 : RX I_126 := by rw [eI_126]; exact RX_f cI_86 (by decide)
                  have qI_126 := RX_w cI_126
                  have f20_I_126 : I_126 49 20 = I_86 49 20 := by rw [eI_126, up2_n _ _ (Or.inr (by decide))]
                  have f21_I_126 : I_126 49 21 = I_86 49 21 := by rw [eI_126, up2_n _ _ (Or.inr (by decide))]
                  have vI_126 : EV I_126 t c (b9 + 1) := EV_st vI_86 (by rw [eI_126, up2_off _ _ _ (by decide)]) (by omega) (by rw [eI_126, up2_s]; omega) (by omega)
                  have oI_126 := EV_o vI_126
                  have bI_126 : zB1 I_126 := zB1_e bI_86 f21_I_126
                  refine ww_goto hX (pc := 129) (tgt := 32) dX11_toldBy_129 (by decide) ?_
                  refine ww_sub [some (kR (some 49)), some (kI q), some (kL td), none, none, none, none, none] (aLe_s (aLe_s (aLe_s (aLe_n (aLe_n (aLe_n (aLe_n (aLe_n aLe_0)))))))) ?_
                  exact ih_32 _ (by have hm9 := Sh0_e hq_32; omega) td I_126 J_86 rfl ⟨kI_126, cI_126, kJ_86, ⟨b9 + 1, dn ++ [q9], rs9, vI_126, (by rw [hqs, hrs9, List.append_assoc]; rfl), zTd_s1 ht32 hq9 (zRv_cg yI_60.2 (by omega) rfl) (zRv_cg yI_86.2.2 (by omega) rfl) yI_86.2.1 (fun g g2 g3 => by have u8 := bI_60; have u9 := bI_86; unfold zB1 at u8 u9; omega) (fun g => by have u8 := bI_60; have u9 := bI_86; unfold zB1 at u8 u9; omega), hnx⟩⟩
                · simp only [w32_mod] at h_113
                  refine ww_lload hX (pc := 116) dX11_toldBy_116 rfl ?_
                  refine ww_lstore_n hX (pc := 118) (lv' := [some (kR (some 49)), some (kI q), some (kL x_60), none, some (kL x_60), none, some (kI v_69), some (kI 1)]) dX11_toldBy_118 (by decide) rfl rfl ?_
                  refine ww_aload_n hX (pc := 119) dX11_toldBy_119 rfl ?_
                  refine ww_dupR hX (pc := 120) dX11_toldBy_120 ?_
                  refine ww_getI hX (pc := 121) fX11_215 (by decide) (xs_49 hL) dX11_toldBy_121 ?_
                  refine ww_iconst hX (pc := 124) (x := 1) dX11_toldBy_124 rfl ?_
                  refine ww_iadd hX (pc := 125) dX11_toldBy_125 ?_
                  refine ww_putI hX (pc := 126) (fun h9 => absurd h9 (by decide)) gX11_215 rfl (xs_49 hL) dX11_toldBy_126 ?_
                  refine ww_nmH (fun I_126 eI_126 => ?_)
                  have kI_126 : Ch [] [19, 20, 21] Ia I_126 := by rw [eI_126]; exact Ch_f kI_86 (by decide)
                  have cI_126 : RX I_126 := by rw [eI_126]; exact RX_f cI_86 (by decide)
                  have qI_126 := RX_w cI_126
                  have f20_I_126 : I_126 49 20 = I_86 49 20 := by rw [eI_126, up2_n _ _ (Or.inr (by decide))]
                  have f21_I_126 : I_126 49 21 = I_86 49 21 := by rw [eI_126, up2_n _ _ (Or.inr (by decide))]
                  have vI_126 : EV I_126 t c (b9 + 1) := EV_st vI_86 (by rw [eI_126, up2_off _ _ _ (by decide)]) (by omega) (by rw [eI_126, up2_s]; omega) (by omega)
                  have oI_126 := EV_o vI_126
                  have bI_126 : zB1 I_126 := zB1_e bI_86 f21_I_126
                  refine ww_goto hX (pc := 129) (tgt := 32) dX11_toldBy_129 (by decide) ?_
                  refine ww_sub [some (kR (some 49)), some (kI q), some (kL x_60), none, none, none, none, none] (aLe_s (aLe_s (aLe_s (aLe_n (aLe_n (aLe_n (aLe_n (aLe_n aLe_0)))))))) ?_
                  exact ih_32 _ (by have hm9 := Sh0_e hq_32; omega) x_60 I_126 J_86 rfl ⟨kI_126, cI_126, kJ_86, ⟨b9 + 1, dn ++ [q9], rs9, vI_126, (by rw [hqs, hrs9, List.append_assoc]; rfl), zTd_s1 ht32 hq9 (zRv_cg yI_60.2 (by omega) rfl) (zRv_cg yI_86.2.2 (by omega) rfl) yI_86.2.1 (fun g g2 g3 => by have u8 := bI_60; have u9 := bI_86; unfold zB1 at u8 u9; omega) (fun g => by have u8 := bI_60; have u9 := bI_86; unfold zB1 at u8 u9; omega), hnx⟩⟩
  exact hl_32 _ (-1) I_25 Ja rfl ⟨kI_25, cI_25, (Kp_rf (a := 49) (b := 73)), ⟨0, [], qs, vI_25, rfl, ⟨fun x hx => (by cases hx), fun _ => rfl⟩, Or.inr ⟨m9, l9, hzl⟩⟩⟩
