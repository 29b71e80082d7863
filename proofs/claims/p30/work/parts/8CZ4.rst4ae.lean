def URSum9 (l0 : Launch) (m : Nat) : Prop := ∀ {Ia Ja : aI1} {Ra : aR1} {Sa : aS1}, LY Ra Sa → RX Ia → PI Ia → ∀ {c : Nat → Int}, pvw Ia = c → ∀ {vl pl : Nat → Int} {T : Nat}, zRL Ia vl pl T → CT l0 (3 * m + 5) 0 0 mX11_readSum [kR (some 49), kI (8 - (m : Int))] Ia Ja Ra Sa (cV (fun I' J' => Ch [] [16, 17, 18] Ia I' ∧ Kp 49 49 Ja J' ∧ RX I' ∧ PI I' ∧ zRP T pl (zS c vl m) Ia I' ∧ Ia 49 16 ≤ I' 49 16) Ra Sa)
def URTest9 (l0 : Launch) (m : Nat) : Prop := ∀ {Ia Ja : aI1} {Ra : aR1} {Sa : aS1}, LY Ra Sa → RX Ia → PI Ia → ∀ {c : Nat → Int}, pvw Ia = c → ∀ {vl pl : Nat → Int} {T : Nat}, zRL Ia vl pl T → CT l0 (3 * m + 8) 0 0 mX11_readTest [kR (some 49), kI (8 - (m : Int))] Ia Ja Ra Sa (cV (fun I' J' => Ch [] [16, 17, 18] Ia I' ∧ Kp 49 49 Ja J' ∧ RX I' ∧ PI I' ∧ zRP T pl (zT c vl m) Ia I' ∧ Ia 49 16 ≤ I' 49 16) Ra Sa)
set_option maxHeartbeats 4000000 in
set_option maxRecDepth 20000 in
theorem c9_X11_readPart (l0 : Launch) {Ia Ja : aI1} {Ra : aR1} {Sa : aS1} (hL : LY Ra Sa) (hQ : RX Ia) (hP : PI Ia) {c : Nat → Int} (hc : pvw Ia = c) {vl pl : Nat → Int} {T : Nat} (hk : zRL Ia vl pl T) {m : Nat} (hm : m ≤ 8) (hrec : ∀ mp, m = mp + 1 → URSum9 l0 mp)  : CT l0 (3 * m + 3) 0 0 mX11_readPart [kR (some 49), kI (8 - (m : Int))] Ia Ja Ra Sa (cV (fun I' J' => Ch [] [16, 17, 18] Ia I' ∧ Kp 49 49 Ja J' ∧ RX I' ∧ PI I' ∧ zRP T pl (zPart (zSu c vl m) c vl) Ia I' ∧ Ia 49 16 ≤ I' 49 16) Ra Sa) := by
  refine ct_in pn_X11 (Nat.le_of_ble_eq_true rfl) (fun X hX hT hIn => ?_)
  have hX : aK l0 X cX11_readPart 3 RX11 none (3 * m + 3) 0 0 := hX
  change WW X 0 [some (kR (some 49)), some (kI (8 - (m : Int))), none] [] Ia Ja Ra Sa 0 0
  have qIa := RX_w hQ
  have oIa := PI_o hP
  have tIa := PI_t hP
  have atIa := pvw_at hP hc
  refine ww_aload_n hX (pc := 0) dX11_readPart_0 rfl ?_
  refine vI0 hX (pc := 1) sX11_158 (xs_49 hL) (c_X11_fine l0 hL hQ  hP) (by omega) (Nat.le_refl 0) (Nat.le_refl 0) (Nat.le_of_ble_eq_true rfl) dX11_readPart_1 (fun x_1 I_1 J_1 h_1 => ?_)
  obtain ⟨rfl, rfl, h_1⟩ := h_1
  refine ww_if_ne hX (pc := 4) (tgt := 8) dX11_readPart_4 (by decide) (fun h_4 => ?_) (fun h_4 => ?_)
  · simp only [w32_mod] at h_4
    have bb1 := FN_1 h_1.2 (by omega)
    obtain ⟨hvl, -, -, hvl0, hvl1⟩ := zRL_p hk hP
    refine ww_aload_n hX (pc := 8) dX11_readPart_8 rfl ?_
    refine ww_getR hX (pc := 9) fX11_43 (by decide) (xs_49 hL) (xr_49_12 hL) dX11_readPart_9 ?_
    refine ww_aload_n hX (pc := 12) dX11_readPart_12 rfl ?_
    refine ww_getI hX (pc := 13) fX11_162 (by decide) (xs_49 hL) dX11_readPart_13 ?_
    refine ww_iald hX (pc := 16) (xs_57 hL) (by decide) (by omega) (by omega) dX11_readPart_16 ?_
    refine ww_nmI (fun v_17 hv_17 => ?_)
    refine ww_istore_n hX (pc := 17) (lv' := [some (kR (some 49)), some (kI (8 - (m : Int))), some (kI v_17)]) dX11_readPart_17 (by decide) rfl rfl ?_
    refine ww_iload_n hX (pc := 18) dX11_readPart_18 rfl ?_
    refine ww_bipush hX (pc := 19) (x := 91) dX11_readPart_19 (by decide) ?_
    refine sI1 hX (pc := 21) sX11_190 (c_X11_sign l0 ) (by omega) (Nat.le_refl 0) (Nat.le_refl 0) (Nat.le_of_ble_eq_true rfl) dX11_readPart_21 (fun x_21 I_21 J_21 h_21 => ?_)
    obtain ⟨rfl, rfl, h_21⟩ := h_21
    refine ww_icmp_ne hX (pc := 24) (tgt := 74) dX11_readPart_24 (by decide) (fun h_24 => ?_) (fun h_24 => ?_)
    · simp only [w32_mod] at h_24
      have hcb : ¬ c (Ia 49 16).toNat = 191 := by omega
      refine ww_iload_n hX (pc := 74) dX11_readPart_74 rfl ?_
      refine ww_bipush hX (pc := 75) (x := 50) dX11_readPart_75 (by decide) ?_
      refine ww_icmp_ne hX (pc := 77) (tgt := 95) dX11_readPart_77 (by decide) (fun h_77 => ?_) (fun h_77 => ?_)
      · simp only [w32_mod] at h_77
        refine ww_iload_n hX (pc := 95) dX11_readPart_95 rfl ?_
        refine ww_bipush hX (pc := 96) (x := 6) dX11_readPart_96 (by decide) ?_
        refine ww_icmp_lt hX (pc := 98) (tgt := 114) dX11_readPart_98 (by decide) (fun h_98 => ?_) (fun h_98 => ?_)
        · simp only [w32_mod] at h_98
          refine ww_aload_n hX (pc := 114) dX11_readPart_114 rfl ?_
          refine vV0 hX (pc := 115) sX11_168 (xs_49 hL) (c9_X11_faults l0 hL hQ  hP hk) (by omega) (Nat.le_refl 0) (Nat.le_refl 0) (Nat.le_of_ble_eq_true rfl) dX11_readPart_115 (fun I_115 J_115 h_115 => ?_)
          have kJ_115 : Kp 49 49 Ja J_115 := Kp_tr (Kp_rf (a := 49) (b := 49)) h_115.2.1
          have kI_115 : Ch [] [16, 17, 18] Ia I_115 := Ch_tr Ch_rf (Ch_wd h_115.1 (by decide) (by decide))
          have cI_115 : RX I_115 := h_115.2.2.1
          have qI_115 := RX_w cI_115
          have f15_I_115 : I_115 49 15 = Ia 49 15 := h_115.1.2 15 (by decide)
          have f16_I_115 : I_115 49 16 = Ia 49 16 := h_115.1.2 16 (by decide)
          have f17_I_115 : I_115 49 17 = Ia 49 17 := h_115.1.2 17 (by decide)
          have pI_115 : PI I_115 := h_115.2.2.2.1
          have oI_115 := PI_o pI_115
          have yI_115 := h_115.2.2.2.2
          refine rV hX (pc := 118) hT (Nat.le_refl 0) (Nat.le_refl 0) dX11_readPart_118 ?_
          exact ⟨kI_115, kJ_115, cI_115, pI_115, zRP_fa yI_115.2.2 (zRL_pp hk) (fun l => (zPart_l hcb).trans (zLe_0 (zLf_0 (by omega) (by omega)))), by omega⟩
        · simp only [w32_mod] at h_98
          refine ww_iload_n hX (pc := 101) dX11_readPart_101 rfl ?_
          refine ww_bipush hX (pc := 102) (x := 13) dX11_readPart_102 (by decide) ?_
          refine ww_icmp_gt hX (pc := 104) (tgt := 114) dX11_readPart_104 (by decide) (fun h_104 => ?_) (fun h_104 => ?_)
          · simp only [w32_mod] at h_104
            refine ww_aload_n hX (pc := 114) dX11_readPart_114 rfl ?_
            refine vV0 hX (pc := 115) sX11_168 (xs_49 hL) (c9_X11_faults l0 hL hQ  hP hk) (by omega) (Nat.le_refl 0) (Nat.le_refl 0) (Nat.le_of_ble_eq_true rfl) dX11_readPart_115 (fun I_115 J_115 h_115 => ?_)
            have kJ_115 : Kp 49 49 Ja J_115 := Kp_tr (Kp_rf (a := 49) (b := 49)) h_115.2.1
            have kI_115 : Ch [] [16, 17, 18] Ia I_115 := Ch_tr Ch_rf (Ch_wd h_115.1 (by decide) (by decide))
            have cI_115 : RX I_115 := h_115.2.2.1
            have qI_115 := RX_w cI_115
            have f15_I_115 : I_115 49 15 = Ia 49 15 := h_115.1.2 15 (by decide)
            have f16_I_115 : I_115 49 16 = Ia 49 16 := h_115.1.2 16 (by decide)
            have f17_I_115 : I_115 49 17 = Ia 49 17 := h_115.1.2 17 (by decide)
            have pI_115 : PI I_115 := h_115.2.2.2.1
            have oI_115 := PI_o pI_115
            have yI_115 := h_115.2.2.2.2
            refine rV hX (pc := 118) hT (Nat.le_refl 0) (Nat.le_refl 0) dX11_readPart_118 ?_
            exact ⟨kI_115, kJ_115, cI_115, pI_115, zRP_fa yI_115.2.2 (zRL_pp hk) (fun l => (zPart_l hcb).trans (zLe_0 (zLf_0 (by omega) (by omega)))), by omega⟩
          · simp only [w32_mod] at h_104
            refine ww_aload_n hX (pc := 107) dX11_readPart_107 rfl ?_
            refine vV0 hX (pc := 108) sX11_200 (xs_49 hL) (c9_X11_leaf l0 hL hQ  hP hk (by omega) (by omega)) (by omega) (Nat.le_refl 0) (Nat.le_refl 0) (Nat.le_of_ble_eq_true rfl) dX11_readPart_108 (fun I_108 J_108 h_108 => ?_)
            have kJ_108 : Kp 49 49 Ja J_108 := Kp_tr (Kp_rf (a := 49) (b := 49)) h_108.2.1
            have kI_108 : Ch [] [16, 17, 18] Ia I_108 := Ch_tr Ch_rf (Ch_wd h_108.1 (by decide) (by decide))
            have cI_108 : RX I_108 := h_108.2.2.1
            have qI_108 := RX_w cI_108
            have f15_I_108 : I_108 49 15 = Ia 49 15 := h_108.1.2 15 (by decide)
            have pI_108 : PI I_108 := h_108.2.2.2.1
            have oI_108 := PI_o pI_108
            have yI_108 := h_108.2.2.2.2
            refine ww_goto hX (pc := 111) (tgt := 118) dX11_readPart_111 (by decide) ?_
            refine rV hX (pc := 118) hT (Nat.le_refl 0) (Nat.le_refl 0) dX11_readPart_118 ?_
            exact ⟨kI_108, kJ_108, cI_108, pI_108, zRP_lf bb1 yI_108.2 (fun l => zPart_l hcb) (zLf_w ⟨by omega, by omega⟩), by omega⟩
      · simp only [w32_mod] at h_77
        refine ww_aload_n hX (pc := 80) dX11_readPart_80 rfl ?_
        refine ww_getR hX (pc := 81) fX11_46 (by decide) (xs_49 hL) (xr_49_13 hL) dX11_readPart_81 ?_
        refine ww_aload_n hX (pc := 84) dX11_readPart_84 rfl ?_
        refine ww_getI hX (pc := 85) fX11_162 (by decide) (xs_49 hL) dX11_readPart_85 ?_
        refine ww_iald hX (pc := 88) (xs_58 hL) (by decide) (by omega) (by omega) dX11_readPart_88 ?_
        refine ww_sipush hX (pc := 89) (x := 1000) dX11_readPart_89 (by decide) ?_
        refine ww_icmp_le hX (pc := 92) (tgt := 107) dX11_readPart_92 (by decide) (fun h_92 => ?_) (fun h_92 => ?_)
        · simp only [w32_mod] at h_92
          refine ww_aload_n hX (pc := 107) dX11_readPart_107 rfl ?_
          refine vV0 hX (pc := 108) sX11_200 (xs_49 hL) (c9_X11_leaf l0 hL hQ  hP hk (by omega) (by omega)) (by omega) (Nat.le_refl 0) (Nat.le_refl 0) (Nat.le_of_ble_eq_true rfl) dX11_readPart_108 (fun I_108 J_108 h_108 => ?_)
          have kJ_108 : Kp 49 49 Ja J_108 := Kp_tr (Kp_rf (a := 49) (b := 49)) h_108.2.1
          have kI_108 : Ch [] [16, 17, 18] Ia I_108 := Ch_tr Ch_rf (Ch_wd h_108.1 (by decide) (by decide))
          have cI_108 : RX I_108 := h_108.2.2.1
          have qI_108 := RX_w cI_108
          have f15_I_108 : I_108 49 15 = Ia 49 15 := h_108.1.2 15 (by decide)
          have pI_108 : PI I_108 := h_108.2.2.2.1
          have oI_108 := PI_o pI_108
          have yI_108 := h_108.2.2.2.2
          refine ww_goto hX (pc := 111) (tgt := 118) dX11_readPart_111 (by decide) ?_
          refine rV hX (pc := 118) hT (Nat.le_refl 0) (Nat.le_refl 0) dX11_readPart_118 ?_
          exact ⟨kI_108, kJ_108, cI_108, pI_108, zRP_lf bb1 yI_108.2 (fun l => zPart_l hcb) (zLf_n ⟨by omega, by omega⟩), by omega⟩
        · simp only [w32_mod] at h_92
          refine ww_iload_n hX (pc := 95) dX11_readPart_95 rfl ?_
          refine ww_bipush hX (pc := 96) (x := 6) dX11_readPart_96 (by decide) ?_
          refine ww_icmp_lt hX (pc := 98) (tgt := 114) dX11_readPart_98 (by decide) (fun h_98 => ?_) (fun h_98 => ?_)
          · simp only [w32_mod] at h_98
            refine ww_aload_n hX (pc := 114) dX11_readPart_114 rfl ?_
            refine vV0 hX (pc := 115) sX11_168 (xs_49 hL) (c9_X11_faults l0 hL hQ  hP hk) (by omega) (Nat.le_refl 0) (Nat.le_refl 0) (Nat.le_of_ble_eq_true rfl) dX11_readPart_115 (fun I_115 J_115 h_115 => ?_)
            have kJ_115 : Kp 49 49 Ja J_115 := Kp_tr (Kp_rf (a := 49) (b := 49)) h_115.2.1
            have kI_115 : Ch [] [16, 17, 18] Ia I_115 := Ch_tr Ch_rf (Ch_wd h_115.1 (by decide) (by decide))
            have cI_115 : RX I_115 := h_115.2.2.1
            have qI_115 := RX_w cI_115
            have f15_I_115 : I_115 49 15 = Ia 49 15 := h_115.1.2 15 (by decide)
            have f16_I_115 : I_115 49 16 = Ia 49 16 := h_115.1.2 16 (by decide)
            have f17_I_115 : I_115 49 17 = Ia 49 17 := h_115.1.2 17 (by decide)
            have pI_115 : PI I_115 := h_115.2.2.2.1
            have oI_115 := PI_o pI_115
            have yI_115 := h_115.2.2.2.2
            refine rV hX (pc := 118) hT (Nat.le_refl 0) (Nat.le_refl 0) dX11_readPart_118 ?_
            exact ⟨kI_115, kJ_115, cI_115, pI_115, zRP_fa yI_115.2.2 (zRL_pp hk) (fun l => (zPart_l hcb).trans (zLe_0 (zLf_0 (by omega) (by omega)))), by omega⟩
          · simp only [w32_mod] at h_98
            refine ww_iload_n hX (pc := 101) dX11_readPart_101 rfl ?_
            refine ww_bipush hX (pc := 102) (x := 13) dX11_readPart_102 (by decide) ?_
            refine ww_icmp_gt hX (pc := 104) (tgt := 114) dX11_readPart_104 (by decide) (fun h_104 => ?_) (fun h_104 => ?_)
            · simp only [w32_mod] at h_104
              refine ww_aload_n hX (pc := 114) dX11_readPart_114 rfl ?_
              refine vV0 hX (pc := 115) sX11_168 (xs_49 hL) (c9_X11_faults l0 hL hQ  hP hk) (by omega) (Nat.le_refl 0) (Nat.le_refl 0) (Nat.le_of_ble_eq_true rfl) dX11_readPart_115 (fun I_115 J_115 h_115 => ?_)
              have kJ_115 : Kp 49 49 Ja J_115 := Kp_tr (Kp_rf (a := 49) (b := 49)) h_115.2.1
              have kI_115 : Ch [] [16, 17, 18] Ia I_115 := Ch_tr Ch_rf (Ch_wd h_115.1 (by decide) (by decide))
              have cI_115 : RX I_115 := h_115.2.2.1
              have qI_115 := RX_w cI_115
              have f15_I_115 : I_115 49 15 = Ia 49 15 := h_115.1.2 15 (by decide)
              have f16_I_115 : I_115 49 16 = Ia 49 16 := h_115.1.2 16 (by decide)
              have f17_I_115 : I_115 49 17 = Ia 49 17 := h_115.1.2 17 (by decide)
              have pI_115 : PI I_115 := h_115.2.2.2.1
              have oI_115 := PI_o pI_115
              have yI_115 := h_115.2.2.2.2
              refine rV hX (pc := 118) hT (Nat.le_refl 0) (Nat.le_refl 0) dX11_readPart_118 ?_
              exact ⟨kI_115, kJ_115, cI_115, pI_115, zRP_fa yI_115.2.2 (zRL_pp hk) (fun l => (zPart_l hcb).trans (zLe_0 (zLf_0 (by omega) (by omega)))), by omega⟩
            · simp only [w32_mod] at h_104
              refine ww_aload_n hX (pc := 107) dX11_readPart_107 rfl ?_
              refine vV0 hX (pc := 108) sX11_200 (xs_49 hL) (c9_X11_leaf l0 hL hQ  hP hk (by omega) (by omega)) (by omega) (Nat.le_refl 0) (Nat.le_refl 0) (Nat.le_of_ble_eq_true rfl) dX11_readPart_108 (fun I_108 J_108 h_108 => ?_)
              have kJ_108 : Kp 49 49 Ja J_108 := Kp_tr (Kp_rf (a := 49) (b := 49)) h_108.2.1
              have kI_108 : Ch [] [16, 17, 18] Ia I_108 := Ch_tr Ch_rf (Ch_wd h_108.1 (by decide) (by decide))
              have cI_108 : RX I_108 := h_108.2.2.1
              have qI_108 := RX_w cI_108
              have f15_I_108 : I_108 49 15 = Ia 49 15 := h_108.1.2 15 (by decide)
              have pI_108 : PI I_108 := h_108.2.2.2.1
              have oI_108 := PI_o pI_108
              have yI_108 := h_108.2.2.2.2
              refine ww_goto hX (pc := 111) (tgt := 118) dX11_readPart_111 (by decide) ?_
              refine rV hX (pc := 118) hT (Nat.le_refl 0) (Nat.le_refl 0) dX11_readPart_118 ?_
              exact ⟨kI_108, kJ_108, cI_108, pI_108, zRP_lf bb1 yI_108.2 (fun l => zPart_l hcb) (zLf_w ⟨by omega, by omega⟩), by omega⟩
    · simp only [w32_mod] at h_24
      have hcb : c (Ia 49 16).toNat = 191 := by omega
      refine ww_iload_n hX (pc := 27) dX11_readPart_27 rfl ?_
      refine ww_bipush hX (pc := 28) (x := 8) dX11_readPart_28 (by decide) ?_
      refine ww_icmp_ne hX (pc := 30) (tgt := 37) dX11_readPart_30 (by decide) (fun h_30 => ?_) (fun h_30 => ?_)
      · simp only [w32_mod] at h_30
        refine ww_aload_n hX (pc := 37) dX11_readPart_37 rfl ?_
        refine vI0 hX (pc := 38) sX11_158 (xs_49 hL) (c_X11_fine l0 hL hQ  hP) (by omega) (Nat.le_refl 0) (Nat.le_refl 0) (Nat.le_of_ble_eq_true rfl) dX11_readPart_38 (fun x_38 I_38 J_38 h_38 => ?_)
        obtain ⟨rfl, rfl, h_38⟩ := h_38
        refine ww_if_ne hX (pc := 41) (tgt := 45) dX11_readPart_41 (by decide) (fun h_41 => ?_) (fun h_41 => ?_)
        · simp only [w32_mod] at h_41
          have bb38 := FN_1 h_38.2 (by omega)
          obtain ⟨mp, rfl⟩ : ∃ mp, m = mp + 1 := ⟨m - 1, by omega⟩
          refine ww_aload_n hX (pc := 45) dX11_readPart_45 rfl ?_
          refine ww_dupR hX (pc := 46) dX11_readPart_46 ?_
          refine ww_getI hX (pc := 47) fX11_162 (by decide) (xs_49 hL) dX11_readPart_47 ?_
          refine ww_iconst hX (pc := 50) (x := 1) dX11_readPart_50 rfl ?_
          refine ww_iadd hX (pc := 51) dX11_readPart_51 ?_
          refine ww_putI hX (pc := 52) (fun h9 => absurd h9 (by decide)) gX11_162 rfl (xs_49 hL) dX11_readPart_52 ?_
          have lt52 := PI_lt hP (by omega)
          refine ww_nmH (fun I_52 eI_52 => ?_)
          have kI_52 : Ch [] [16, 17, 18] Ia I_52 := by rw [eI_52]; exact Ch_f Ch_rf (by decide)
          have cI_52 : RX I_52 := by rw [eI_52]; exact RX_f hQ (by decide)
          have qI_52 := RX_w cI_52
          have f15_I_52 : I_52 49 15 = Ia 49 15 := by rw [eI_52, up2_n _ _ (Or.inr (by decide))]
          have f17_I_52 : I_52 49 17 = Ia 49 17 := by rw [eI_52, up2_n _ _ (Or.inr (by decide))]
          have f18_I_52 : I_52 49 18 = Ia 49 18 := by rw [eI_52, up2_n _ _ (Or.inr (by decide))]
          have w16_I_52 : I_52 49 16 = Ia 49 16 + 1 := by rw [eI_52, up2_s]
          have pI_52 : PI I_52 := by rw [eI_52]; exact PI_f hP (by decide) (fun _ => ⟨by omega, by omega⟩) (fun h => absurd h (by decide))
          have oI_52 := PI_o pI_52
          refine ww_aload_n hX (pc := 55) dX11_readPart_55 rfl ?_
          refine ww_iload_n hX (pc := 56) dX11_readPart_56 rfl ?_
          refine ww_iconst hX (pc := 57) (x := 1) dX11_readPart_57 rfl ?_
          refine ww_iadd hX (pc := 58) dX11_readPart_58 ?_
          refine ww_toI (show (8 - ((mp + 1 : Nat) : Int)) + 1 = 8 - (mp : Int) by omega) ?_
          refine vV1 hX (pc := 59) sX11_178 (xs_49 hL) (hrec mp rfl hL cI_52 pI_52 (pvw_tr kI_52 (by decide) (by decide) hc) (zRL_tr kI_52 (by decide) (by decide) (by decide) hk)) (by omega) (Nat.le_refl 0) (Nat.le_refl 0) (Nat.le_of_ble_eq_true rfl) dX11_readPart_59 (fun I_59 J_59 h_59 => ?_)
          have kJ_59 : Kp 49 49 Ja J_59 := Kp_tr (Kp_rf (a := 49) (b := 49)) h_59.2.1
          have kI_59 : Ch [] [16, 17, 18] Ia I_59 := Ch_tr kI_52 (Ch_wd h_59.1 (by decide) (by decide))
          have cI_59 : RX I_59 := h_59.2.2.1
          have qI_59 := RX_w cI_59
          have f15_I_59 : I_59 49 15 = I_52 49 15 := h_59.1.2 15 (by decide)
          have pI_59 : PI I_59 := h_59.2.2.2.1
          have oI_59 := PI_o pI_59
          have yI_59 := h_59.2.2.2.2
          refine ww_aload_n hX (pc := 62) dX11_readPart_62 rfl ?_
          refine ww_bipush hX (pc := 63) (x := 93) dX11_readPart_63 (by decide) ?_
          refine sI1 hX (pc := 65) sX11_190 (c_X11_sign l0 ) (by omega) (Nat.le_refl 0) (Nat.le_refl 0) (Nat.le_of_ble_eq_true rfl) dX11_readPart_65 (fun x_65 I_65 J_65 h_65 => ?_)
          obtain ⟨rfl, rfl, h_65⟩ := h_65
          refine vV1 hX (pc := 68) sX11_174 (xs_49 hL) (c9_X11_must l0 hL cI_59  pI_59 (pvw_tr kI_59 (by decide) (by decide) hc) (zRL_tr kI_59 (by decide) (by decide) (by decide) hk) (by omega) (by omega)) (by omega) (Nat.le_refl 0) (Nat.le_refl 0) (Nat.le_of_ble_eq_true rfl) dX11_readPart_68 (fun I_68 J_68 h_68 => ?_)
          have kJ_68 : Kp 49 49 Ja J_68 := Kp_tr kJ_59 h_68.2.1
          have kI_68 : Ch [] [16, 17, 18] Ia I_68 := Ch_tr kI_59 (Ch_wd h_68.1 (by decide) (by decide))
          have cI_68 : RX I_68 := h_68.2.2.1
          have qI_68 := RX_w cI_68
          have f15_I_68 : I_68 49 15 = I_59 49 15 := h_68.1.2 15 (by decide)
          have f17_I_68 : I_68 49 17 = I_59 49 17 := h_68.1.2 17 (by decide)
          have pI_68 : PI I_68 := h_68.2.2.2.1
          have oI_68 := PI_o pI_68
          have yI_68 := h_68.2.2.2.2
          refine ww_goto hX (pc := 71) (tgt := 118) dX11_readPart_71 (by decide) ?_
          refine rV hX (pc := 118) hT (Nat.le_refl 0) (Nat.le_refl 0) dX11_readPart_118 ?_
          exact ⟨kI_68, kJ_68, cI_68, pI_68, zRP_br bb1 w16_I_52 f17_I_52 f18_I_52 hk.1 (PI_lt hP (by omega)) yI_59.1 yI_68.2 (by omega) (fun l => zPart_b hcb), by omega⟩
        · simp only [w32_mod] at h_41
          have nb38 := FN_0 h_38.2 (by omega)
          exact absurd bb1 nb38
      · simp only [w32_mod] at h_30
        refine ww_aload_n hX (pc := 33) dX11_readPart_33 rfl ?_
        refine vV0 hX (pc := 34) sX11_168 (xs_49 hL) (c9_X11_faults l0 hL hQ  hP hk) (by omega) (Nat.le_refl 0) (Nat.le_refl 0) (Nat.le_of_ble_eq_true rfl) dX11_readPart_34 (fun I_34 J_34 h_34 => ?_)
        have kJ_34 : Kp 49 49 Ja J_34 := Kp_tr (Kp_rf (a := 49) (b := 49)) h_34.2.1
        have kI_34 : Ch [] [16, 17, 18] Ia I_34 := Ch_tr Ch_rf (Ch_wd h_34.1 (by decide) (by decide))
        have cI_34 : RX I_34 := h_34.2.2.1
        have qI_34 := RX_w cI_34
        have f15_I_34 : I_34 49 15 = Ia 49 15 := h_34.1.2 15 (by decide)
        have f16_I_34 : I_34 49 16 = Ia 49 16 := h_34.1.2 16 (by decide)
        have f17_I_34 : I_34 49 17 = Ia 49 17 := h_34.1.2 17 (by decide)
        have pI_34 : PI I_34 := h_34.2.2.2.1
        have oI_34 := PI_o pI_34
        have yI_34 := h_34.2.2.2.2
        refine ww_aload_n hX (pc := 37) dX11_readPart_37 rfl ?_
        refine vI0 hX (pc := 38) sX11_158 (xs_49 hL) (c_X11_fine l0 hL cI_34  pI_34) (by omega) (Nat.le_refl 0) (Nat.le_refl 0) (Nat.le_of_ble_eq_true rfl) dX11_readPart_38 (fun x_38 I_38 J_38 h_38 => ?_)
        obtain ⟨rfl, rfl, h_38⟩ := h_38
        refine ww_if_ne hX (pc := 41) (tgt := 45) dX11_readPart_41 (by decide) (fun h_41 => ?_) (fun h_41 => ?_)
        · simp only [w32_mod] at h_41
          have bb38 := FN_1 h_38.2 (by omega)
          exfalso
          have h8 := yI_34.2.2.2 bb1
          have h7 := (zRL_p hk hP).2.2.1
          omega
        · simp only [w32_mod] at h_41
          have nb38 := FN_0 h_38.2 (by omega)
          refine rV hX (pc := 44) hT (Nat.le_refl 0) (Nat.le_refl 0) dX11_readPart_44 ?_
          exact ⟨kI_34, kJ_34, cI_34, pI_34, (by
              obtain rfl : m = 0 := by omega
              exact zRP_fa yI_34.2.2 (zRL_pp hk) (fun l => (zPart_b hcb).trans zBr_0)), by omega⟩
  · simp only [w32_mod] at h_4
    have nb1 := FN_0 h_1.2 (by omega)
    refine rV hX (pc := 7) hT (Nat.le_refl 0) (Nat.le_refl 0) dX11_readPart_7 ?_
    exact ⟨Ch_rf, (Kp_rf (a := 49) (b := 49)), hQ, hP, zRP_n nb1, by omega⟩
