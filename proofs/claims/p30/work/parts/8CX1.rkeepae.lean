set_option maxHeartbeats 4000000 in
set_option maxRecDepth 20000 in
theorem c8_X11_isBetter (l0 : Launch) {Ia Ja : aI1} {Ra : aR1} {Sa : aS1} (hL : LY Ra Sa) (hQ : RX Ia) {s t u m : Int} (hs0 : 0 ≤ s) (hs1 : s ≤ FU (Ia 51 304)) (ht0 : 0 ≤ t) (ht1 : t ≤ FU (Ia 51 304)) (hu0 : 0 ≤ u) (hu1 : u ≤ FU (Ia 51 304)) (hm0 : 0 ≤ m) (hm1 : m ≤ 3) (hO : ∀ l, l < 8 → 0 ≤ Ia 51 (256 + l) ∧ Ia 51 (256 + l) ≤ 99) (hst : s.toNat &&& t.toNat = s.toNat) (hsu : s.toNat &&& u.toNat = s.toNat) (hM : ∀ t : Nat, (t : Int) ≤ FU (Ia 51 304) → MR8 (Ia 51 304) (Ia 51 305 - 1) (Ia 51 t) (pcn t) (Ja 62 t))  : CT l0 2 0 0 mX11_isBetter [kR (some 49), kI s, kI t, kI u, kI m] Ia Ja Ra Sa (cI (fun x I' J' => Ia = I' ∧ Ja = J' ∧ (x = 0 ∨ x = 1) ∧ (x = 1 ↔ bR m s (Ia 51 304) (Ia 51 305) (Ia 51) (Ia 61) (Ja 62) t.toNat u.toNat = true)) Ra Sa) := by
  refine ct_in pn_X11 (Nat.le_of_ble_eq_true rfl) (fun X hX hT hIn => ?_)
  have hX : aK l0 X cX11_isBetter 7 RX11 (some .boolean) 2 0 0 := hX
  change WW X 0 [some (kR (some 49)), some (kI s), some (kI t), some (kI u), some (kI m), none, none] [] Ia Ja Ra Sa 0 0
  have qIa := RX_o hQ
  have hdt := anx_N (s := t) (t := s) (by omega) (by omega) (by omega) (by omega)
  have hdu := anx_N (s := u) (t := s) (by omega) (by omega) (by omega) (by omega)
  have hlt9 := df_lt (s := t.toNat) (t := s.toNat) (by omega)
  have hlu9 := df_lt (s := u.toNat) (t := s.toNat) (by omega)
  have hpt9 := pcn_r (df t.toNat s.toNat)
  have hpu9 := pcn_r (df u.toNat s.toNat)
  have hot := oilF_r (k := Ia 51) (a := ((df t.toNat s.toNat : Nat) : Int)) hO (Ia 51 304).toNat (by omega)
  have hou := oilF_r (k := Ia 51) (a := ((df u.toNat s.toNat : Nat) : Int)) hO (Ia 51 304).toNat (by omega)
  have hbt9 := hQ.2.2.1 t.toNat (by omega)
  have hbu9 := hQ.2.2.1 u.toNat (by omega)
  have hns := pcn_n (n := Ia 51 304) (t := s.toNat) (by omega) (by omega) (by omega)
  have hnt := pcn_n (n := Ia 51 304) (t := t.toNat) (by omega) (by omega) (by omega)
  have hnu := pcn_n (n := Ia 51 304) (t := u.toNat) (by omega) (by omega) (by omega)
  have hrs := pcn_r s.toNat
  have hrt := pcn_r t.toNat
  have hru := pcn_r u.toNat
  have hjt := tJ_r (s := s.toNat) (t := t.toNat) (K := Ia 51 305) (n := Ia 51 304) (by omega) (by omega) (by omega) (by omega) (hM t.toNat (by omega)) (pcn_le hst)
  have hju := tJ_r (s := s.toNat) (t := u.toNat) (K := Ia 51 305) (n := Ia 51 304) (by omega) (by omega) (by omega) (by omega) (hM u.toNat (by omega)) (pcn_le hsu)
  refine ww_iload_n hX (pc := 0) dX11_isBetter_0 rfl ?_
  refine ww_iload_n hX (pc := 1) dX11_isBetter_1 rfl ?_
  refine ww_iconst hX (pc := 2) (x := (-1)) dX11_isBetter_2 rfl ?_
  refine ww_ixor hX (pc := 3) dX11_isBetter_3 ?_
  refine ww_iand hX (pc := 4) dX11_isBetter_4 ?_
  refine sI1 hX (pc := 5) sX11_259 (c7_X11_ones l0 (by omega) (by omega)) (by decide) (Nat.le_refl 0) (Nat.le_refl 0) (Nat.le_of_ble_eq_true rfl) dX11_isBetter_5 (fun x_5 I_5 J_5 h_5 => ?_)
  obtain ⟨rfl, rfl, h_5⟩ := h_5
  rw [hdt, Int.toNat_natCast] at h_5
  refine ww_iload_n hX (pc := 8) dX11_isBetter_8 rfl ?_
  refine ww_iload_n hX (pc := 9) dX11_isBetter_9 rfl ?_
  refine ww_iconst hX (pc := 10) (x := (-1)) dX11_isBetter_10 rfl ?_
  refine ww_ixor hX (pc := 11) dX11_isBetter_11 ?_
  refine ww_iand hX (pc := 12) dX11_isBetter_12 ?_
  refine sI1 hX (pc := 13) sX11_259 (c7_X11_ones l0 (by omega) (by omega)) (by decide) (Nat.le_refl 0) (Nat.le_refl 0) (Nat.le_of_ble_eq_true rfl) dX11_isBetter_13 (fun x_13 I_13 J_13 h_13 => ?_)
  obtain ⟨rfl, rfl, h_13⟩ := h_13
  rw [hdu, Int.toNat_natCast] at h_13
  refine ww_isub hX (pc := 16) dX11_isBetter_16 ?_
  refine ww_nmI (fun v_17 hv_17 => ?_)
  refine ww_istore hX (pc := 17) (lv' := [some (kR (some 49)), some (kI s), some (kI t), some (kI u), some (kI m), some (kI v_17), none]) dX11_isBetter_17 (by decide) rfl rfl ?_
  refine ww_iload hX (pc := 19) dX11_isBetter_19 rfl ?_
  refine ww_if_ne hX (pc := 21) (tgt := 35) dX11_isBetter_21 (by decide) (fun h_21 => ?_) (fun h_21 => ?_)
  · simp only [w32_mod] at h_21
    refine ww_iload hX (pc := 35) dX11_isBetter_35 rfl ?_
    refine ww_iconst hX (pc := 37) (x := 1) dX11_isBetter_37 rfl ?_
    refine ww_icmp_ne hX (pc := 38) (tgt := 68) dX11_isBetter_38 (by decide) (fun h_38 => ?_) (fun h_38 => ?_)
    · simp only [w32_mod] at h_38
      refine ww_iload hX (pc := 68) dX11_isBetter_68 rfl ?_
      refine ww_iconst hX (pc := 70) (x := 2) dX11_isBetter_70 rfl ?_
      refine ww_icmp_ne hX (pc := 71) (tgt := 115) dX11_isBetter_71 (by decide) (fun h_71 => ?_) (fun h_71 => ?_)
      · simp only [w32_mod] at h_71
        refine ww_aload_n hX (pc := 115) dX11_isBetter_115 rfl ?_
        refine ww_iload_n hX (pc := 116) dX11_isBetter_116 rfl ?_
        refine vI1 hX (pc := 117) sX11_274 (xs_49 hL) (c8_X11_dark l0 hL hQ (by omega) (by omega)) (by decide) (Nat.le_refl 0) (Nat.le_refl 0) (Nat.le_of_ble_eq_true rfl) dX11_isBetter_117 (fun x_117 I_117 J_117 h_117 => ?_)
        obtain ⟨rfl, rfl, h_117⟩ := h_117
        refine ww_iconst hX (pc := 120) (x := 1) dX11_isBetter_120 rfl ?_
        refine ww_iadd hX (pc := 121) dX11_isBetter_121 ?_
        refine ww_nmI (fun v_122 hv_122 => ?_)
        refine ww_istore hX (pc := 122) (lv' := [some (kR (some 49)), some (kI s), some (kI t), some (kI u), some (kI m), some (kI v_17), some (kI v_122)]) dX11_isBetter_122 (by decide) rfl rfl ?_
        refine ww_aload_n hX (pc := 124) dX11_isBetter_124 rfl ?_
        refine ww_getR hX (pc := 125) fX11_58 (by decide) (xs_49 hL) (xr_49_24 hL) dX11_isBetter_125 ?_
        refine ww_iload_n hX (pc := 128) dX11_isBetter_128 rfl ?_
        refine ww_lald hX (pc := 129) (xs_62 hL) (by decide) (by omega) (by omega) dX11_isBetter_129 ?_
        refine ww_aload_n hX (pc := 130) dX11_isBetter_130 rfl ?_
        refine ww_iload hX (pc := 131) dX11_isBetter_131 rfl ?_
        refine ww_aload_n hX (pc := 133) dX11_isBetter_133 rfl ?_
        refine ww_iload_n hX (pc := 134) dX11_isBetter_134 rfl ?_
        refine vI1 hX (pc := 135) sX11_274 (xs_49 hL) (c8_X11_dark l0 hL hQ (by omega) (by omega)) (by decide) (Nat.le_refl 0) (Nat.le_refl 0) (Nat.le_of_ble_eq_true rfl) dX11_isBetter_135 (fun x_135 I_135 J_135 h_135 => ?_)
        obtain ⟨rfl, rfl, h_135⟩ := h_135
        refine ww_isub hX (pc := 138) dX11_isBetter_138 ?_
        refine vJ1 hX (pc := 139) sX11_277 (xs_49 hL) (c_X11_power l0 hL hQ (by omega) (by omega)) (by decide) (Nat.le_refl 0) (Nat.le_refl 0) (Nat.le_of_ble_eq_true rfl) dX11_isBetter_139 (fun x_139 I_139 J_139 h_139 => ?_)
        obtain ⟨rfl, rfl, h_139⟩ := h_139
        refine ww_lmul hX (pc := 142) dX11_isBetter_142 ?_
        refine ww_toL (b := tJ (Ja 62) (Ia 51 305) (Ia 51 304) s.toNat t.toNat) (by rw [h_139, hv_122, h_117, h_135]; rfl) ?_
        refine ww_aload_n hX (pc := 143) dX11_isBetter_143 rfl ?_
        refine ww_getR hX (pc := 144) fX11_58 (by decide) (xs_49 hL) (xr_49_24 hL) dX11_isBetter_144 ?_
        refine ww_iload_n hX (pc := 147) dX11_isBetter_147 rfl ?_
        refine ww_lald hX (pc := 148) (xs_62 hL) (by decide) (by omega) (by omega) dX11_isBetter_148 ?_
        refine ww_aload_n hX (pc := 149) dX11_isBetter_149 rfl ?_
        refine ww_iload hX (pc := 150) dX11_isBetter_150 rfl ?_
        refine ww_aload_n hX (pc := 152) dX11_isBetter_152 rfl ?_
        refine ww_iload_n hX (pc := 153) dX11_isBetter_153 rfl ?_
        refine vI1 hX (pc := 154) sX11_274 (xs_49 hL) (c8_X11_dark l0 hL hQ (by omega) (by omega)) (by decide) (Nat.le_refl 0) (Nat.le_refl 0) (Nat.le_of_ble_eq_true rfl) dX11_isBetter_154 (fun x_154 I_154 J_154 h_154 => ?_)
        obtain ⟨rfl, rfl, h_154⟩ := h_154
        refine ww_isub hX (pc := 157) dX11_isBetter_157 ?_
        refine vJ1 hX (pc := 158) sX11_277 (xs_49 hL) (c_X11_power l0 hL hQ (by omega) (by omega)) (by decide) (Nat.le_refl 0) (Nat.le_refl 0) (Nat.le_of_ble_eq_true rfl) dX11_isBetter_158 (fun x_158 I_158 J_158 h_158 => ?_)
        obtain ⟨rfl, rfl, h_158⟩ := h_158
        refine ww_lmul hX (pc := 161) dX11_isBetter_161 ?_
        refine ww_toL (b := tJ (Ja 62) (Ia 51 305) (Ia 51 304) s.toNat u.toNat) (by rw [h_158, hv_122, h_117, h_154]; rfl) ?_
        have hlc := l_cmp_v (tJ (Ja 62) (Ia 51 305) (Ia 51 304) s.toNat t.toNat) (tJ (Ja 62) (Ia 51 305) (Ia 51 304) s.toNat u.toNat)
        rw [w64_id (x := tJ (Ja 62) (Ia 51 305) (Ia 51 304) s.toNat t.toNat) (by omega) (by omega), w64_id (x := tJ (Ja 62) (Ia 51 305) (Ia 51 304) s.toNat u.toNat) (by omega) (by omega)] at hlc
        refine ww_lcmp hX (pc := 162) dX11_isBetter_162 ?_
        refine ww_if_le hX (pc := 163) (tgt := 170) dX11_isBetter_163 (by decide) (fun h_163 => ?_) (fun h_163 => ?_)
        · simp only [w32_mod] at h_163
          refine ww_iconst hX (pc := 170) (x := 0) dX11_isBetter_170 rfl ?_
          refine rZ hX (pc := 171) hT (Nat.le_refl 0) (Nat.le_refl 0) dX11_isBetter_171 (by decide) ?_
          exact ⟨rfl, rfl, by omega, (by
                unfold bR
                rw [if_neg (show ¬ m = 0 by omega), if_neg (show ¬ m = 1 by omega), if_neg (show ¬ m = 2 by omega), decide_eq_true_iff]
                omega)⟩
        · simp only [w32_mod] at h_163
          refine ww_iconst hX (pc := 166) (x := 1) dX11_isBetter_166 rfl ?_
          refine ww_goto hX (pc := 167) (tgt := 171) dX11_isBetter_167 (by decide) ?_
          refine rZ hX (pc := 171) hT (Nat.le_refl 0) (Nat.le_refl 0) dX11_isBetter_171 (by decide) ?_
          exact ⟨rfl, rfl, by omega, (by
                unfold bR
                rw [if_neg (show ¬ m = 0 by omega), if_neg (show ¬ m = 1 by omega), if_neg (show ¬ m = 2 by omega), decide_eq_true_iff]
                omega)⟩
      · simp only [w32_mod] at h_71
        refine ww_aload_n hX (pc := 74) dX11_isBetter_74 rfl ?_
        refine ww_getR hX (pc := 75) fX11_55 (by decide) (xs_49 hL) (xr_49_23 hL) dX11_isBetter_75 ?_
        refine ww_iload_n hX (pc := 78) dX11_isBetter_78 rfl ?_
        refine ww_iald hX (pc := 79) (xs_61 hL) (by decide) (by omega) (by omega) dX11_isBetter_79 ?_
        refine ww_aload_n hX (pc := 80) dX11_isBetter_80 rfl ?_
        refine ww_getR hX (pc := 81) fX11_55 (by decide) (xs_49 hL) (xr_49_23 hL) dX11_isBetter_81 ?_
        refine ww_iload_n hX (pc := 84) dX11_isBetter_84 rfl ?_
        refine ww_iald hX (pc := 85) (xs_61 hL) (by decide) (by omega) (by omega) dX11_isBetter_85 ?_
        refine ww_icmp_gt hX (pc := 86) (tgt := 109) dX11_isBetter_86 (by decide) (fun h_86 => ?_) (fun h_86 => ?_)
        · simp only [w32_mod] at h_86
          refine ww_iconst hX (pc := 109) (x := 1) dX11_isBetter_109 rfl ?_
          refine ww_goto hX (pc := 110) (tgt := 114) dX11_isBetter_110 (by decide) ?_
          refine rZ hX (pc := 114) hT (Nat.le_refl 0) (Nat.le_refl 0) dX11_isBetter_114 (by decide) ?_
          exact ⟨rfl, rfl, by omega, (by
                unfold bR
                rw [if_neg (show ¬ m = 0 by omega), if_neg (show ¬ m = 1 by omega), if_pos (show m = 2 by omega), decide_eq_true_iff]
                omega)⟩
        · simp only [w32_mod] at h_86
          refine ww_aload_n hX (pc := 89) dX11_isBetter_89 rfl ?_
          refine ww_getR hX (pc := 90) fX11_55 (by decide) (xs_49 hL) (xr_49_23 hL) dX11_isBetter_90 ?_
          refine ww_iload_n hX (pc := 93) dX11_isBetter_93 rfl ?_
          refine ww_iald hX (pc := 94) (xs_61 hL) (by decide) (by omega) (by omega) dX11_isBetter_94 ?_
          refine ww_aload_n hX (pc := 95) dX11_isBetter_95 rfl ?_
          refine ww_getR hX (pc := 96) fX11_55 (by decide) (xs_49 hL) (xr_49_23 hL) dX11_isBetter_96 ?_
          refine ww_iload_n hX (pc := 99) dX11_isBetter_99 rfl ?_
          refine ww_iald hX (pc := 100) (xs_61 hL) (by decide) (by omega) (by omega) dX11_isBetter_100 ?_
          refine ww_icmp_ne hX (pc := 101) (tgt := 113) dX11_isBetter_101 (by decide) (fun h_101 => ?_) (fun h_101 => ?_)
          · simp only [w32_mod] at h_101
            refine ww_iconst hX (pc := 113) (x := 0) dX11_isBetter_113 rfl ?_
            refine rZ hX (pc := 114) hT (Nat.le_refl 0) (Nat.le_refl 0) dX11_isBetter_114 (by decide) ?_
            exact ⟨rfl, rfl, by omega, (by
                  unfold bR
                  rw [if_neg (show ¬ m = 0 by omega), if_neg (show ¬ m = 1 by omega), if_pos (show m = 2 by omega), decide_eq_true_iff]
                  omega)⟩
          · simp only [w32_mod] at h_101
            refine ww_iload hX (pc := 104) dX11_isBetter_104 rfl ?_
            refine ww_if_ge hX (pc := 106) (tgt := 113) dX11_isBetter_106 (by decide) (fun h_106 => ?_) (fun h_106 => ?_)
            · simp only [w32_mod] at h_106
              refine ww_iconst hX (pc := 113) (x := 0) dX11_isBetter_113 rfl ?_
              refine rZ hX (pc := 114) hT (Nat.le_refl 0) (Nat.le_refl 0) dX11_isBetter_114 (by decide) ?_
              exact ⟨rfl, rfl, by omega, (by
                    unfold bR
                    rw [if_neg (show ¬ m = 0 by omega), if_neg (show ¬ m = 1 by omega), if_pos (show m = 2 by omega), decide_eq_true_iff]
                    omega)⟩
            · simp only [w32_mod] at h_106
              refine ww_iconst hX (pc := 109) (x := 1) dX11_isBetter_109 rfl ?_
              refine ww_goto hX (pc := 110) (tgt := 114) dX11_isBetter_110 (by decide) ?_
              refine rZ hX (pc := 114) hT (Nat.le_refl 0) (Nat.le_refl 0) dX11_isBetter_114 (by decide) ?_
              exact ⟨rfl, rfl, by omega, (by
                    unfold bR
                    rw [if_neg (show ¬ m = 0 by omega), if_neg (show ¬ m = 1 by omega), if_pos (show m = 2 by omega), decide_eq_true_iff]
                    omega)⟩
    · simp only [w32_mod] at h_38
      refine ww_aload_n hX (pc := 41) dX11_isBetter_41 rfl ?_
      refine ww_iload_n hX (pc := 42) dX11_isBetter_42 rfl ?_
      refine ww_iload_n hX (pc := 43) dX11_isBetter_43 rfl ?_
      refine ww_iconst hX (pc := 44) (x := (-1)) dX11_isBetter_44 rfl ?_
      refine ww_ixor hX (pc := 45) dX11_isBetter_45 ?_
      refine ww_iand hX (pc := 46) dX11_isBetter_46 ?_
      refine vI1 hX (pc := 47) sX11_301 (xs_49 hL) (c_X11_oilOf l0 hL hQ ) (by decide) (Nat.le_refl 0) (Nat.le_refl 0) (Nat.le_of_ble_eq_true rfl) dX11_isBetter_47 (fun x_47 I_47 J_47 h_47 => ?_)
      obtain ⟨rfl, rfl, h_47⟩ := h_47
      rw [hdt] at h_47
      refine ww_aload_n hX (pc := 50) dX11_isBetter_50 rfl ?_
      refine ww_iload_n hX (pc := 51) dX11_isBetter_51 rfl ?_
      refine ww_iload_n hX (pc := 52) dX11_isBetter_52 rfl ?_
      refine ww_iconst hX (pc := 53) (x := (-1)) dX11_isBetter_53 rfl ?_
      refine ww_ixor hX (pc := 54) dX11_isBetter_54 ?_
      refine ww_iand hX (pc := 55) dX11_isBetter_55 ?_
      refine vI1 hX (pc := 56) sX11_301 (xs_49 hL) (c_X11_oilOf l0 hL hQ ) (by decide) (Nat.le_refl 0) (Nat.le_refl 0) (Nat.le_of_ble_eq_true rfl) dX11_isBetter_56 (fun x_56 I_56 J_56 h_56 => ?_)
      obtain ⟨rfl, rfl, h_56⟩ := h_56
      rw [hdu] at h_56
      refine ww_icmp_ge hX (pc := 59) (tgt := 66) dX11_isBetter_59 (by decide) (fun h_59 => ?_) (fun h_59 => ?_)
      · simp only [w32_mod] at h_59
        refine ww_iconst hX (pc := 66) (x := 0) dX11_isBetter_66 rfl ?_
        refine rZ hX (pc := 67) hT (Nat.le_refl 0) (Nat.le_refl 0) dX11_isBetter_67 (by decide) ?_
        exact ⟨rfl, rfl, by omega, (by
              unfold bR
              rw [if_neg (show ¬ m = 0 by omega), if_pos (show m = 1 by omega), decide_eq_true_iff]
              omega)⟩
      · simp only [w32_mod] at h_59
        refine ww_iconst hX (pc := 62) (x := 1) dX11_isBetter_62 rfl ?_
        refine ww_goto hX (pc := 63) (tgt := 67) dX11_isBetter_63 (by decide) ?_
        refine rZ hX (pc := 67) hT (Nat.le_refl 0) (Nat.le_refl 0) dX11_isBetter_67 (by decide) ?_
        exact ⟨rfl, rfl, by omega, (by
              unfold bR
              rw [if_neg (show ¬ m = 0 by omega), if_pos (show m = 1 by omega), decide_eq_true_iff]
              omega)⟩
  · simp only [w32_mod] at h_21
    refine ww_iload hX (pc := 24) dX11_isBetter_24 rfl ?_
    refine ww_if_ge hX (pc := 26) (tgt := 33) dX11_isBetter_26 (by decide) (fun h_26 => ?_) (fun h_26 => ?_)
    · simp only [w32_mod] at h_26
      refine ww_iconst hX (pc := 33) (x := 0) dX11_isBetter_33 rfl ?_
      refine rZ hX (pc := 34) hT (Nat.le_refl 0) (Nat.le_refl 0) dX11_isBetter_34 (by decide) ?_
      exact ⟨rfl, rfl, by omega, (by
            unfold bR
            rw [if_pos (show m = 0 by omega), decide_eq_true_iff]
            omega)⟩
    · simp only [w32_mod] at h_26
      refine ww_iconst hX (pc := 29) (x := 1) dX11_isBetter_29 rfl ?_
      refine ww_goto hX (pc := 30) (tgt := 34) dX11_isBetter_30 (by decide) ?_
      refine rZ hX (pc := 34) hT (Nat.le_refl 0) (Nat.le_refl 0) dX11_isBetter_34 (by decide) ?_
      exact ⟨rfl, rfl, by omega, (by
            unfold bR
            rw [if_pos (show m = 0 by omega), decide_eq_true_iff]
            omega)⟩
