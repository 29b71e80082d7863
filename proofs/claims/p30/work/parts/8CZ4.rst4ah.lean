theorem c_URSum9 (l0 : Launch) : ∀ m : Nat, m ≤ 8 → URSum9 l0 m
  | 0, h => fun hL hQ hP _ hc _ _ _ hk => c9_X11_readSum l0 hL hQ hP hc hk (m := 0) h (fun mp e => absurd e (by omega))
  | m + 1, h => fun hL hQ hP _ hc _ _ _ hk => c9_X11_readSum l0 hL hQ hP hc hk (m := m + 1) h (fun mp e => by
      obtain rfl : m = mp := by omega
      exact c_URSum9 l0 m (by omega))
set_option maxHeartbeats 4000000 in
set_option maxRecDepth 20000 in
theorem c9_X11_readPlain (l0 : Launch) {Ia Ja : aI1} {Ra : aR1} {Sa : aS1} (hL : LY Ra Sa) (hQ : RX Ia) (hP : PI Ia) {c : Nat → Int} (hc : pvw Ia = c) {vl pl : Nat → Int} {T : Nat} (hk : zRL Ia vl pl T) {m : Nat} (hm : m ≤ 8) (hrec : ∀ mp, m = mp + 1 → URTest9 l0 mp)  : CT l0 (3 * m + 6) 0 0 mX11_readPlain [kR (some 49), kI (8 - (m : Int))] Ia Ja Ra Sa (cV (fun I' J' => Ch [] [16, 17, 18] Ia I' ∧ Kp 49 49 Ja J' ∧ RX I' ∧ PI I' ∧ zRP T pl (zPl (zTu c vl m) (zS c vl m) c) Ia I' ∧ Ia 49 16 ≤ I' 49 16) Ra Sa) := by
  refine ct_in pn_X11 (Nat.le_of_ble_eq_true rfl) (fun X hX hT hIn => ?_)
  have hX : aK l0 X cX11_readPlain 4 RX11 none (3 * m + 6) 0 0 := hX
  change WW X 0 [some (kR (some 49)), some (kI (8 - (m : Int))), none, none] [] Ia Ja Ra Sa 0 0
  have qIa := RX_w hQ
  have oIa := PI_o hP
  have tIa := PI_t hP
  have atIa := pvw_at hP hc
  refine ww_iconst hX (pc := 0) (x := 1) dX11_readPlain_0 rfl ?_
  refine ww_istore_n hX (pc := 1) (lv' := [some (kR (some 49)), some (kI (8 - (m : Int))), some (kI 1), none]) dX11_readPlain_1 (by decide) rfl rfl ?_
  have hl_2 : ∀ (n_2 : Nat) (fl : Int) (I2 : aI1) (J2 : aI1), (2 * (I2 49 15 - I2 49 16) + fl).toNat = n_2 → (Ch [] [16, 17, 18] Ia I2 ∧ RX I2 ∧ Kp 49 49 Ja J2 ∧ I2 49 15 = Ia 49 15 ∧ PI I2 ∧ (0 ≤ fl ∧ fl ≤ 1) ∧ zNL T c Ia I2 ∧ Ia 49 16 ≤ I2 49 16 ∧ F5 fl c I2) → WW X 2 [some (kR (some 49)), some (kI (8 - (m : Int))), some (kI fl), none] [] I2 J2 Ra Sa 0 0 := by
    intro n_2
    induction n_2 using Nat.strongRecOn with
    | ind n_2 ih_2 =>
      intro fl I2 J2 hm_2 hv_2
      have hq_2 := Sh0_i hm_2
      clear hm_2
      obtain ⟨kI2, cI2, kJ2, f15_I2, pI2, hfl, hnl, hmo, hn5⟩ := hv_2
      have qI2 := RX_w cI2
      have oI2 := PI_o pI2
      have tI2 := PI_t pI2
      have tI2 := PI_t pI2
      have atI2 := pvw_at pI2 (pvw_tr kI2 (by decide) (by decide) hc)
      have hT2 := hk.2.1
      have hT3 := (zRL_tr kI2 (by decide) (by decide) (by decide) hk).1
      refine ww_iload_n hX (pc := 2) dX11_readPlain_2 rfl ?_
      refine ww_if_eq hX (pc := 3) (tgt := 15) dX11_readPlain_3 (by decide) (fun h_3 => ?_) (fun h_3 => ?_)
      · simp only [w32_mod] at h_3
        have hne : zNE T c Ia I2 := zNL_e hnl (hn5 (by omega))
        refine ww_aload_n hX (pc := 15) dX11_readPlain_15 rfl ?_
        refine vI0 hX (pc := 16) sX11_158 (xs_49 hL) (c_X11_fine l0 hL cI2  pI2) (by omega) (Nat.le_refl 0) (Nat.le_refl 0) (Nat.le_of_ble_eq_true rfl) dX11_readPlain_16 (fun x_16 I_16 J_16 h_16 => ?_)
        obtain ⟨rfl, rfl, h_16⟩ := h_16
        refine ww_if_ne hX (pc := 19) (tgt := 23) dX11_readPlain_19 (by decide) (fun h_19 => ?_) (fun h_19 => ?_)
        · simp only [w32_mod] at h_19
          have bb16 := FN_1 h_16.2 (by omega)
          refine ww_aload_n hX (pc := 23) dX11_readPlain_23 rfl ?_
          refine ww_getR hX (pc := 24) fX11_43 (by decide) (xs_49 hL) (xr_49_12 hL) dX11_readPlain_24 ?_
          refine ww_aload_n hX (pc := 27) dX11_readPlain_27 rfl ?_
          refine ww_getI hX (pc := 28) fX11_162 (by decide) (xs_49 hL) dX11_readPlain_28 ?_
          refine ww_iald hX (pc := 31) (xs_57 hL) (by decide) (by omega) (by omega) dX11_readPlain_31 ?_
          refine ww_nmI (fun v_32 hv_32 => ?_)
          refine ww_istore_n hX (pc := 32) (lv' := [some (kR (some 49)), some (kI (8 - (m : Int))), some (kI fl), some (kI v_32)]) dX11_readPlain_32 (by decide) rfl rfl ?_
          have atI2 := pvw_at pI2 (pvw_tr kI2 (by decide) (by decide) hc)
          refine ww_iload_n hX (pc := 33) dX11_readPlain_33 rfl ?_
          refine ww_bipush hX (pc := 34) (x := 40) dX11_readPlain_34 (by decide) ?_
          refine sI1 hX (pc := 36) sX11_190 (c_X11_sign l0 ) (by omega) (Nat.le_refl 0) (Nat.le_refl 0) (Nat.le_of_ble_eq_true rfl) dX11_readPlain_36 (fun x_36 I_36 J_36 h_36 => ?_)
          obtain ⟨rfl, rfl, h_36⟩ := h_36
          refine ww_icmp_ne hX (pc := 39) (tgt := 89) dX11_readPlain_39 (by decide) (fun h_39 => ?_) (fun h_39 => ?_)
          · simp only [w32_mod] at h_39
            have hcb : ¬ c (I2 49 16).toNat = 140 := by omega
            refine ww_aload_n hX (pc := 89) dX11_readPlain_89 rfl ?_
            refine ww_iload_n hX (pc := 90) dX11_readPlain_90 rfl ?_
            refine vV1 hX (pc := 91) sX11_178 (xs_49 hL) (c_URSum9 l0 m hm hL cI2 pI2 (pvw_tr kI2 (by decide) (by decide) hc) (zRL_tr kI2 (by decide) (by decide) (by decide) hk)) (by omega) (Nat.le_refl 0) (Nat.le_refl 0) (Nat.le_of_ble_eq_true rfl) dX11_readPlain_91 (fun I_91 J_91 h_91 => ?_)
            have kJ_91 : Kp 49 49 Ja J_91 := Kp_tr kJ2 h_91.2.1
            have kI_91 : Ch [] [16, 17, 18] Ia I_91 := Ch_tr kI2 (Ch_wd h_91.1 (by decide) (by decide))
            have cI_91 : RX I_91 := h_91.2.2.1
            have qI_91 := RX_w cI_91
            have f15_I_91 : I_91 49 15 = I2 49 15 := h_91.1.2 15 (by decide)
            have pI_91 : PI I_91 := h_91.2.2.2.1
            have oI_91 := PI_o pI_91
            have yI_91 := h_91.2.2.2.2
            refine ww_aload_n hX (pc := 94) dX11_readPlain_94 rfl ?_
            refine ww_bipush hX (pc := 95) (x := 60) dX11_readPlain_95 (by decide) ?_
            refine sI1 hX (pc := 97) sX11_190 (c_X11_sign l0 ) (by omega) (Nat.le_refl 0) (Nat.le_refl 0) (Nat.le_of_ble_eq_true rfl) dX11_readPlain_97 (fun x_97 I_97 J_97 h_97 => ?_)
            obtain ⟨rfl, rfl, h_97⟩ := h_97
            refine vI1 hX (pc := 100) sX11_165 (xs_49 hL) (c9_X11_takes0 l0 hL cI_91  pI_91 (pvw_tr kI_91 (by decide) (by decide) hc) (by omega) (by omega)) (by omega) (Nat.le_refl 0) (Nat.le_refl 0) (Nat.le_of_ble_eq_true rfl) dX11_readPlain_100 (fun x_100 I_100 J_100 h_100 => ?_)
            have kJ_100 : Kp 49 49 Ja J_100 := Kp_tr kJ_91 h_100.2.1
            have kI_100 : Ch [] [16, 17, 18] Ia I_100 := Ch_tr kI_91 (Ch_wd h_100.1 (by decide) (by decide))
            have cI_100 : RX I_100 := h_100.2.2.1
            have qI_100 := RX_w cI_100
            have f15_I_100 : I_100 49 15 = I_91 49 15 := h_100.1.2 15 (by decide)
            have f17_I_100 : I_100 49 17 = I_91 49 17 := h_100.1.2 17 (by decide)
            have f18_I_100 : I_100 49 18 = I_91 49 18 := h_100.1.2 18 (by decide)
            have pI_100 : PI I_100 := h_100.2.2.2.1
            have oI_100 := PI_o pI_100
            have yI_100 := h_100.2.2.2.2
            refine ww_if_ne hX (pc := 103) (tgt := 127) dX11_readPlain_103 (by decide) (fun h_103 => ?_) (fun h_103 => ?_)
            · simp only [w32_mod] at h_103
              have s100 := TK_1 yI_100.2.2.2 (by omega)
              have sg : zSM c pl T I_91 I_100 := zSM_1 (r := 160) ⟨s100.1, by have h9 := s100.2.1; omega, s100.2.2⟩ (by decide) (by omega) (by omega) (zRL_tr kI_91 (by decide) (by decide) (by decide) hk).1 (PI_lt pI_91 (by have h7 := pvw_at pI_91 (pvw_tr kI_91 (by decide) (by decide) hc); have h8 := s100.2.1; omega))
              refine ww_aload_n hX (pc := 127) dX11_readPlain_127 rfl ?_
              refine ww_iload_n hX (pc := 128) dX11_readPlain_128 rfl ?_
              refine vV1 hX (pc := 129) sX11_178 (xs_49 hL) (c_URSum9 l0 m hm hL cI_100 pI_100 (pvw_tr kI_100 (by decide) (by decide) hc) (zRL_tr kI_100 (by decide) (by decide) (by decide) hk)) (by omega) (Nat.le_refl 0) (Nat.le_refl 0) (Nat.le_of_ble_eq_true rfl) dX11_readPlain_129 (fun I_129 J_129 h_129 => ?_)
              have kJ_129 : Kp 49 49 Ja J_129 := Kp_tr kJ_100 h_129.2.1
              have kI_129 : Ch [] [16, 17, 18] Ia I_129 := Ch_tr kI_100 (Ch_wd h_129.1 (by decide) (by decide))
              have cI_129 : RX I_129 := h_129.2.2.1
              have qI_129 := RX_w cI_129
              have f15_I_129 : I_129 49 15 = I_100 49 15 := h_129.1.2 15 (by decide)
              have pI_129 : PI I_129 := h_129.2.2.2.1
              have oI_129 := PI_o pI_129
              have yI_129 := h_129.2.2.2.2
              refine rV hX (pc := 132) hT (Nat.le_refl 0) (Nat.le_refl 0) dX11_readPlain_132 ?_
              exact ⟨kI_129, kJ_129, cI_129, pI_129, zRP_pl hne (zRP_cm bb16 hcb yI_91.1 sg yI_129.1), by omega⟩
            · simp only [w32_mod] at h_103
              obtain ⟨z100, n100⟩ := TK_0 yI_100.2.2.2 (by omega)
              have n101 : NOP c 160 I_91 := fun g9 => by have h8 := n100 g9; omega
              refine ww_aload_n hX (pc := 106) dX11_readPlain_106 rfl ?_
              refine ww_bipush hX (pc := 107) (x := 62) dX11_readPlain_107 (by decide) ?_
              refine sI1 hX (pc := 109) sX11_190 (c_X11_sign l0 ) (by omega) (Nat.le_refl 0) (Nat.le_refl 0) (Nat.le_of_ble_eq_true rfl) dX11_readPlain_109 (fun x_109 I_109 J_109 h_109 => ?_)
              obtain ⟨rfl, rfl, h_109⟩ := h_109
              refine vI1 hX (pc := 112) sX11_165 (xs_49 hL) (c9_X11_takes0 l0 hL cI_100  pI_100 (pvw_tr kI_100 (by decide) (by decide) hc) (by omega) (by omega)) (by omega) (Nat.le_refl 0) (Nat.le_refl 0) (Nat.le_of_ble_eq_true rfl) dX11_readPlain_112 (fun x_112 I_112 J_112 h_112 => ?_)
              have kJ_112 : Kp 49 49 Ja J_112 := Kp_tr kJ_100 h_112.2.1
              have kI_112 : Ch [] [16, 17, 18] Ia I_112 := Ch_tr kI_100 (Ch_wd h_112.1 (by decide) (by decide))
              have cI_112 : RX I_112 := h_112.2.2.1
              have qI_112 := RX_w cI_112
              have f15_I_112 : I_112 49 15 = I_100 49 15 := h_112.1.2 15 (by decide)
              have f17_I_112 : I_112 49 17 = I_100 49 17 := h_112.1.2 17 (by decide)
              have f18_I_112 : I_112 49 18 = I_100 49 18 := h_112.1.2 18 (by decide)
              have pI_112 : PI I_112 := h_112.2.2.2.1
              have oI_112 := PI_o pI_112
              have yI_112 := h_112.2.2.2.2
              refine ww_if_ne hX (pc := 115) (tgt := 127) dX11_readPlain_115 (by decide) (fun h_115 => ?_) (fun h_115 => ?_)
              · simp only [w32_mod] at h_115
                have s112 := TK_1 yI_112.2.2.2 (by omega)
                rw [z100] at s112
                have s113 : I_91 49 18 = -1 ∧ c (I_91 49 16).toNat = 162 ∧ I_112 49 16 = I_91 49 16 + 1 := ⟨by omega, by have h9 := s112.2.1; omega, by omega⟩
                have sg : zSM c pl T I_91 I_112 := zSM_1 (r := 162) s113 (by decide) (by omega) (by omega) (zRL_tr kI_91 (by decide) (by decide) (by decide) hk).1 (PI_lt pI_91 (by have h7 := pvw_at pI_91 (pvw_tr kI_91 (by decide) (by decide) hc); have h8 := s113.2.1; omega))
                refine ww_aload_n hX (pc := 127) dX11_readPlain_127 rfl ?_
                refine ww_iload_n hX (pc := 128) dX11_readPlain_128 rfl ?_
                refine vV1 hX (pc := 129) sX11_178 (xs_49 hL) (c_URSum9 l0 m hm hL cI_112 pI_112 (pvw_tr kI_112 (by decide) (by decide) hc) (zRL_tr kI_112 (by decide) (by decide) (by decide) hk)) (by omega) (Nat.le_refl 0) (Nat.le_refl 0) (Nat.le_of_ble_eq_true rfl) dX11_readPlain_129 (fun I_129 J_129 h_129 => ?_)
                have kJ_129 : Kp 49 49 Ja J_129 := Kp_tr kJ_112 h_129.2.1
                have kI_129 : Ch [] [16, 17, 18] Ia I_129 := Ch_tr kI_112 (Ch_wd h_129.1 (by decide) (by decide))
                have cI_129 : RX I_129 := h_129.2.2.1
                have qI_129 := RX_w cI_129
                have f15_I_129 : I_129 49 15 = I_112 49 15 := h_129.1.2 15 (by decide)
                have pI_129 : PI I_129 := h_129.2.2.2.1
                have oI_129 := PI_o pI_129
                have yI_129 := h_129.2.2.2.2
                refine rV hX (pc := 132) hT (Nat.le_refl 0) (Nat.le_refl 0) dX11_readPlain_132 ?_
                exact ⟨kI_129, kJ_129, cI_129, pI_129, zRP_pl hne (zRP_cm bb16 hcb yI_91.1 sg yI_129.1), by omega⟩
              · simp only [w32_mod] at h_115
                obtain ⟨z112, n112⟩ := TK_0 yI_112.2.2.2 (by omega)
                have n113 : NOP c 162 I_91 := fun g9 => by have h8 := n112 (by omega); rw [z100] at h8; omega
                refine ww_aload_n hX (pc := 118) dX11_readPlain_118 rfl ?_
                refine ww_bipush hX (pc := 119) (x := 61) dX11_readPlain_119 (by decide) ?_
                refine sI1 hX (pc := 121) sX11_190 (c_X11_sign l0 ) (by omega) (Nat.le_refl 0) (Nat.le_refl 0) (Nat.le_of_ble_eq_true rfl) dX11_readPlain_121 (fun x_121 I_121 J_121 h_121 => ?_)
                obtain ⟨rfl, rfl, h_121⟩ := h_121
                refine vV1 hX (pc := 124) sX11_174 (xs_49 hL) (c9_X11_must l0 hL cI_112  pI_112 (pvw_tr kI_112 (by decide) (by decide) hc) (zRL_tr kI_112 (by decide) (by decide) (by decide) hk) (by omega) (by omega)) (by omega) (Nat.le_refl 0) (Nat.le_refl 0) (Nat.le_of_ble_eq_true rfl) dX11_readPlain_124 (fun I_124 J_124 h_124 => ?_)
                have kJ_124 : Kp 49 49 Ja J_124 := Kp_tr kJ_112 h_124.2.1
                have kI_124 : Ch [] [16, 17, 18] Ia I_124 := Ch_tr kI_112 (Ch_wd h_124.1 (by decide) (by decide))
                have cI_124 : RX I_124 := h_124.2.2.1
                have qI_124 := RX_w cI_124
                have f15_I_124 : I_124 49 15 = I_112 49 15 := h_124.1.2 15 (by decide)
                have f17_I_124 : I_124 49 17 = I_112 49 17 := h_124.1.2 17 (by decide)
                have pI_124 : PI I_124 := h_124.2.2.2.1
                have oI_124 := PI_o pI_124
                have yI_124 := h_124.2.2.2.2
                have sg : zSM c pl T I_91 I_124 := zSM_k (by omega) (by omega) (by omega) n101 n113 yI_124.2 (by omega)
                refine ww_aload_n hX (pc := 127) dX11_readPlain_127 rfl ?_
                refine ww_iload_n hX (pc := 128) dX11_readPlain_128 rfl ?_
                refine vV1 hX (pc := 129) sX11_178 (xs_49 hL) (c_URSum9 l0 m hm hL cI_124 pI_124 (pvw_tr kI_124 (by decide) (by decide) hc) (zRL_tr kI_124 (by decide) (by decide) (by decide) hk)) (by omega) (Nat.le_refl 0) (Nat.le_refl 0) (Nat.le_of_ble_eq_true rfl) dX11_readPlain_129 (fun I_129 J_129 h_129 => ?_)
                have kJ_129 : Kp 49 49 Ja J_129 := Kp_tr kJ_124 h_129.2.1
                have kI_129 : Ch [] [16, 17, 18] Ia I_129 := Ch_tr kI_124 (Ch_wd h_129.1 (by decide) (by decide))
                have cI_129 : RX I_129 := h_129.2.2.1
                have qI_129 := RX_w cI_129
                have f15_I_129 : I_129 49 15 = I_124 49 15 := h_129.1.2 15 (by decide)
                have pI_129 : PI I_129 := h_129.2.2.2.1
                have oI_129 := PI_o pI_129
                have yI_129 := h_129.2.2.2.2
                refine rV hX (pc := 132) hT (Nat.le_refl 0) (Nat.le_refl 0) dX11_readPlain_132 ?_
                exact ⟨kI_129, kJ_129, cI_129, pI_129, zRP_pl hne (zRP_cm bb16 hcb yI_91.1 sg yI_129.1), by omega⟩
          · simp only [w32_mod] at h_39
            have hcb : c (I2 49 16).toNat = 140 := by omega
            refine ww_iload_n hX (pc := 42) dX11_readPlain_42 rfl ?_
            refine ww_bipush hX (pc := 43) (x := 8) dX11_readPlain_43 (by decide) ?_
            refine ww_icmp_ne hX (pc := 45) (tgt := 52) dX11_readPlain_45 (by decide) (fun h_45 => ?_) (fun h_45 => ?_)
            · simp only [w32_mod] at h_45
              refine ww_aload_n hX (pc := 52) dX11_readPlain_52 rfl ?_
              refine vI0 hX (pc := 53) sX11_158 (xs_49 hL) (c_X11_fine l0 hL cI2  pI2) (by omega) (Nat.le_refl 0) (Nat.le_refl 0) (Nat.le_of_ble_eq_true rfl) dX11_readPlain_53 (fun x_53 I_53 J_53 h_53 => ?_)
              obtain ⟨rfl, rfl, h_53⟩ := h_53
              refine ww_if_ne hX (pc := 56) (tgt := 60) dX11_readPlain_56 (by decide) (fun h_56 => ?_) (fun h_56 => ?_)
              · simp only [w32_mod] at h_56
                have bb53 := FN_1 h_53.2 (by omega)
                obtain ⟨mp, rfl⟩ : ∃ mp, m = mp + 1 := ⟨m - 1, by omega⟩
                refine ww_aload_n hX (pc := 60) dX11_readPlain_60 rfl ?_
                refine ww_dupR hX (pc := 61) dX11_readPlain_61 ?_
                refine ww_getI hX (pc := 62) fX11_162 (by decide) (xs_49 hL) dX11_readPlain_62 ?_
                refine ww_iconst hX (pc := 65) (x := 1) dX11_readPlain_65 rfl ?_
                refine ww_iadd hX (pc := 66) dX11_readPlain_66 ?_
                refine ww_putI hX (pc := 67) (fun h9 => absurd h9 (by decide)) gX11_162 rfl (xs_49 hL) dX11_readPlain_67 ?_
                have lt67 := PI_lt pI2 (by omega)
                refine ww_nmH (fun I_67 eI_67 => ?_)
                have kI_67 : Ch [] [16, 17, 18] Ia I_67 := by rw [eI_67]; exact Ch_f kI2 (by decide)
                have cI_67 : RX I_67 := by rw [eI_67]; exact RX_f cI2 (by decide)
                have qI_67 := RX_w cI_67
                have f15_I_67 : I_67 49 15 = I2 49 15 := by rw [eI_67, up2_n _ _ (Or.inr (by decide))]
                have f17_I_67 : I_67 49 17 = I2 49 17 := by rw [eI_67, up2_n _ _ (Or.inr (by decide))]
                have f18_I_67 : I_67 49 18 = I2 49 18 := by rw [eI_67, up2_n _ _ (Or.inr (by decide))]
                have w16_I_67 : I_67 49 16 = I2 49 16 + 1 := by rw [eI_67, up2_s]
                have pI_67 : PI I_67 := by rw [eI_67]; exact PI_f pI2 (by decide) (fun _ => ⟨by omega, by omega⟩) (fun h => absurd h (by decide))
                have oI_67 := PI_o pI_67
                refine ww_aload_n hX (pc := 70) dX11_readPlain_70 rfl ?_
                refine ww_iload_n hX (pc := 71) dX11_readPlain_71 rfl ?_
                refine ww_iconst hX (pc := 72) (x := 1) dX11_readPlain_72 rfl ?_
                refine ww_iadd hX (pc := 73) dX11_readPlain_73 ?_
                refine ww_toI (show (8 - ((mp + 1 : Nat) : Int)) + 1 = 8 - (mp : Int) by omega) ?_
                refine vV1 hX (pc := 74) sX11_181 (xs_49 hL) (hrec mp rfl hL cI_67 pI_67 (pvw_tr kI_67 (by decide) (by decide) hc) (zRL_tr kI_67 (by decide) (by decide) (by decide) hk)) (by omega) (Nat.le_refl 0) (Nat.le_refl 0) (Nat.le_of_ble_eq_true rfl) dX11_readPlain_74 (fun I_74 J_74 h_74 => ?_)
                have kJ_74 : Kp 49 49 Ja J_74 := Kp_tr kJ2 h_74.2.1
                have kI_74 : Ch [] [16, 17, 18] Ia I_74 := Ch_tr kI_67 (Ch_wd h_74.1 (by decide) (by decide))
                have cI_74 : RX I_74 := h_74.2.2.1
                have qI_74 := RX_w cI_74
                have f15_I_74 : I_74 49 15 = I_67 49 15 := h_74.1.2 15 (by decide)
                have pI_74 : PI I_74 := h_74.2.2.2.1
                have oI_74 := PI_o pI_74
                have yI_74 := h_74.2.2.2.2
                refine ww_aload_n hX (pc := 77) dX11_readPlain_77 rfl ?_
                refine ww_bipush hX (pc := 78) (x := 41) dX11_readPlain_78 (by decide) ?_
                refine sI1 hX (pc := 80) sX11_190 (c_X11_sign l0 ) (by omega) (Nat.le_refl 0) (Nat.le_refl 0) (Nat.le_of_ble_eq_true rfl) dX11_readPlain_80 (fun x_80 I_80 J_80 h_80 => ?_)
                obtain ⟨rfl, rfl, h_80⟩ := h_80
                refine vV1 hX (pc := 83) sX11_174 (xs_49 hL) (c9_X11_must l0 hL cI_74  pI_74 (pvw_tr kI_74 (by decide) (by decide) hc) (zRL_tr kI_74 (by decide) (by decide) (by decide) hk) (by omega) (by omega)) (by omega) (Nat.le_refl 0) (Nat.le_refl 0) (Nat.le_of_ble_eq_true rfl) dX11_readPlain_83 (fun I_83 J_83 h_83 => ?_)
                have kJ_83 : Kp 49 49 Ja J_83 := Kp_tr kJ_74 h_83.2.1
                have kI_83 : Ch [] [16, 17, 18] Ia I_83 := Ch_tr kI_74 (Ch_wd h_83.1 (by decide) (by decide))
                have cI_83 : RX I_83 := h_83.2.2.1
                have qI_83 := RX_w cI_83
                have f15_I_83 : I_83 49 15 = I_74 49 15 := h_83.1.2 15 (by decide)
                have f17_I_83 : I_83 49 17 = I_74 49 17 := h_83.1.2 17 (by decide)
                have pI_83 : PI I_83 := h_83.2.2.2.1
                have oI_83 := PI_o pI_83
                have yI_83 := h_83.2.2.2.2
                refine ww_goto hX (pc := 86) (tgt := 132) dX11_readPlain_86 (by decide) ?_
                refine rV hX (pc := 132) hT (Nat.le_refl 0) (Nat.le_refl 0) dX11_readPlain_132 ?_
                exact ⟨kI_83, kJ_83, cI_83, pI_83, zRP_pl hne (zRP_br bb16 w16_I_67 f17_I_67 f18_I_67 (zRL_tr kI2 (by decide) (by decide) (by decide) hk).1 (PI_lt pI2 (by omega)) yI_74.1 yI_83.2 (by omega) (fun l => zPos_b hcb)), by omega⟩
              · simp only [w32_mod] at h_56
                have nb53 := FN_0 h_53.2 (by omega)
                exact absurd bb16 nb53
            · simp only [w32_mod] at h_45
              refine ww_aload_n hX (pc := 48) dX11_readPlain_48 rfl ?_
              refine vV0 hX (pc := 49) sX11_168 (xs_49 hL) (c9_X11_faults l0 hL cI2  pI2 (zRL_tr kI2 (by decide) (by decide) (by decide) hk)) (by omega) (Nat.le_refl 0) (Nat.le_refl 0) (Nat.le_of_ble_eq_true rfl) dX11_readPlain_49 (fun I_49 J_49 h_49 => ?_)
              have kJ_49 : Kp 49 49 Ja J_49 := Kp_tr kJ2 h_49.2.1
              have kI_49 : Ch [] [16, 17, 18] Ia I_49 := Ch_tr kI2 (Ch_wd h_49.1 (by decide) (by decide))
              have cI_49 : RX I_49 := h_49.2.2.1
              have qI_49 := RX_w cI_49
              have f15_I_49 : I_49 49 15 = I2 49 15 := h_49.1.2 15 (by decide)
              have f16_I_49 : I_49 49 16 = I2 49 16 := h_49.1.2 16 (by decide)
              have f17_I_49 : I_49 49 17 = I2 49 17 := h_49.1.2 17 (by decide)
              have pI_49 : PI I_49 := h_49.2.2.2.1
              have oI_49 := PI_o pI_49
              have yI_49 := h_49.2.2.2.2
              refine ww_aload_n hX (pc := 52) dX11_readPlain_52 rfl ?_
              refine vI0 hX (pc := 53) sX11_158 (xs_49 hL) (c_X11_fine l0 hL cI_49  pI_49) (by omega) (Nat.le_refl 0) (Nat.le_refl 0) (Nat.le_of_ble_eq_true rfl) dX11_readPlain_53 (fun x_53 I_53 J_53 h_53 => ?_)
              obtain ⟨rfl, rfl, h_53⟩ := h_53
              refine ww_if_ne hX (pc := 56) (tgt := 60) dX11_readPlain_56 (by decide) (fun h_56 => ?_) (fun h_56 => ?_)
              · simp only [w32_mod] at h_56
                have bb53 := FN_1 h_53.2 (by omega)
                exfalso
                have h8 := yI_49.2.2.2 bb16
                have h7 := (zRL_p (zRL_tr kI2 (by decide) (by decide) (by decide) hk) pI2).2.2.1
                omega
              · simp only [w32_mod] at h_56
                have nb53 := FN_0 h_53.2 (by omega)
                refine rV hX (pc := 59) hT (Nat.le_refl 0) (Nat.le_refl 0) dX11_readPlain_59 ?_
                exact ⟨kI_49, kJ_49, cI_49, pI_49, (by
                    obtain rfl : m = 0 := by omega
                    exact zRP_pl hne (zRP_fa yI_49.2.2 (zRL_pp hk) (fun l => (zPos_b hcb).trans zBr_0))), by omega⟩
        · simp only [w32_mod] at h_19
          have nb16 := FN_0 h_16.2 (by omega)
          refine rV hX (pc := 22) hT (Nat.le_refl 0) (Nat.le_refl 0) dX11_readPlain_22 ?_
          exact ⟨kI2, kJ2, cI2, pI2, zRP_pl hne (zRP_n nb16), by omega⟩
      · simp only [w32_mod] at h_3
        refine ww_aload_n hX (pc := 6) dX11_readPlain_6 rfl ?_
        refine ww_iconst hX (pc := 7) (x := 5) dX11_readPlain_7 rfl ?_
        refine vI1 hX (pc := 8) sX11_165 (xs_49 hL) (c9_X11_takes0 l0 hL cI2  pI2 (pvw_tr kI2 (by decide) (by decide) hc) (by omega) (by omega)) (by omega) (Nat.le_refl 0) (Nat.le_refl 0) (Nat.le_of_ble_eq_true rfl) dX11_readPlain_8 (fun x_8 I_8 J_8 h_8 => ?_)
        have kJ_8 : Kp 49 49 Ja J_8 := Kp_tr kJ2 h_8.2.1
        have kI_8 : Ch [] [16, 17, 18] Ia I_8 := Ch_tr kI2 (Ch_wd h_8.1 (by decide) (by decide))
        have cI_8 : RX I_8 := h_8.2.2.1
        have qI_8 := RX_w cI_8
        have f15_I_8 : I_8 49 15 = I2 49 15 := h_8.1.2 15 (by decide)
        have f17_I_8 : I_8 49 17 = I2 49 17 := h_8.1.2 17 (by decide)
        have f18_I_8 : I_8 49 18 = I2 49 18 := h_8.1.2 18 (by decide)
        have pI_8 : PI I_8 := h_8.2.2.2.1
        have oI_8 := PI_o pI_8
        have yI_8 := h_8.2.2.2.2
        refine ww_istore_n hX (pc := 11) (lv' := [some (kR (some 49)), some (kI (8 - (m : Int))), some (kI x_8), none]) dX11_readPlain_11 (by decide) rfl rfl ?_
        refine ww_goto hX (pc := 12) (tgt := 2) dX11_readPlain_12 (by decide) ?_
        have d8 : x_8 = 0 ∨ I_8 49 16 = I2 49 16 + 1 := by
          rcases (show x_8 = 0 ∨ x_8 = 1 by omega) with g | g
          · exact Or.inl g
          · exact Or.inr (TK_1 yI_8.2.2.2 g).2.2
        exact ih_2 _ (by have hm9 := Sh0_e hq_2; omega) x_8 I_8 J_8 rfl ⟨kI_8, cI_8, kJ_8, by omega, pI_8, yI_8.1, zNL_t hnl yI_8.1 yI_8.2.2.2 (by omega) yI_8.2.1 hT2 (by omega), by omega, NO5 yI_8.2.2.2 yI_8.2.1⟩
  exact hl_2 _ 1 Ia Ja rfl ⟨Ch_rf, hQ, (Kp_rf (a := 49) (b := 49)), rfl, hP, ⟨by decide, by decide⟩, zNL_0, Int.le_refl _, fun h => absurd h (by decide)⟩
