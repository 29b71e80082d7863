theorem c_URTest9 (l0 : Launch) : ∀ m : Nat, m ≤ 8 → URTest9 l0 m
  | 0, h => fun hL hQ hP _ hc _ _ _ hk => c9_X11_readTest l0 hL hQ hP hc hk (m := 0) h (fun mp e => absurd e (by omega))
  | m + 1, h => fun hL hQ hP _ hc _ _ _ hk => c9_X11_readTest l0 hL hQ hP hc hk (m := m + 1) h (fun mp e => by
      obtain rfl : m = mp := by omega
      exact c_URTest9 l0 m (by omega))
set_option maxHeartbeats 4000000 in
set_option maxRecDepth 20000 in
theorem c9_X11_readClause (l0 : Launch) {Ia Ja : aI1} {Ra : aR1} {Sa : aS1} (hL : LY Ra Sa) (hQ : RX Ia) (hP : PI Ia) {c : Nat → Int} (hc : pvw Ia = c) {vl pl : Nat → Int} {T : Nat} (hk : zRL Ia vl pl T)  : CT l0 33 0 0 mX11_readClause [kR (some 49)] Ia Ja Ra Sa (cV (fun I' J' => Ch [] [16, 17, 18] Ia I' ∧ Kp 49 49 Ja J' ∧ RX I' ∧ PI I' ∧ zRC T pl c vl Ia I' ∧ Ia 49 16 ≤ I' 49 16) Ra Sa) := by
  refine ct_in pn_X11 (Nat.le_of_ble_eq_true rfl) (fun X hX hT hIn => ?_)
  have hX : aK l0 X cX11_readClause 1 RX11 none 33 0 0 := hX
  change WW X 0 [some (kR (some 49))] [] Ia Ja Ra Sa 0 0
  have qIa := RX_w hQ
  have oIa := PI_o hP
  have tIa := PI_t hP
  have atIa := pvw_at hP hc
  refine ww_aload_n hX (pc := 0) dX11_readClause_0 rfl ?_
  refine ww_iconst hX (pc := 1) (x := 1) dX11_readClause_1 rfl ?_
  refine vV1 hX (pc := 2) sX11_174 (xs_49 hL) (c9_X11_must l0 hL hQ  hP hc hk (by omega) (by omega)) (by decide) (Nat.le_refl 0) (Nat.le_refl 0) (Nat.le_of_ble_eq_true rfl) dX11_readClause_2 (fun I_2 J_2 h_2 => ?_)
  have kJ_2 : Kp 49 49 Ja J_2 := Kp_tr (Kp_rf (a := 49) (b := 49)) h_2.2.1
  have kI_2 : Ch [] [16, 17, 18] Ia I_2 := Ch_tr Ch_rf (Ch_wd h_2.1 (by decide) (by decide))
  have cI_2 : RX I_2 := h_2.2.2.1
  have qI_2 := RX_w cI_2
  have f15_I_2 : I_2 49 15 = Ia 49 15 := h_2.1.2 15 (by decide)
  have f17_I_2 : I_2 49 17 = Ia 49 17 := h_2.1.2 17 (by decide)
  have pI_2 : PI I_2 := h_2.2.2.2.1
  have oI_2 := PI_o pI_2
  have yI_2 := h_2.2.2.2.2
  refine ww_aload_n hX (pc := 5) dX11_readClause_5 rfl ?_
  refine ww_iconst hX (pc := 6) (x := 0) dX11_readClause_6 rfl ?_
  refine vV1 hX (pc := 7) sX11_178 (xs_49 hL) (c_URSum9 l0 8 (by decide) hL cI_2 pI_2 (pvw_tr kI_2 (by decide) (by decide) hc) (zRL_tr kI_2 (by decide) (by decide) (by decide) hk)) (by decide) (Nat.le_refl 0) (Nat.le_refl 0) (Nat.le_of_ble_eq_true rfl) dX11_readClause_7 (fun I_7 J_7 h_7 => ?_)
  have kJ_7 : Kp 49 49 Ja J_7 := Kp_tr kJ_2 h_7.2.1
  have kI_7 : Ch [] [16, 17, 18] Ia I_7 := Ch_tr kI_2 (Ch_wd h_7.1 (by decide) (by decide))
  have cI_7 : RX I_7 := h_7.2.2.1
  have qI_7 := RX_w cI_7
  have f15_I_7 : I_7 49 15 = I_2 49 15 := h_7.1.2 15 (by decide)
  have pI_7 : PI I_7 := h_7.2.2.2.1
  have oI_7 := PI_o pI_7
  have yI_7 := h_7.2.2.2.2
  refine ww_aload_n hX (pc := 10) dX11_readClause_10 rfl ?_
  refine ww_iconst hX (pc := 11) (x := 2) dX11_readClause_11 rfl ?_
  refine vI1 hX (pc := 12) sX11_165 (xs_49 hL) (c9_X11_takes0 l0 hL cI_7  pI_7 (pvw_tr kI_7 (by decide) (by decide) hc) (by omega) (by omega)) (by decide) (Nat.le_refl 0) (Nat.le_refl 0) (Nat.le_of_ble_eq_true rfl) dX11_readClause_12 (fun x_12 I_12 J_12 h_12 => ?_)
  have kJ_12 : Kp 49 49 Ja J_12 := Kp_tr kJ_7 h_12.2.1
  have kI_12 : Ch [] [16, 17, 18] Ia I_12 := Ch_tr kI_7 (Ch_wd h_12.1 (by decide) (by decide))
  have cI_12 : RX I_12 := h_12.2.2.1
  have qI_12 := RX_w cI_12
  have f15_I_12 : I_12 49 15 = I_7 49 15 := h_12.1.2 15 (by decide)
  have f17_I_12 : I_12 49 17 = I_7 49 17 := h_12.1.2 17 (by decide)
  have f18_I_12 : I_12 49 18 = I_7 49 18 := h_12.1.2 18 (by decide)
  have pI_12 : PI I_12 := h_12.2.2.2.1
  have oI_12 := PI_o pI_12
  have yI_12 := h_12.2.2.2.2
  refine ww_if_eq hX (pc := 15) (tgt := 23) dX11_readClause_15 (by decide) (fun h_15 => ?_) (fun h_15 => ?_)
  · simp only [w32_mod] at h_15
    obtain ⟨z12, n12⟩ := TK_0 yI_12.2.2.2 (by omega)
    refine rV hX (pc := 23) hT (Nat.le_refl 0) (Nat.le_refl 0) dX11_readClause_23 ?_
    exact ⟨kI_12, kJ_12, cI_12, pI_12, zRC_n yI_2.2 yI_7.1 z12 (by omega) (by omega) n12, by omega⟩
  · simp only [w32_mod] at h_15
    have s12 := TK_1 yI_12.2.2.2 (by omega)
    have at7 := pvw_at pI_7 (pvw_tr kI_7 (by decide) (by decide) hc)
    refine ww_aload_n hX (pc := 18) dX11_readClause_18 rfl ?_
    refine ww_iconst hX (pc := 19) (x := 0) dX11_readClause_19 rfl ?_
    refine vV1 hX (pc := 20) sX11_181 (xs_49 hL) (c_URTest9 l0 8 (by decide) hL cI_12 pI_12 (pvw_tr kI_12 (by decide) (by decide) hc) (zRL_tr kI_12 (by decide) (by decide) (by decide) hk)) (by decide) (Nat.le_refl 0) (Nat.le_refl 0) (Nat.le_of_ble_eq_true rfl) dX11_readClause_20 (fun I_20 J_20 h_20 => ?_)
    have kJ_20 : Kp 49 49 Ja J_20 := Kp_tr kJ_12 h_20.2.1
    have kI_20 : Ch [] [16, 17, 18] Ia I_20 := Ch_tr kI_12 (Ch_wd h_20.1 (by decide) (by decide))
    have cI_20 : RX I_20 := h_20.2.2.1
    have qI_20 := RX_w cI_20
    have f15_I_20 : I_20 49 15 = I_12 49 15 := h_20.1.2 15 (by decide)
    have pI_20 : PI I_20 := h_20.2.2.2.1
    have oI_20 := PI_o pI_20
    have yI_20 := h_20.2.2.2.2
    refine rV hX (pc := 23) hT (Nat.le_refl 0) (Nat.le_refl 0) dX11_readClause_23 ?_
    exact ⟨kI_20, kJ_20, cI_20, pI_20, zRC_s yI_2.2 yI_7.1 s12 (by omega) (by omega) (zRL_tr kI_7 (by decide) (by decide) (by decide) hk).1 (PI_lt pI_7 (by have h8 := s12.2.1; omega)) yI_20.1, by omega⟩
