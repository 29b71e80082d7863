set_option maxHeartbeats 4000000 in
set_option maxRecDepth 20000 in
theorem c9_X11_readTerm (l0 : Launch) {Ia Ja : aI1} {Ra : aR1} {Sa : aS1} (hL : LY Ra Sa) (hQ : RX Ia) (hP : PI Ia) {c : Nat → Int} (hc : pvw Ia = c) {vl pl : Nat → Int} {T : Nat} (hk : zRL Ia vl pl T) {m : Nat} (hm : m ≤ 8) (hrec : ∀ mp, m = mp + 1 → URSum9 l0 mp)  : CT l0 (3 * m + 4) 0 0 mX11_readTerm [kR (some 49), kI (8 - (m : Int))] Ia Ja Ra Sa (cV (fun I' J' => Ch [] [16, 17, 18] Ia I' ∧ Kp 49 49 Ja J' ∧ RX I' ∧ PI I' ∧ zRP T pl (zTm (zSu c vl m) c vl) Ia I' ∧ Ia 49 16 ≤ I' 49 16) Ra Sa) := by
  refine ct_in pn_X11 (Nat.le_of_ble_eq_true rfl) (fun X hX hT hIn => ?_)
  have hX : aK l0 X cX11_readTerm 2 RX11 none (3 * m + 4) 0 0 := hX
  change WW X 0 [some (kR (some 49)), some (kI (8 - (m : Int)))] [] Ia Ja Ra Sa 0 0
  have qIa := RX_w hQ
  have oIa := PI_o hP
  have tIa := PI_t hP
  have atIa := pvw_at hP hc
  refine ww_aload_n hX (pc := 0) dX11_readTerm_0 rfl ?_
  refine ww_iload_n hX (pc := 1) dX11_readTerm_1 rfl ?_
  refine vV1 hX (pc := 2) sX11_197 (xs_49 hL) (c9_X11_readPart l0 hL hQ  hP hc hk (m := m) hm hrec) (by omega) (Nat.le_refl 0) (Nat.le_refl 0) (Nat.le_of_ble_eq_true rfl) dX11_readTerm_2 (fun I_2 J_2 h_2 => ?_)
  have kJ_2 : Kp 49 49 Ja J_2 := Kp_tr (Kp_rf (a := 49) (b := 49)) h_2.2.1
  have kI_2 : Ch [] [16, 17, 18] Ia I_2 := Ch_tr Ch_rf (Ch_wd h_2.1 (by decide) (by decide))
  have cI_2 : RX I_2 := h_2.2.2.1
  have qI_2 := RX_w cI_2
  have f15_I_2 : I_2 49 15 = Ia 49 15 := h_2.1.2 15 (by decide)
  have pI_2 : PI I_2 := h_2.2.2.2.1
  have oI_2 := PI_o pI_2
  have yI_2 := h_2.2.2.2.2
  have hl_5 : ∀ (n_5 : Nat) (I5 : aI1) (J5 : aI1), (I5 49 15 - I5 49 16).toNat = n_5 → (Ch [] [16, 17, 18] Ia I5 ∧ RX I5 ∧ Kp 49 49 Ja J5 ∧ I5 49 15 = I_2 49 15 ∧ PI I5 ∧ zLp6 T c pl (zPart (zSu c vl m) c vl) [142, 147, 137] zJD Ia I5 ∧ Ia 49 16 ≤ I5 49 16) → WW X 5 [some (kR (some 49)), some (kI (8 - (m : Int)))] [] I5 J5 Ra Sa 0 0 := by
    intro n_5
    induction n_5 using Nat.strongRecOn with
    | ind n_5 ih_5 =>
      intro I5 J5 hm_5 hv_5
      have hq_5 := Sh0_i hm_5
      clear hm_5
      obtain ⟨kI5, cI5, kJ5, f15_I5, pI5, hlv, hmo⟩ := hv_5
      have qI5 := RX_w cI5
      have oI5 := PI_o pI5
      have tI5 := PI_t pI5
      have atI5 := pvw_at pI5 (pvw_tr kI5 (by decide) (by decide) hc)
      refine ww_aload_n hX (pc := 5) dX11_readTerm_5 rfl ?_
      refine ww_bipush hX (pc := 6) (x := 42) dX11_readTerm_6 (by decide) ?_
      refine sI1 hX (pc := 8) sX11_190 (c_X11_sign l0 ) (by omega) (Nat.le_refl 0) (Nat.le_refl 0) (Nat.le_of_ble_eq_true rfl) dX11_readTerm_8 (fun x_8 I_8 J_8 h_8 => ?_)
      obtain ⟨rfl, rfl, h_8⟩ := h_8
      refine vI1 hX (pc := 11) sX11_165 (xs_49 hL) (c9_X11_takes0 l0 hL cI5  pI5 (pvw_tr kI5 (by decide) (by decide) hc) (by omega) (by omega)) (by omega) (Nat.le_refl 0) (Nat.le_refl 0) (Nat.le_of_ble_eq_true rfl) dX11_readTerm_11 (fun x_11 I_11 J_11 h_11 => ?_)
      have kJ_11 : Kp 49 49 Ja J_11 := Kp_tr kJ5 h_11.2.1
      have kI_11 : Ch [] [16, 17, 18] Ia I_11 := Ch_tr kI5 (Ch_wd h_11.1 (by decide) (by decide))
      have cI_11 : RX I_11 := h_11.2.2.1
      have qI_11 := RX_w cI_11
      have f15_I_11 : I_11 49 15 = I5 49 15 := h_11.1.2 15 (by decide)
      have f17_I_11 : I_11 49 17 = I5 49 17 := h_11.1.2 17 (by decide)
      have f18_I_11 : I_11 49 18 = I5 49 18 := h_11.1.2 18 (by decide)
      have pI_11 : PI I_11 := h_11.2.2.2.1
      have oI_11 := PI_o pI_11
      have yI_11 := h_11.2.2.2.2
      refine ww_if_ne hX (pc := 14) (tgt := 41) dX11_readTerm_14 (by decide) (fun h_14 => ?_) (fun h_14 => ?_)
      · simp only [w32_mod] at h_14
        have s11 := TK_1 yI_11.2.2.2 (by omega)
        refine ww_aload_n hX (pc := 41) dX11_readTerm_41 rfl ?_
        refine ww_iload_n hX (pc := 42) dX11_readTerm_42 rfl ?_
        refine vV1 hX (pc := 43) sX11_197 (xs_49 hL) (c9_X11_readPart l0 hL cI_11  pI_11 (pvw_tr kI_11 (by decide) (by decide) hc) (zRL_tr kI_11 (by decide) (by decide) (by decide) hk) (m := m) hm hrec) (by omega) (Nat.le_refl 0) (Nat.le_refl 0) (Nat.le_of_ble_eq_true rfl) dX11_readTerm_43 (fun I_43 J_43 h_43 => ?_)
        have kJ_43 : Kp 49 49 Ja J_43 := Kp_tr kJ_11 h_43.2.1
        have kI_43 : Ch [] [16, 17, 18] Ia I_43 := Ch_tr kI_11 (Ch_wd h_43.1 (by decide) (by decide))
        have cI_43 : RX I_43 := h_43.2.2.1
        have qI_43 := RX_w cI_43
        have f15_I_43 : I_43 49 15 = I_11 49 15 := h_43.1.2 15 (by decide)
        have pI_43 : PI I_43 := h_43.2.2.2.1
        have oI_43 := PI_o pI_43
        have yI_43 := h_43.2.2.2.2
        refine ww_goto hX (pc := 46) (tgt := 5) dX11_readTerm_46 (by decide) ?_
        exact ih_5 _ (by have hm9 := Sh0_e hq_5; omega) I_43 J_43 rfl ⟨kI_43, cI_43, kJ_43, by omega, pI_43, zLp6_s hlv (by have h7 := s11.1; omega) (by rw [s11.2.1]; simp only [List.mem_cons, List.not_mem_nil, or_false]; try omega) (by omega) (by omega) (by omega) (zRL_tr kI5 (by decide) (by decide) (by decide) hk).1 (PI_lt pI5 (by rw [← atI5]; have h8 := s11.2.1; omega)) hk.2.1 yI_43.1 (by omega), by omega⟩
      · simp only [w32_mod] at h_14
        obtain ⟨z11, n11⟩ := TK_0 yI_11.2.2.2 (by omega)
        refine ww_aload_n hX (pc := 17) dX11_readTerm_17 rfl ?_
        refine ww_bipush hX (pc := 18) (x := 47) dX11_readTerm_18 (by decide) ?_
        refine sI1 hX (pc := 20) sX11_190 (c_X11_sign l0 ) (by omega) (Nat.le_refl 0) (Nat.le_refl 0) (Nat.le_of_ble_eq_true rfl) dX11_readTerm_20 (fun x_20 I_20 J_20 h_20 => ?_)
        obtain ⟨rfl, rfl, h_20⟩ := h_20
        refine vI1 hX (pc := 23) sX11_165 (xs_49 hL) (c9_X11_takes0 l0 hL cI_11  pI_11 (pvw_tr kI_11 (by decide) (by decide) hc) (by omega) (by omega)) (by omega) (Nat.le_refl 0) (Nat.le_refl 0) (Nat.le_of_ble_eq_true rfl) dX11_readTerm_23 (fun x_23 I_23 J_23 h_23 => ?_)
        have kJ_23 : Kp 49 49 Ja J_23 := Kp_tr kJ_11 h_23.2.1
        have kI_23 : Ch [] [16, 17, 18] Ia I_23 := Ch_tr kI_11 (Ch_wd h_23.1 (by decide) (by decide))
        have cI_23 : RX I_23 := h_23.2.2.1
        have qI_23 := RX_w cI_23
        have f15_I_23 : I_23 49 15 = I_11 49 15 := h_23.1.2 15 (by decide)
        have f17_I_23 : I_23 49 17 = I_11 49 17 := h_23.1.2 17 (by decide)
        have f18_I_23 : I_23 49 18 = I_11 49 18 := h_23.1.2 18 (by decide)
        have pI_23 : PI I_23 := h_23.2.2.2.1
        have oI_23 := PI_o pI_23
        have yI_23 := h_23.2.2.2.2
        refine ww_if_ne hX (pc := 26) (tgt := 41) dX11_readTerm_26 (by decide) (fun h_26 => ?_) (fun h_26 => ?_)
        · simp only [w32_mod] at h_26
          have s23 := TK_1 yI_23.2.2.2 (by omega)
          rw [z11] at s23
          refine ww_aload_n hX (pc := 41) dX11_readTerm_41 rfl ?_
          refine ww_iload_n hX (pc := 42) dX11_readTerm_42 rfl ?_
          refine vV1 hX (pc := 43) sX11_197 (xs_49 hL) (c9_X11_readPart l0 hL cI_23  pI_23 (pvw_tr kI_23 (by decide) (by decide) hc) (zRL_tr kI_23 (by decide) (by decide) (by decide) hk) (m := m) hm hrec) (by omega) (Nat.le_refl 0) (Nat.le_refl 0) (Nat.le_of_ble_eq_true rfl) dX11_readTerm_43 (fun I_43 J_43 h_43 => ?_)
          have kJ_43 : Kp 49 49 Ja J_43 := Kp_tr kJ_23 h_43.2.1
          have kI_43 : Ch [] [16, 17, 18] Ia I_43 := Ch_tr kI_23 (Ch_wd h_43.1 (by decide) (by decide))
          have cI_43 : RX I_43 := h_43.2.2.1
          have qI_43 := RX_w cI_43
          have f15_I_43 : I_43 49 15 = I_23 49 15 := h_43.1.2 15 (by decide)
          have pI_43 : PI I_43 := h_43.2.2.2.1
          have oI_43 := PI_o pI_43
          have yI_43 := h_43.2.2.2.2
          refine ww_goto hX (pc := 46) (tgt := 5) dX11_readTerm_46 (by decide) ?_
          exact ih_5 _ (by have hm9 := Sh0_e hq_5; omega) I_43 J_43 rfl ⟨kI_43, cI_43, kJ_43, by omega, pI_43, zLp6_s hlv (by have h7 := s23.1; omega) (by rw [s23.2.1]; simp only [List.mem_cons, List.not_mem_nil, or_false]; try omega) (by omega) (by omega) (by omega) (zRL_tr kI5 (by decide) (by decide) (by decide) hk).1 (PI_lt pI5 (by rw [← atI5]; have h8 := s23.2.1; omega)) hk.2.1 yI_43.1 (by omega), by omega⟩
        · simp only [w32_mod] at h_26
          obtain ⟨z23, n23⟩ := TK_0 yI_23.2.2.2 (by omega)
          refine ww_aload_n hX (pc := 29) dX11_readTerm_29 rfl ?_
          refine ww_bipush hX (pc := 30) (x := 37) dX11_readTerm_30 (by decide) ?_
          refine sI1 hX (pc := 32) sX11_190 (c_X11_sign l0 ) (by omega) (Nat.le_refl 0) (Nat.le_refl 0) (Nat.le_of_ble_eq_true rfl) dX11_readTerm_32 (fun x_32 I_32 J_32 h_32 => ?_)
          obtain ⟨rfl, rfl, h_32⟩ := h_32
          refine vI1 hX (pc := 35) sX11_165 (xs_49 hL) (c9_X11_takes0 l0 hL cI_23  pI_23 (pvw_tr kI_23 (by decide) (by decide) hc) (by omega) (by omega)) (by omega) (Nat.le_refl 0) (Nat.le_refl 0) (Nat.le_of_ble_eq_true rfl) dX11_readTerm_35 (fun x_35 I_35 J_35 h_35 => ?_)
          have kJ_35 : Kp 49 49 Ja J_35 := Kp_tr kJ_23 h_35.2.1
          have kI_35 : Ch [] [16, 17, 18] Ia I_35 := Ch_tr kI_23 (Ch_wd h_35.1 (by decide) (by decide))
          have cI_35 : RX I_35 := h_35.2.2.1
          have qI_35 := RX_w cI_35
          have f15_I_35 : I_35 49 15 = I_23 49 15 := h_35.1.2 15 (by decide)
          have f17_I_35 : I_35 49 17 = I_23 49 17 := h_35.1.2 17 (by decide)
          have f18_I_35 : I_35 49 18 = I_23 49 18 := h_35.1.2 18 (by decide)
          have pI_35 : PI I_35 := h_35.2.2.2.1
          have oI_35 := PI_o pI_35
          have yI_35 := h_35.2.2.2.2
          refine ww_if_eq hX (pc := 38) (tgt := 49) dX11_readTerm_38 (by decide) (fun h_38 => ?_) (fun h_38 => ?_)
          · simp only [w32_mod] at h_38
            obtain ⟨z35, n35⟩ := TK_0 yI_35.2.2.2 (by omega)
            refine rV hX (pc := 49) hT (Nat.le_refl 0) (Nat.le_refl 0) dX11_readTerm_49 ?_
            exact ⟨kI_35, kJ_35, cI_35, pI_35, (by exact zLp6_e hlv (by omega) (by omega) (by omega) (fun g9 => by  have a0 := n11 (by omega); have a1 := n23 (by omega); rw [z11] at a1; have a2 := n35 (by omega); rw [z23] at a2; rw [z11] at a2; simp only [List.mem_cons, List.not_mem_nil, or_false]; try omega)), by omega⟩
          · simp only [w32_mod] at h_38
            have s35 := TK_1 yI_35.2.2.2 (by omega)
            rw [z23] at s35
            rw [z11] at s35
            refine ww_aload_n hX (pc := 41) dX11_readTerm_41 rfl ?_
            refine ww_iload_n hX (pc := 42) dX11_readTerm_42 rfl ?_
            refine vV1 hX (pc := 43) sX11_197 (xs_49 hL) (c9_X11_readPart l0 hL cI_35  pI_35 (pvw_tr kI_35 (by decide) (by decide) hc) (zRL_tr kI_35 (by decide) (by decide) (by decide) hk) (m := m) hm hrec) (by omega) (Nat.le_refl 0) (Nat.le_refl 0) (Nat.le_of_ble_eq_true rfl) dX11_readTerm_43 (fun I_43 J_43 h_43 => ?_)
            have kJ_43 : Kp 49 49 Ja J_43 := Kp_tr kJ_35 h_43.2.1
            have kI_43 : Ch [] [16, 17, 18] Ia I_43 := Ch_tr kI_35 (Ch_wd h_43.1 (by decide) (by decide))
            have cI_43 : RX I_43 := h_43.2.2.1
            have qI_43 := RX_w cI_43
            have f15_I_43 : I_43 49 15 = I_35 49 15 := h_43.1.2 15 (by decide)
            have pI_43 : PI I_43 := h_43.2.2.2.1
            have oI_43 := PI_o pI_43
            have yI_43 := h_43.2.2.2.2
            refine ww_goto hX (pc := 46) (tgt := 5) dX11_readTerm_46 (by decide) ?_
            exact ih_5 _ (by have hm9 := Sh0_e hq_5; omega) I_43 J_43 rfl ⟨kI_43, cI_43, kJ_43, by omega, pI_43, zLp6_s hlv (by have h7 := s35.1; omega) (by rw [s35.2.1]; simp only [List.mem_cons, List.not_mem_nil, or_false]; try omega) (by omega) (by omega) (by omega) (zRL_tr kI5 (by decide) (by decide) (by decide) hk).1 (PI_lt pI5 (by rw [← atI5]; have h8 := s35.2.1; omega)) hk.2.1 yI_43.1 (by omega), by omega⟩
  exact hl_5 _ I_2 J_2 rfl ⟨kI_2, cI_2, kJ_2, rfl, pI_2, zLp6_0 yI_2.1, by omega⟩
