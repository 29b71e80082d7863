set_option maxHeartbeats 4000000 in
set_option maxRecDepth 20000 in
theorem c9_X11_readBoth (l0 : Launch) {Ia Ja : aI1} {Ra : aR1} {Sa : aS1} (hL : LY Ra Sa) (hQ : RX Ia) (hP : PI Ia) {c : Nat → Int} (hc : pvw Ia = c) {vl pl : Nat → Int} {T : Nat} (hk : zRL Ia vl pl T) {m : Nat} (hm : m ≤ 8) (hrec : ∀ mp, m = mp + 1 → URTest9 l0 mp)  : CT l0 (3 * m + 7) 0 0 mX11_readBoth [kR (some 49), kI (8 - (m : Int))] Ia Ja Ra Sa (cV (fun I' J' => Ch [] [16, 17, 18] Ia I' ∧ Kp 49 49 Ja J' ∧ RX I' ∧ PI I' ∧ zRP T pl (zBo (zTu c vl m) (zS c vl m) c) Ia I' ∧ Ia 49 16 ≤ I' 49 16) Ra Sa) := by
  refine ct_in pn_X11 (Nat.le_of_ble_eq_true rfl) (fun X hX hT hIn => ?_)
  have hX : aK l0 X cX11_readBoth 2 RX11 none (3 * m + 7) 0 0 := hX
  change WW X 0 [some (kR (some 49)), some (kI (8 - (m : Int)))] [] Ia Ja Ra Sa 0 0
  have qIa := RX_w hQ
  have oIa := PI_o hP
  have tIa := PI_t hP
  have atIa := pvw_at hP hc
  refine ww_aload_n hX (pc := 0) dX11_readBoth_0 rfl ?_
  refine ww_iload_n hX (pc := 1) dX11_readBoth_1 rfl ?_
  refine vV1 hX (pc := 2) sX11_187 (xs_49 hL) (c9_X11_readPlain l0 hL hQ  hP hc hk (m := m) hm hrec) (by omega) (Nat.le_refl 0) (Nat.le_refl 0) (Nat.le_of_ble_eq_true rfl) dX11_readBoth_2 (fun I_2 J_2 h_2 => ?_)
  have kJ_2 : Kp 49 49 Ja J_2 := Kp_tr (Kp_rf (a := 49) (b := 49)) h_2.2.1
  have kI_2 : Ch [] [16, 17, 18] Ia I_2 := Ch_tr Ch_rf (Ch_wd h_2.1 (by decide) (by decide))
  have cI_2 : RX I_2 := h_2.2.2.1
  have qI_2 := RX_w cI_2
  have f15_I_2 : I_2 49 15 = Ia 49 15 := h_2.1.2 15 (by decide)
  have pI_2 : PI I_2 := h_2.2.2.2.1
  have oI_2 := PI_o pI_2
  have yI_2 := h_2.2.2.2.2
  have hl_5 : ∀ (n_5 : Nat) (I5 : aI1) (J5 : aI1), (I5 49 15 - I5 49 16).toNat = n_5 → (Ch [] [16, 17, 18] Ia I5 ∧ RX I5 ∧ Kp 49 49 Ja J5 ∧ I5 49 15 = I_2 49 15 ∧ PI I5 ∧ zLp6 T c pl (zPl (zTu c vl m) (zS c vl m) c) [4] zJB Ia I5 ∧ Ia 49 16 ≤ I5 49 16) → WW X 5 [some (kR (some 49)), some (kI (8 - (m : Int)))] [] I5 J5 Ra Sa 0 0 := by
    intro n_5
    induction n_5 using Nat.strongRecOn with
    | ind n_5 ih_5 =>
      intro I5 J5 hm_5 hv_5
      have hq_5 := Sh0_i hm_5
      clear hm_5
      obtain ⟨kI5, cI5, kJ5, f15_I5, pI5, hlv, hmo⟩ := hv_5
      have qI5 := RX_w cI5
      have oI5 := PI_o pI5
      have tI5 := PI_t pI5
      have atI5 := pvw_at pI5 (pvw_tr kI5 (by decide) (by decide) hc)
      refine ww_aload_n hX (pc := 5) dX11_readBoth_5 rfl ?_
      refine ww_iconst hX (pc := 6) (x := 4) dX11_readBoth_6 rfl ?_
      refine vI1 hX (pc := 7) sX11_165 (xs_49 hL) (c9_X11_takes0 l0 hL cI5  pI5 (pvw_tr kI5 (by decide) (by decide) hc) (by omega) (by omega)) (by omega) (Nat.le_refl 0) (Nat.le_refl 0) (Nat.le_of_ble_eq_true rfl) dX11_readBoth_7 (fun x_7 I_7 J_7 h_7 => ?_)
      have kJ_7 : Kp 49 49 Ja J_7 := Kp_tr kJ5 h_7.2.1
      have kI_7 : Ch [] [16, 17, 18] Ia I_7 := Ch_tr kI5 (Ch_wd h_7.1 (by decide) (by decide))
      have cI_7 : RX I_7 := h_7.2.2.1
      have qI_7 := RX_w cI_7
      have f15_I_7 : I_7 49 15 = I5 49 15 := h_7.1.2 15 (by decide)
      have f17_I_7 : I_7 49 17 = I5 49 17 := h_7.1.2 17 (by decide)
      have f18_I_7 : I_7 49 18 = I5 49 18 := h_7.1.2 18 (by decide)
      have pI_7 : PI I_7 := h_7.2.2.2.1
      have oI_7 := PI_o pI_7
      have yI_7 := h_7.2.2.2.2
      refine ww_if_eq hX (pc := 10) (tgt := 21) dX11_readBoth_10 (by decide) (fun h_10 => ?_) (fun h_10 => ?_)
      · simp only [w32_mod] at h_10
        obtain ⟨z7, n7⟩ := TK_0 yI_7.2.2.2 (by omega)
        refine rV hX (pc := 21) hT (Nat.le_refl 0) (Nat.le_refl 0) dX11_readBoth_21 ?_
        exact ⟨kI_7, kJ_7, cI_7, pI_7, (by exact zLp6_e hlv (by omega) (by omega) (by omega) (fun g9 => by  have a0 := n7 (by omega); simp only [List.mem_cons, List.not_mem_nil, or_false]; try omega)), by omega⟩
      · simp only [w32_mod] at h_10
        have s7 := TK_1 yI_7.2.2.2 (by omega)
        refine ww_aload_n hX (pc := 13) dX11_readBoth_13 rfl ?_
        refine ww_iload_n hX (pc := 14) dX11_readBoth_14 rfl ?_
        refine vV1 hX (pc := 15) sX11_187 (xs_49 hL) (c9_X11_readPlain l0 hL cI_7  pI_7 (pvw_tr kI_7 (by decide) (by decide) hc) (zRL_tr kI_7 (by decide) (by decide) (by decide) hk) (m := m) hm hrec) (by omega) (Nat.le_refl 0) (Nat.le_refl 0) (Nat.le_of_ble_eq_true rfl) dX11_readBoth_15 (fun I_15 J_15 h_15 => ?_)
        have kJ_15 : Kp 49 49 Ja J_15 := Kp_tr kJ_7 h_15.2.1
        have kI_15 : Ch [] [16, 17, 18] Ia I_15 := Ch_tr kI_7 (Ch_wd h_15.1 (by decide) (by decide))
        have cI_15 : RX I_15 := h_15.2.2.1
        have qI_15 := RX_w cI_15
        have f15_I_15 : I_15 49 15 = I_7 49 15 := h_15.1.2 15 (by decide)
        have pI_15 : PI I_15 := h_15.2.2.2.1
        have oI_15 := PI_o pI_15
        have yI_15 := h_15.2.2.2.2
        refine ww_goto hX (pc := 18) (tgt := 5) dX11_readBoth_18 (by decide) ?_
        exact ih_5 _ (by have hm9 := Sh0_e hq_5; omega) I_15 J_15 rfl ⟨kI_15, cI_15, kJ_15, by omega, pI_15, zLp6_s hlv (by have h7 := s7.1; omega) (by rw [s7.2.1]; simp only [List.mem_cons, List.not_mem_nil, or_false]; try omega) (by omega) (by omega) (by omega) (zRL_tr kI5 (by decide) (by decide) (by decide) hk).1 (PI_lt pI5 (by rw [← atI5]; have h8 := s7.2.1; omega)) hk.2.1 yI_15.1 (by omega), by omega⟩
  exact hl_5 _ I_2 J_2 rfl ⟨kI_2, cI_2, kJ_2, rfl, pI_2, zLp6_0 yI_2.1, by omega⟩
