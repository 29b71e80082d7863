set_option maxHeartbeats 4000000 in
set_option maxRecDepth 20000 in
theorem c9_X11_reads (l0 : Launch) {Ia Ja : aI1} {Ra : aR1} {Sa : aS1} (hL : LY Ra Sa) (hQ : RX Ia) {f : Nat → Int} {N : Nat} (hw : WD Ia) (hf : zTB f N (Ia 55)) (hN : Ia 49 10 = N)  : CT l0 34 0 0 mX11_reads [kR (some 49)] Ia Ja Ra Sa (cI (fun x I' J' => Ch [57, 58, 59] [10, 11, 15, 16, 17, 18] Ia I' ∧ Kp 49 49 Ja J' ∧ RX I' ∧ (0 ≤ x ∧ x ≤ 1) ∧ (x = 1 → (0 ≤ I' 49 15 ∧ I' 49 15 ≤ 400) ∧ RG (I' 57) (I' 49 15) ∧ LawG (pvw I') (I' 49 15).toNat) ∧ I' 49 10 = 0 ∧ zRE f N x I' ∧ I' 49 15 = (zTk f N 0).length ∧ (∀ t, t ≤ (zTk f N 0).length → I' 57 t = zCd f (zTk f N 0) t ∧ I' 58 t = zVl f (zTk f N 0) t)) Ra Sa) := by
  refine ct_in pn_X11 (Nat.le_of_ble_eq_true rfl) (fun X hX hT hIn => ?_)
  have hX : aK l0 X cX11_reads 2 RX11 (some .boolean) 34 0 0 := hX
  change WW X 0 [some (kR (some 49)), none] [] Ia Ja Ra Sa 0 0
  have qIa := RX_w hQ
  refine ww_aload_n hX (pc := 0) dX11_reads_0 rfl ?_
  refine ww_aload_n hX (pc := 1) dX11_reads_1 rfl ?_
  refine ww_getI hX (pc := 2) fX11_129 (by decide) (xs_49 hL) dX11_reads_2 ?_
  refine vV1 hX (pc := 5) sX11_203 (xs_49 hL) (c9_X11_splits l0 hL hQ (by omega) (by omega) hw hf hN) (by decide) (Nat.le_refl 0) (Nat.le_refl 0) (Nat.le_of_ble_eq_true rfl) dX11_reads_5 (fun I_5 J_5 h_5 => ?_)
  have kJ_5 : Kp 49 49 Ja J_5 := Kp_tr (Kp_rf (a := 49) (b := 49)) h_5.2.1
  have kI_5 : Ch [57, 58, 59] [10, 11, 15, 16, 17, 18] Ia I_5 := Ch_tr Ch_rf (Ch_wd h_5.1 (by decide) (by decide))
  have cI_5 : RX I_5 := h_5.2.2.1
  have qI_5 := RX_w cI_5
  have f10_I_5 : I_5 49 10 = Ia 49 10 := h_5.1.2 10 (by decide)
  have f16_I_5 : I_5 49 16 = Ia 49 16 := h_5.1.2 16 (by decide)
  have f17_I_5 : I_5 49 17 = Ia 49 17 := h_5.1.2 17 (by decide)
  have f18_I_5 : I_5 49 18 = Ia 49 18 := h_5.1.2 18 (by decide)
  refine ww_aload_n hX (pc := 8) dX11_reads_8 rfl ?_
  refine ww_iconst hX (pc := 9) (x := 0) dX11_reads_9 rfl ?_
  refine ww_putI hX (pc := 10) (fun h9 => absurd h9 (by decide)) gX11_129 rfl (xs_49 hL) dX11_reads_10 ?_
  refine ww_nmH (fun I_10 eI_10 => ?_)
  have kI_10 : Ch [57, 58, 59] [10, 11, 15, 16, 17, 18] Ia I_10 := by rw [eI_10]; exact Ch_f kI_5 (by decide)
  have cI_10 : RX I_10 := by rw [eI_10]; exact RX_10 cI_5 (by omega) (by omega)
  have qI_10 := RX_w cI_10
  have f15_I_10 : I_10 49 15 = I_5 49 15 := by rw [eI_10, up2_n _ _ (Or.inr (by decide))]
  have f16_I_10 : I_10 49 16 = I_5 49 16 := by rw [eI_10, up2_n _ _ (Or.inr (by decide))]
  have f17_I_10 : I_10 49 17 = I_5 49 17 := by rw [eI_10, up2_n _ _ (Or.inr (by decide))]
  have f18_I_10 : I_10 49 18 = I_5 49 18 := by rw [eI_10, up2_n _ _ (Or.inr (by decide))]
  have z10 : I_10 49 10 = 0 := by rw [eI_10, up2_s]
  refine ww_aload_n hX (pc := 13) dX11_reads_13 rfl ?_
  refine ww_iconst hX (pc := 14) (x := 0) dX11_reads_14 rfl ?_
  refine ww_putI hX (pc := 15) (fun h9 => absurd h9 (by decide)) gX11_162 rfl (xs_49 hL) dX11_reads_15 ?_
  refine ww_nmH (fun I_15 eI_15 => ?_)
  have kI_15 : Ch [57, 58, 59] [10, 11, 15, 16, 17, 18] Ia I_15 := by rw [eI_15]; exact Ch_f kI_10 (by decide)
  have cI_15 : RX I_15 := by rw [eI_15]; exact RX_f cI_10 (by decide)
  have qI_15 := RX_w cI_15
  have f10_I_15 : I_15 49 10 = I_10 49 10 := by rw [eI_15, up2_n _ _ (Or.inr (by decide))]
  have f15_I_15 : I_15 49 15 = I_10 49 15 := by rw [eI_15, up2_n _ _ (Or.inr (by decide))]
  have f17_I_15 : I_15 49 17 = I_10 49 17 := by rw [eI_15, up2_n _ _ (Or.inr (by decide))]
  have f18_I_15 : I_15 49 18 = I_10 49 18 := by rw [eI_15, up2_n _ _ (Or.inr (by decide))]
  have w16_15 : I_15 49 16 = 0 := by rw [eI_15, up2_s]
  refine ww_aload_n hX (pc := 18) dX11_reads_18 rfl ?_
  refine ww_iconst hX (pc := 19) (x := 0) dX11_reads_19 rfl ?_
  refine ww_putI hX (pc := 20) (fun h9 => absurd h9 (by decide)) gX11_171 rfl (xs_49 hL) dX11_reads_20 ?_
  refine ww_nmH (fun I_20 eI_20 => ?_)
  have kI_20 : Ch [57, 58, 59] [10, 11, 15, 16, 17, 18] Ia I_20 := by rw [eI_20]; exact Ch_f kI_15 (by decide)
  have cI_20 : RX I_20 := by rw [eI_20]; exact RX_f cI_15 (by decide)
  have qI_20 := RX_w cI_20
  have f10_I_20 : I_20 49 10 = I_15 49 10 := by rw [eI_20, up2_n _ _ (Or.inr (by decide))]
  have f15_I_20 : I_20 49 15 = I_15 49 15 := by rw [eI_20, up2_n _ _ (Or.inr (by decide))]
  have f16_I_20 : I_20 49 16 = I_15 49 16 := by rw [eI_20, up2_n _ _ (Or.inr (by decide))]
  have f18_I_20 : I_20 49 18 = I_15 49 18 := by rw [eI_20, up2_n _ _ (Or.inr (by decide))]
  have w17_20 : I_20 49 17 = 0 := by rw [eI_20, up2_s]
  refine ww_aload_n hX (pc := 23) dX11_reads_23 rfl ?_
  refine ww_iconst hX (pc := 24) (x := (-1)) dX11_reads_24 rfl ?_
  refine ww_putI hX (pc := 25) (fun h9 => absurd h9 (by decide)) gX11_155 rfl (xs_49 hL) dX11_reads_25 ?_
  refine ww_nmH (fun I_25 eI_25 => ?_)
  have kI_25 : Ch [57, 58, 59] [10, 11, 15, 16, 17, 18] Ia I_25 := by rw [eI_25]; exact Ch_f kI_20 (by decide)
  have cI_25 : RX I_25 := by rw [eI_25]; exact RX_f cI_20 (by decide)
  have qI_25 := RX_w cI_25
  have f10_I_25 : I_25 49 10 = I_20 49 10 := by rw [eI_25, up2_n _ _ (Or.inr (by decide))]
  have f15_I_25 : I_25 49 15 = I_20 49 15 := by rw [eI_25, up2_n _ _ (Or.inr (by decide))]
  have f16_I_25 : I_25 49 16 = I_20 49 16 := by rw [eI_25, up2_n _ _ (Or.inr (by decide))]
  have f17_I_25 : I_25 49 17 = I_20 49 17 := by rw [eI_25, up2_n _ _ (Or.inr (by decide))]
  have w18_25 : I_25 49 18 = -1 := by rw [eI_25, up2_s]
  have pI_25 : PI I_25 := PI_mk ⟨h_5.2.2.2.1, h_5.2.2.2.2.1, h_5.2.2.2.2.2.1, h_5.2.2.2.2.2.2.1⟩ (by rw [eI_25, up2_off _ _ _ (by decide), eI_20, up2_off _ _ _ (by decide), eI_15, up2_off _ _ _ (by decide), eI_10, up2_off _ _ _ (by decide)]) (by rw [eI_25, up2_off _ _ _ (by decide), eI_20, up2_off _ _ _ (by decide), eI_15, up2_off _ _ _ (by decide), eI_10, up2_off _ _ _ (by decide)]) (by omega) (by omega) w18_25
  have hL5 := h_5.2.2.2.2.2.2.2.1
  have hA5 := h_5.2.2.2.2.2.2.2.2
  have e57_25 : I_25 57 = I_5 57 := by rw [eI_25, up2_off _ _ _ (by decide), eI_20, up2_off _ _ _ (by decide), eI_15, up2_off _ _ _ (by decide), eI_10, up2_off _ _ _ (by decide)]
  have e58_25 : I_25 58 = I_5 58 := by rw [eI_25, up2_off _ _ _ (by decide), eI_20, up2_off _ _ _ (by decide), eI_15, up2_off _ _ _ (by decide), eI_10, up2_off _ _ _ (by decide)]
  have e59_25 : I_25 59 = I_5 59 := by rw [eI_25, up2_off _ _ _ (by decide), eI_20, up2_off _ _ _ (by decide), eI_15, up2_off _ _ _ (by decide), eI_10, up2_off _ _ _ (by decide)]
  obtain ⟨c, hcd⟩ : ∃ c, c = zCd f (zTk f N 0) := ⟨_, rfl⟩
  obtain ⟨vl, hvd⟩ : ∃ v, v = zVl f (zTk f N 0) := ⟨_, rfl⟩
  obtain ⟨pl, hpd⟩ : ∃ v, v = zPc N (zTk f N 0) := ⟨_, rfl⟩
  obtain ⟨T, hTd⟩ : ∃ v, v = (zTk f N 0).length := ⟨_, rfl⟩
  have hcI_25 : pvw I_25 = c := by rw [hcd]; exact zpvw (by omega) (fun t ht => by rw [e57_25]; exact (hA5 t ht).1)
  have hkI_25 : zRL I_25 vl pl T := ⟨by omega, by omega, fun t ht => by rw [e58_25, e59_25, hvd, hpd]; have h9 := hA5 t (by omega); have h8 := h_5.2.2.2.2.2.1 t (by omega); exact ⟨h9.2.1, h9.2.2, by omega, zVl_r⟩⟩
  have hRd : zTx f N = zLw c vl T 12 0 0 := by rw [hcd, hvd, hTd]; rfl
  have hcT : c T = 0 := by rw [hcd, hTd]; exact zCd_z _ (Nat.le_refl _)
  have oI_25 := PI_o pI_25
  refine ww_aload_n hX (pc := 28) dX11_reads_28 rfl ?_
  refine vV0 hX (pc := 29) sX11_206 (xs_49 hL) (c9_X11_readClause l0 hL cI_25 pI_25 hcI_25 hkI_25) (by decide) (Nat.le_refl 0) (Nat.le_refl 0) (Nat.le_of_ble_eq_true rfl) dX11_reads_29 (fun I_29 J_29 h_29 => ?_)
  have kJ_29 : Kp 49 49 Ja J_29 := Kp_tr kJ_5 h_29.2.1
  have kI_29 : Ch [57, 58, 59] [10, 11, 15, 16, 17, 18] Ia I_29 := Ch_tr kI_25 (Ch_wd h_29.1 (by decide) (by decide))
  have cI_29 : RX I_29 := h_29.2.2.1
  have qI_29 := RX_w cI_29
  have f10_I_29 : I_29 49 10 = I_25 49 10 := h_29.1.2 10 (by decide)
  have f15_I_29 : I_29 49 15 = I_25 49 15 := h_29.1.2 15 (by decide)
  have pI_29 : PI I_29 := h_29.2.2.2.1
  have oI_29 := PI_o pI_29
  have yI_29 := h_29.2.2.2.2
  have hcI_29 := pvw_tr h_29.1 (by decide) (by decide) hcI_25
  have hkI_29 := zRL_tr h_29.1 (by decide) (by decide) (by decide) hkI_25
  refine ww_iconst hX (pc := 32) (x := 1) dX11_reads_32 rfl ?_
  refine ww_istore_n hX (pc := 33) (lv' := [some (kR (some 49)), some (kI 1)]) dX11_reads_33 (by decide) rfl rfl ?_
  have hl_34 : ∀ (n_34 : Nat) (n : Int) (I34 : aI1) (J34 : aI1), (I34 49 15 - I34 49 16).toNat = n_34 → (Ch [57, 58, 59] [10, 11, 15, 16, 17, 18] Ia I34 ∧ RX I34 ∧ Kp 49 49 Ja J34 ∧ I34 49 10 = I_29 49 10 ∧ I34 49 15 = I_29 49 15 ∧ PI I34 ∧ (1 ≤ n ∧ n ≤ 13) ∧ pvw I34 = c ∧ zRL I34 vl pl T ∧ zLG c vl pl T (zLw c vl T 12 0 0) n I34) → WW X 34 [some (kR (some 49)), some (kI n)] [] I34 J34 Ra Sa 0 0 := by
    intro n_34
    induction n_34 using Nat.strongRecOn with
    | ind n_34 ih_34 =>
      intro n I34 J34 hm_34 hv_34
      have hq_34 := Sh0_i hm_34
      clear hm_34
      obtain ⟨kI34, cI34, kJ34, f10_I34, f15_I34, pI34, hn13, hcI34, hkI34, hlg⟩ := hv_34
      have qI34 := RX_w cI34
      have oI34 := PI_o pI34
      have tI34 := PI_t pI34
      refine ww_aload_n hX (pc := 34) dX11_reads_34 rfl ?_
      refine ww_bipush hX (pc := 35) (x := 59) dX11_reads_35 (by decide) ?_
      refine sI1 hX (pc := 37) sX11_190 (c_X11_sign l0 ) (by decide) (Nat.le_refl 0) (Nat.le_refl 0) (Nat.le_of_ble_eq_true rfl) dX11_reads_37 (fun x_37 I_37 J_37 h_37 => ?_)
      obtain ⟨rfl, rfl, h_37⟩ := h_37
      refine vI1 hX (pc := 40) sX11_165 (xs_49 hL) (c9_X11_takes0 l0 hL cI34 pI34 hcI34 (by omega) (by omega)) (by decide) (Nat.le_refl 0) (Nat.le_refl 0) (Nat.le_of_ble_eq_true rfl) dX11_reads_40 (fun x_40 I_40 J_40 h_40 => ?_)
      have kJ_40 : Kp 49 49 Ja J_40 := Kp_tr kJ34 h_40.2.1
      have kI_40 : Ch [57, 58, 59] [10, 11, 15, 16, 17, 18] Ia I_40 := Ch_tr kI34 (Ch_wd h_40.1 (by decide) (by decide))
      have cI_40 : RX I_40 := h_40.2.2.1
      have qI_40 := RX_w cI_40
      have f10_I_40 : I_40 49 10 = I34 49 10 := h_40.1.2 10 (by decide)
      have f15_I_40 : I_40 49 15 = I34 49 15 := h_40.1.2 15 (by decide)
      have f17_I_40 : I_40 49 17 = I34 49 17 := h_40.1.2 17 (by decide)
      have f18_I_40 : I_40 49 18 = I34 49 18 := h_40.1.2 18 (by decide)
      have pI_40 : PI I_40 := h_40.2.2.2.1
      have oI_40 := PI_o pI_40
      have yI_40 := h_40.2.2.2.2
      have hcI_40 := pvw_tr h_40.1 (by decide) (by decide) hcI34
      have hkI_40 := zRL_tr h_40.1 (by decide) (by decide) (by decide) hkI34
      refine ww_if_eq hX (pc := 43) (tgt := 73) dX11_reads_43 (by decide) (fun h_43 => ?_) (fun h_43 => ?_)
      · simp only [w32_mod] at h_43
        obtain ⟨z40, n41⟩ := TK_0 yI_40.2.2.2 (by omega)
        have n40 : NOP c 159 I34 := fun g9 => by have h8 := n41 g9; omega
        refine ww_aload_n hX (pc := 73) dX11_reads_73 rfl ?_
        refine vI0 hX (pc := 74) sX11_158 (xs_49 hL) (c_X11_fine l0 hL cI_40  pI_40) (by decide) (Nat.le_refl 0) (Nat.le_refl 0) (Nat.le_of_ble_eq_true rfl) dX11_reads_74 (fun x_74 I_74 J_74 h_74 => ?_)
        obtain ⟨rfl, rfl, h_74⟩ := h_74
        refine ww_if_eq hX (pc := 77) (tgt := 95) dX11_reads_77 (by decide) (fun h_77 => ?_) (fun h_77 => ?_)
        · simp only [w32_mod] at h_77
          have nb74 := FN_0 h_74.2 (by omega)
          refine ww_aload_n hX (pc := 95) dX11_reads_95 rfl ?_
          refine ww_aload_n hX (pc := 96) dX11_reads_96 rfl ?_
          refine ww_getI hX (pc := 97) fX11_155 (by decide) (xs_49 hL) dX11_reads_97 ?_
          refine ww_putI hX (pc := 100) (fun h9 => absurd h9 (by decide)) gX11_40 rfl (xs_49 hL) dX11_reads_100 ?_
          refine ww_nmH (fun I_100 eI_100 => ?_)
          have kI_100 : Ch [57, 58, 59] [10, 11, 15, 16, 17, 18] Ia I_100 := by rw [eI_100]; exact Ch_f kI_40 (by decide)
          have cI_100 : RX I_100 := by rw [eI_100]; exact RX_f cI_40 (by decide)
          have qI_100 := RX_w cI_100
          have f10_I_100 : I_100 49 10 = I_40 49 10 := by rw [eI_100, up2_n _ _ (Or.inr (by decide))]
          have f15_I_100 : I_100 49 15 = I_40 49 15 := by rw [eI_100, up2_n _ _ (Or.inr (by decide))]
          have f16_I_100 : I_100 49 16 = I_40 49 16 := by rw [eI_100, up2_n _ _ (Or.inr (by decide))]
          have f17_I_100 : I_100 49 17 = I_40 49 17 := by rw [eI_100, up2_n _ _ (Or.inr (by decide))]
          have f18_I_100 : I_100 49 18 = I_40 49 18 := by rw [eI_100, up2_n _ _ (Or.inr (by decide))]
          have w11 : I_100 49 11 = I_40 49 18 := by rw [eI_100, up2_s]
          have e57 : I_100 57 = I_40 57 := by rw [eI_100, up2_off _ _ _ (by decide)]
          have epv : pvw I_100 = c := by
            rw [← hcI_40]
            funext i
            unfold pvw
            rw [e57, f15_I_100]
          have epc : pvw I_100 = zCd f (zTk f N 0) := epv.trans hcd
          have z0_100 : I_100 57 (I_100 49 15).toNat = 0 := by rw [e57, f15_I_100]; exact pI_40.2.2.2.2.2
          have z10_100 : I_100 49 10 = 0 := by omega
          have pI_100 : PI I_100 := by rw [eI_100]; exact PI_g pI_40 (by decide)
          have oI_100 := PI_o pI_100
          have hkI_100 : zRL I_100 vl pl T := zRL_tr (rs := []) (fs := [11]) (by rw [eI_100]; exact Ch_f Ch_rf (by decide)) (by decide) (by decide) (by decide) hkI_40
          refine ww_aload_n hX (pc := 103) dX11_reads_103 rfl ?_
          refine vI0 hX (pc := 104) sX11_158 (xs_49 hL) (c_X11_fine l0 hL cI_100  pI_100) (by decide) (Nat.le_refl 0) (Nat.le_refl 0) (Nat.le_of_ble_eq_true rfl) dX11_reads_104 (fun x_104 I_104 J_104 h_104 => ?_)
          obtain ⟨rfl, rfl, h_104⟩ := h_104
          refine rZ hX (pc := 107) hT (Nat.le_refl 0) (Nat.le_refl 0) dX11_reads_107 (by omega) ?_
          exact ⟨kI_100, kJ_40, cI_100, (by omega), (fun h1 => absurd (show I_40 49 18 = -1 by have b9 := FN_1 h_104.2 h1; omega) nb74), z10_100, (by
              obtain ⟨fp, g1, g2⟩ := zLG_e1 hlg (fun g9 => nb74 (by omega))
              exact zRE_0 (hRd.trans g1) (by have b9 : x_104 = 0 ∨ x_104 = 1 := by omega
                                             rcases b9 with b9 | b9
                                             · exact b9
                                             · exact absurd (show I_40 49 18 = -1 by have b8 := FN_1 h_104.2 b9; omega) nb74) (by rw [← hpd]; omega)), (by omega), (fun t ht => ⟨by rw [← epc, zpv_at (show I_100 49 15 = (zTk f N 0).length by omega) ht z0_100], (hkI_100.2.2 t (by omega)).1.trans (by rw [hvd])⟩)⟩
        · simp only [w32_mod] at h_77
          have bb74 := FN_1 h_74.2 (by omega)
          refine ww_aload_n hX (pc := 80) dX11_reads_80 rfl ?_
          refine ww_getI hX (pc := 81) fX11_162 (by decide) (xs_49 hL) dX11_reads_81 ?_
          refine ww_aload_n hX (pc := 84) dX11_reads_84 rfl ?_
          refine ww_getI hX (pc := 85) fX11_142 (by decide) (xs_49 hL) dX11_reads_85 ?_
          refine ww_icmp_ge hX (pc := 88) (tgt := 95) dX11_reads_88 (by decide) (fun h_88 => ?_) (fun h_88 => ?_)
          · simp only [w32_mod] at h_88
            refine ww_aload_n hX (pc := 95) dX11_reads_95 rfl ?_
            refine ww_aload_n hX (pc := 96) dX11_reads_96 rfl ?_
            refine ww_getI hX (pc := 97) fX11_155 (by decide) (xs_49 hL) dX11_reads_97 ?_
            refine ww_putI hX (pc := 100) (fun h9 => absurd h9 (by decide)) gX11_40 rfl (xs_49 hL) dX11_reads_100 ?_
            refine ww_nmH (fun I_100 eI_100 => ?_)
            have kI_100 : Ch [57, 58, 59] [10, 11, 15, 16, 17, 18] Ia I_100 := by rw [eI_100]; exact Ch_f kI_40 (by decide)
            have cI_100 : RX I_100 := by rw [eI_100]; exact RX_f cI_40 (by decide)
            have qI_100 := RX_w cI_100
            have f10_I_100 : I_100 49 10 = I_40 49 10 := by rw [eI_100, up2_n _ _ (Or.inr (by decide))]
            have f15_I_100 : I_100 49 15 = I_40 49 15 := by rw [eI_100, up2_n _ _ (Or.inr (by decide))]
            have f16_I_100 : I_100 49 16 = I_40 49 16 := by rw [eI_100, up2_n _ _ (Or.inr (by decide))]
            have f17_I_100 : I_100 49 17 = I_40 49 17 := by rw [eI_100, up2_n _ _ (Or.inr (by decide))]
            have f18_I_100 : I_100 49 18 = I_40 49 18 := by rw [eI_100, up2_n _ _ (Or.inr (by decide))]
            have w11 : I_100 49 11 = I_40 49 18 := by rw [eI_100, up2_s]
            have e57 : I_100 57 = I_40 57 := by rw [eI_100, up2_off _ _ _ (by decide)]
            have epv : pvw I_100 = c := by
              rw [← hcI_40]
              funext i
              unfold pvw
              rw [e57, f15_I_100]
            have epc : pvw I_100 = zCd f (zTk f N 0) := epv.trans hcd
            have z0_100 : I_100 57 (I_100 49 15).toNat = 0 := by rw [e57, f15_I_100]; exact pI_40.2.2.2.2.2
            have z10_100 : I_100 49 10 = 0 := by omega
            have pI_100 : PI I_100 := by rw [eI_100]; exact PI_g pI_40 (by decide)
            have oI_100 := PI_o pI_100
            have hkI_100 : zRL I_100 vl pl T := zRL_tr (rs := []) (fs := [11]) (by rw [eI_100]; exact Ch_f Ch_rf (by decide)) (by decide) (by decide) (by decide) hkI_40
            refine ww_aload_n hX (pc := 103) dX11_reads_103 rfl ?_
            refine vI0 hX (pc := 104) sX11_158 (xs_49 hL) (c_X11_fine l0 hL cI_100  pI_100) (by decide) (Nat.le_refl 0) (Nat.le_refl 0) (Nat.le_of_ble_eq_true rfl) dX11_reads_104 (fun x_104 I_104 J_104 h_104 => ?_)
            obtain ⟨rfl, rfl, h_104⟩ := h_104
            refine rZ hX (pc := 107) hT (Nat.le_refl 0) (Nat.le_refl 0) dX11_reads_107 (by omega) ?_
            exact ⟨kI_100, kJ_40, cI_100, (by omega), (fun h1 => by
                obtain ⟨qs, g1⟩ := zLG_e3 hlg (by omega) z40 (by omega)
                have g2 := zTx_G (f := f) (N := N) (by omega) (hRd.trans g1)
                exact ⟨⟨by omega, by omega⟩, (fun j hj => pI_100.2.2.2.1 j (by omega)), (by rw [epv, hcd, show (I_100 49 15).toNat = (zTk f N 0).length by omega]; exact g2)⟩), z10_100, (by
                obtain ⟨qs, g1⟩ := zLG_e3 hlg (by omega) z40 (by omega)
                have b9 : x_104 = 1 := by
                  rcases (show x_104 = 0 ∨ x_104 = 1 by omega) with b9 | b9
                  · exact absurd (show I_100 49 18 = -1 by omega) (FN_0 h_104.2 b9)
                  · exact b9
                exact zRE_1 (hRd.trans g1) b9 (by omega)), (by omega), (fun t ht => ⟨by rw [← epc, zpv_at (show I_100 49 15 = (zTk f N 0).length by omega) ht z0_100], (hkI_100.2.2 t (by omega)).1.trans (by rw [hvd])⟩)⟩
          · simp only [w32_mod] at h_88
            refine ww_aload_n hX (pc := 91) dX11_reads_91 rfl ?_
            refine vV0 hX (pc := 92) sX11_168 (xs_49 hL) (c9_X11_faults l0 hL cI_40 pI_40 hkI_40) (by decide) (Nat.le_refl 0) (Nat.le_refl 0) (Nat.le_of_ble_eq_true rfl) dX11_reads_92 (fun I_92 J_92 h_92 => ?_)
            have kJ_92 : Kp 49 49 Ja J_92 := Kp_tr kJ_40 h_92.2.1
            have kI_92 : Ch [57, 58, 59] [10, 11, 15, 16, 17, 18] Ia I_92 := Ch_tr kI_40 (Ch_wd h_92.1 (by decide) (by decide))
            have cI_92 : RX I_92 := h_92.2.2.1
            have qI_92 := RX_w cI_92
            have f10_I_92 : I_92 49 10 = I_40 49 10 := h_92.1.2 10 (by decide)
            have f15_I_92 : I_92 49 15 = I_40 49 15 := h_92.1.2 15 (by decide)
            have f16_I_92 : I_92 49 16 = I_40 49 16 := h_92.1.2 16 (by decide)
            have f17_I_92 : I_92 49 17 = I_40 49 17 := h_92.1.2 17 (by decide)
            have pI_92 : PI I_92 := h_92.2.2.2.1
            have oI_92 := PI_o pI_92
            have yI_92 := h_92.2.2.2.2
            have hcI_92 := pvw_tr h_92.1 (by decide) (by decide) hcI_40
            have hkI_92 := zRL_tr h_92.1 (by decide) (by decide) (by decide) hkI_40
            refine ww_aload_n hX (pc := 95) dX11_reads_95 rfl ?_
            refine ww_aload_n hX (pc := 96) dX11_reads_96 rfl ?_
            refine ww_getI hX (pc := 97) fX11_155 (by decide) (xs_49 hL) dX11_reads_97 ?_
            refine ww_putI hX (pc := 100) (fun h9 => absurd h9 (by decide)) gX11_40 rfl (xs_49 hL) dX11_reads_100 ?_
            refine ww_nmH (fun I_100 eI_100 => ?_)
            have kI_100 : Ch [57, 58, 59] [10, 11, 15, 16, 17, 18] Ia I_100 := by rw [eI_100]; exact Ch_f kI_92 (by decide)
            have cI_100 : RX I_100 := by rw [eI_100]; exact RX_f cI_92 (by decide)
            have qI_100 := RX_w cI_100
            have f10_I_100 : I_100 49 10 = I_92 49 10 := by rw [eI_100, up2_n _ _ (Or.inr (by decide))]
            have f15_I_100 : I_100 49 15 = I_92 49 15 := by rw [eI_100, up2_n _ _ (Or.inr (by decide))]
            have f16_I_100 : I_100 49 16 = I_92 49 16 := by rw [eI_100, up2_n _ _ (Or.inr (by decide))]
            have f17_I_100 : I_100 49 17 = I_92 49 17 := by rw [eI_100, up2_n _ _ (Or.inr (by decide))]
            have f18_I_100 : I_100 49 18 = I_92 49 18 := by rw [eI_100, up2_n _ _ (Or.inr (by decide))]
            have w11 : I_100 49 11 = I_92 49 18 := by rw [eI_100, up2_s]
            have e57 : I_100 57 = I_92 57 := by rw [eI_100, up2_off _ _ _ (by decide)]
            have epv : pvw I_100 = c := by
              rw [← hcI_92]
              funext i
              unfold pvw
              rw [e57, f15_I_100]
            have epc : pvw I_100 = zCd f (zTk f N 0) := epv.trans hcd
            have z0_100 : I_100 57 (I_100 49 15).toNat = 0 := by rw [e57, f15_I_100]; exact pI_92.2.2.2.2.2
            have z10_100 : I_100 49 10 = 0 := by omega
            have pI_100 : PI I_100 := by rw [eI_100]; exact PI_g pI_92 (by decide)
            have oI_100 := PI_o pI_100
            have hkI_100 : zRL I_100 vl pl T := zRL_tr (rs := []) (fs := [11]) (by rw [eI_100]; exact Ch_f Ch_rf (by decide)) (by decide) (by decide) (by decide) hkI_92
            refine ww_aload_n hX (pc := 103) dX11_reads_103 rfl ?_
            refine vI0 hX (pc := 104) sX11_158 (xs_49 hL) (c_X11_fine l0 hL cI_100  pI_100) (by decide) (Nat.le_refl 0) (Nat.le_refl 0) (Nat.le_of_ble_eq_true rfl) dX11_reads_104 (fun x_104 I_104 J_104 h_104 => ?_)
            obtain ⟨rfl, rfl, h_104⟩ := h_104
            refine rZ hX (pc := 107) hT (Nat.le_refl 0) (Nat.le_refl 0) dX11_reads_107 (by omega) ?_
            exact ⟨kI_100, kJ_92, cI_100, (by omega), (fun h1 => by
                exfalso
                have b9 := FN_1 h_104.2 h1
                obtain ⟨fp, g1, g2⟩ := zLG_e2 hlg (by omega) z40 (by omega) n40 (by omega) yI_92.2.2
                have h8 := yI_92.2.2.2 (by omega)
                have h6 := (zRL_p hkI_40 pI_40).2.2.1
                omega), z10_100, (by
                obtain ⟨fp, g1, g2⟩ := zLG_e2 hlg (by omega) z40 (by omega) n40 (by omega) yI_92.2.2
                have h8 := yI_92.2.2.2 (by omega)
                have h6 := (zRL_p hkI_40 pI_40).2.2.1
                have b9 : x_104 = 0 := by
                  rcases (show x_104 = 0 ∨ x_104 = 1 by omega) with b9 | b9
                  · exact b9
                  · exfalso
                    have b8 := FN_1 h_104.2 b9
                    omega
                exact zRE_0 (hRd.trans g1) b9 (by rw [← hpd]; omega)), (by omega), (fun t ht => ⟨by rw [← epc, zpv_at (show I_100 49 15 = (zTk f N 0).length by omega) ht z0_100], (hkI_100.2.2 t (by omega)).1.trans (by rw [hvd])⟩)⟩
      · simp only [w32_mod] at h_43
        have s41 := TK_1 yI_40.2.2.2 (by omega)
        have s40 : I34 49 18 = -1 ∧ c (I34 49 16).toNat = 159 ∧ I_40 49 16 = I34 49 16 + 1 := ⟨s41.1, by have h8 := s41.2.1; omega, s41.2.2⟩
        have hn12 : n ≤ 12 := by
          obtain ⟨_, _, _, _, h9, _⟩ := zLG_at hlg s40.1
          omega
        refine ww_iload_n hX (pc := 46) dX11_reads_46 rfl ?_
        refine ww_bipush hX (pc := 47) (x := 12) dX11_reads_47 (by decide) ?_
        refine ww_icmp_ne hX (pc := 49) (tgt := 56) dX11_reads_49 (by decide) (fun h_49 => ?_) (fun h_49 => ?_)
        · simp only [w32_mod] at h_49
          refine ww_aload_n hX (pc := 56) dX11_reads_56 rfl ?_
          refine vI0 hX (pc := 57) sX11_158 (xs_49 hL) (c_X11_fine l0 hL cI_40  pI_40) (by decide) (Nat.le_refl 0) (Nat.le_refl 0) (Nat.le_of_ble_eq_true rfl) dX11_reads_57 (fun x_57 I_57 J_57 h_57 => ?_)
          obtain ⟨rfl, rfl, h_57⟩ := h_57
          refine ww_if_eq hX (pc := 60) (tgt := 67) dX11_reads_60 (by decide) (fun h_60 => ?_) (fun h_60 => ?_)
          · simp only [w32_mod] at h_60
            have nb57 := FN_0 h_57.2 (by omega)
            exact absurd (show I_40 49 18 = -1 by have h8 := s40.1; omega) nb57
          · simp only [w32_mod] at h_60
            have bb57 := FN_1 h_57.2 (by omega)
            refine ww_aload_n hX (pc := 63) dX11_reads_63 rfl ?_
            refine vV0 hX (pc := 64) sX11_206 (xs_49 hL) (c9_X11_readClause l0 hL cI_40 pI_40 hcI_40 hkI_40) (by decide) (Nat.le_refl 0) (Nat.le_refl 0) (Nat.le_of_ble_eq_true rfl) dX11_reads_64 (fun I_64 J_64 h_64 => ?_)
            have kJ_64 : Kp 49 49 Ja J_64 := Kp_tr kJ_40 h_64.2.1
            have kI_64 : Ch [57, 58, 59] [10, 11, 15, 16, 17, 18] Ia I_64 := Ch_tr kI_40 (Ch_wd h_64.1 (by decide) (by decide))
            have cI_64 : RX I_64 := h_64.2.2.1
            have qI_64 := RX_w cI_64
            have f10_I_64 : I_64 49 10 = I_40 49 10 := h_64.1.2 10 (by decide)
            have f15_I_64 : I_64 49 15 = I_40 49 15 := h_64.1.2 15 (by decide)
            have pI_64 : PI I_64 := h_64.2.2.2.1
            have oI_64 := PI_o pI_64
            have yI_64 := h_64.2.2.2.2
            have hcI_64 := pvw_tr h_64.1 (by decide) (by decide) hcI_40
            have hkI_64 := zRL_tr h_64.1 (by decide) (by decide) (by decide) hkI_40
            refine ww_iinc hX (pc := 67) (lv' := [some (kR (some 49)), some (kI (n + 1))]) dX11_reads_67 rfl (by decide) rfl rfl ?_
            refine ww_goto hX (pc := 70) (tgt := 34) dX11_reads_70 (by decide) ?_
            exact ih_34 _ (by have hm9 := Sh0_e hq_34; omega) (n + 1) I_64 J_64 rfl ⟨kI_64, cI_64, kJ_64, by omega, by omega, pI_64, by omega, hcI_64, hkI_64, zLG_s hlg s40 f17_I_40 (by omega) hcT (by omega) yI_64.1⟩
        · simp only [w32_mod] at h_49
          refine ww_aload_n hX (pc := 52) dX11_reads_52 rfl ?_
          refine vV0 hX (pc := 53) sX11_168 (xs_49 hL) (c9_X11_faults l0 hL cI_40 pI_40 hkI_40) (by decide) (Nat.le_refl 0) (Nat.le_refl 0) (Nat.le_of_ble_eq_true rfl) dX11_reads_53 (fun I_53 J_53 h_53 => ?_)
          have kJ_53 : Kp 49 49 Ja J_53 := Kp_tr kJ_40 h_53.2.1
          have kI_53 : Ch [57, 58, 59] [10, 11, 15, 16, 17, 18] Ia I_53 := Ch_tr kI_40 (Ch_wd h_53.1 (by decide) (by decide))
          have cI_53 : RX I_53 := h_53.2.2.1
          have qI_53 := RX_w cI_53
          have f10_I_53 : I_53 49 10 = I_40 49 10 := h_53.1.2 10 (by decide)
          have f15_I_53 : I_53 49 15 = I_40 49 15 := h_53.1.2 15 (by decide)
          have f16_I_53 : I_53 49 16 = I_40 49 16 := h_53.1.2 16 (by decide)
          have f17_I_53 : I_53 49 17 = I_40 49 17 := h_53.1.2 17 (by decide)
          have pI_53 : PI I_53 := h_53.2.2.2.1
          have oI_53 := PI_o pI_53
          have yI_53 := h_53.2.2.2.2
          have hcI_53 := pvw_tr h_53.1 (by decide) (by decide) hcI_40
          have hkI_53 := zRL_tr h_53.1 (by decide) (by decide) (by decide) hkI_40
          refine ww_aload_n hX (pc := 56) dX11_reads_56 rfl ?_
          refine vI0 hX (pc := 57) sX11_158 (xs_49 hL) (c_X11_fine l0 hL cI_53  pI_53) (by decide) (Nat.le_refl 0) (Nat.le_refl 0) (Nat.le_of_ble_eq_true rfl) dX11_reads_57 (fun x_57 I_57 J_57 h_57 => ?_)
          obtain ⟨rfl, rfl, h_57⟩ := h_57
          refine ww_if_eq hX (pc := 60) (tgt := 67) dX11_reads_60 (by decide) (fun h_60 => ?_) (fun h_60 => ?_)
          · simp only [w32_mod] at h_60
            have nb57 := FN_0 h_57.2 (by omega)
            refine ww_iinc hX (pc := 67) (lv' := [some (kR (some 49)), some (kI (n + 1))]) dX11_reads_67 rfl (by decide) rfl rfl ?_
            refine ww_goto hX (pc := 70) (tgt := 34) dX11_reads_70 (by decide) ?_
            exact ih_34 _ (by have hm9 := Sh0_e hq_34; omega) (n + 1) I_53 J_53 rfl ⟨kI_53, cI_53, kJ_53, by omega, by omega, pI_53, by omega, hcI_53, hkI_53, zLG_f hlg s40 (by omega) hcT (by omega) yI_53.2.2 (zRL_pp hkI_40)⟩
          · simp only [w32_mod] at h_60
            have bb57 := FN_1 h_57.2 (by omega)
            exfalso
            have h8 := yI_53.2.2.2 (by have h7 := s40.1; omega)
            have h6 := (zRL_p hkI_40 pI_40).2.2.1
            omega
  exact hl_34 _ 1 I_29 J_29 rfl ⟨kI_29, cI_29, kJ_29, rfl, rfl, pI_29, by omega, hcI_29, hkI_29, zLG_0 yI_29.1 ⟨by omega, by omega, Nat.zero_le _, by omega, by omega⟩⟩
