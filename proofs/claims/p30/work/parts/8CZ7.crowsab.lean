set_option maxHeartbeats 4000000 in
set_option maxRecDepth 20000 in
theorem c8_X8_countRows (l0 : Launch) {Ia Ja : aI1} {Ra : aR1} {Sa : aS1} (hL : LY Ra Sa) (hI : XI Ia) (hF : FRk Ia Ja) (hO : ∀ j, j < 8 → 0 ≤ Ia 2 j ∧ Ia 2 j ≤ 99) (hK : ∀ s : Nat, (s : Int) ≤ FU (Ia 1 5) → Ia 3 s < Ia 1 6) {a b m e g : Int} (ha0 : 0 ≤ a) (ha1 : a ≤ 8) (hb0 : 0 ≤ b) (hb1 : b ≤ FU (Ia 1 5)) (hm0 : 0 ≤ m) (hm1 : m ≤ 3) (he0 : -1 ≤ e) (he1 : e ≤ 7) (hg0 : -1 ≤ g) (hg1 : g ≤ 7)  : CT l0 6 0 0 mX8_countRows [kR (some 31), kI a, kI b, kI m, kI e, kI g] Ia Ja Ra Sa (cJ (fun x I' J' => Kp 18 33 Ia I' ∧ Kp 18 33 Ja J' ∧ FRk I' J' ∧ ∃ o L T, KT m Ia o L T ∧ x = RW (Ia 3) (nxD m Ia o L T) e g (Ia 1 6).toNat (FU (Ia 1 5) + 1).toNat a.toNat b.toNat) Ra Sa) := by
  refine ct_in pn_X8 (Nat.le_of_ble_eq_true rfl) (fun X hX hT hIn => ?_)
  have hX : aK l0 X cX8_countRows 7 RX8 (some .long) 6 0 0 := hX
  change WW X 0 [some (kR (some 31)), some (kI a), some (kI b), some (kI m), some (kI e), some (kI g), none] [] Ia Ja Ra Sa 0 0
  obtain ⟨hn1, hn2⟩ := hI.1
  obtain ⟨hk1, hk2⟩ := hI.2.1
  obtain ⟨hf1, hf2⟩ := hI.fu
  refine ww_aload_n hX (pc := 0) dX8_countRows_0 rfl ?_
  refine ww_getR hX (pc := 1) fX8_15 (by decide) (xs_31 hL) (xr_31_0 hL) dX8_countRows_1 ?_
  refine ww_iload_n hX (pc := 4) dX8_countRows_4 rfl ?_
  refine vV1 hX (pc := 5) sX8_19 (xs_18 hL) (c8_X4_prepare l0 hL hI hF hK (by omega) (by omega)) (by decide) (Nat.le_refl 0) (Nat.le_refl 0) (Nat.le_of_ble_eq_true rfl) dX8_countRows_5 (fun I_5 J_5 h_5 => ?_)
  have kI_5 : Kp 18 33 Ia I_5 := Kp_tr (Kp_rf (a := 18) (b := 33)) (Kp_wd h_5.1 (by decide) (by decide))
  have kJ_5 : Kp 18 33 Ja J_5 := Kp_tr (Kp_rf (a := 18) (b := 33)) (Kp_wd h_5.2.1 (by decide) (by decide))
  have r1_5_I_5 : I_5 1 5 = Ia 1 5 := Kp_at kI_5 1 5 (by decide)
  have r1_6_I_5 : I_5 1 6 = Ia 1 6 := Kp_at kI_5 1 6 (by decide)
  have rf_I_5 : FU (I_5 1 5) = FU (Ia 1 5) := by rw [r1_5_I_5]
  have fr5 := h_5.2.2.1
  have htr5 : ∀ t : Nat, (t : Int) ≤ FU (I_5 1 5) → TR m I_5 J_5 t := TR_p (XI_kp hI h_5.1 (by decide)) (by rw [h_5.1 2 (by decide)]; exact hO) h_5.2.2.2.1 h_5.2.2.2.2.1 h_5.2.2.2.2.2
  refine ww_aload_n hX (pc := 8) dX8_countRows_8 rfl ?_
  refine ww_getR hX (pc := 9) fX8_9 (by decide) (xs_31 hL) (xr_31_1 hL) dX8_countRows_9 ?_
  refine ww_iconst hX (pc := 12) (x := 0) dX8_countRows_12 rfl ?_
  refine ww_iload_n hX (pc := 13) dX8_countRows_13 rfl ?_
  refine ww_iconst hX (pc := 14) (x := 1) dX8_countRows_14 rfl ?_
  refine ww_iadd hX (pc := 15) dX8_countRows_15 ?_
  refine ww_sipush hX (pc := 16) (x := 256) dX8_countRows_16 (by decide) ?_
  refine ww_imul hX (pc := 19) dX8_countRows_19 ?_
  refine ww_lconst hX (pc := 20) (x := 0) dX8_countRows_20 (by decide) ?_
  refine sV4 hX (pc := 21) sX8_25 (c_J7_fill_bad5a l0 (xs_32 hL) (by decide) (by omega) (by omega) (by omega)) (by decide) (Nat.le_refl 0) (Nat.le_refl 0) (Nat.le_of_ble_eq_true rfl) dX8_countRows_21 (fun I_21 J_21 h_21 => ?_)
  obtain ⟨rfl, eJ_21⟩ := h_21
  have kJ_21 : Kp 18 33 Ja J_21 := by rw [eJ_21]; exact Kp_upR kJ_5 _ (by decide)
  refine ww_aload_n hX (pc := 24) dX8_countRows_24 rfl ?_
  refine ww_getR hX (pc := 25) fX8_9 (by decide) (xs_31 hL) (xr_31_1 hL) dX8_countRows_25 ?_
  refine ww_iconst hX (pc := 28) (x := 0) dX8_countRows_28 rfl ?_
  refine ww_lconst hX (pc := 29) (x := 1) dX8_countRows_29 (by decide) ?_
  refine ww_last hX (pc := 30) (xs_32 hL) (by decide) (by omega) (by omega) dX8_countRows_30 ?_
  refine ww_nmK (fun J_30 eJ_30 => ?_)
  have kJ_30 : Kp 18 33 Ja J_30 := by rw [eJ_30]; exact Kp_up kJ_21 _ _ (by decide)
  have kq30 : Kp 32 33 J_5 J_30 := by rw [eJ_30, eJ_21]; exact Kp_up (Kp_upR Kp_rf _ (by decide)) _ _ (by decide)
  have mw30 : MW (PD m e g (Ia 1 6).toNat (FU (Ia 1 5) + 1).toNat I_5 J_5 (0)) a (FU (Ia 1 5) + 1).toNat b.toNat (J_30 32) := by
    rw [eJ_30, up2_row, eJ_21]
    exact MW_0 (by omega) (by omega) (fun k hk => by rw [upR_s]; exact if_pos (by omega))
  have hU : UpW (I_5 3) (nxD m I_5 (I_5 19) (I_5 24) (J_5 28)) (Ia 1 6).toNat (FU (Ia 1 5) + 1).toNat := UpW_nxD (by rw [rf_I_5])
  refine ww_iconst hX (pc := 31) (x := 0) dX8_countRows_31 rfl ?_
  refine ww_istore hX (pc := 32) (lv' := [some (kR (some 31)), some (kI a), some (kI b), some (kI m), some (kI e), some (kI g), some (kI 0)]) dX8_countRows_32 (by decide) rfl rfl ?_
  have hl_34 : ∀ (n_34 : Nat) (q : Int) (I2 : aI1) (J2 : aI1), (b - q).toNat = n_34 → (Kp 18 33 Ia I2 ∧ Kp 18 33 Ja J2 ∧ (0 ≤ q ∧ q ≤ b) ∧ Kp 21 22 I_5 I2 ∧ Kp 32 33 J_5 J2 ∧ MW (PD m e g (Ia 1 6).toNat (FU (Ia 1 5) + 1).toNat I_5 J_5 (q.toNat)) a (FU (Ia 1 5) + 1).toNat b.toNat (J2 32)) → WW X 34 [some (kR (some 31)), some (kI a), some (kI b), some (kI m), some (kI e), some (kI g), some (kI q)] [] I2 J2 Ra Sa 0 0 := by
    intro n_34
    induction n_34 using Nat.strongRecOn with
    | ind n_34 ih_34 =>
      intro q I2 J2 hm_34 hv_34
      have hq_34 := Sh0_i hm_34
      clear hm_34
      obtain ⟨kI2, kJ2, hq, kq, kjq, mwq⟩ := hv_34
      have r1_5_I2 : I2 1 5 = Ia 1 5 := Kp_at kI2 1 5 (by decide)
      have r1_6_I2 : I2 1 6 = Ia 1 6 := Kp_at kI2 1 6 (by decide)
      have rf_I2 : FU (I2 1 5) = FU (Ia 1 5) := by rw [r1_5_I2]
      refine ww_iload hX (pc := 34) dX8_countRows_34 rfl ?_
      refine ww_iload_n hX (pc := 36) dX8_countRows_36 rfl ?_
      refine ww_icmp_ge hX (pc := 37) (tgt := 77) dX8_countRows_37 (by decide) (fun h_37 => ?_) (fun h_37 => ?_)
      · simp only [w32_mod] at h_37
        refine ww_aload_n hX (pc := 77) dX8_countRows_77 rfl ?_
        refine ww_getR hX (pc := 78) fX8_9 (by decide) (xs_31 hL) (xr_31_1 hL) dX8_countRows_78 ?_
        refine ww_iload_n hX (pc := 81) dX8_countRows_81 rfl ?_
        refine ww_sipush hX (pc := 82) (x := 256) dX8_countRows_82 (by decide) ?_
        refine ww_imul hX (pc := 85) dX8_countRows_85 ?_
        refine ww_iload_n hX (pc := 86) dX8_countRows_86 rfl ?_
        refine ww_iadd hX (pc := 87) dX8_countRows_87 ?_
        refine ww_lald hX (pc := 88) (xs_32 hL) (by decide) (by omega) (by omega) dX8_countRows_88 ?_
        refine rJ hX (pc := 89) hT (Nat.le_refl 0) (Nat.le_refl 0) dX8_countRows_89 ?_
        have hqe : q.toNat = b.toNat := by omega
        rw [hqe] at mwq
        have h9 := MW_at hU mwq (by omega) (i := a.toNat) (by omega)
        rw [show a.toNat * 256 + b.toNat = (a * 256 + b).toNat by omega, nxD_kp (h_5.1 1 (by decide)) (h_5.1 3 (by decide)), h_5.1 3 (by decide)] at h9
        exact ⟨kI2, kJ2, FRk_kp (FRk_kp fr5 kq Kp_rf (by decide)) Kp_rf kjq (by decide), _, _, _, KT_p h_5.2.2.2.1 h_5.2.2.2.2.1 h_5.2.2.2.2.2 (h_5.1 1 (by decide)) (h_5.1 2 (by decide)) (h_5.1 3 (by decide)), h9⟩
      · simp only [w32_mod] at h_37
        refine ww_iload hX (pc := 40) dX8_countRows_40 rfl ?_
        refine ww_iload_n hX (pc := 42) dX8_countRows_42 rfl ?_
        refine ww_iand hX (pc := 43) dX8_countRows_43 ?_
        refine ww_iload hX (pc := 44) dX8_countRows_44 rfl ?_
        have hqa : i_and q b = ((q.toNat &&& b.toNat : Nat) : Int) := by
          have h9 := i_and_N (a := q.toNat) (b := b.toNat) (by omega)
          rw [show ((q.toNat : Nat) : Int) = q by omega, show ((b.toNat : Nat) : Int) = b by omega] at h9
          exact h9
        have hql : q.toNat &&& b.toNat ≤ q.toNat := Nat.and_le_left
        refine ww_icmp_ne hX (pc := 46) (tgt := 71) dX8_countRows_46 (by decide) (fun h_46 => ?_) (fun h_46 => ?_)
        · simp only [w32_mod] at h_46
          have mn34 : MW (PD m e g (Ia 1 6).toNat (FU (Ia 1 5) + 1).toNat I_5 J_5 (q.toNat + 1)) a (FU (Ia 1 5) + 1).toNat b.toNat (J2 32) := MW_np hU (by omega) mwq (fun h9 => h_46 (by rw [hqa, h9]; omega))
          refine ww_iinc hX (pc := 71) (lv' := [some (kR (some 31)), some (kI a), some (kI b), some (kI m), some (kI e), some (kI g), some (kI (q + 1))]) dX8_countRows_71 rfl (by decide) rfl rfl ?_
          refine ww_goto hX (pc := 74) (tgt := 34) dX8_countRows_74 (by decide) ?_
          exact ih_34 _ (by have hm9 := Sh0_e hq_34; omega) (q + 1) I2 J2 rfl ⟨kI2, kJ2, ⟨by omega, by omega⟩, kq, kjq, by rw [show (q + 1).toNat = q.toNat + 1 by omega]; exact mn34⟩
        · simp only [w32_mod] at h_46
          have hqg : q.toNat &&& b.toNat = q.toNat := by omega
          refine ww_aload_n hX (pc := 49) dX8_countRows_49 rfl ?_
          refine ww_iload hX (pc := 50) dX8_countRows_50 rfl ?_
          refine ww_iload_n hX (pc := 52) dX8_countRows_52 rfl ?_
          refine vI2 hX (pc := 53) sX8_31 (xs_31 hL) (c8_X8_isMet l0 hL (XI_kp hI kI2 (by decide)) (by omega) (by omega) (by omega) (by omega)) (by decide) (Nat.le_refl 0) (Nat.le_refl 0) (Nat.le_of_ble_eq_true rfl) dX8_countRows_53 (fun x_53 I_53 J_53 h_53 => ?_)
          obtain ⟨rfl, rfl, h_53⟩ := h_53
          refine ww_if_eq hX (pc := 56) (tgt := 71) dX8_countRows_56 (by decide) (fun h_56 => ?_) (fun h_56 => ?_)
          · simp only [w32_mod] at h_56
            have mn34 : MW (PD m e g (Ia 1 6).toNat (FU (Ia 1 5) + 1).toNat I_5 J_5 (q.toNat + 1)) a (FU (Ia 1 5) + 1).toNat b.toNat (J2 32) := MW_nm hU (by omega) (by omega) (by omega) mwq hqg (fun i hi => by
              have h1 := MW_bd hU (by omega) (by omega) (by omega) mwq hqg hi
              have h2 := h_53.2 (by omega) i hi
              rw [w64_id (by omega) (by omega)] at h2
              exact h2)
            refine ww_iinc hX (pc := 71) (lv' := [some (kR (some 31)), some (kI a), some (kI b), some (kI m), some (kI e), some (kI g), some (kI (q + 1))]) dX8_countRows_71 rfl (by decide) rfl rfl ?_
            refine ww_goto hX (pc := 74) (tgt := 34) dX8_countRows_74 (by decide) ?_
            exact ih_34 _ (by have hm9 := Sh0_e hq_34; omega) (q + 1) I2 J2 rfl ⟨kI2, kJ2, ⟨by omega, by omega⟩, kq, kjq, by rw [show (q + 1).toNat = q.toNat + 1 by omega]; exact mn34⟩
          · simp only [w32_mod] at h_56
            refine ww_aload_n hX (pc := 59) dX8_countRows_59 rfl ?_
            refine ww_iload hX (pc := 60) dX8_countRows_60 rfl ?_
            refine ww_iload_n hX (pc := 62) dX8_countRows_62 rfl ?_
            refine ww_iload_n hX (pc := 63) dX8_countRows_63 rfl ?_
            refine ww_iload hX (pc := 64) dX8_countRows_64 rfl ?_
            refine ww_iload hX (pc := 66) dX8_countRows_66 rfl ?_
            refine vV5 hX (pc := 68) sX8_35 (xs_31 hL) (c8_X8_spread l0 hL (XI_kp hI kI2 (by decide)) (by omega) (by omega) (by omega) (by omega) (by omega) (by omega) (by omega) (by omega) (by omega) (by omega) (fun t9 ht9 => TR_o2 (htr5 t9 (by rw [kq 1 (by decide)] at ht9; exact ht9)) (kq 19 (by decide)) (kq 24 (by decide)) (kjq 28 (by decide))) hqg (by rw [(PD_kp (kq 1 (by decide)) (kq 3 (by decide)) (kq 19 (by decide)) (kq 24 (by decide)) (kjq 28 (by decide))), rf_I2, r1_6_I2]; exact mwq)) (by decide) (Nat.le_refl 0) (Nat.le_refl 0) (Nat.le_of_ble_eq_true rfl) dX8_countRows_68 (fun I_68 J_68 h_68 => ?_)
            have kI_68 : Kp 18 33 Ia I_68 := Kp_tr kI2 (Kp_wd h_68.1 (by decide) (by decide))
            have kJ_68 : Kp 18 33 Ja J_68 := Kp_tr kJ2 (Kp_wd h_68.2.1 (by decide) (by decide))
            have r1_5_I_68 : I_68 1 5 = Ia 1 5 := Kp_at kI_68 1 5 (by decide)
            have r1_6_I_68 : I_68 1 6 = Ia 1 6 := Kp_at kI_68 1 6 (by decide)
            have rf_I_68 : FU (I_68 1 5) = FU (Ia 1 5) := by rw [r1_5_I_68]
            have mn34 : MW (PD m e g (Ia 1 6).toNat (FU (Ia 1 5) + 1).toNat I_5 J_5 (q.toNat + 1)) a (FU (Ia 1 5) + 1).toNat b.toNat (J_68 32) := by
              have h9 := h_68.2.2
              rw [(PD_kp (kq 1 (by decide)) (kq 3 (by decide)) (kq 19 (by decide)) (kq 24 (by decide)) (kjq 28 (by decide))), rf_I2, r1_6_I2] at h9
              exact h9
            refine ww_iinc hX (pc := 71) (lv' := [some (kR (some 31)), some (kI a), some (kI b), some (kI m), some (kI e), some (kI g), some (kI (q + 1))]) dX8_countRows_71 rfl (by decide) rfl rfl ?_
            refine ww_goto hX (pc := 74) (tgt := 34) dX8_countRows_74 (by decide) ?_
            exact ih_34 _ (by have hm9 := Sh0_e hq_34; omega) (q + 1) I_68 J_68 rfl ⟨kI_68, kJ_68, ⟨by omega, by omega⟩, Kp_tr kq h_68.1, Kp_tr kjq h_68.2.1, by rw [show (q + 1).toNat = q.toNat + 1 by omega]; exact mn34⟩
  exact hl_34 _ 0 I_5 J_30 rfl ⟨kI_5, kJ_30, ⟨by omega, by omega⟩, Kp_rf, kq30, mw30⟩
