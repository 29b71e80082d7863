theorem n9_X11_reads (l0 : Launch) {Ia Ja : aI1} {Ra : aR1} {Sa : aS1} (hL : LY Ra Sa) (hQ : RX Ia) {f : Nat → Int} {N : Nat} (hw : WD Ia) (hf : zTB f N (Ia 55)) (hN : Ia 49 10 = N) : CT l0 34 0 0 mX11_reads [kR (some 49)] Ia Ja Ra Sa (cI (fun x I' J' => (Ch [57, 58, 59] [10, 11, 15, 16, 17, 18] Ia I' ∧ Kp 49 73 Ja J' ∧ RX I' ∧ (0 ≤ x ∧ x ≤ 1) ∧ (x = 1 → (0 ≤ I' 49 15 ∧ I' 49 15 ≤ 400) ∧ RG (I' 57) (I' 49 15) ∧ LawG (pvw I') (I' 49 15).toNat) ∧ I' 49 10 = 0 ∧ zRE f N x I' ∧ I' 49 15 = (zTk f N 0).length ∧ (∀ t, t ≤ (zTk f N 0).length → I' 57 t = zCd f (zTk f N 0) t ∧ I' 58 t = zVl f (zTk f N 0) t)) ∧ J' = Ja) Ra Sa) :=
  CT_wI (c9_X11_reads l0 hL hQ hw hf hN) (fun x I' J' h => ⟨⟨h.1, fun k _ => h.2.1 k (by omega), h.2.2⟩, funext (fun k => h.2.1 k (by omega))⟩)
set_option maxHeartbeats 4000000 in
set_option maxRecDepth 20000 in
theorem c9_X11_law (l0 : Launch) {Ia Ja : aI1} {Ra : aR1} {Sa : aS1} (hL : LY Ra Sa) (hQ : RX Ia) {f : Nat → Int} {N : Nat} (hw : WD Ia) (hf : zTB f N (Ia 55)) (hN : Ia 49 10 = N)  : CT l0 36 0 0 mX11_law [kR (some 49)] Ia Ja Ra Sa (cI (fun x I' J' => (Ch [50, 51, 57, 58, 59] [0, 1, 10, 11, 15, 16, 17, 18] Ia I' ∧ Kp 49 73 Ja J' ∧ RX I' ∧ I' 49 10 = 0 ∧ (Ia 51 310 = 6 → x = -5 ∧ I' 51 = Ia 51 ∧ I' 49 11 = Ia 49 11) ∧ (¬ Ia 51 310 = 6 → zRW f N x Ia I')) ∧ RGQ9 x Ia I' Ja J') Ra Sa) := by
  refine ct_in pn_X11 (Nat.le_of_ble_eq_true rfl) (fun X hX hT hIn => ?_)
  have hX : aK l0 X cX11_law 3 RX11 (some .int) 36 0 0 := hX
  change WW X 0 [some (kR (some 49)), none, none] [] Ia Ja Ra Sa 0 0
  have qIa := RX_l hQ
  refine ww_aload_n hX (pc := 0) dX11_law_0 rfl ?_
  refine ww_getR hX (pc := 1) fX11_20 (by decide) (xs_49 hL) (xr_49_3 hL) dX11_law_1 ?_
  refine ww_sipush hX (pc := 4) (x := 310) dX11_law_4 (by decide) ?_
  refine ww_iald hX (pc := 7) (xs_51 hL) (by decide) (by omega) (by omega) dX11_law_7 ?_
  refine ww_toI (b := Ia 51 310) rfl ?_
  refine ww_bipush hX (pc := 8) (x := 6) dX11_law_8 (by decide) ?_
  refine ww_icmp_ne hX (pc := 10) (tgt := 25) dX11_law_10 (by decide) (fun h_10 => ?_) (fun h_10 => ?_)
  · simp only [w32_mod] at h_10
    refine ww_aload_n hX (pc := 25) dX11_law_25 rfl ?_
    refine vI0 hX (pc := 26) sX11_209 (xs_49 hL) (n9_X11_reads l0 hL hQ  hw hf hN) (by decide) (Nat.le_refl 0) (Nat.le_refl 0) (Nat.le_of_ble_eq_true rfl) dX11_law_26 (fun x_26 I_26 J_26 h_26 => ?_)
    obtain ⟨h_26, qxI_26⟩ := h_26
    have kJ_26 : Kp 49 73 Ja J_26 := Kp_tr (Kp_rf (a := 49) (b := 73)) h_26.2.1
    have kI_26 : Ch [50, 51, 57, 58, 59] [0, 1, 10, 11, 15, 16, 17, 18] Ia I_26 := Ch_tr Ch_rf (Ch_wd h_26.1 (by decide) (by decide))
    have cI_26 : RX I_26 := h_26.2.2.1
    have qI_26 := RX_l cI_26
    have r310_I_26 : I_26 51 310 = Ia 51 310 := by rw [h_26.1.1 51 (by decide) (by decide)]
    have z26 := h_26.2.2.2.2.2.1
    have o_I_26 : ∀ j : Nat, ((j : Int) ≠ 310 ∧ (j : Int) ≠ 311 + Ia 51 310 ∧ ¬ (317 + 400 * Ia 51 310 ≤ j ∧ (j : Int) < 717 + 400 * Ia 51 310) ∧ ¬ (2717 + 400 * Ia 51 310 ≤ j ∧ (j : Int) < 3117 + 400 * Ia 51 310)) → I_26 51 j = Ia 51 j := fun j h1 => (congrFun (h_26.1.1 51 (by decide) (by decide)) j).trans ((fun _ _ => rfl) j h1)
    have bkI_26 : BK9 Ia I_26 := BK9_ch BK9_rf h_26.1 (by decide) (by decide)
    have tkI_26 : TK9 Ia I_26 Ja J_26 := TK9_jc TK9_rf h_26.1 (by decide) (by decide) qxI_26
    refine ww_if_ne hX (pc := 29) (tgt := 39) dX11_law_29 (by decide) (fun h_29 => ?_) (fun h_29 => ?_)
    · simp only [w32_mod] at h_29
      have hrd := h_26.2.2.2.2.1 (by omega)
      have hl26 := hrd.2.2
      have hr26 := hrd.2.1
      refine ww_aload_n hX (pc := 39) dX11_law_39 rfl ?_
      refine ww_getR hX (pc := 40) fX11_20 (by decide) (xs_49 hL) (xr_49_3 hL) dX11_law_40 ?_
      refine ww_sipush hX (pc := 43) (x := 310) dX11_law_43 (by decide) ?_
      refine ww_iald hX (pc := 46) (xs_51 hL) (by decide) (by omega) (by omega) dX11_law_46 ?_
      refine ww_toI (b := I_26 51 310) rfl ?_
      refine ww_nmI (fun v_47 hv_47 => ?_)
      refine ww_istore_n hX (pc := 47) (lv' := [some (kR (some 49)), some (kI v_47), none]) dX11_law_47 (by decide) rfl rfl ?_
      refine ww_aload_n hX (pc := 48) dX11_law_48 rfl ?_
      refine ww_getR hX (pc := 49) fX11_20 (by decide) (xs_49 hL) (xr_49_3 hL) dX11_law_49 ?_
      refine ww_sipush hX (pc := 52) (x := 311) dX11_law_52 (by decide) ?_
      refine ww_iload_n hX (pc := 55) dX11_law_55 rfl ?_
      refine ww_iadd hX (pc := 56) dX11_law_56 ?_
      refine ww_aload_n hX (pc := 57) dX11_law_57 rfl ?_
      refine ww_getI hX (pc := 58) fX11_142 (by decide) (xs_49 hL) dX11_law_58 ?_
      refine ww_iast hX (pc := 61) (xs_51 hL) (by decide) (by omega) (by omega) dX11_law_61 ?_
      refine ww_nmH (fun I_61 eI_61 => ?_)
      have kI_61 : Ch [50, 51, 57, 58, 59] [0, 1, 10, 11, 15, 16, 17, 18] Ia I_61 := by rw [eI_61]; exact Ch_r kI_26 (by decide) (by decide)
      have cI_61 : RX I_61 := by rw [eI_61]; exact RX_up cI_26 (by omega)
      have qI_61 := RX_l cI_61
      have r310_I_61 : I_61 51 310 = I_26 51 310 := by rw [eI_61, up2_n _ _ (Or.inr (by omega))]
      have f10_I_61 : I_61 49 10 = I_26 49 10 := by rw [eI_61, up2_off _ _ _ (by decide)]
      have f11_I_61 : I_61 49 11 = I_26 49 11 := by rw [eI_61, up2_off _ _ _ (by decide)]
      have f15_I_61 : I_61 49 15 = I_26 49 15 := by rw [eI_61, up2_off _ _ _ (by decide)]
      have s61 : I_61 51 (311 + v_47.toNat) = I_26 49 15 := by rw [eI_61, show (311 + v_47).toNat = 311 + v_47.toNat by omega, up2_s]
      have s57 : I_61 57 = I_26 57 := by rw [eI_61, up2_off _ _ _ (by decide)]
      have s58 : I_61 58 = I_26 58 := by rw [eI_61, up2_off _ _ _ (by decide)]
      have o_I_61 : ∀ j : Nat, ((j : Int) ≠ 310 ∧ (j : Int) ≠ 311 + Ia 51 310 ∧ ¬ (317 + 400 * Ia 51 310 ≤ j ∧ (j : Int) < 717 + 400 * Ia 51 310) ∧ ¬ (2717 + 400 * Ia 51 310 ≤ j ∧ (j : Int) < 3117 + 400 * Ia 51 310)) → I_61 51 j = Ia 51 j := fun j h1 => (by rw [eI_61, up2_n _ _ (Or.inr (by omega))] : I_61 51 j = I_26 51 j).trans (o_I_26 j h1)
      have bkI_61 : BK9 Ia I_61 := by rw [eI_61]; exact BK9_up bkI_26 (by decide)
      have tkI_61 : TK9 Ia I_61 Ja J_26 := by rw [eI_61]; exact TK9_up tkI_26 (by decide)
      refine ww_iconst hX (pc := 62) (x := 0) dX11_law_62 rfl ?_
      refine ww_istore_n hX (pc := 63) (lv' := [some (kR (some 49)), some (kI v_47), some (kI 0)]) dX11_law_63 (by decide) rfl rfl ?_
      have hl_64 : ∀ (n_64 : Nat) (i : Int) (I64 : aI1) (J64 : aI1), (I_26 49 15 - i).toNat = n_64 → (BK9 Ia I64 ∧ TK9 Ia I64 Ja J64 ∧ (Ch [50, 51, 57, 58, 59] [0, 1, 10, 11, 15, 16, 17, 18] Ia I64 ∧ RX I64 ∧ Kp 49 73 Ja J64 ∧ I64 51 310 = I_61 51 310 ∧ I64 49 10 = I_61 49 10 ∧ I64 49 11 = I_61 49 11 ∧ I64 49 15 = I_61 49 15 ∧ (∀ j : Nat, ((j : Int) ≠ 310 ∧ (j : Int) ≠ 311 + Ia 51 310 ∧ ¬ (317 + 400 * Ia 51 310 ≤ j ∧ (j : Int) < 717 + 400 * Ia 51 310) ∧ ¬ (2717 + 400 * Ia 51 310 ≤ j ∧ (j : Int) < 3117 + 400 * Ia 51 310)) → I64 51 j = Ia 51 j) ∧ (0 ≤ i ∧ i ≤ I_26 49 15) ∧ I64 51 (311 + v_47.toNat) = I_26 49 15 ∧ I64 57 = I_26 57 ∧ (∀ j : Nat, (j : Int) < i → I64 51 (317 + 400 * v_47.toNat + j) = I_26 57 j) ∧ I64 58 = I_26 58 ∧ (∀ j : Nat, (j : Int) < i → I64 51 (2717 + 400 * v_47.toNat + j) = I_26 58 j))) → WW X 64 [some (kR (some 49)), some (kI v_47), some (kI i)] [] I64 J64 Ra Sa 0 0 := by
        intro n_64
        induction n_64 using Nat.strongRecOn with
        | ind n_64 ih_64 =>
          intro i I64 J64 hm_64 hv_64
          have hq_64 := Sh0_i hm_64
          clear hm_64
          obtain ⟨bkl64, tkl64, hv_64⟩ := hv_64
          obtain ⟨kI64, cI64, kJ64, r310_I64, f10_I64, f11_I64, f15_I64, o_I64, hv, hsz, hr57, hcp, hr58, hcv⟩ := hv_64
          have qI64 := RX_l cI64
          refine ww_iload_n hX (pc := 64) dX11_law_64 rfl ?_
          refine ww_aload_n hX (pc := 65) dX11_law_65 rfl ?_
          refine ww_getI hX (pc := 66) fX11_142 (by decide) (xs_49 hL) dX11_law_66 ?_
          refine ww_icmp_ge hX (pc := 69) (tgt := 122) dX11_law_69 (by decide) (fun h_69 => ?_) (fun h_69 => ?_)
          · simp only [w32_mod] at h_69
            refine ww_aload_n hX (pc := 122) dX11_law_122 rfl ?_
            refine ww_getR hX (pc := 123) fX11_20 (by decide) (xs_49 hL) (xr_49_3 hL) dX11_law_123 ?_
            refine ww_sipush hX (pc := 126) (x := 310) dX11_law_126 (by decide) ?_
            refine ww_dup2 hX (pc := 129) dX11_law_129 ?_
            refine ww_iald hX (pc := 130) (xs_51 hL) (by decide) (by omega) (by omega) dX11_law_130 ?_
            refine ww_toI (b := I64 51 310) rfl ?_
            refine ww_iconst hX (pc := 131) (x := 1) dX11_law_131 rfl ?_
            refine ww_iadd hX (pc := 132) dX11_law_132 ?_
            refine ww_iast hX (pc := 133) (xs_51 hL) (by decide) (by omega) (by omega) dX11_law_133 ?_
            refine ww_nmH (fun I_133 eI_133 => ?_)
            have kI_133 : Ch [50, 51, 57, 58, 59] [0, 1, 10, 11, 15, 16, 17, 18] Ia I_133 := by rw [eI_133]; exact Ch_r kI64 (by decide) (by decide)
            have cI_133 : RX I_133 := by rw [eI_133]; exact RX_tl (t := v_47.toNat) cI64 rfl (by omega) (by omega) (by rw [hsz]; omega) (by rw [hsz, cvw_pvw (I := I_26) (hsz.trans (by omega)) (fun j hj => hcp j (by omega))]; exact hl26)
            have qI_133 := RX_l cI_133
            have f10_I_133 : I_133 49 10 = I64 49 10 := by rw [eI_133, up2_off _ _ _ (by decide)]
            have f11_I_133 : I_133 49 11 = I64 49 11 := by rw [eI_133, up2_off _ _ _ (by decide)]
            have f15_I_133 : I_133 49 15 = I64 49 15 := by rw [eI_133, up2_off _ _ _ (by decide)]
            have w133 : I_133 51 310 = I64 51 310 + 1 := by rw [eI_133, show (310 : Int).toNat = 310 from rfl, up2_s]
            have d133 : ∀ j : Nat, j ≠ 310 → I_133 51 j = I64 51 j := fun j hj => by rw [eI_133, show (310 : Int).toNat = 310 from rfl, up2_n _ _ (Or.inr hj)]
            have o_I_133 : ∀ j : Nat, ((j : Int) ≠ 310 ∧ (j : Int) ≠ 311 + Ia 51 310 ∧ ¬ (317 + 400 * Ia 51 310 ≤ j ∧ (j : Int) < 717 + 400 * Ia 51 310) ∧ ¬ (2717 + 400 * Ia 51 310 ≤ j ∧ (j : Int) < 3117 + 400 * Ia 51 310)) → I_133 51 j = Ia 51 j := fun j h1 => (by rw [eI_133, up2_n _ _ (Or.inr (by omega))] : I_133 51 j = I64 51 j).trans (o_I64 j h1)
            have bkI_133 : BK9 Ia I_133 := by rw [eI_133]; exact BK9_up bkl64 (by decide)
            have tkI_133 : TK9 Ia I_133 Ja J64 := by rw [eI_133]; exact TK9_up tkl64 (by decide)
            refine ww_aload_n hX (pc := 134) dX11_law_134 rfl ?_
            refine ww_iload_n hX (pc := 135) dX11_law_135 rfl ?_
            refine vI1 hX (pc := 136) sX11_109 (xs_49 hL) (n9_X11_good l0 hL cI_133) (by decide) (Nat.le_refl 0) (Nat.le_refl 0) (Nat.le_of_ble_eq_true rfl) dX11_law_136 (fun x_136 I_136 J_136 h_136 => ?_)
            obtain ⟨h_136, qxI_136⟩ := h_136
            have kJ_136 : Kp 49 73 Ja J_136 := Kp_tr kJ64 h_136.2.1
            have kI_136 : Ch [50, 51, 57, 58, 59] [0, 1, 10, 11, 15, 16, 17, 18] Ia I_136 := Ch_tr kI_133 (Ch_wd h_136.1 (by decide) (by decide))
            have cI_136 : RX I_136 := h_136.2.2.1
            have qI_136 := RX_l cI_136
            have r310_I_136 : I_136 51 310 = I_133 51 310 := by rw [h_136.1.1 51 (by decide) (by decide)]
            have f10_I_136 : I_136 49 10 = I_133 49 10 := h_136.1.2 10 (by decide)
            have f11_I_136 : I_136 49 11 = I_133 49 11 := h_136.1.2 11 (by decide)
            have f15_I_136 : I_136 49 15 = I_133 49 15 := h_136.1.2 15 (by decide)
            have o_I_136 : ∀ j : Nat, ((j : Int) ≠ 310 ∧ (j : Int) ≠ 311 + Ia 51 310 ∧ ¬ (317 + 400 * Ia 51 310 ≤ j ∧ (j : Int) < 717 + 400 * Ia 51 310) ∧ ¬ (2717 + 400 * Ia 51 310 ≤ j ∧ (j : Int) < 3117 + 400 * Ia 51 310)) → I_136 51 j = Ia 51 j := fun j h1 => (congrFun (h_136.1.1 51 (by decide) (by decide)) j).trans (o_I_133 j h1)
            refine rI hX (pc := 139) hT (Nat.le_refl 0) (Nat.le_refl 0) dX11_law_139 ?_
            exact ⟨⟨kI_136, kJ_136, cI_136, by omega, (fun h9 => absurd h9 (by omega)), (fun _ => ⟨fun fp hfp => by have h9 := (h_26.2.2.2.2.2.2.1.1 fp hfp).1; exact absurd h9 (by omega), fun qs hqs => by
                  have hz26 := (h_26.2.2.2.2.2.2.1.2 qs hqs).2
                  have hL26 := h_26.2.2.2.2.2.2.2.1
                  have hA26 := h_26.2.2.2.2.2.2.2.2
                  have y136 : I_136 51 = I_133 51 := h_136.1.1 51 (by decide) (by decide)
                  have ev : (Ia 51 310).toNat = v_47.toNat := by omega
                  refine ⟨by omega, by omega, by rw [y136]; omega, ⟨?_, fun j hj => ⟨?_, ?_⟩⟩, o_I_136⟩
                  · rw [ev, y136, d133 _ (by omega), hsz]; exact hL26
                  · rw [ev, y136, d133 _ (by omega), hcp j (by omega)]; exact (hA26 j (by omega)).1
                  · rw [ev, y136, d133 _ (by omega), hcv j (by omega)]; exact (hA26 j (by omega)).2⟩)⟩, ⟨(fun h9 => absurd h9 (by have := h_136.2.2.2; omega)), (fun _ => GQ9_tr bkI_133 qxI_136)⟩⟩
          · simp only [w32_mod] at h_69
            refine ww_aload_n hX (pc := 72) dX11_law_72 rfl ?_
            refine ww_getR hX (pc := 73) fX11_20 (by decide) (xs_49 hL) (xr_49_3 hL) dX11_law_73 ?_
            refine ww_sipush hX (pc := 76) (x := 317) dX11_law_76 (by decide) ?_
            refine ww_sipush hX (pc := 79) (x := 400) dX11_law_79 (by decide) ?_
            refine ww_iload_n hX (pc := 82) dX11_law_82 rfl ?_
            refine ww_imul hX (pc := 83) dX11_law_83 ?_
            refine ww_iadd hX (pc := 84) dX11_law_84 ?_
            refine ww_iload_n hX (pc := 85) dX11_law_85 rfl ?_
            refine ww_iadd hX (pc := 86) dX11_law_86 ?_
            refine ww_aload_n hX (pc := 87) dX11_law_87 rfl ?_
            refine ww_getR hX (pc := 88) fX11_43 (by decide) (xs_49 hL) (xr_49_12 hL) dX11_law_88 ?_
            refine ww_iload_n hX (pc := 91) dX11_law_91 rfl ?_
            have hc92 := hr26 i.toNat (by omega)
            rw [← hr57] at hc92
            refine ww_iald hX (pc := 92) (xs_57 hL) (by decide) (by omega) (by omega) dX11_law_92 ?_
            refine ww_iast hX (pc := 93) (xs_51 hL) (by decide) (by omega) (by omega) dX11_law_93 ?_
            refine ww_nmH (fun I_93 eI_93 => ?_)
            have kI_93 : Ch [50, 51, 57, 58, 59] [0, 1, 10, 11, 15, 16, 17, 18] Ia I_93 := by rw [eI_93]; exact Ch_r kI64 (by decide) (by decide)
            have cI_93 : RX I_93 := by rw [eI_93]; exact RX_up cI64 (by omega)
            have qI_93 := RX_l cI_93
            have r310_I_93 : I_93 51 310 = I64 51 310 := by rw [eI_93, up2_n _ _ (Or.inr (by omega))]
            have f10_I_93 : I_93 49 10 = I64 49 10 := by rw [eI_93, up2_off _ _ _ (by decide)]
            have f11_I_93 : I_93 49 11 = I64 49 11 := by rw [eI_93, up2_off _ _ _ (by decide)]
            have f15_I_93 : I_93 49 15 = I64 49 15 := by rw [eI_93, up2_off _ _ _ (by decide)]
            have z93 : I_93 51 (311 + v_47.toNat) = I64 51 (311 + v_47.toNat) := by rw [eI_93, up2_n _ _ (Or.inr (by omega))]
            have y93 : I_93 57 = I_26 57 := by rw [eI_93, up2_off _ _ _ (by decide)]; exact hr57
            have x93 : ∀ j : Nat, (j : Int) < i + 1 → I_93 51 (317 + 400 * v_47.toNat + j) = I_26 57 j := fun j hj => by
              rw [eI_93]
              by_cases e9 : (j : Int) = i
              · rw [show (317 + 400 * v_47 + i).toNat = 317 + 400 * v_47.toNat + j by omega, up2_s, hr57]
                exact congrArg _ (by omega)
              · rw [up2_n _ _ (Or.inr (by omega))]
                exact hcp j (by omega)
            have v93 : I_93 58 = I_26 58 := by rw [eI_93, up2_off _ _ _ (by decide)]; exact hr58
            have u93 : ∀ j : Nat, (j : Int) < i → I_93 51 (2717 + 400 * v_47.toNat + j) = I_26 58 j := fun j hj => by
              rw [eI_93, up2_n _ _ (Or.inr (by omega))]
              exact hcv j hj
            have o_I_93 : ∀ j : Nat, ((j : Int) ≠ 310 ∧ (j : Int) ≠ 311 + Ia 51 310 ∧ ¬ (317 + 400 * Ia 51 310 ≤ j ∧ (j : Int) < 717 + 400 * Ia 51 310) ∧ ¬ (2717 + 400 * Ia 51 310 ≤ j ∧ (j : Int) < 3117 + 400 * Ia 51 310)) → I_93 51 j = Ia 51 j := fun j h1 => (by rw [eI_93, up2_n _ _ (Or.inr (by omega))] : I_93 51 j = I64 51 j).trans (o_I64 j h1)
            have bkI_93 : BK9 Ia I_93 := by rw [eI_93]; exact BK9_up bkl64 (by decide)
            have tkI_93 : TK9 Ia I_93 Ja J64 := by rw [eI_93]; exact TK9_up tkl64 (by decide)
            refine ww_aload_n hX (pc := 94) dX11_law_94 rfl ?_
            refine ww_getR hX (pc := 95) fX11_20 (by decide) (xs_49 hL) (xr_49_3 hL) dX11_law_95 ?_
            refine ww_sipush hX (pc := 98) (x := 2717) dX11_law_98 (by decide) ?_
            refine ww_sipush hX (pc := 101) (x := 400) dX11_law_101 (by decide) ?_
            refine ww_iload_n hX (pc := 104) dX11_law_104 rfl ?_
            refine ww_imul hX (pc := 105) dX11_law_105 ?_
            refine ww_iadd hX (pc := 106) dX11_law_106 ?_
            refine ww_iload_n hX (pc := 107) dX11_law_107 rfl ?_
            refine ww_iadd hX (pc := 108) dX11_law_108 ?_
            refine ww_aload_n hX (pc := 109) dX11_law_109 rfl ?_
            refine ww_getR hX (pc := 110) fX11_46 (by decide) (xs_49 hL) (xr_49_13 hL) dX11_law_110 ?_
            refine ww_iload_n hX (pc := 113) dX11_law_113 rfl ?_
            refine ww_iald hX (pc := 114) (xs_58 hL) (by decide) (by omega) (by omega) dX11_law_114 ?_
            refine ww_iast hX (pc := 115) (xs_51 hL) (by decide) (by omega) (by omega) dX11_law_115 ?_
            refine ww_nmH (fun I_115 eI_115 => ?_)
            have kI_115 : Ch [50, 51, 57, 58, 59] [0, 1, 10, 11, 15, 16, 17, 18] Ia I_115 := by rw [eI_115]; exact Ch_r kI_93 (by decide) (by decide)
            have cI_115 : RX I_115 := by rw [eI_115]; exact RX_up cI_93 (by omega)
            have qI_115 := RX_l cI_115
            have r310_I_115 : I_115 51 310 = I_93 51 310 := by rw [eI_115, up2_n _ _ (Or.inr (by omega))]
            have f10_I_115 : I_115 49 10 = I_93 49 10 := by rw [eI_115, up2_off _ _ _ (by decide)]
            have f11_I_115 : I_115 49 11 = I_93 49 11 := by rw [eI_115, up2_off _ _ _ (by decide)]
            have f15_I_115 : I_115 49 15 = I_93 49 15 := by rw [eI_115, up2_off _ _ _ (by decide)]
            have z115 : I_115 51 (311 + v_47.toNat) = I64 51 (311 + v_47.toNat) := by rw [eI_115, up2_n _ _ (Or.inr (by omega))]; exact z93
            have y115 : I_115 57 = I_26 57 := by rw [eI_115, up2_off _ _ _ (by decide)]; exact y93
            have x115 : ∀ j : Nat, (j : Int) < i + 1 → I_115 51 (317 + 400 * v_47.toNat + j) = I_26 57 j := fun j hj => by
              rw [eI_115, up2_n _ _ (Or.inr (by omega))]
              exact x93 j hj
            have v115 : I_115 58 = I_26 58 := by rw [eI_115, up2_off _ _ _ (by decide)]; exact v93
            have u115 : ∀ j : Nat, (j : Int) < i + 1 → I_115 51 (2717 + 400 * v_47.toNat + j) = I_26 58 j := fun j hj => by
              rw [eI_115]
              by_cases e9 : (j : Int) = i
              · rw [show (2717 + 400 * v_47 + i).toNat = 2717 + 400 * v_47.toNat + j by omega, up2_s, v93]
                exact congrArg _ (by omega)
              · rw [up2_n _ _ (Or.inr (by omega))]
                exact u93 j (by omega)
            have o_I_115 : ∀ j : Nat, ((j : Int) ≠ 310 ∧ (j : Int) ≠ 311 + Ia 51 310 ∧ ¬ (317 + 400 * Ia 51 310 ≤ j ∧ (j : Int) < 717 + 400 * Ia 51 310) ∧ ¬ (2717 + 400 * Ia 51 310 ≤ j ∧ (j : Int) < 3117 + 400 * Ia 51 310)) → I_115 51 j = Ia 51 j := fun j h1 => (by rw [eI_115, up2_n _ _ (Or.inr (by omega))] : I_115 51 j = I_93 51 j).trans (o_I_93 j h1)
            have bkI_115 : BK9 Ia I_115 := by rw [eI_115]; exact BK9_up bkI_93 (by decide)
            have tkI_115 : TK9 Ia I_115 Ja J64 := by rw [eI_115]; exact TK9_up tkI_93 (by decide)
            refine ww_iinc hX (pc := 116) (lv' := [some (kR (some 49)), some (kI v_47), some (kI (i + 1))]) dX11_law_116 rfl (by decide) rfl rfl ?_
            refine ww_goto hX (pc := 119) (tgt := 64) dX11_law_119 (by decide) ?_
            exact ih_64 _ (by have hm9 := Sh0_e hq_64; omega) (i + 1) I_115 J64 rfl ⟨bkI_115, tkI_115, ⟨kI_115, cI_115, kJ64, by omega, by omega, by omega, by omega, o_I_115, ⟨by omega, by omega⟩, z115.trans hsz, y115, x115, v115, u115⟩⟩
      exact hl_64 _ 0 I_61 J_26 rfl ⟨bkI_61, tkI_61, ⟨kI_61, cI_61, kJ_26, rfl, rfl, rfl, rfl, o_I_61, ⟨by omega, by omega⟩, s61, s57, fun j hj => absurd hj (by omega), s58, fun j hj => absurd hj (by omega)⟩⟩
    · simp only [w32_mod] at h_29
      refine ww_aload_n hX (pc := 32) dX11_law_32 rfl ?_
      refine ww_bipush hX (pc := 33) (x := (-6)) dX11_law_33 (by decide) ?_
      refine vI1 hX (pc := 35) sX11_105 (xs_49 hL) (n9_X11_refuses l0 hL cI_26 (by omega) (by omega)) (by decide) (Nat.le_refl 0) (Nat.le_refl 0) (Nat.le_of_ble_eq_true rfl) dX11_law_35 (fun x_35 I_35 J_35 h_35 => ?_)
      obtain ⟨h_35, qxI_35⟩ := h_35
      have kJ_35 : Kp 49 73 Ja J_35 := Kp_tr kJ_26 h_35.2.1
      have kI_35 : Ch [50, 51, 57, 58, 59] [0, 1, 10, 11, 15, 16, 17, 18] Ia I_35 := Ch_tr kI_26 (Ch_wd h_35.1 (by decide) (by decide))
      have cI_35 : RX I_35 := h_35.2.2.1
      have qI_35 := RX_l cI_35
      have r310_I_35 : I_35 51 310 = I_26 51 310 := by rw [h_35.1.1 51 (by decide) (by decide)]
      have f10_I_35 : I_35 49 10 = I_26 49 10 := h_35.1.2 10 (by decide)
      have f11_I_35 : I_35 49 11 = I_26 49 11 := h_35.1.2 11 (by decide)
      have f15_I_35 : I_35 49 15 = I_26 49 15 := h_35.1.2 15 (by decide)
      have o_I_35 : ∀ j : Nat, ((j : Int) ≠ 310 ∧ (j : Int) ≠ 311 + Ia 51 310 ∧ ¬ (317 + 400 * Ia 51 310 ≤ j ∧ (j : Int) < 717 + 400 * Ia 51 310) ∧ ¬ (2717 + 400 * Ia 51 310 ≤ j ∧ (j : Int) < 3117 + 400 * Ia 51 310)) → I_35 51 j = Ia 51 j := fun j h1 => (congrFun (h_35.1.1 51 (by decide) (by decide)) j).trans (o_I_26 j h1)
      refine rI hX (pc := 38) hT (Nat.le_refl 0) (Nat.le_refl 0) dX11_law_38 ?_
      exact ⟨⟨kI_35, kJ_35, cI_35, by omega, (fun h9 => absurd h9 (by omega)), (fun _ => ⟨fun fp hfp => ⟨by omega, (h_35.1.1 51 (by decide) (by decide)).trans (h_26.1.1 51 (by decide) (by decide)), by have h9 := (h_26.2.2.2.2.2.2.1.1 fp hfp).2; omega⟩, fun qs hqs => by have h9 := (h_26.2.2.2.2.2.2.1.2 qs hqs).1; exact absurd h9 (by omega)⟩)⟩, ⟨(fun _ => RQ9_tr bkI_26 tkI_26 qxI_35), (fun h9 => absurd h9 (by have := h_35.2.2.2; omega))⟩⟩
  · simp only [w32_mod] at h_10
    refine ww_aload_n hX (pc := 13) dX11_law_13 rfl ?_
    refine ww_iconst hX (pc := 14) (x := 0) dX11_law_14 rfl ?_
    refine ww_putI hX (pc := 15) (fun h9 => absurd h9 (by decide)) gX11_129 rfl (xs_49 hL) dX11_law_15 ?_
    refine ww_nmH (fun I_15 eI_15 => ?_)
    have kI_15 : Ch [50, 51, 57, 58, 59] [0, 1, 10, 11, 15, 16, 17, 18] Ia I_15 := by rw [eI_15]; exact Ch_f Ch_rf (by decide)
    have cI_15 : RX I_15 := by rw [eI_15]; exact RX_10 hQ (by omega) (by omega)
    have qI_15 := RX_l cI_15
    have r310_I_15 : I_15 51 310 = Ia 51 310 := by rw [eI_15, up2_off _ _ _ (by decide)]
    have f11_I_15 : I_15 49 11 = Ia 49 11 := by rw [eI_15, up2_n _ _ (Or.inr (by decide))]
    have f15_I_15 : I_15 49 15 = Ia 49 15 := by rw [eI_15, up2_n _ _ (Or.inr (by decide))]
    have z10 : I_15 49 10 = 0 := by rw [eI_15, up2_s]
    have g15 : I_15 51 = Ia 51 := by rw [eI_15, up2_off _ _ _ (by decide)]
    have o_I_15 : ∀ j : Nat, ((j : Int) ≠ 310 ∧ (j : Int) ≠ 311 + Ia 51 310 ∧ ¬ (317 + 400 * Ia 51 310 ≤ j ∧ (j : Int) < 717 + 400 * Ia 51 310) ∧ ¬ (2717 + 400 * Ia 51 310 ≤ j ∧ (j : Int) < 3117 + 400 * Ia 51 310)) → I_15 51 j = Ia 51 j := fun j h1 => (by rw [eI_15, up2_off _ _ _ (by decide)] : I_15 51 j = Ia 51 j).trans ((fun _ _ => rfl) j h1)
    have bkI_15 : BK9 Ia I_15 := by rw [eI_15]; exact BK9_f BK9_rf (by decide)
    have tkI_15 : TK9 Ia I_15 Ja Ja := by rw [eI_15]; exact TK9_f TK9_rf (by decide)
    refine ww_aload_n hX (pc := 18) dX11_law_18 rfl ?_
    refine ww_bipush hX (pc := 19) (x := (-5)) dX11_law_19 (by decide) ?_
    refine vI1 hX (pc := 21) sX11_105 (xs_49 hL) (n9_X11_refuses l0 hL cI_15 (by omega) (by omega)) (by decide) (Nat.le_refl 0) (Nat.le_refl 0) (Nat.le_of_ble_eq_true rfl) dX11_law_21 (fun x_21 I_21 J_21 h_21 => ?_)
    obtain ⟨h_21, qxI_21⟩ := h_21
    have kJ_21 : Kp 49 73 Ja J_21 := Kp_tr (Kp_rf (a := 49) (b := 73)) h_21.2.1
    have kI_21 : Ch [50, 51, 57, 58, 59] [0, 1, 10, 11, 15, 16, 17, 18] Ia I_21 := Ch_tr kI_15 (Ch_wd h_21.1 (by decide) (by decide))
    have cI_21 : RX I_21 := h_21.2.2.1
    have qI_21 := RX_l cI_21
    have r310_I_21 : I_21 51 310 = I_15 51 310 := by rw [h_21.1.1 51 (by decide) (by decide)]
    have f10_I_21 : I_21 49 10 = I_15 49 10 := h_21.1.2 10 (by decide)
    have f11_I_21 : I_21 49 11 = I_15 49 11 := h_21.1.2 11 (by decide)
    have f15_I_21 : I_21 49 15 = I_15 49 15 := h_21.1.2 15 (by decide)
    have o_I_21 : ∀ j : Nat, ((j : Int) ≠ 310 ∧ (j : Int) ≠ 311 + Ia 51 310 ∧ ¬ (317 + 400 * Ia 51 310 ≤ j ∧ (j : Int) < 717 + 400 * Ia 51 310) ∧ ¬ (2717 + 400 * Ia 51 310 ≤ j ∧ (j : Int) < 3117 + 400 * Ia 51 310)) → I_21 51 j = Ia 51 j := fun j h1 => (congrFun (h_21.1.1 51 (by decide) (by decide)) j).trans (o_I_15 j h1)
    refine rI hX (pc := 24) hT (Nat.le_refl 0) (Nat.le_refl 0) dX11_law_24 ?_
    exact ⟨⟨kI_21, kJ_21, cI_21, by omega, (fun _ => ⟨by omega, (h_21.1.1 51 (by decide) (by decide)).trans g15, by omega⟩), (fun h9 => absurd (by omega) h9)⟩, ⟨(fun _ => RQ9_tr bkI_15 tkI_15 qxI_21), (fun h9 => absurd h9 (by have := h_21.2.2.2; omega))⟩⟩
