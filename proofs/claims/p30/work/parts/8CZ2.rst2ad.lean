set_option maxHeartbeats 4000000 in
set_option maxRecDepth 20000 in
theorem c9_X11_safe (l0 : Launch) {Ia Ja : aI1} {Ra : aR1} {Sa : aS1} (hL : LY Ra Sa) (hQ : RX Ia) (hcr : ∀ t : Nat, (t : Int) ≤ FU (Ia 51 304) → -1 ≤ Ia 51 t ∧ Ia 51 t ≤ 7)  : CT l0 2 0 0 mX11_safe [kR (some 49)] Ia Ja Ra Sa (cI (fun x I' J' => (Ch [63] [] Ia I' ∧ Kp 49 73 Ja J' ∧ RX I' ∧ SFE (Ia 51) (Ia 51 306) (FU (Ia 51 304) + 1) x) ∧ QK9 Ia I' Ja J') Ra Sa) := by
  refine ct_in pn_X11 (Nat.le_of_ble_eq_true rfl) (fun X hX hT hIn => ?_)
  have hX : aK l0 X cX11_safe 5 RX11 (some .int) 2 0 0 := hX
  change WW X 0 [some (kR (some 49)), none, none, none, none] [] Ia Ja Ra Sa 0 0
  have qIa := RX_o hQ
  refine ww_aload_n hX (pc := 0) dX11_safe_0 rfl ?_
  refine vV0 hX (pc := 1) sX11_315 (xs_49 hL) (c9_X11_reaches l0 hL hQ hcr) (by decide) (Nat.le_refl 0) (Nat.le_refl 0) (Nat.le_of_ble_eq_true rfl) dX11_safe_1 (fun I_1 J_1 h_1 => ?_)
  obtain ⟨h_1, qxI_1⟩ := h_1
  have kJ_1 : Kp 49 73 Ja J_1 := Kp_tr (Kp_rf (a := 49) (b := 73)) h_1.2.1
  have kI_1 : Ch [63] [] Ia I_1 := Ch_tr Ch_rf (Ch_wd h_1.1 (by decide) (by decide))
  have cI_1 : RX I_1 := h_1.2.2.1
  have qI_1 := RX_o cI_1
  have r304_I_1 : I_1 51 304 = Ia 51 304 := by rw [h_1.1.1 51 (by decide) (by decide)]
  have r305_I_1 : I_1 51 305 = Ia 51 305 := by rw [h_1.1.1 51 (by decide) (by decide)]
  have rf_I_1 : FU (I_1 51 304) = FU (Ia 51 304) := by rw [r304_I_1]
  have hcan := h_1.2.2.2
  have e51 : I_1 51 = Ia 51 := h_1.1.1 51 (by decide) (by decide)
  have bkI_1 : BK9 Ia I_1 := BK9_tr BK9_rf qxI_1.1
  have tkI_1 : TK9 Ia I_1 Ja J_1 := TK9_tr TK9_rf qxI_1.2
  refine ww_bipush hX (pc := 4) (x := 9) dX11_safe_4 (by decide) ?_
  refine ww_istore_n hX (pc := 6) (lv' := [some (kR (some 49)), some (kI 9), none, none, none]) dX11_safe_6 (by decide) rfl rfl ?_
  refine ww_iconst hX (pc := 7) (x := 0) dX11_safe_7 rfl ?_
  refine ww_istore_n hX (pc := 8) (lv' := [some (kR (some 49)), some (kI 9), some (kI 0), none, none]) dX11_safe_8 (by decide) rfl rfl ?_
  have hl_9 : ∀ (n_9 : Nat) (n : Int) (i : Int), (256 - i).toNat = n_9 → (((0 ≤ i ∧ i ≤ (FU (Ia 51 304) + 1)) ∧ (-1 ≤ n ∧ n ≤ 9)) ∧ SGz (Ia 51) (Ia 51 306) (FU (Ia 51 304) + 1) i 0 n) → WW X 9 [some (kR (some 49)), some (kI n), some (kI i), none, none] [] I_1 J_1 Ra Sa 0 0 := by
    intro n_9
    induction n_9 using Nat.strongRecOn with
    | ind n_9 ih_9 =>
      intro n i hm_9 hv_9
      have hq_9 := Sh0_i hm_9
      clear hm_9
      obtain ⟨hv, hsg1⟩ := hv_9
      refine ww_iload_n hX (pc := 9) dX11_safe_9 rfl ?_
      refine ww_aload_n hX (pc := 10) dX11_safe_10 rfl ?_
      refine vI0 hX (pc := 11) sX11_112 (xs_49 hL) (c_X11_states l0 hL cI_1 ) (by decide) (Nat.le_refl 0) (Nat.le_refl 0) (Nat.le_of_ble_eq_true rfl) dX11_safe_11 (fun x_11 I_11 J_11 h_11 => ?_)
      obtain ⟨rfl, rfl, h_11⟩ := h_11
      refine ww_icmp_ge hX (pc := 14) (tgt := 122) dX11_safe_14 (by decide) (fun h_14 => ?_) (fun h_14 => ?_)
      · simp only [w32_mod] at h_14
        refine ww_iload_n hX (pc := 122) dX11_safe_122 rfl ?_
        refine ww_iconst hX (pc := 123) (x := 1) dX11_safe_123 rfl ?_
        refine ww_isub hX (pc := 124) dX11_safe_124 ?_
        refine rI hX (pc := 125) hT (Nat.le_refl 0) (Nat.le_refl 0) dX11_safe_125 ?_
        exact ⟨⟨kI_1, kJ_1, cI_1, (SGz_e ((show i = FU (Ia 51 304) + 1 by omega) ▸ hsg1))⟩, bkI_1, tkI_1⟩
      · simp only [w32_mod] at h_14
        refine ww_iconst hX (pc := 17) (x := 0) dX11_safe_17 rfl ?_
        refine ww_istore_n hX (pc := 18) (lv' := [some (kR (some 49)), some (kI n), some (kI i), some (kI 0), none]) dX11_safe_18 (by decide) rfl rfl ?_
        have hl_19 : ∀ (n_19 : Nat) (n2 : Int) (t : Int), (i - t).toNat = n_19 → (((0 ≤ t ∧ t ≤ i) ∧ (-1 ≤ n2 ∧ n2 ≤ 9)) ∧ SGz (Ia 51) (Ia 51 306) (FU (Ia 51 304) + 1) i t n2) → WW X 19 [some (kR (some 49)), some (kI n2), some (kI i), some (kI t), none] [] I_1 J_1 Ra Sa 0 0 := by
          intro n_19
          induction n_19 using Nat.strongRecOn with
          | ind n_19 ih_19 =>
            intro n2 t hm_19 hv_19
            have hq_19 := Sh0_i hm_19
            clear hm_19
            obtain ⟨hu, hsg0⟩ := hv_19
            refine ww_iload_n hX (pc := 19) dX11_safe_19 rfl ?_
            refine ww_iload_n hX (pc := 20) dX11_safe_20 rfl ?_
            refine ww_icmp_ge hX (pc := 21) (tgt := 116) dX11_safe_21 (by decide) (fun h_21 => ?_) (fun h_21 => ?_)
            · simp only [w32_mod] at h_21
              refine ww_iinc hX (pc := 116) (lv' := [some (kR (some 49)), some (kI n2), some (kI (i + 1)), some (kI t), none]) dX11_safe_116 rfl (by decide) rfl rfl ?_
              refine ww_goto hX (pc := 119) (tgt := 9) dX11_safe_119 (by decide) ?_
              refine ww_sub [some (kR (some 49)), some (kI n2), some (kI (i + 1)), none, none] (aLe_s (aLe_s (aLe_s (aLe_n (aLe_n aLe_0))))) ?_
              exact ih_9 _ (by have hm9 := Sh0_e hq_9; omega) n2 (i + 1) rfl ⟨by omega, (SGz_r hsg0 (by omega))⟩
            · simp only [w32_mod] at h_21
              have hcd := hcr t.toNat (by omega)
              have hce := hcr i.toNat (by omega)
              have hci := hcan i.toNat (by omega)
              have hcj := hcan t.toNat (by omega)
              have hdf := anx_N (s := i) (t := t) (by omega) (by omega) (by omega) (by omega)
              have hdf2 := anx_N (s := t) (t := i) (by omega) (by omega) (by omega) (by omega)
              have hdl := df_lt (s := t.toNat) (t := i.toNat) (by omega)
              have hdl2 := df_lt (s := i.toNat) (t := t.toNat) (by omega)
              have hn9 := hsg0.1
              refine ww_aload_n hX (pc := 24) dX11_safe_24 rfl ?_
              refine ww_getR hX (pc := 25) fX11_65 (by decide) (xs_49 hL) (xr_49_26 hL) dX11_safe_25 ?_
              refine ww_iload_n hX (pc := 28) dX11_safe_28 rfl ?_
              refine ww_zald hX (pc := 29) (xs_63 hL) (by decide) (by omega) (by omega) dX11_safe_29 ?_
              refine ww_if_eq hX (pc := 30) (tgt := 110) dX11_safe_30 (by decide) (fun h_30 => ?_) (fun h_30 => ?_)
              · simp only [w32_mod] at h_30
                have hsg : SGz (Ia 51) (Ia 51 306) (FU (Ia 51 304) + 1) i (t + 1) n2 := SGz_n hsg0 (by omega) (by omega) (fun h9 => by
                  have h8 := hci.2.mpr ((RR7_RC h9.1.1).mp h9.1).2
                  omega)
                refine ww_iinc hX (pc := 110) (lv' := [some (kR (some 49)), some (kI n2), some (kI i), some (kI (t + 1)), none]) dX11_safe_110 rfl (by decide) rfl rfl ?_
                refine ww_goto hX (pc := 113) (tgt := 19) dX11_safe_113 (by decide) ?_
                exact ih_19 _ (by have hm9 := Sh0_e hq_19; omega) n2 (t + 1) rfl ⟨by omega, hsg⟩
              · simp only [w32_mod] at h_30
                refine ww_aload_n hX (pc := 33) dX11_safe_33 rfl ?_
                refine ww_getR hX (pc := 34) fX11_65 (by decide) (xs_49 hL) (xr_49_26 hL) dX11_safe_34 ?_
                refine ww_iload_n hX (pc := 37) dX11_safe_37 rfl ?_
                refine ww_zald hX (pc := 38) (xs_63 hL) (by decide) (by omega) (by omega) dX11_safe_38 ?_
                refine ww_if_eq hX (pc := 39) (tgt := 110) dX11_safe_39 (by decide) (fun h_39 => ?_) (fun h_39 => ?_)
                · simp only [w32_mod] at h_39
                  have hsg : SGz (Ia 51) (Ia 51 306) (FU (Ia 51 304) + 1) i (t + 1) n2 := SGz_n hsg0 (by omega) (by omega) (fun h9 => by
                    have h8 := hcj.2.mpr ((RR7_RC h9.2.1.1).mp h9.2.1).2
                    omega)
                  refine ww_iinc hX (pc := 110) (lv' := [some (kR (some 49)), some (kI n2), some (kI i), some (kI (t + 1)), none]) dX11_safe_110 rfl (by decide) rfl rfl ?_
                  refine ww_goto hX (pc := 113) (tgt := 19) dX11_safe_113 (by decide) ?_
                  exact ih_19 _ (by have hm9 := Sh0_e hq_19; omega) n2 (t + 1) rfl ⟨by omega, hsg⟩
                · simp only [w32_mod] at h_39
                  refine ww_aload_n hX (pc := 42) dX11_safe_42 rfl ?_
                  refine ww_iload_n hX (pc := 43) dX11_safe_43 rfl ?_
                  refine vI1 hX (pc := 44) sX11_126 (xs_49 hL) (c_X11_readOf l0 hL cI_1 (by omega) (by omega)) (by decide) (Nat.le_refl 0) (Nat.le_refl 0) (Nat.le_of_ble_eq_true rfl) dX11_safe_44 (fun x_44 I_44 J_44 h_44 => ?_)
                  obtain ⟨rfl, rfl, h_44⟩ := h_44
                  rw [e51] at h_44
                  refine ww_iconst hX (pc := 47) (x := (-1)) dX11_safe_47 rfl ?_
                  refine ww_icmp_eq hX (pc := 48) (tgt := 110) dX11_safe_48 (by decide) (fun h_48 => ?_) (fun h_48 => ?_)
                  · simp only [w32_mod] at h_48
                    have hsg : SGz (Ia 51) (Ia 51 306) (FU (Ia 51 304) + 1) i (t + 1) n2 := SGz_n hsg0 (by omega) (by omega) (fun h9 => by
                      have h8 := h9.1.2.1
                      omega)
                    refine ww_iinc hX (pc := 110) (lv' := [some (kR (some 49)), some (kI n2), some (kI i), some (kI (t + 1)), none]) dX11_safe_110 rfl (by decide) rfl rfl ?_
                    refine ww_goto hX (pc := 113) (tgt := 19) dX11_safe_113 (by decide) ?_
                    exact ih_19 _ (by have hm9 := Sh0_e hq_19; omega) n2 (t + 1) rfl ⟨by omega, hsg⟩
                  · simp only [w32_mod] at h_48
                    refine ww_aload_n hX (pc := 51) dX11_safe_51 rfl ?_
                    refine ww_iload_n hX (pc := 52) dX11_safe_52 rfl ?_
                    refine vI1 hX (pc := 53) sX11_126 (xs_49 hL) (c_X11_readOf l0 hL cI_1 (by omega) (by omega)) (by decide) (Nat.le_refl 0) (Nat.le_refl 0) (Nat.le_of_ble_eq_true rfl) dX11_safe_53 (fun x_53 I_53 J_53 h_53 => ?_)
                    obtain ⟨rfl, rfl, h_53⟩ := h_53
                    rw [e51] at h_53
                    refine ww_iconst hX (pc := 56) (x := (-1)) dX11_safe_56 rfl ?_
                    refine ww_icmp_eq hX (pc := 57) (tgt := 110) dX11_safe_57 (by decide) (fun h_57 => ?_) (fun h_57 => ?_)
                    · simp only [w32_mod] at h_57
                      have hsg : SGz (Ia 51) (Ia 51 306) (FU (Ia 51 304) + 1) i (t + 1) n2 := SGz_n hsg0 (by omega) (by omega) (fun h9 => by
                        have h8 := h9.2.1.2.1
                        omega)
                      refine ww_iinc hX (pc := 110) (lv' := [some (kR (some 49)), some (kI n2), some (kI i), some (kI (t + 1)), none]) dX11_safe_110 rfl (by decide) rfl rfl ?_
                      refine ww_goto hX (pc := 113) (tgt := 19) dX11_safe_113 (by decide) ?_
                      exact ih_19 _ (by have hm9 := Sh0_e hq_19; omega) n2 (t + 1) rfl ⟨by omega, hsg⟩
                    · simp only [w32_mod] at h_57
                      refine ww_aload_n hX (pc := 60) dX11_safe_60 rfl ?_
                      refine ww_iload_n hX (pc := 61) dX11_safe_61 rfl ?_
                      refine vI1 hX (pc := 62) sX11_126 (xs_49 hL) (c_X11_readOf l0 hL cI_1 (by omega) (by omega)) (by decide) (Nat.le_refl 0) (Nat.le_refl 0) (Nat.le_of_ble_eq_true rfl) dX11_safe_62 (fun x_62 I_62 J_62 h_62 => ?_)
                      obtain ⟨rfl, rfl, h_62⟩ := h_62
                      rw [e51] at h_62
                      refine ww_aload_n hX (pc := 65) dX11_safe_65 rfl ?_
                      refine ww_iload_n hX (pc := 66) dX11_safe_66 rfl ?_
                      refine vI1 hX (pc := 67) sX11_126 (xs_49 hL) (c_X11_readOf l0 hL cI_1 (by omega) (by omega)) (by decide) (Nat.le_refl 0) (Nat.le_refl 0) (Nat.le_of_ble_eq_true rfl) dX11_safe_67 (fun x_67 I_67 J_67 h_67 => ?_)
                      obtain ⟨rfl, rfl, h_67⟩ := h_67
                      rw [e51] at h_67
                      refine ww_icmp_ne hX (pc := 70) (tgt := 76) dX11_safe_70 (by decide) (fun h_70 => ?_) (fun h_70 => ?_)
                      · simp only [w32_mod] at h_70
                        refine ww_iload_n hX (pc := 76) dX11_safe_76 rfl ?_
                        refine ww_iload_n hX (pc := 77) dX11_safe_77 rfl ?_
                        refine ww_iconst hX (pc := 78) (x := (-1)) dX11_safe_78 rfl ?_
                        refine ww_ixor hX (pc := 79) dX11_safe_79 ?_
                        refine ww_iand hX (pc := 80) dX11_safe_80 ?_
                        refine sI1 hX (pc := 81) sX11_259 (c7_X11_ones l0 (by omega) (by omega)) (by decide) (Nat.le_refl 0) (Nat.le_refl 0) (Nat.le_of_ble_eq_true rfl) dX11_safe_81 (fun x_81 I_81 J_81 h_81 => ?_)
                        obtain ⟨rfl, rfl, h_81⟩ := h_81
                        rw [hdf, Int.toNat_natCast] at h_81
                        have hp1 := pcn_r (df i.toNat t.toNat)
                        refine ww_iload_n hX (pc := 84) dX11_safe_84 rfl ?_
                        refine ww_iload_n hX (pc := 85) dX11_safe_85 rfl ?_
                        refine ww_iconst hX (pc := 86) (x := (-1)) dX11_safe_86 rfl ?_
                        refine ww_ixor hX (pc := 87) dX11_safe_87 ?_
                        refine ww_iand hX (pc := 88) dX11_safe_88 ?_
                        refine sI1 hX (pc := 89) sX11_259 (c7_X11_ones l0 (by omega) (by omega)) (by decide) (Nat.le_refl 0) (Nat.le_refl 0) (Nat.le_of_ble_eq_true rfl) dX11_safe_89 (fun x_89 I_89 J_89 h_89 => ?_)
                        obtain ⟨rfl, rfl, h_89⟩ := h_89
                        rw [hdf2, Int.toNat_natCast] at h_89
                        have hp2 := pcn_r (df t.toNat i.toNat)
                        refine sI2 hX (pc := 92) sX11_132 (c_X11_greater l0 (by omega) (by omega) (by omega) (by omega)) (by decide) (Nat.le_refl 0) (Nat.le_refl 0) (Nat.le_of_ble_eq_true rfl) dX11_safe_92 (fun x_92 I_92 J_92 h_92 => ?_)
                        obtain ⟨rfl, rfl, h_92⟩ := h_92
                        have hdd : x_92 = DD i.toNat t.toNat := by
                          rw [h_92, h_81, h_89]
                          rfl
                        have hun : UN (Ia 51) (Ia 51 306) (FU (Ia 51 304) + 1) i.toNat t.toNat := ⟨(RR7_RC (by omega)).mpr ⟨by omega, hci.2.mp (by have := hci.1; omega)⟩, (RR7_RC (by omega)).mpr ⟨by omega, hcj.2.mp (by have := hcj.1; omega)⟩, by omega⟩
                        refine ww_istore hX (pc := 95) (lv' := [some (kR (some 49)), some (kI n2), some (kI i), some (kI t), some (kI x_92)]) dX11_safe_95 (by decide) rfl rfl ?_
                        refine ww_iload hX (pc := 97) dX11_safe_97 rfl ?_
                        refine ww_iload_n hX (pc := 99) dX11_safe_99 rfl ?_
                        refine ww_icmp_ge hX (pc := 100) (tgt := 108) dX11_safe_100 (by decide) (fun h_100 => ?_) (fun h_100 => ?_)
                        · simp only [w32_mod] at h_100
                          have hsg : SGz (Ia 51) (Ia 51 306) (FU (Ia 51 304) + 1) i (t + 1) n2 := SGz_k hsg0 (by omega) (by omega) (by omega)
                          refine ww_iload_n hX (pc := 108) dX11_safe_108 rfl ?_
                          refine ww_istore_n hX (pc := 109) (lv' := [some (kR (some 49)), some (kI n2), some (kI i), some (kI t), some (kI x_92)]) dX11_safe_109 (by decide) rfl rfl ?_
                          refine ww_iinc hX (pc := 110) (lv' := [some (kR (some 49)), some (kI n2), some (kI i), some (kI (t + 1)), some (kI x_92)]) dX11_safe_110 rfl (by decide) rfl rfl ?_
                          refine ww_goto hX (pc := 113) (tgt := 19) dX11_safe_113 (by decide) ?_
                          refine ww_sub [some (kR (some 49)), some (kI n2), some (kI i), some (kI (t + 1)), none] (aLe_s (aLe_s (aLe_s (aLe_s (aLe_n aLe_0))))) ?_
                          exact ih_19 _ (by have hm9 := Sh0_e hq_19; omega) n2 (t + 1) rfl ⟨by omega, hsg⟩
                        · simp only [w32_mod] at h_100
                          have hsg : SGz (Ia 51) (Ia 51 306) (FU (Ia 51 304) + 1) i (t + 1) x_92 := by
                            rw [hdd]
                            exact SGz_s hsg0 (by omega) (by omega) hun (by omega)
                          refine ww_iload hX (pc := 103) dX11_safe_103 rfl ?_
                          refine ww_goto hX (pc := 105) (tgt := 109) dX11_safe_105 (by decide) ?_
                          refine ww_istore_n hX (pc := 109) (lv' := [some (kR (some 49)), some (kI x_92), some (kI i), some (kI t), some (kI x_92)]) dX11_safe_109 (by decide) rfl rfl ?_
                          refine ww_iinc hX (pc := 110) (lv' := [some (kR (some 49)), some (kI x_92), some (kI i), some (kI (t + 1)), some (kI x_92)]) dX11_safe_110 rfl (by decide) rfl rfl ?_
                          refine ww_goto hX (pc := 113) (tgt := 19) dX11_safe_113 (by decide) ?_
                          refine ww_sub [some (kR (some 49)), some (kI x_92), some (kI i), some (kI (t + 1)), none] (aLe_s (aLe_s (aLe_s (aLe_s (aLe_n aLe_0))))) ?_
                          exact ih_19 _ (by have hm9 := Sh0_e hq_19; omega) x_92 (t + 1) rfl ⟨by omega, hsg⟩
                      · simp only [w32_mod] at h_70
                        have hsg : SGz (Ia 51) (Ia 51 306) (FU (Ia 51 304) + 1) i (t + 1) n2 := SGz_n hsg0 (by omega) (by omega) (fun h9 => by
                          have h8 := h9.2.2
                          omega)
                        refine ww_goto hX (pc := 73) (tgt := 110) dX11_safe_73 (by decide) ?_
                        refine ww_iinc hX (pc := 110) (lv' := [some (kR (some 49)), some (kI n2), some (kI i), some (kI (t + 1)), none]) dX11_safe_110 rfl (by decide) rfl rfl ?_
                        refine ww_goto hX (pc := 113) (tgt := 19) dX11_safe_113 (by decide) ?_
                        exact ih_19 _ (by have hm9 := Sh0_e hq_19; omega) n2 (t + 1) rfl ⟨by omega, hsg⟩
        exact hl_19 _ n 0 rfl ⟨by omega, hsg1⟩
  exact hl_9 _ 9 0 rfl ⟨by omega, SGz_0⟩
