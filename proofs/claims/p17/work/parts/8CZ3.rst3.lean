set_option maxHeartbeats 4000000 in
set_option maxRecDepth 20000 in
theorem c9_X11_plans (l0 : Launch) {Ia Ja : aI1} {Ra : aR1} {Sa : aS1} (hL : LY Ra Sa) (hQ : RX Ia)  : CT l0 2 0 0 mX11_plans [kR (some 49)] Ia Ja Ra Sa (cV (fun I' J' => (Ch [70, 71] [] Ia I' ∧ Kp 49 73 Ja J' ∧ RX I' ∧ ∀ i9 s9 : Int, 0 ≤ i9 → i9 < Ia 51 309 → 0 ≤ s9 → s9 ≤ FU (Ia 51 304) → PLs (Ia 51) (I' 70) i9 s9) ∧ QK9 Ia I' Ja J') Ra Sa) := by
  refine ct_in pn_X11 (Nat.le_of_ble_eq_true rfl) (fun X hX hT hIn => ?_)
  have hX : aK l0 X cX11_plans 9 RX11 none 2 0 0 := hX
  change WW X 0 [some (kR (some 49)), none, none, none, none, none, none, none, none] [] Ia Ja Ra Sa 0 0
  have qIa := RX_p hQ
  refine ww_aload_n hX (pc := 0) dX11_plans_0 rfl ?_
  refine ww_getR hX (pc := 1) fX11_20 (by decide) (xs_49 hL) (xr_49_3 hL) dX11_plans_1 ?_
  refine ww_sipush hX (pc := 4) (x := 309) dX11_plans_4 (by decide) ?_
  refine ww_iald hX (pc := 7) (xs_51 hL) (by decide) (by omega) (by omega) dX11_plans_7 ?_
  refine ww_toI (b := Ia 51 309) rfl ?_
  refine ww_nmI (fun v_8 hv_8 => ?_)
  refine ww_istore_n hX (pc := 8) (lv' := [some (kR (some 49)), some (kI v_8), none, none, none, none, none, none, none]) dX11_plans_8 (by decide) rfl rfl ?_
  refine ww_iconst hX (pc := 9) (x := 0) dX11_plans_9 rfl ?_
  refine ww_istore_n hX (pc := 10) (lv' := [some (kR (some 49)), some (kI v_8), some (kI 0), none, none, none, none, none, none]) dX11_plans_10 (by decide) rfl rfl ?_
  have hl_11 : ∀ (n_11 : Nat) (q : Int) (I11 : aI1) (J11 : aI1), (256 - q).toNat = n_11 → (BK9 Ia I11 ∧ TK9 Ia I11 Ja J11 ∧ (Ch [70, 71] [] Ia I11 ∧ RX I11 ∧ Kp 49 73 Ja J11 ∧ I11 51 304 = Ia 51 304 ∧ I11 51 305 = Ia 51 305 ∧ (0 ≤ q ∧ q ≤ 256))) → WW X 11 [some (kR (some 49)), some (kI v_8), some (kI q), none, none, none, none, none, none] [] I11 J11 Ra Sa 0 0 := by
    intro n_11
    induction n_11 using Nat.strongRecOn with
    | ind n_11 ih_11 =>
      intro q I11 J11 hm_11 hv_11
      have hq_11 := Sh0_i hm_11
      clear hm_11
      obtain ⟨bkl11, tkl11, hv_11⟩ := hv_11
      obtain ⟨kI11, cI11, kJ11, r304_I11, r305_I11, hq⟩ := hv_11
      have qI11 := RX_p cI11
      have rf_I11 : FU (I11 51 304) = FU (Ia 51 304) := by rw [r304_I11]
      refine ww_iload_n hX (pc := 11) dX11_plans_11 rfl ?_
      refine ww_aload_n hX (pc := 12) dX11_plans_12 rfl ?_
      refine vI0 hX (pc := 13) sX11_112 (xs_49 hL) (c_X11_states l0 hL cI11 ) (by decide) (Nat.le_refl 0) (Nat.le_refl 0) (Nat.le_of_ble_eq_true rfl) dX11_plans_13 (fun x_13 I_13 J_13 h_13 => ?_)
      obtain ⟨rfl, rfl, h_13⟩ := h_13
      refine ww_icmp_ge hX (pc := 16) (tgt := 51) dX11_plans_16 (by decide) (fun h_16 => ?_) (fun h_16 => ?_)
      · simp only [w32_mod] at h_16
        refine ww_iload_n hX (pc := 51) dX11_plans_51 rfl ?_
        refine ww_iconst hX (pc := 52) (x := 1) dX11_plans_52 rfl ?_
        refine ww_isub hX (pc := 53) dX11_plans_53 ?_
        refine ww_nmI (fun v_54 hv_54 => ?_)
        refine ww_istore_n hX (pc := 54) (lv' := [some (kR (some 49)), some (kI v_8), some (kI v_54), none, none, none, none, none, none]) dX11_plans_54 (by decide) rfl rfl ?_
        have hl_55 : ∀ (n_55 : Nat) (i : Int) (I55 : aI1) (J55 : aI1), (i + 1).toNat = n_55 → (BK9 Ia I55 ∧ TK9 Ia I55 Ja J55 ∧ (Ch [70, 71] [] Ia I55 ∧ RX I55 ∧ Kp 49 73 Ja J55 ∧ I55 51 304 = I11 51 304 ∧ I55 51 305 = I11 51 305 ∧ (-1 ≤ i ∧ i ≤ 15) ∧ (∀ i9 s9 : Int, i < i9 → i9 < Ia 51 309 → 0 ≤ s9 → s9 ≤ FU (Ia 51 304) → PLs (Ia 51) (I55 70) i9 s9))) → WW X 55 [some (kR (some 49)), some (kI v_8), some (kI i), none, none, none, none, none, none] [] I55 J55 Ra Sa 0 0 := by
          intro n_55
          induction n_55 using Nat.strongRecOn with
          | ind n_55 ih_55 =>
            intro i I55 J55 hm_55 hv_55
            have hq_55 := Sh0_i hm_55
            clear hm_55
            obtain ⟨bkl55, tkl55, hv_55⟩ := hv_55
            obtain ⟨kI55, cI55, kJ55, r304_I55, r305_I55, hv, hpl⟩ := hv_55
            have qI55 := RX_p cI55
            have rf_I55 : FU (I55 51 304) = FU (I11 51 304) := by rw [r304_I55]
            refine ww_iload_n hX (pc := 55) dX11_plans_55 rfl ?_
            refine ww_if_lt hX (pc := 56) (tgt := 288) dX11_plans_56 (by decide) (fun h_56 => ?_) (fun h_56 => ?_)
            · simp only [w32_mod] at h_56
              refine rV hX (pc := 288) hT (Nat.le_refl 0) (Nat.le_refl 0) dX11_plans_288 ?_
              exact ⟨⟨kI55, kJ55, cI55, fun i9 s9 g1 g2 g3 g4 => hpl i9 s9 (by omega) g2 g3 g4⟩, bkl55, tkl55⟩
            · simp only [w32_mod] at h_56
              refine ww_iconst hX (pc := 59) (x := 0) dX11_plans_59 rfl ?_
              refine ww_istore_n hX (pc := 60) (lv' := [some (kR (some 49)), some (kI v_8), some (kI i), some (kI 0), none, none, none, none, none]) dX11_plans_60 (by decide) rfl rfl ?_
              have hl_61 : ∀ (n_61 : Nat) (sa : Int) (I61 : aI1) (J61 : aI1), (256 - sa).toNat = n_61 → (BK9 Ia I61 ∧ TK9 Ia I61 Ja J61 ∧ (Ch [70, 71] [] Ia I61 ∧ RX I61 ∧ Kp 49 73 Ja J61 ∧ I61 51 304 = I55 51 304 ∧ I61 51 305 = I55 51 305 ∧ (0 ≤ sa ∧ sa ≤ 256) ∧ (∀ i9 s9 : Int, (i < i9 ∨ (i9 = i ∧ s9 < sa)) → i9 < Ia 51 309 → 0 ≤ s9 → s9 ≤ FU (Ia 51 304) → PLs (Ia 51) (I61 70) i9 s9))) → WW X 61 [some (kR (some 49)), some (kI v_8), some (kI i), some (kI sa), none, none, none, none, none] [] I61 J61 Ra Sa 0 0 := by
                intro n_61
                induction n_61 using Nat.strongRecOn with
                | ind n_61 ih_61 =>
                  intro sa I61 J61 hm_61 hv_61
                  have hq_61 := Sh0_i hm_61
                  clear hm_61
                  obtain ⟨bkl61, tkl61, hv_61⟩ := hv_61
                  obtain ⟨kI61, cI61, kJ61, r304_I61, r305_I61, hu, hpm⟩ := hv_61
                  have qI61 := RX_p cI61
                  have rf_I61 : FU (I61 51 304) = FU (I55 51 304) := by rw [r304_I61]
                  have hk61 : I61 51 = Ia 51 := kI61.1 51 (by decide) (by decide)
                  refine ww_iload_n hX (pc := 61) dX11_plans_61 rfl ?_
                  refine ww_aload_n hX (pc := 62) dX11_plans_62 rfl ?_
                  refine vI0 hX (pc := 63) sX11_112 (xs_49 hL) (c_X11_states l0 hL cI61 ) (by decide) (Nat.le_refl 0) (Nat.le_refl 0) (Nat.le_of_ble_eq_true rfl) dX11_plans_63 (fun x_63 I_63 J_63 h_63 => ?_)
                  obtain ⟨rfl, rfl, h_63⟩ := h_63
                  refine ww_icmp_ge hX (pc := 66) (tgt := 282) dX11_plans_66 (by decide) (fun h_66 => ?_) (fun h_66 => ?_)
                  · simp only [w32_mod] at h_66
                    refine ww_iinc hX (pc := 282) (lv' := [some (kR (some 49)), some (kI v_8), some (kI (i + (-1))), some (kI sa), none, none, none, none, none]) dX11_plans_282 rfl (by decide) rfl rfl ?_
                    refine ww_goto hX (pc := 285) (tgt := 55) dX11_plans_285 (by decide) ?_
                    refine ww_sub [some (kR (some 49)), some (kI v_8), some (kI (i + (-1))), none, none, none, none, none, none] (aLe_s (aLe_s (aLe_s (aLe_n (aLe_n (aLe_n (aLe_n (aLe_n (aLe_n aLe_0))))))))) ?_
                    exact ih_55 _ (by have hm9 := Sh0_e hq_55; omega) (i + (-1)) I61 J61 rfl ⟨bkl61, tkl61, ⟨kI61, cI61, kJ61, by omega, by omega, ⟨by omega, by omega⟩, fun i9 s9 g1 g2 g3 g4 => hpm i9 s9 (by omega) g2 g3 g4⟩⟩
                  · simp only [w32_mod] at h_66
                    refine ww_ldcw hX (pc := 69) (x := 1000000000) dX11_plans_69 tb_1457 ?_
                    refine ww_istore hX (pc := 72) (lv' := [some (kR (some 49)), some (kI v_8), some (kI i), some (kI sa), some (kI 1000000000), none, none, none, none]) dX11_plans_72 (by decide) rfl rfl ?_
                    refine ww_iconst hX (pc := 74) (x := 0) dX11_plans_74 rfl ?_
                    refine ww_istore hX (pc := 75) (lv' := [some (kR (some 49)), some (kI v_8), some (kI i), some (kI sa), some (kI 1000000000), some (kI 0), none, none, none]) dX11_plans_75 (by decide) rfl rfl ?_
                    refine ww_iload_n hX (pc := 77) dX11_plans_77 rfl ?_
                    refine ww_istore hX (pc := 78) (lv' := [some (kR (some 49)), some (kI v_8), some (kI i), some (kI sa), some (kI 1000000000), some (kI 0), some (kI sa), none, none]) dX11_plans_78 (by decide) rfl rfl ?_
                    have hl_80 : ∀ (n_80 : Nat) (bs : Int) (wy : Int) (t : Int), (256 - t).toNat = n_80 → ((sa ≤ t ∧ t ≤ 256) ∧ Bst (Ia 51) (I61 70) i sa t bs) → WW X 80 [some (kR (some 49)), some (kI v_8), some (kI i), some (kI sa), some (kI bs), some (kI wy), some (kI t), none, none] [] I61 J61 Ra Sa 0 0 := by
                      intro n_80
                      induction n_80 using Nat.strongRecOn with
                      | ind n_80 ih_80 =>
                        intro bs wy t hm_80 hv_80
                        have hq_80 := Sh0_i hm_80
                        clear hm_80
                        obtain ⟨hw, hb⟩ := hv_80
                        refine ww_iload hX (pc := 80) dX11_plans_80 rfl ?_
                        refine ww_aload_n hX (pc := 82) dX11_plans_82 rfl ?_
                        refine vI0 hX (pc := 83) sX11_112 (xs_49 hL) (c_X11_states l0 hL cI61 ) (by decide) (Nat.le_refl 0) (Nat.le_refl 0) (Nat.le_of_ble_eq_true rfl) dX11_plans_83 (fun x_83 I_83 J_83 h_83 => ?_)
                        obtain ⟨rfl, rfl, h_83⟩ := h_83
                        refine ww_icmp_ge hX (pc := 86) (tgt := 248) dX11_plans_86 (by decide) (fun h_86 => ?_) (fun h_86 => ?_)
                        · simp only [w32_mod] at h_86
                          refine ww_aload_n hX (pc := 248) dX11_plans_248 rfl ?_
                          refine ww_getR hX (pc := 249) fX11_86 (by decide) (xs_49 hL) (xr_49_36 hL) dX11_plans_249 ?_
                          refine ww_sipush hX (pc := 252) (x := 256) dX11_plans_252 (by decide) ?_
                          refine ww_iload_n hX (pc := 255) dX11_plans_255 rfl ?_
                          refine ww_imul hX (pc := 256) dX11_plans_256 ?_
                          refine ww_iload_n hX (pc := 257) dX11_plans_257 rfl ?_
                          refine ww_iadd hX (pc := 258) dX11_plans_258 ?_
                          refine ww_iload hX (pc := 259) dX11_plans_259 rfl ?_
                          refine ww_iast hX (pc := 261) (xs_70 hL) (by decide) (by omega) (by omega) dX11_plans_261 ?_
                          refine ww_nmH (fun I_261 eI_261 => ?_)
                          have kI_261 : Ch [70, 71] [] Ia I_261 := by rw [eI_261]; exact Ch_r kI61 (by decide) (by decide)
                          have cI_261 : RX I_261 := by rw [eI_261]; exact RX_r cI61 (by decide)
                          have qI_261 := RX_p cI_261
                          have r304_I_261 : I_261 51 304 = I61 51 304 := by rw [eI_261, up2_off _ _ _ (by decide)]
                          have r305_I_261 : I_261 51 305 = I61 51 305 := by rw [eI_261, up2_off _ _ _ (by decide)]
                          have rf_I_261 : FU (I_261 51 304) = FU (I61 51 304) := by rw [r304_I_261]
                          have bkI_261 : BK9 Ia I_261 := by rw [eI_261]; exact BK9_up bkl61 (by decide)
                          have tkI_261 : TK9 Ia I_261 Ja J61 := by rw [eI_261]; exact TK9_up tkl61 (by decide)
                          refine ww_aload_n hX (pc := 262) dX11_plans_262 rfl ?_
                          refine ww_getR hX (pc := 263) fX11_89 (by decide) (xs_49 hL) (xr_49_37 hL) dX11_plans_263 ?_
                          refine ww_sipush hX (pc := 266) (x := 256) dX11_plans_266 (by decide) ?_
                          refine ww_iload_n hX (pc := 269) dX11_plans_269 rfl ?_
                          refine ww_imul hX (pc := 270) dX11_plans_270 ?_
                          refine ww_iload_n hX (pc := 271) dX11_plans_271 rfl ?_
                          refine ww_iadd hX (pc := 272) dX11_plans_272 ?_
                          refine ww_iload hX (pc := 273) dX11_plans_273 rfl ?_
                          refine ww_iast hX (pc := 275) (xs_71 hL) (by decide) (by omega) (by omega) dX11_plans_275 ?_
                          refine ww_nmH (fun I_275 eI_275 => ?_)
                          have kI_275 : Ch [70, 71] [] Ia I_275 := by rw [eI_275]; exact Ch_r kI_261 (by decide) (by decide)
                          have cI_275 : RX I_275 := by rw [eI_275]; exact RX_r cI_261 (by decide)
                          have qI_275 := RX_p cI_275
                          have r304_I_275 : I_275 51 304 = I_261 51 304 := by rw [eI_275, up2_off _ _ _ (by decide)]
                          have r305_I_275 : I_275 51 305 = I_261 51 305 := by rw [eI_275, up2_off _ _ _ (by decide)]
                          have rf_I_275 : FU (I_275 51 304) = FU (I_261 51 304) := by rw [r304_I_275]
                          have bkI_275 : BK9 Ia I_275 := by rw [eI_275]; exact BK9_up bkI_261 (by decide)
                          have tkI_275 : TK9 Ia I_275 Ja J61 := by rw [eI_275]; exact TK9_up tkI_261 (by decide)
                          refine ww_iinc hX (pc := 276) (lv' := [some (kR (some 49)), some (kI v_8), some (kI i), some (kI (sa + 1)), some (kI bs), some (kI wy), some (kI t), none, none]) dX11_plans_276 rfl (by decide) rfl rfl ?_
                          refine ww_goto hX (pc := 279) (tgt := 61) dX11_plans_279 (by decide) ?_
                          refine ww_sub [some (kR (some 49)), some (kI v_8), some (kI i), some (kI (sa + 1)), none, none, none, none, none] (aLe_s (aLe_s (aLe_s (aLe_s (aLe_n (aLe_n (aLe_n (aLe_n (aLe_n aLe_0))))))))) ?_
                          exact ih_61 _ (by have hm9 := Sh0_e hq_61; omega) (sa + 1) I_275 J61 rfl ⟨bkI_275, tkI_275, ⟨kI_275, cI_275, kJ61, by omega, by omega, ⟨by omega, by omega⟩, fun i9 s9 g1 g2 g3 g4 => PL_st (by rw [eI_275, up2_off _ _ _ (by decide), eI_261, up2_row]) (by omega) (by omega) (by omega) hb g1 g3 (by omega) (fun g5 => hpm i9 s9 g5 g2 g3 g4)⟩⟩
                        · simp only [w32_mod] at h_86
                          refine ww_sipush hX (pc := 89) (x := 256) dX11_plans_89 (by decide) ?_
                          refine ww_iload_n hX (pc := 92) dX11_plans_92 rfl ?_
                          refine ww_iconst hX (pc := 93) (x := 1) dX11_plans_93 rfl ?_
                          refine ww_iadd hX (pc := 94) dX11_plans_94 ?_
                          refine ww_imul hX (pc := 95) dX11_plans_95 ?_
                          refine ww_iload hX (pc := 96) dX11_plans_96 rfl ?_
                          refine ww_iadd hX (pc := 98) dX11_plans_98 ?_
                          refine ww_nmI (fun v_99 hv_99 => ?_)
                          refine ww_istore hX (pc := 99) (lv' := [some (kR (some 49)), some (kI v_8), some (kI i), some (kI sa), some (kI bs), some (kI wy), some (kI t), some (kI v_99), none]) dX11_plans_99 (by decide) rfl rfl ?_
                          refine ww_aload_n hX (pc := 101) dX11_plans_101 rfl ?_
                          refine ww_iload hX (pc := 102) dX11_plans_102 rfl ?_
                          refine vI1 hX (pc := 104) sX11_126 (xs_49 hL) (c_X11_readOf l0 hL cI61 (by omega) (by omega)) (by decide) (Nat.le_refl 0) (Nat.le_refl 0) (Nat.le_of_ble_eq_true rfl) dX11_plans_104 (fun x_104 I_104 J_104 h_104 => ?_)
                          obtain ⟨rfl, rfl, h_104⟩ := h_104
                          refine ww_aload_n hX (pc := 107) dX11_plans_107 rfl ?_
                          refine ww_getR hX (pc := 108) fX11_20 (by decide) (xs_49 hL) (xr_49_3 hL) dX11_plans_108 ?_
                          refine ww_sipush hX (pc := 111) (x := 288) dX11_plans_111 (by decide) ?_
                          refine ww_iload_n hX (pc := 114) dX11_plans_114 rfl ?_
                          refine ww_iadd hX (pc := 115) dX11_plans_115 ?_
                          refine ww_iald hX (pc := 116) (xs_51 hL) (by decide) (by omega) (by omega) dX11_plans_116 ?_
                          refine ww_icmp_ne hX (pc := 117) (tgt := 242) dX11_plans_117 (by decide) (fun h_117 => ?_) (fun h_117 => ?_)
                          · simp only [w32_mod] at h_117
                            refine ww_iinc hX (pc := 242) (lv' := [some (kR (some 49)), some (kI v_8), some (kI i), some (kI sa), some (kI bs), some (kI wy), some (kI (t + 1)), some (kI v_99), none]) dX11_plans_242 rfl (by decide) rfl rfl ?_
                            refine ww_goto hX (pc := 245) (tgt := 80) dX11_plans_245 (by decide) ?_
                            refine ww_sub [some (kR (some 49)), some (kI v_8), some (kI i), some (kI sa), some (kI bs), some (kI wy), some (kI (t + 1)), none, none] (aLe_s (aLe_s (aLe_s (aLe_s (aLe_s (aLe_s (aLe_s (aLe_n (aLe_n aLe_0))))))))) ?_
                            exact ih_80 _ (by have hm9 := Sh0_e hq_80; omega) bs wy (t + 1) rfl ⟨⟨by omega, by omega⟩, Bst_k hb⟩
                          · simp only [w32_mod] at h_117
                            have hc1 : w32 (Ia 51 t.toNat) = w32 (Ia 51 (288 + i).toNat) := by rw [← hk61]; simp only [w32_mod]; omega
                            refine ww_aload_n hX (pc := 120) dX11_plans_120 rfl ?_
                            refine ww_iload_n hX (pc := 121) dX11_plans_121 rfl ?_
                            refine ww_iload hX (pc := 122) dX11_plans_122 rfl ?_
                            refine ww_aload_n hX (pc := 124) dX11_plans_124 rfl ?_
                            refine ww_getR hX (pc := 125) fX11_20 (by decide) (xs_49 hL) (xr_49_3 hL) dX11_plans_125 ?_
                            refine ww_sipush hX (pc := 128) (x := 306) dX11_plans_128 (by decide) ?_
                            refine ww_iald hX (pc := 131) (xs_51 hL) (by decide) (by omega) (by omega) dX11_plans_131 ?_
                            refine ww_toI (b := I61 51 306) rfl ?_
                            refine vI3 hX (pc := 132) sX11_271 (xs_49 hL) (c_X11_canCome l0 hL cI61 ) (by decide) (Nat.le_refl 0) (Nat.le_refl 0) (Nat.le_of_ble_eq_true rfl) dX11_plans_132 (fun x_132 I_132 J_132 h_132 => ?_)
                            obtain ⟨rfl, rfl, h_132⟩ := h_132
                            refine ww_if_eq hX (pc := 135) (tgt := 242) dX11_plans_135 (by decide) (fun h_135 => ?_) (fun h_135 => ?_)
                            · simp only [w32_mod] at h_135
                              refine ww_iinc hX (pc := 242) (lv' := [some (kR (some 49)), some (kI v_8), some (kI i), some (kI sa), some (kI bs), some (kI wy), some (kI (t + 1)), some (kI v_99), none]) dX11_plans_242 rfl (by decide) rfl rfl ?_
                              refine ww_goto hX (pc := 245) (tgt := 80) dX11_plans_245 (by decide) ?_
                              refine ww_sub [some (kR (some 49)), some (kI v_8), some (kI i), some (kI sa), some (kI bs), some (kI wy), some (kI (t + 1)), none, none] (aLe_s (aLe_s (aLe_s (aLe_s (aLe_s (aLe_s (aLe_s (aLe_n (aLe_n aLe_0))))))))) ?_
                              exact ih_80 _ (by have hm9 := Sh0_e hq_80; omega) bs wy (t + 1) rfl ⟨⟨by omega, by omega⟩, Bst_k hb⟩
                            · simp only [w32_mod] at h_135
                              have hc2 : canC sa t (Ia 51 306) := by rw [← hk61]; exact h_132.2.mp (by omega)
                              refine ww_aload_n hX (pc := 138) dX11_plans_138 rfl ?_
                              refine ww_getR hX (pc := 139) fX11_86 (by decide) (xs_49 hL) (xr_49_36 hL) dX11_plans_139 ?_
                              refine ww_iload hX (pc := 142) dX11_plans_142 rfl ?_
                              refine ww_iald hX (pc := 144) (xs_70 hL) (by decide) (by omega) (by omega) dX11_plans_144 ?_
                              refine ww_ldcw hX (pc := 145) (x := 1000000000) dX11_plans_145 tb_1457 ?_
                              refine ww_icmp_ne hX (pc := 148) (tgt := 154) dX11_plans_148 (by decide) (fun h_148 => ?_) (fun h_148 => ?_)
                              · simp only [w32_mod] at h_148
                                have hcand : Cand (Ia 51) (I61 70) i sa t := ⟨hc1, hc2, by rw [hv_99] at h_148; simp only [w32_mod]; omega⟩
                                refine ww_aload_n hX (pc := 154) dX11_plans_154 rfl ?_
                                refine ww_iload hX (pc := 155) dX11_plans_155 rfl ?_
                                refine ww_iload_n hX (pc := 157) dX11_plans_157 rfl ?_
                                refine ww_iconst hX (pc := 158) (x := (-1)) dX11_plans_158 rfl ?_
                                refine ww_ixor hX (pc := 159) dX11_plans_159 ?_
                                refine ww_iand hX (pc := 160) dX11_plans_160 ?_
                                refine vI1 hX (pc := 161) sX11_301 (xs_49 hL) (c_X11_oilOf l0 hL cI61 ) (by decide) (Nat.le_refl 0) (Nat.le_refl 0) (Nat.le_of_ble_eq_true rfl) dX11_plans_161 (fun x_161 I_161 J_161 h_161 => ?_)
                                obtain ⟨rfl, rfl, h_161⟩ := h_161
                                refine ww_aload_n hX (pc := 164) dX11_plans_164 rfl ?_
                                refine ww_getR hX (pc := 165) fX11_86 (by decide) (xs_49 hL) (xr_49_36 hL) dX11_plans_165 ?_
                                refine ww_iload hX (pc := 168) dX11_plans_168 rfl ?_
                                refine ww_iald hX (pc := 170) (xs_70 hL) (by decide) (by omega) (by omega) dX11_plans_170 ?_
                                refine ww_iadd hX (pc := 171) dX11_plans_171 ?_
                                refine ww_nmI (fun v_172 hv_172 => ?_)
                                refine ww_istore hX (pc := 172) (lv' := [some (kR (some 49)), some (kI v_8), some (kI i), some (kI sa), some (kI bs), some (kI wy), some (kI t), some (kI v_99), some (kI v_172)]) dX11_plans_172 (by decide) rfl rfl ?_
                                refine ww_iload hX (pc := 174) dX11_plans_174 rfl ?_
                                refine ww_iload hX (pc := 176) dX11_plans_176 rfl ?_
                                refine ww_icmp_le hX (pc := 178) (tgt := 184) dX11_plans_178 (by decide) (fun h_178 => ?_) (fun h_178 => ?_)
                                · simp only [w32_mod] at h_178
                                  refine ww_iload hX (pc := 184) dX11_plans_184 rfl ?_
                                  refine ww_iload hX (pc := 186) dX11_plans_186 rfl ?_
                                  refine ww_icmp_ge hX (pc := 188) (tgt := 201) dX11_plans_188 (by decide) (fun h_188 => ?_) (fun h_188 => ?_)
                                  · simp only [w32_mod] at h_188
                                    refine ww_iload hX (pc := 201) dX11_plans_201 rfl ?_
                                    refine ww_i2l hX (pc := 203) dX11_plans_203 ?_
                                    refine ww_aload_n hX (pc := 204) dX11_plans_204 rfl ?_
                                    refine ww_getR hX (pc := 205) fX11_89 (by decide) (xs_49 hL) (xr_49_37 hL) dX11_plans_205 ?_
                                    refine ww_iload hX (pc := 208) dX11_plans_208 rfl ?_
                                    refine ww_iald hX (pc := 210) (xs_71 hL) (by decide) (by omega) (by omega) dX11_plans_210 ?_
                                    refine ww_i2l hX (pc := 211) dX11_plans_211 ?_
                                    refine ww_ladd hX (pc := 212) dX11_plans_212 ?_
                                    refine ww_ldc2 hX (pc := 213) (x := 1000000000) dX11_plans_213 tb_1423 ?_
                                    refine ww_lcmp hX (pc := 216) dX11_plans_216 ?_
                                    refine ww_if_le hX (pc := 217) (tgt := 226) dX11_plans_217 (by decide) (fun h_217 => ?_) (fun h_217 => ?_)
                                    · simp only [w32_mod] at h_217
                                      refine ww_iload hX (pc := 226) dX11_plans_226 rfl ?_
                                      refine ww_aload_n hX (pc := 228) dX11_plans_228 rfl ?_
                                      refine ww_getR hX (pc := 229) fX11_89 (by decide) (xs_49 hL) (xr_49_37 hL) dX11_plans_229 ?_
                                      refine ww_iload hX (pc := 232) dX11_plans_232 rfl ?_
                                      refine ww_iald hX (pc := 234) (xs_71 hL) (by decide) (by omega) (by omega) dX11_plans_234 ?_
                                      refine ww_iadd hX (pc := 235) dX11_plans_235 ?_
                                      refine ww_nmI (fun v_236 hv_236 => ?_)
                                      refine ww_istore hX (pc := 236) (lv' := [some (kR (some 49)), some (kI v_8), some (kI i), some (kI sa), some (kI bs), some (kI v_236), some (kI t), some (kI v_99), some (kI v_172)]) dX11_plans_236 (by decide) rfl rfl ?_
                                      refine ww_iload hX (pc := 238) dX11_plans_238 rfl ?_
                                      refine ww_istore hX (pc := 240) (lv' := [some (kR (some 49)), some (kI v_8), some (kI i), some (kI sa), some (kI v_172), some (kI v_236), some (kI t), some (kI v_99), some (kI v_172)]) dX11_plans_240 (by decide) rfl rfl ?_
                                      refine ww_iinc hX (pc := 242) (lv' := [some (kR (some 49)), some (kI v_8), some (kI i), some (kI sa), some (kI v_172), some (kI v_236), some (kI (t + 1)), some (kI v_99), some (kI v_172)]) dX11_plans_242 rfl (by decide) rfl rfl ?_
                                      refine ww_goto hX (pc := 245) (tgt := 80) dX11_plans_245 (by decide) ?_
                                      refine ww_sub [some (kR (some 49)), some (kI v_8), some (kI i), some (kI sa), some (kI v_172), some (kI v_236), some (kI (t + 1)), none, none] (aLe_s (aLe_s (aLe_s (aLe_s (aLe_s (aLe_s (aLe_s (aLe_n (aLe_n aLe_0))))))))) ?_
                                      exact ih_80 _ (by have hm9 := Sh0_e hq_80; omega) v_172 v_236 (t + 1) rfl ⟨⟨by omega, by omega⟩, Bst_n (by omega) (by omega) hcand (by rw [hv_172, h_161, hv_99, hk61]; rfl)⟩
                                    · simp only [w32_mod] at h_217
                                      refine ww_ldcw hX (pc := 220) (x := 1000000000) dX11_plans_220 tb_1457 ?_
                                      refine ww_goto hX (pc := 223) (tgt := 236) dX11_plans_223 (by decide) ?_
                                      refine ww_istore hX (pc := 236) (lv' := [some (kR (some 49)), some (kI v_8), some (kI i), some (kI sa), some (kI bs), some (kI 1000000000), some (kI t), some (kI v_99), some (kI v_172)]) dX11_plans_236 (by decide) rfl rfl ?_
                                      refine ww_iload hX (pc := 238) dX11_plans_238 rfl ?_
                                      refine ww_istore hX (pc := 240) (lv' := [some (kR (some 49)), some (kI v_8), some (kI i), some (kI sa), some (kI v_172), some (kI 1000000000), some (kI t), some (kI v_99), some (kI v_172)]) dX11_plans_240 (by decide) rfl rfl ?_
                                      refine ww_iinc hX (pc := 242) (lv' := [some (kR (some 49)), some (kI v_8), some (kI i), some (kI sa), some (kI v_172), some (kI 1000000000), some (kI (t + 1)), some (kI v_99), some (kI v_172)]) dX11_plans_242 rfl (by decide) rfl rfl ?_
                                      refine ww_goto hX (pc := 245) (tgt := 80) dX11_plans_245 (by decide) ?_
                                      refine ww_sub [some (kR (some 49)), some (kI v_8), some (kI i), some (kI sa), some (kI v_172), some (kI 1000000000), some (kI (t + 1)), none, none] (aLe_s (aLe_s (aLe_s (aLe_s (aLe_s (aLe_s (aLe_s (aLe_n (aLe_n aLe_0))))))))) ?_
                                      exact ih_80 _ (by have hm9 := Sh0_e hq_80; omega) v_172 1000000000 (t + 1) rfl ⟨⟨by omega, by omega⟩, Bst_n (by omega) (by omega) hcand (by rw [hv_172, h_161, hv_99, hk61]; rfl)⟩
                                  · simp only [w32_mod] at h_188
                                    refine ww_aload_n hX (pc := 191) dX11_plans_191 rfl ?_
                                    refine ww_getR hX (pc := 192) fX11_89 (by decide) (xs_49 hL) (xr_49_37 hL) dX11_plans_192 ?_
                                    refine ww_iload hX (pc := 195) dX11_plans_195 rfl ?_
                                    refine ww_iald hX (pc := 197) (xs_71 hL) (by decide) (by omega) (by omega) dX11_plans_197 ?_
                                    refine ww_goto hX (pc := 198) (tgt := 236) dX11_plans_198 (by decide) ?_
                                    refine ww_nmI (fun v_236 hv_236 => ?_)
                                    refine ww_istore hX (pc := 236) (lv' := [some (kR (some 49)), some (kI v_8), some (kI i), some (kI sa), some (kI bs), some (kI v_236), some (kI t), some (kI v_99), some (kI v_172)]) dX11_plans_236 (by decide) rfl rfl ?_
                                    refine ww_iload hX (pc := 238) dX11_plans_238 rfl ?_
                                    refine ww_istore hX (pc := 240) (lv' := [some (kR (some 49)), some (kI v_8), some (kI i), some (kI sa), some (kI v_172), some (kI v_236), some (kI t), some (kI v_99), some (kI v_172)]) dX11_plans_240 (by decide) rfl rfl ?_
                                    refine ww_iinc hX (pc := 242) (lv' := [some (kR (some 49)), some (kI v_8), some (kI i), some (kI sa), some (kI v_172), some (kI v_236), some (kI (t + 1)), some (kI v_99), some (kI v_172)]) dX11_plans_242 rfl (by decide) rfl rfl ?_
                                    refine ww_goto hX (pc := 245) (tgt := 80) dX11_plans_245 (by decide) ?_
                                    refine ww_sub [some (kR (some 49)), some (kI v_8), some (kI i), some (kI sa), some (kI v_172), some (kI v_236), some (kI (t + 1)), none, none] (aLe_s (aLe_s (aLe_s (aLe_s (aLe_s (aLe_s (aLe_s (aLe_n (aLe_n aLe_0))))))))) ?_
                                    exact ih_80 _ (by have hm9 := Sh0_e hq_80; omega) v_172 v_236 (t + 1) rfl ⟨⟨by omega, by omega⟩, Bst_n (by omega) (by omega) hcand (by rw [hv_172, h_161, hv_99, hk61]; rfl)⟩
                                · simp only [w32_mod] at h_178
                                  refine ww_goto hX (pc := 181) (tgt := 242) dX11_plans_181 (by decide) ?_
                                  refine ww_iinc hX (pc := 242) (lv' := [some (kR (some 49)), some (kI v_8), some (kI i), some (kI sa), some (kI bs), some (kI wy), some (kI (t + 1)), some (kI v_99), some (kI v_172)]) dX11_plans_242 rfl (by decide) rfl rfl ?_
                                  refine ww_goto hX (pc := 245) (tgt := 80) dX11_plans_245 (by decide) ?_
                                  refine ww_sub [some (kR (some 49)), some (kI v_8), some (kI i), some (kI sa), some (kI bs), some (kI wy), some (kI (t + 1)), none, none] (aLe_s (aLe_s (aLe_s (aLe_s (aLe_s (aLe_s (aLe_s (aLe_n (aLe_n aLe_0))))))))) ?_
                                  exact ih_80 _ (by have hm9 := Sh0_e hq_80; omega) bs wy (t + 1) rfl ⟨⟨by omega, by omega⟩, Bst_k hb⟩
                              · simp only [w32_mod] at h_148
                                refine ww_goto hX (pc := 151) (tgt := 242) dX11_plans_151 (by decide) ?_
                                refine ww_iinc hX (pc := 242) (lv' := [some (kR (some 49)), some (kI v_8), some (kI i), some (kI sa), some (kI bs), some (kI wy), some (kI (t + 1)), some (kI v_99), none]) dX11_plans_242 rfl (by decide) rfl rfl ?_
                                refine ww_goto hX (pc := 245) (tgt := 80) dX11_plans_245 (by decide) ?_
                                refine ww_sub [some (kR (some 49)), some (kI v_8), some (kI i), some (kI sa), some (kI bs), some (kI wy), some (kI (t + 1)), none, none] (aLe_s (aLe_s (aLe_s (aLe_s (aLe_s (aLe_s (aLe_s (aLe_n (aLe_n aLe_0))))))))) ?_
                                exact ih_80 _ (by have hm9 := Sh0_e hq_80; omega) bs wy (t + 1) rfl ⟨⟨by omega, by omega⟩, Bst_k hb⟩
                    exact hl_80 _ 1000000000 0 sa rfl ⟨⟨by omega, by omega⟩, Bst_0⟩
              exact hl_61 _ 0 I55 J55 rfl ⟨bkl55, tkl55, ⟨kI55, cI55, kJ55, rfl, rfl, ⟨by omega, by omega⟩, fun i9 s9 g1 g2 g3 g4 => hpl i9 s9 (by omega) g2 g3 g4⟩⟩
        exact hl_55 _ v_54 I11 J11 rfl ⟨bkl11, tkl11, ⟨kI11, cI11, kJ11, rfl, rfl, ⟨by omega, by omega⟩, fun i9 s9 g1 g2 => by omega⟩⟩
      · simp only [w32_mod] at h_16
        refine ww_aload_n hX (pc := 19) dX11_plans_19 rfl ?_
        refine ww_getR hX (pc := 20) fX11_86 (by decide) (xs_49 hL) (xr_49_36 hL) dX11_plans_20 ?_
        refine ww_sipush hX (pc := 23) (x := 256) dX11_plans_23 (by decide) ?_
        refine ww_iload_n hX (pc := 26) dX11_plans_26 rfl ?_
        refine ww_imul hX (pc := 27) dX11_plans_27 ?_
        refine ww_iload_n hX (pc := 28) dX11_plans_28 rfl ?_
        refine ww_iadd hX (pc := 29) dX11_plans_29 ?_
        refine ww_iconst hX (pc := 30) (x := 0) dX11_plans_30 rfl ?_
        refine ww_iast hX (pc := 31) (xs_70 hL) (by decide) (by omega) (by omega) dX11_plans_31 ?_
        refine ww_nmH (fun I_31 eI_31 => ?_)
        have kI_31 : Ch [70, 71] [] Ia I_31 := by rw [eI_31]; exact Ch_r kI11 (by decide) (by decide)
        have cI_31 : RX I_31 := by rw [eI_31]; exact RX_r cI11 (by decide)
        have qI_31 := RX_p cI_31
        have r304_I_31 : I_31 51 304 = I11 51 304 := by rw [eI_31, up2_off _ _ _ (by decide)]
        have r305_I_31 : I_31 51 305 = I11 51 305 := by rw [eI_31, up2_off _ _ _ (by decide)]
        have rf_I_31 : FU (I_31 51 304) = FU (I11 51 304) := by rw [r304_I_31]
        have bkI_31 : BK9 Ia I_31 := by rw [eI_31]; exact BK9_up bkl11 (by decide)
        have tkI_31 : TK9 Ia I_31 Ja J11 := by rw [eI_31]; exact TK9_up tkl11 (by decide)
        refine ww_aload_n hX (pc := 32) dX11_plans_32 rfl ?_
        refine ww_getR hX (pc := 33) fX11_89 (by decide) (xs_49 hL) (xr_49_37 hL) dX11_plans_33 ?_
        refine ww_sipush hX (pc := 36) (x := 256) dX11_plans_36 (by decide) ?_
        refine ww_iload_n hX (pc := 39) dX11_plans_39 rfl ?_
        refine ww_imul hX (pc := 40) dX11_plans_40 ?_
        refine ww_iload_n hX (pc := 41) dX11_plans_41 rfl ?_
        refine ww_iadd hX (pc := 42) dX11_plans_42 ?_
        refine ww_iconst hX (pc := 43) (x := 1) dX11_plans_43 rfl ?_
        refine ww_iast hX (pc := 44) (xs_71 hL) (by decide) (by omega) (by omega) dX11_plans_44 ?_
        refine ww_nmH (fun I_44 eI_44 => ?_)
        have kI_44 : Ch [70, 71] [] Ia I_44 := by rw [eI_44]; exact Ch_r kI_31 (by decide) (by decide)
        have cI_44 : RX I_44 := by rw [eI_44]; exact RX_r cI_31 (by decide)
        have qI_44 := RX_p cI_44
        have r304_I_44 : I_44 51 304 = I_31 51 304 := by rw [eI_44, up2_off _ _ _ (by decide)]
        have r305_I_44 : I_44 51 305 = I_31 51 305 := by rw [eI_44, up2_off _ _ _ (by decide)]
        have rf_I_44 : FU (I_44 51 304) = FU (I_31 51 304) := by rw [r304_I_44]
        have bkI_44 : BK9 Ia I_44 := by rw [eI_44]; exact BK9_up bkI_31 (by decide)
        have tkI_44 : TK9 Ia I_44 Ja J11 := by rw [eI_44]; exact TK9_up tkI_31 (by decide)
        refine ww_iinc hX (pc := 45) (lv' := [some (kR (some 49)), some (kI v_8), some (kI (q + 1)), none, none, none, none, none, none]) dX11_plans_45 rfl (by decide) rfl rfl ?_
        refine ww_goto hX (pc := 48) (tgt := 11) dX11_plans_48 (by decide) ?_
        exact ih_11 _ (by have hm9 := Sh0_e hq_11; omega) (q + 1) I_44 J11 rfl ⟨bkI_44, tkI_44, ⟨kI_44, cI_44, kJ11, by omega, by omega, by omega⟩⟩
  exact hl_11 _ 0 Ia Ja rfl ⟨BK9_rf, TK9_rf, ⟨Ch_rf, hQ, (Kp_rf (a := 49) (b := 73)), rfl, rfl, by omega⟩⟩
set_option maxHeartbeats 4000000 in
set_option maxRecDepth 20000 in
theorem c9_X11_cheap (l0 : Launch) {Ia Ja : aI1} {Ra : aR1} {Sa : aS1} (hL : LY Ra Sa) (hQ : RX Ia) {a : Int} (ha0 : -2147483648 ≤ a) (ha1 : a < 2147483648)  : CT l0 3 0 0 mX11_cheap [kR (some 49), kI a] Ia Ja Ra Sa (cI (fun x I' J' => (Ch [70, 71] [] Ia I' ∧ Kp 49 73 Ja J' ∧ RX I' ∧ True) ∧ QK9 Ia I' Ja J') Ra Sa) := by
  refine ct_in pn_X11 (Nat.le_of_ble_eq_true rfl) (fun X hX hT hIn => ?_)
  have hX : aK l0 X cX11_cheap 2 RX11 (some .int) 3 0 0 := hX
  change WW X 0 [some (kR (some 49)), some (kI a)] [] Ia Ja Ra Sa 0 0
  have qIa := RX_o hQ
  refine ww_iload_n hX (pc := 0) dX11_cheap_0 rfl ?_
  refine ww_iconst hX (pc := 1) (x := 0) dX11_cheap_1 rfl ?_
  refine ww_iconst hX (pc := 2) (x := 1) dX11_cheap_2 rfl ?_
  refine sI3 hX (pc := 3) sX11_101 (c_X11_lies l0 (by omega) (by omega) (by omega) (by omega) (by omega) (by omega)) (by decide) (Nat.le_refl 0) (Nat.le_refl 0) (Nat.le_of_ble_eq_true rfl) dX11_cheap_3 (fun x_3 I_3 J_3 h_3 => ?_)
  obtain ⟨rfl, rfl, h_3⟩ := h_3
  refine ww_if_ne hX (pc := 6) (tgt := 11) dX11_cheap_6 (by decide) (fun h_6 => ?_) (fun h_6 => ?_)
  · simp only [w32_mod] at h_6
    have k_3 := h_3.2.mp (by omega)
    clear h_3
    refine ww_aload_n hX (pc := 11) dX11_cheap_11 rfl ?_
    refine vV0 hX (pc := 12) sX11_341 (xs_49 hL) (c9_X11_plans l0 hL hQ ) (by decide) (Nat.le_refl 0) (Nat.le_refl 0) (Nat.le_of_ble_eq_true rfl) dX11_cheap_12 (fun I_12 J_12 h_12 => ?_)
    obtain ⟨h_12, qxI_12⟩ := h_12
    have kJ_12 : Kp 49 73 Ja J_12 := Kp_tr (Kp_rf (a := 49) (b := 73)) h_12.2.1
    have kI_12 : Ch [70, 71] [] Ia I_12 := Ch_tr Ch_rf (Ch_wd h_12.1 (by decide) (by decide))
    have cI_12 : RX I_12 := h_12.2.2.1
    have qI_12 := RX_o cI_12
    have r304_I_12 : I_12 51 304 = Ia 51 304 := by rw [h_12.1.1 51 (by decide) (by decide)]
    have r305_I_12 : I_12 51 305 = Ia 51 305 := by rw [h_12.1.1 51 (by decide) (by decide)]
    have rf_I_12 : FU (I_12 51 304) = FU (Ia 51 304) := by rw [r304_I_12]
    have bkI_12 : BK9 Ia I_12 := BK9_tr BK9_rf qxI_12.1
    have tkI_12 : TK9 Ia I_12 Ja J_12 := TK9_tr TK9_rf qxI_12.2
    refine ww_iload_n hX (pc := 15) dX11_cheap_15 rfl ?_
    refine ww_iconst hX (pc := 16) (x := 1) dX11_cheap_16 rfl ?_
    refine ww_icmp_ne hX (pc := 17) (tgt := 29) dX11_cheap_17 (by decide) (fun h_17 => ?_) (fun h_17 => ?_)
    · simp only [w32_mod] at h_17
      refine ww_aload_n hX (pc := 29) dX11_cheap_29 rfl ?_
      refine ww_getR hX (pc := 30) fX11_86 (by decide) (xs_49 hL) (xr_49_36 hL) dX11_cheap_30 ?_
      refine ww_iconst hX (pc := 33) (x := 0) dX11_cheap_33 rfl ?_
      refine ww_iald hX (pc := 34) (xs_70 hL) (by decide) (by omega) (by omega) dX11_cheap_34 ?_
      refine ww_toI (b := I_12 70 0) rfl ?_
      refine ww_ldcw hX (pc := 35) (x := 1000000000) dX11_cheap_35 tb_1457 ?_
      refine ww_icmp_ne hX (pc := 38) (tgt := 45) dX11_cheap_38 (by decide) (fun h_38 => ?_) (fun h_38 => ?_)
      · simp only [w32_mod] at h_38
        refine ww_aload_n hX (pc := 45) dX11_cheap_45 rfl ?_
        refine ww_getR hX (pc := 46) fX11_86 (by decide) (xs_49 hL) (xr_49_36 hL) dX11_cheap_46 ?_
        refine ww_iconst hX (pc := 49) (x := 0) dX11_cheap_49 rfl ?_
        refine ww_iald hX (pc := 50) (xs_70 hL) (by decide) (by omega) (by omega) dX11_cheap_50 ?_
        refine ww_toI (b := I_12 70 0) rfl ?_
        refine rI hX (pc := 51) hT (Nat.le_refl 0) (Nat.le_refl 0) dX11_cheap_51 ?_
        exact ⟨⟨kI_12, kJ_12, cI_12, trivial⟩, bkI_12, tkI_12⟩
      · simp only [w32_mod] at h_38
        refine ww_iconst hX (pc := 41) (x := (-1)) dX11_cheap_41 rfl ?_
        refine ww_goto hX (pc := 42) (tgt := 51) dX11_cheap_42 (by decide) ?_
        refine rI hX (pc := 51) hT (Nat.le_refl 0) (Nat.le_refl 0) dX11_cheap_51 ?_
        exact ⟨⟨kI_12, kJ_12, cI_12, trivial⟩, bkI_12, tkI_12⟩
    · simp only [w32_mod] at h_17
      refine ww_aload_n hX (pc := 20) dX11_cheap_20 rfl ?_
      refine ww_getR hX (pc := 21) fX11_89 (by decide) (xs_49 hL) (xr_49_37 hL) dX11_cheap_21 ?_
      refine ww_iconst hX (pc := 24) (x := 0) dX11_cheap_24 rfl ?_
      refine ww_iald hX (pc := 25) (xs_71 hL) (by decide) (by omega) (by omega) dX11_cheap_25 ?_
      refine ww_toI (b := I_12 71 0) rfl ?_
      refine ww_goto hX (pc := 26) (tgt := 51) dX11_cheap_26 (by decide) ?_
      refine rI hX (pc := 51) hT (Nat.le_refl 0) (Nat.le_refl 0) dX11_cheap_51 ?_
      exact ⟨⟨kI_12, kJ_12, cI_12, trivial⟩, bkI_12, tkI_12⟩
  · simp only [w32_mod] at h_6
    refine ww_iconst hX (pc := 9) (x := (-1)) dX11_cheap_9 rfl ?_
    refine rI hX (pc := 10) hT (Nat.le_refl 0) (Nat.le_refl 0) dX11_cheap_10 ?_
    exact ⟨⟨Ch_rf, (Kp_rf (a := 49) (b := 73)), hQ, trivial⟩, BK9_rf, TK9_rf⟩
set_option maxHeartbeats 4000000 in
set_option maxRecDepth 20000 in
theorem c9_X11_plan (l0 : Launch) {Ia Ja : aI1} {Ra : aR1} {Sa : aS1} (hL : LY Ra Sa) (hQ : RX Ia) {a : Int} (ha0 : -2147483648 ≤ a) (ha1 : a < 2147483648)  : CT l0 3 0 0 mX11_plan [kR (some 49), kI a] Ia Ja Ra Sa (cI (fun x I' J' => (Ch [70, 71] [] Ia I' ∧ Kp 49 73 Ja J' ∧ RX I' ∧ True) ∧ QK9 Ia I' Ja J') Ra Sa) := by
  refine ct_in pn_X11 (Nat.le_of_ble_eq_true rfl) (fun X hX hT hIn => ?_)
  have hX : aK l0 X cX11_plan 5 RX11 (some .int) 3 0 0 := hX
  change WW X 0 [some (kR (some 49)), some (kI a), none, none, none] [] Ia Ja Ra Sa 0 0
  have qIa := RX_p hQ
  refine ww_iload_n hX (pc := 0) dX11_plan_0 rfl ?_
  refine ww_iconst hX (pc := 1) (x := 0) dX11_plan_1 rfl ?_
  refine ww_aload_n hX (pc := 2) dX11_plan_2 rfl ?_
  refine ww_getR hX (pc := 3) fX11_20 (by decide) (xs_49 hL) (xr_49_3 hL) dX11_plan_3 ?_
  refine ww_sipush hX (pc := 6) (x := 309) dX11_plan_6 (by decide) ?_
  refine ww_iald hX (pc := 9) (xs_51 hL) (by decide) (by omega) (by omega) dX11_plan_9 ?_
  refine ww_toI (b := Ia 51 309) rfl ?_
  refine ww_iconst hX (pc := 10) (x := 1) dX11_plan_10 rfl ?_
  refine ww_isub hX (pc := 11) dX11_plan_11 ?_
  refine sI3 hX (pc := 12) sX11_101 (c_X11_lies l0 (by omega) (by omega) (by omega) (by omega) (by omega) (by omega)) (by decide) (Nat.le_refl 0) (Nat.le_refl 0) (Nat.le_of_ble_eq_true rfl) dX11_plan_12 (fun x_12 I_12 J_12 h_12 => ?_)
  obtain ⟨rfl, rfl, h_12⟩ := h_12
  refine ww_if_ne hX (pc := 15) (tgt := 20) dX11_plan_15 (by decide) (fun h_15 => ?_) (fun h_15 => ?_)
  · simp only [w32_mod] at h_15
    have k_12 := h_12.2.mp (by omega)
    clear h_12
    refine ww_aload_n hX (pc := 20) dX11_plan_20 rfl ?_
    refine vV0 hX (pc := 21) sX11_341 (xs_49 hL) (c9_X11_plans l0 hL hQ ) (by decide) (Nat.le_refl 0) (Nat.le_refl 0) (Nat.le_of_ble_eq_true rfl) dX11_plan_21 (fun I_21 J_21 h_21 => ?_)
    obtain ⟨h_21, qxI_21⟩ := h_21
    have kJ_21 : Kp 49 73 Ja J_21 := Kp_tr (Kp_rf (a := 49) (b := 73)) h_21.2.1
    have kI_21 : Ch [70, 71] [] Ia I_21 := Ch_tr Ch_rf (Ch_wd h_21.1 (by decide) (by decide))
    have cI_21 : RX I_21 := h_21.2.2.1
    have qI_21 := RX_p cI_21
    have r304_I_21 : I_21 51 304 = Ia 51 304 := by rw [h_21.1.1 51 (by decide) (by decide)]
    have r305_I_21 : I_21 51 305 = Ia 51 305 := by rw [h_21.1.1 51 (by decide) (by decide)]
    have r309_I_21 : I_21 51 309 = Ia 51 309 := by rw [h_21.1.1 51 (by decide) (by decide)]
    have rf_I_21 : FU (I_21 51 304) = FU (Ia 51 304) := by rw [r304_I_21]
    have hk21 : I_21 51 = Ia 51 := h_21.1.1 51 (by decide) (by decide)
    have hpl : ∀ i9 s9 : Int, 0 ≤ i9 → i9 < I_21 51 309 → 0 ≤ s9 → s9 ≤ FU (I_21 51 304) → PLs (I_21 51) (I_21 70) i9 s9 := by rw [hk21]; exact h_21.2.2.2
    have bkI_21 : BK9 Ia I_21 := BK9_tr BK9_rf qxI_21.1
    have tkI_21 : TK9 Ia I_21 Ja J_21 := TK9_tr TK9_rf qxI_21.2
    refine ww_aload_n hX (pc := 24) dX11_plan_24 rfl ?_
    refine ww_getR hX (pc := 25) fX11_86 (by decide) (xs_49 hL) (xr_49_36 hL) dX11_plan_25 ?_
    refine ww_iconst hX (pc := 28) (x := 0) dX11_plan_28 rfl ?_
    refine ww_iald hX (pc := 29) (xs_70 hL) (by decide) (by omega) (by omega) dX11_plan_29 ?_
    refine ww_toI (b := I_21 70 0) rfl ?_
    refine ww_ldcw hX (pc := 30) (x := 1000000000) dX11_plan_30 tb_1457 ?_
    refine ww_icmp_ne hX (pc := 33) (tgt := 38) dX11_plan_33 (by decide) (fun h_33 => ?_) (fun h_33 => ?_)
    · simp only [w32_mod] at h_33
      refine ww_iconst hX (pc := 38) (x := 0) dX11_plan_38 rfl ?_
      refine ww_istore_n hX (pc := 39) (lv' := [some (kR (some 49)), some (kI a), some (kI 0), none, none]) dX11_plan_39 (by decide) rfl rfl ?_
      refine ww_iconst hX (pc := 40) (x := 0) dX11_plan_40 rfl ?_
      refine ww_istore_n hX (pc := 41) (lv' := [some (kR (some 49)), some (kI a), some (kI 0), some (kI 0), none]) dX11_plan_41 (by decide) rfl rfl ?_
      have hl_42 : ∀ (n_42 : Nat) (sa : Int) (k : Int), (a + 1 - k).toNat = n_42 → ((0 ≤ k ∧ k ≤ a + 1) ∧ (0 ≤ sa ∧ sa ≤ FU (I_21 51 304)) ∧ (¬ w32 (I_21 70 (256 * k + sa).toNat) = w32 1000000000)) → WW X 42 [some (kR (some 49)), some (kI a), some (kI sa), some (kI k), none] [] I_21 J_21 Ra Sa 0 0 := by
        intro n_42
        induction n_42 using Nat.strongRecOn with
        | ind n_42 ih_42 =>
          intro sa k hm_42 hv_42
          have hq_42 := Sh0_i hm_42
          clear hm_42
          obtain ⟨hv, hv1, hnf⟩ := hv_42
          refine ww_iload_n hX (pc := 42) dX11_plan_42 rfl ?_
          refine ww_iload_n hX (pc := 43) dX11_plan_43 rfl ?_
          refine ww_icmp_gt hX (pc := 44) (tgt := 164) dX11_plan_44 (by decide) (fun h_44 => ?_) (fun h_44 => ?_)
          · simp only [w32_mod] at h_44
            refine ww_iload_n hX (pc := 164) dX11_plan_164 rfl ?_
            refine rI hX (pc := 165) hT (Nat.le_refl 0) (Nat.le_refl 0) dX11_plan_165 ?_
            exact ⟨⟨kI_21, kJ_21, cI_21, trivial⟩, bkI_21, tkI_21⟩
          · simp only [w32_mod] at h_44
            refine ww_iload_n hX (pc := 47) dX11_plan_47 rfl ?_
            refine ww_istore hX (pc := 48) (lv' := [some (kR (some 49)), some (kI a), some (kI sa), some (kI k), some (kI sa)]) dX11_plan_48 (by decide) rfl rfl ?_
            obtain ⟨tw, hw1, hw2, ⟨hc1, hc2, hc3⟩, hw4⟩ := PL_w (hpl k sa (by omega) (by omega) (by omega) (by omega)) hnf
            have hl_50 : ∀ (n_50 : Nat) (t : Int), (tw - t).toNat = n_50 → ((sa ≤ t ∧ t ≤ tw)) → WW X 50 [some (kR (some 49)), some (kI a), some (kI sa), some (kI k), some (kI t)] [] I_21 J_21 Ra Sa 0 0 := by
              intro n_50
              induction n_50 using Nat.strongRecOn with
              | ind n_50 ih_50 =>
                intro t hm_50 hv_50
                have hq_50 := Sh0_i hm_50
                clear hm_50
                have hu := hv_50
                refine ww_aload_n hX (pc := 50) dX11_plan_50 rfl ?_
                refine ww_iload hX (pc := 51) dX11_plan_51 rfl ?_
                refine vI1 hX (pc := 53) sX11_126 (xs_49 hL) (c_X11_readOf l0 hL cI_21 (by omega) (by omega)) (by decide) (Nat.le_refl 0) (Nat.le_refl 0) (Nat.le_of_ble_eq_true rfl) dX11_plan_53 (fun x_53 I_53 J_53 h_53 => ?_)
                obtain ⟨rfl, rfl, h_53⟩ := h_53
                refine ww_aload_n hX (pc := 56) dX11_plan_56 rfl ?_
                refine ww_getR hX (pc := 57) fX11_20 (by decide) (xs_49 hL) (xr_49_3 hL) dX11_plan_57 ?_
                refine ww_sipush hX (pc := 60) (x := 288) dX11_plan_60 (by decide) ?_
                refine ww_iload_n hX (pc := 63) dX11_plan_63 rfl ?_
                refine ww_iadd hX (pc := 64) dX11_plan_64 ?_
                refine ww_iald hX (pc := 65) (xs_51 hL) (by decide) (by omega) (by omega) dX11_plan_65 ?_
                refine ww_icmp_ne hX (pc := 66) (tgt := 149) dX11_plan_66 (by decide) (fun h_66 => ?_) (fun h_66 => ?_)
                · simp only [w32_mod] at h_66
                  have hne : ¬ t = tw := fun e9 => by rw [← e9] at hc1; simp only [w32_mod] at hc1; omega
                  refine ww_iinc hX (pc := 149) (lv' := [some (kR (some 49)), some (kI a), some (kI sa), some (kI k), some (kI (t + 1))]) dX11_plan_149 rfl (by decide) rfl rfl ?_
                  refine ww_goto hX (pc := 152) (tgt := 50) dX11_plan_152 (by decide) ?_
                  exact ih_50 _ (by have hm9 := Sh0_e hq_50; omega) (t + 1) rfl (by omega)
                · simp only [w32_mod] at h_66
                  refine ww_aload_n hX (pc := 69) dX11_plan_69 rfl ?_
                  refine ww_iload_n hX (pc := 70) dX11_plan_70 rfl ?_
                  refine ww_iload hX (pc := 71) dX11_plan_71 rfl ?_
                  refine ww_aload_n hX (pc := 73) dX11_plan_73 rfl ?_
                  refine ww_getR hX (pc := 74) fX11_20 (by decide) (xs_49 hL) (xr_49_3 hL) dX11_plan_74 ?_
                  refine ww_sipush hX (pc := 77) (x := 306) dX11_plan_77 (by decide) ?_
                  refine ww_iald hX (pc := 80) (xs_51 hL) (by decide) (by omega) (by omega) dX11_plan_80 ?_
                  refine ww_toI (b := I_21 51 306) rfl ?_
                  refine vI3 hX (pc := 81) sX11_271 (xs_49 hL) (c_X11_canCome l0 hL cI_21 ) (by decide) (Nat.le_refl 0) (Nat.le_refl 0) (Nat.le_of_ble_eq_true rfl) dX11_plan_81 (fun x_81 I_81 J_81 h_81 => ?_)
                  obtain ⟨rfl, rfl, h_81⟩ := h_81
                  refine ww_if_eq hX (pc := 84) (tgt := 149) dX11_plan_84 (by decide) (fun h_84 => ?_) (fun h_84 => ?_)
                  · simp only [w32_mod] at h_84
                    have hne : ¬ t = tw := fun e9 => by rw [← e9] at hc2; have := h_81.2.mpr hc2; omega
                    refine ww_iinc hX (pc := 149) (lv' := [some (kR (some 49)), some (kI a), some (kI sa), some (kI k), some (kI (t + 1))]) dX11_plan_149 rfl (by decide) rfl rfl ?_
                    refine ww_goto hX (pc := 152) (tgt := 50) dX11_plan_152 (by decide) ?_
                    exact ih_50 _ (by have hm9 := Sh0_e hq_50; omega) (t + 1) rfl (by omega)
                  · simp only [w32_mod] at h_84
                    have k_81 := h_81.2.mp (by omega)
                    clear h_81
                    refine ww_aload_n hX (pc := 87) dX11_plan_87 rfl ?_
                    refine ww_getR hX (pc := 88) fX11_86 (by decide) (xs_49 hL) (xr_49_36 hL) dX11_plan_88 ?_
                    refine ww_sipush hX (pc := 91) (x := 256) dX11_plan_91 (by decide) ?_
                    refine ww_iload_n hX (pc := 94) dX11_plan_94 rfl ?_
                    refine ww_iconst hX (pc := 95) (x := 1) dX11_plan_95 rfl ?_
                    refine ww_iadd hX (pc := 96) dX11_plan_96 ?_
                    refine ww_imul hX (pc := 97) dX11_plan_97 ?_
                    refine ww_iload hX (pc := 98) dX11_plan_98 rfl ?_
                    refine ww_iadd hX (pc := 100) dX11_plan_100 ?_
                    refine ww_iald hX (pc := 101) (xs_70 hL) (by decide) (by omega) (by omega) dX11_plan_101 ?_
                    refine ww_ldcw hX (pc := 102) (x := 1000000000) dX11_plan_102 tb_1457 ?_
                    refine ww_icmp_eq hX (pc := 105) (tgt := 149) dX11_plan_105 (by decide) (fun h_105 => ?_) (fun h_105 => ?_)
                    · simp only [w32_mod] at h_105
                      have hne : ¬ t = tw := fun e9 => by rw [← e9] at hc3; simp only [w32_mod] at hc3; omega
                      refine ww_iinc hX (pc := 149) (lv' := [some (kR (some 49)), some (kI a), some (kI sa), some (kI k), some (kI (t + 1))]) dX11_plan_149 rfl (by decide) rfl rfl ?_
                      refine ww_goto hX (pc := 152) (tgt := 50) dX11_plan_152 (by decide) ?_
                      exact ih_50 _ (by have hm9 := Sh0_e hq_50; omega) (t + 1) rfl (by omega)
                    · simp only [w32_mod] at h_105
                      have hnf2 : ¬ w32 (I_21 70 (256 * (k + 1) + t).toNat) = w32 1000000000 := by simp only [w32_mod]; omega
                      refine ww_aload_n hX (pc := 108) dX11_plan_108 rfl ?_
                      refine ww_iload hX (pc := 109) dX11_plan_109 rfl ?_
                      refine ww_iload_n hX (pc := 111) dX11_plan_111 rfl ?_
                      refine ww_iconst hX (pc := 112) (x := (-1)) dX11_plan_112 rfl ?_
                      refine ww_ixor hX (pc := 113) dX11_plan_113 ?_
                      refine ww_iand hX (pc := 114) dX11_plan_114 ?_
                      refine vI1 hX (pc := 115) sX11_301 (xs_49 hL) (c_X11_oilOf l0 hL cI_21 ) (by decide) (Nat.le_refl 0) (Nat.le_refl 0) (Nat.le_of_ble_eq_true rfl) dX11_plan_115 (fun x_115 I_115 J_115 h_115 => ?_)
                      obtain ⟨rfl, rfl, h_115⟩ := h_115
                      refine ww_aload_n hX (pc := 118) dX11_plan_118 rfl ?_
                      refine ww_getR hX (pc := 119) fX11_86 (by decide) (xs_49 hL) (xr_49_36 hL) dX11_plan_119 ?_
                      refine ww_sipush hX (pc := 122) (x := 256) dX11_plan_122 (by decide) ?_
                      refine ww_iload_n hX (pc := 125) dX11_plan_125 rfl ?_
                      refine ww_iconst hX (pc := 126) (x := 1) dX11_plan_126 rfl ?_
                      refine ww_iadd hX (pc := 127) dX11_plan_127 ?_
                      refine ww_imul hX (pc := 128) dX11_plan_128 ?_
                      refine ww_iload hX (pc := 129) dX11_plan_129 rfl ?_
                      refine ww_iadd hX (pc := 131) dX11_plan_131 ?_
                      refine ww_iald hX (pc := 132) (xs_70 hL) (by decide) (by omega) (by omega) dX11_plan_132 ?_
                      refine ww_iadd hX (pc := 133) dX11_plan_133 ?_
                      refine ww_aload_n hX (pc := 134) dX11_plan_134 rfl ?_
                      refine ww_getR hX (pc := 135) fX11_86 (by decide) (xs_49 hL) (xr_49_36 hL) dX11_plan_135 ?_
                      refine ww_sipush hX (pc := 138) (x := 256) dX11_plan_138 (by decide) ?_
                      refine ww_iload_n hX (pc := 141) dX11_plan_141 rfl ?_
                      refine ww_imul hX (pc := 142) dX11_plan_142 ?_
                      refine ww_iload_n hX (pc := 143) dX11_plan_143 rfl ?_
                      refine ww_iadd hX (pc := 144) dX11_plan_144 ?_
                      refine ww_iald hX (pc := 145) (xs_70 hL) (by decide) (by omega) (by omega) dX11_plan_145 ?_
                      refine ww_icmp_eq hX (pc := 146) (tgt := 155) dX11_plan_146 (by decide) (fun h_146 => ?_) (fun h_146 => ?_)
                      · simp only [w32_mod] at h_146
                        refine ww_iload hX (pc := 155) dX11_plan_155 rfl ?_
                        refine ww_istore_n hX (pc := 157) (lv' := [some (kR (some 49)), some (kI a), some (kI t), some (kI k), some (kI t)]) dX11_plan_157 (by decide) rfl rfl ?_
                        refine ww_iinc hX (pc := 158) (lv' := [some (kR (some 49)), some (kI a), some (kI t), some (kI (k + 1)), some (kI t)]) dX11_plan_158 rfl (by decide) rfl rfl ?_
                        refine ww_goto hX (pc := 161) (tgt := 42) dX11_plan_161 (by decide) ?_
                        refine ww_sub [some (kR (some 49)), some (kI a), some (kI t), some (kI (k + 1)), none] (aLe_s (aLe_s (aLe_s (aLe_s (aLe_n aLe_0))))) ?_
                        exact ih_42 _ (by have hm9 := Sh0_e hq_42; omega) t (k + 1) rfl ⟨⟨by omega, by omega⟩, ⟨by omega, by omega⟩, hnf2⟩
                      · simp only [w32_mod] at h_146
                        have hne : ¬ t = tw := fun e9 => by rw [← e9] at hw4; unfold vPl at hw4; rw [← h_115] at hw4; omega
                        refine ww_iinc hX (pc := 149) (lv' := [some (kR (some 49)), some (kI a), some (kI sa), some (kI k), some (kI (t + 1))]) dX11_plan_149 rfl (by decide) rfl rfl ?_
                        refine ww_goto hX (pc := 152) (tgt := 50) dX11_plan_152 (by decide) ?_
                        exact ih_50 _ (by have hm9 := Sh0_e hq_50; omega) (t + 1) rfl (by omega)
            exact hl_50 _ sa rfl (by omega)
      exact hl_42 _ 0 0 rfl ⟨⟨by omega, by omega⟩, ⟨by omega, by omega⟩, by rw [show (256 * 0 + 0 : Int).toNat = 0 from rfl]; simp only [w32_mod]; omega⟩
    · simp only [w32_mod] at h_33
      refine ww_iconst hX (pc := 36) (x := (-1)) dX11_plan_36 rfl ?_
      refine rI hX (pc := 37) hT (Nat.le_refl 0) (Nat.le_refl 0) dX11_plan_37 ?_
      exact ⟨⟨kI_21, kJ_21, cI_21, trivial⟩, bkI_21, tkI_21⟩
  · simp only [w32_mod] at h_15
    refine ww_iconst hX (pc := 18) (x := (-1)) dX11_plan_18 rfl ?_
    refine rI hX (pc := 19) hT (Nat.le_refl 0) (Nat.le_refl 0) dX11_plan_19 ?_
    exact ⟨⟨Ch_rf, (Kp_rf (a := 49) (b := 73)), hQ, trivial⟩, BK9_rf, TK9_rf⟩
set_option maxHeartbeats 4000000 in
set_option maxRecDepth 20000 in
theorem c9_X11_codes0 (l0 : Launch) {Ia Ja : aI1} {Ra : aR1} {Sa : aS1} (hL : LY Ra Sa) (hQ : RX Ia) {a b c : Int} (ha0 : 1 ≤ a) (ha1 : a ≤ 3) (hb0 : 2 ≤ b) (hb1 : b ≤ 4) (hc0 : 0 ≤ c) (hc1 : c ≤ 8)  : CT l0 3 0 0 mX11_codes0 [kR (some 49), kI a, kI b, kI c] Ia Ja Ra Sa (cV (fun I' J' => (Ch [51, 61, 65, 66] [25, 31] Ia I' ∧ Kp 49 73 Ja J' ∧ RX I' ∧ I' 51 304 = Ia 51 304 ∧ I' 51 305 = Ia 51 305 ∧ I' 51 309 = Ia 51 309 ∧ I' 49 31 = ((cN b.toNat (FU a + 1).toNat c.toNat (b.toNat ^ (FU a + 1).toNat) : Nat) : Int) ∧ I' 51 = Ia 51 ∧ zFd b.toNat (FU a + 1).toNat c.toNat (b.toNat ^ (FU a + 1).toNat) (I' 66)) ∧ QK9 Ia I' Ja J') Ra Sa) := by
  refine ct_in pn_X11 (Nat.le_of_ble_eq_true rfl) (fun X hX hT hIn => ?_)
  have hX : aK l0 X cX11_codes0 10 RX11 none 3 0 0 := hX
  change WW X 0 [some (kR (some 49)), some (kI a), some (kI b), some (kI c), none, none, none, none, none, none] [] Ia Ja Ra Sa 0 0
  have qIa := RX_s hQ
  have hfa := FU_r (n := a) (by omega) (by omega)
  have hfa7 := FU_3 (n := a) (by omega) (by omega)
  refine ww_iconst hX (pc := 0) (x := 0) dX11_codes0_0 rfl ?_
  refine ww_istore hX (pc := 1) (lv' := [some (kR (some 49)), some (kI a), some (kI b), some (kI c), some (kI 0), none, none, none, none, none]) dX11_codes0_1 (by decide) rfl rfl ?_
  have hl_3 : ∀ (n_3 : Nat) (i : Int) (I3 : aI1) (J3 : aI1), (256 - i).toNat = n_3 → (BK9 Ia I3 ∧ TK9 Ia I3 Ja J3 ∧ (Ch [51, 61, 65, 66] [25, 31] Ia I3 ∧ RX I3 ∧ Kp 49 73 Ja J3 ∧ I3 51 304 = Ia 51 304 ∧ I3 51 305 = Ia 51 305 ∧ I3 51 309 = Ia 51 309 ∧ I3 49 31 = Ia 49 31 ∧ (∀ j : Nat, 256 ≤ j → j ≠ 304 → j ≠ 305 → I3 51 j = Ia 51 j) ∧ (0 ≤ i ∧ i ≤ 256) ∧ I3 51 = Ia 51 ∧ (∀ s : Nat, (s : Int) < i → I3 65 s = Ia 51 s))) → WW X 3 [some (kR (some 49)), some (kI a), some (kI b), some (kI c), some (kI i), none, none, none, none, none] [] I3 J3 Ra Sa 0 0 := by
    intro n_3
    induction n_3 using Nat.strongRecOn with
    | ind n_3 ih_3 =>
      intro i I3 J3 hm_3 hv_3
      have hq_3 := Sh0_i hm_3
      clear hm_3
      obtain ⟨bkl3, tkl3, hv_3⟩ := hv_3
      obtain ⟨kI3, cI3, kJ3, r304_I3, r305_I3, r309_I3, f31_I3, o_I3, hv, e51_3, e65_3⟩ := hv_3
      have qI3 := RX_s cI3
      have rf_I3 : FU (I3 51 304) = FU (Ia 51 304) := by rw [r304_I3]
      refine ww_iload hX (pc := 3) dX11_codes0_3 rfl ?_
      refine ww_sipush hX (pc := 5) (x := 256) dX11_codes0_5 (by decide) ?_
      refine ww_icmp_ge hX (pc := 8) (tgt := 30) dX11_codes0_8 (by decide) (fun h_8 => ?_) (fun h_8 => ?_)
      · simp only [w32_mod] at h_8
        refine ww_aload_n hX (pc := 30) dX11_codes0_30 rfl ?_
        refine ww_getR hX (pc := 31) fX11_20 (by decide) (xs_49 hL) (xr_49_3 hL) dX11_codes0_31 ?_
        refine ww_sipush hX (pc := 34) (x := 304) dX11_codes0_34 (by decide) ?_
        refine ww_iald hX (pc := 37) (xs_51 hL) (by decide) (by omega) (by omega) dX11_codes0_37 ?_
        refine ww_toI (b := I3 51 304) rfl ?_
        refine ww_nmI (fun v_38 hv_38 => ?_)
        refine ww_istore hX (pc := 38) (lv' := [some (kR (some 49)), some (kI a), some (kI b), some (kI c), some (kI v_38), none, none, none, none, none]) dX11_codes0_38 (by decide) rfl rfl ?_
        refine ww_aload_n hX (pc := 40) dX11_codes0_40 rfl ?_
        refine ww_getR hX (pc := 41) fX11_20 (by decide) (xs_49 hL) (xr_49_3 hL) dX11_codes0_41 ?_
        refine ww_sipush hX (pc := 44) (x := 305) dX11_codes0_44 (by decide) ?_
        refine ww_iald hX (pc := 47) (xs_51 hL) (by decide) (by omega) (by omega) dX11_codes0_47 ?_
        refine ww_toI (b := I3 51 305) rfl ?_
        refine ww_nmI (fun v_48 hv_48 => ?_)
        refine ww_istore hX (pc := 48) (lv' := [some (kR (some 49)), some (kI a), some (kI b), some (kI c), some (kI v_38), some (kI v_48), none, none, none, none]) dX11_codes0_48 (by decide) rfl rfl ?_
        refine ww_aload_n hX (pc := 50) dX11_codes0_50 rfl ?_
        refine ww_getR hX (pc := 51) fX11_20 (by decide) (xs_49 hL) (xr_49_3 hL) dX11_codes0_51 ?_
        refine ww_sipush hX (pc := 54) (x := 304) dX11_codes0_54 (by decide) ?_
        refine ww_iload_n hX (pc := 57) dX11_codes0_57 rfl ?_
        refine ww_iast hX (pc := 58) (xs_51 hL) (by decide) (by omega) (by omega) dX11_codes0_58 ?_
        refine ww_nmH (fun I_58 eI_58 => ?_)
        have kI_58 : Ch [51, 61, 65, 66] [25, 31] Ia I_58 := by rw [eI_58]; exact Ch_r kI3 (by decide) (by decide)
        have cI_58 : RX I_58 := by rw [eI_58]; exact RX_304 cI3 (by omega) (by omega)
        have qI_58 := RX_s cI_58
        have r305_I_58 : I_58 51 305 = I3 51 305 := by rw [eI_58, up2_n _ _ (Or.inr (by decide))]
        have r309_I_58 : I_58 51 309 = I3 51 309 := by rw [eI_58, up2_n _ _ (Or.inr (by decide))]
        have f31_I_58 : I_58 49 31 = I3 49 31 := by rw [eI_58, up2_off _ _ _ (by decide)]
        have n304 : I_58 51 304 = a := by rw [eI_58]; exact up2_s _ _ _ _
        have hf7 : FU (I_58 51 304) ≤ 7 := FU_3 (by omega) (by omega)
        have hfn : FU (I_58 51 304) = FU a := by rw [n304]
        have o_I_58 : ∀ j : Nat, 256 ≤ j → j ≠ 304 → j ≠ 305 → I_58 51 j = Ia 51 j := fun j h1 h2 h3 => (by rw [eI_58, up2_n _ _ (Or.inr (by omega))] : I_58 51 j = I3 51 j).trans (o_I3 j h1 h2 h3)
        have y65_I_58 : I_58 65 = I3 65 := by rw [eI_58, up2_off _ _ _ (by decide)]
        have y66_I_58 : I_58 66 = I3 66 := by rw [eI_58, up2_off _ _ _ (by decide)]
        have bkI_58 : BK9 Ia I_58 := by rw [eI_58]; exact BK9_up bkl3 (by decide)
        have tkI_58 : TK9 Ia I_58 Ja J3 := by rw [eI_58]; exact TK9_up tkl3 (by decide)
        refine ww_aload_n hX (pc := 59) dX11_codes0_59 rfl ?_
        refine ww_getR hX (pc := 60) fX11_20 (by decide) (xs_49 hL) (xr_49_3 hL) dX11_codes0_60 ?_
        refine ww_sipush hX (pc := 63) (x := 305) dX11_codes0_63 (by decide) ?_
        refine ww_iload_n hX (pc := 66) dX11_codes0_66 rfl ?_
        refine ww_iast hX (pc := 67) (xs_51 hL) (by decide) (by omega) (by omega) dX11_codes0_67 ?_
        refine ww_nmH (fun I_67 eI_67 => ?_)
        have kI_67 : Ch [51, 61, 65, 66] [25, 31] Ia I_67 := by rw [eI_67]; exact Ch_r kI_58 (by decide) (by decide)
        have cI_67 : RX I_67 := by rw [eI_67]; exact RX_305 cI_58 (by omega) (by omega)
        have qI_67 := RX_s cI_67
        have r304_I_67 : I_67 51 304 = I_58 51 304 := by rw [eI_67, up2_n _ _ (Or.inr (by decide))]
        have r309_I_67 : I_67 51 309 = I_58 51 309 := by rw [eI_67, up2_n _ _ (Or.inr (by decide))]
        have f31_I_67 : I_67 49 31 = I_58 49 31 := by rw [eI_67, up2_off _ _ _ (by decide)]
        have rf_I_67 : FU (I_67 51 304) = FU (I_58 51 304) := by rw [r304_I_67]
        have n305 : I_67 51 305 = b := by rw [eI_67]; exact up2_s _ _ _ _
        have o_I_67 : ∀ j : Nat, 256 ≤ j → j ≠ 304 → j ≠ 305 → I_67 51 j = Ia 51 j := fun j h1 h2 h3 => (by rw [eI_67, up2_n _ _ (Or.inr (by omega))] : I_67 51 j = I_58 51 j).trans (o_I_58 j h1 h2 h3)
        have y65_I_67 : I_67 65 = I_58 65 := by rw [eI_67, up2_off _ _ _ (by decide)]
        have y66_I_67 : I_67 66 = I_58 66 := by rw [eI_67, up2_off _ _ _ (by decide)]
        have bkI_67 : BK9 Ia I_67 := by rw [eI_67]; exact BK9_up bkI_58 (by decide)
        have tkI_67 : TK9 Ia I_67 Ja J3 := by rw [eI_67]; exact TK9_up tkI_58 (by decide)
        refine ww_iconst hX (pc := 68) (x := 1) dX11_codes0_68 rfl ?_
        refine ww_istore hX (pc := 69) (lv' := [some (kR (some 49)), some (kI a), some (kI b), some (kI c), some (kI v_38), some (kI v_48), some (kI 1), none, none, none]) dX11_codes0_69 (by decide) rfl rfl ?_
        refine ww_iconst hX (pc := 71) (x := 0) dX11_codes0_71 rfl ?_
        refine ww_istore hX (pc := 72) (lv' := [some (kR (some 49)), some (kI a), some (kI b), some (kI c), some (kI v_38), some (kI v_48), some (kI 1), some (kI 0), none, none]) dX11_codes0_72 (by decide) rfl rfl ?_
        have hl_74 : ∀ (n_74 : Nat) (al : Int) (i7 : Int), (256 - i7).toNat = n_74 → ((0 ≤ i7 ∧ i7 ≤ FU a + 1) ∧ al = b ^ i7.toNat) → WW X 74 [some (kR (some 49)), some (kI a), some (kI b), some (kI c), some (kI v_38), some (kI v_48), some (kI al), some (kI i7), none, none] [] I_67 J3 Ra Sa 0 0 := by
          intro n_74
          induction n_74 using Nat.strongRecOn with
          | ind n_74 ih_74 =>
            intro al i7 hm_74 hv_74
            have hq_74 := Sh0_i hm_74
            clear hm_74
            obtain ⟨hv7, hal⟩ := hv_74
            refine ww_iload hX (pc := 74) dX11_codes0_74 rfl ?_
            refine ww_aload_n hX (pc := 76) dX11_codes0_76 rfl ?_
            refine vI0 hX (pc := 77) sX11_112 (xs_49 hL) (c_X11_states l0 hL cI_67 ) (by decide) (Nat.le_refl 0) (Nat.le_refl 0) (Nat.le_of_ble_eq_true rfl) dX11_codes0_77 (fun x_77 I_77 J_77 h_77 => ?_)
            obtain ⟨rfl, rfl, h_77⟩ := h_77
            refine ww_icmp_ge hX (pc := 80) (tgt := 95) dX11_codes0_80 (by decide) (fun h_80 => ?_) (fun h_80 => ?_)
            · simp only [w32_mod] at h_80
              have hpl := pow_65536 (b := b) (n := (FU a + 1).toNat) (by omega) (by omega) (by omega)
              have hal2 : al = b ^ (FU a + 1).toNat := by rw [hal]; exact congrArg (fun z => b ^ z) (by omega)
              refine ww_aload_n hX (pc := 95) dX11_codes0_95 rfl ?_
              refine ww_iconst hX (pc := 96) (x := 0) dX11_codes0_96 rfl ?_
              refine ww_putI hX (pc := 97) (fun h9 => absurd h9 (by decide)) gX11_324 rfl (xs_49 hL) dX11_codes0_97 ?_
              refine ww_nmH (fun I_97 eI_97 => ?_)
              have kI_97 : Ch [51, 61, 65, 66] [25, 31] Ia I_97 := by rw [eI_97]; exact Ch_f kI_67 (by decide)
              have cI_97 : RX I_97 := by rw [eI_97]; exact RX_f cI_67 (by decide)
              have qI_97 := RX_s cI_97
              have r304_I_97 : I_97 51 304 = I_67 51 304 := by rw [eI_97, up2_off _ _ _ (by decide)]
              have r305_I_97 : I_97 51 305 = I_67 51 305 := by rw [eI_97, up2_off _ _ _ (by decide)]
              have r309_I_97 : I_97 51 309 = I_67 51 309 := by rw [eI_97, up2_off _ _ _ (by decide)]
              have rf_I_97 : FU (I_97 51 304) = FU (I_67 51 304) := by rw [r304_I_97]
              have z31 : I_97 49 31 = 0 := by rw [eI_97]; exact up2_s _ _ _ _
              have o_I_97 : ∀ j : Nat, 256 ≤ j → j ≠ 304 → j ≠ 305 → I_97 51 j = Ia 51 j := fun j h1 h2 h3 => (by rw [eI_97, up2_off _ _ _ (by decide)] : I_97 51 j = I_67 51 j).trans (o_I_67 j h1 h2 h3)
              have y51_I_97 : I_97 51 = I_67 51 := by rw [eI_97, up2_off _ _ _ (by decide)]
              have y65_I_97 : I_97 65 = I_67 65 := by rw [eI_97, up2_off _ _ _ (by decide)]
              have y66_I_97 : I_97 66 = I_67 66 := by rw [eI_97, up2_off _ _ _ (by decide)]
              have bkI_97 : BK9 Ia I_97 := by rw [eI_97]; exact BK9_f bkI_67 (by decide)
              have tkI_97 : TK9 Ia I_97 Ja J3 := by rw [eI_97]; exact TK9_f tkI_67 (by decide)
              refine ww_iconst hX (pc := 100) (x := 0) dX11_codes0_100 rfl ?_
              refine ww_istore hX (pc := 101) (lv' := [some (kR (some 49)), some (kI a), some (kI b), some (kI c), some (kI v_38), some (kI v_48), some (kI al), some (kI 0), none, none]) dX11_codes0_101 (by decide) rfl rfl ?_
              have hl_103 : ∀ (n_103 : Nat) (cc9 : Int) (I103 : aI1) (J103 : aI1), (b ^ (FU a + 1).toNat - cc9).toNat = n_103 → (BK9 Ia I103 ∧ (Ch [51, 61, 65, 66] [25, 31] Ia I103 ∧ RX I103 ∧ Kp 49 73 Ja J103 ∧ I103 51 304 = I_97 51 304 ∧ I103 51 305 = I_97 51 305 ∧ I103 51 309 = I_97 51 309 ∧ (∀ j : Nat, 256 ≤ j → j ≠ 304 → j ≠ 305 → I103 51 j = Ia 51 j) ∧ (0 ≤ cc9 ∧ cc9 ≤ b ^ (FU a + 1).toNat) ∧ I103 49 31 = ((cN b.toNat (FU a + 1).toNat c.toNat (cc9.toNat) : Nat) : Int) ∧ (∀ s : Nat, s < 256 → I103 65 s = Ia 51 s) ∧ zFd b.toNat (FU a + 1).toNat c.toNat cc9.toNat (I103 66))) → WW X 103 [some (kR (some 49)), some (kI a), some (kI b), some (kI c), some (kI v_38), some (kI v_48), some (kI al), some (kI cc9), none, none] [] I103 J103 Ra Sa 0 0 := by
                intro n_103
                induction n_103 using Nat.strongRecOn with
                | ind n_103 ih_103 =>
                  intro cc9 I103 J103 hm_103 hv_103
                  have hq_103 := Sh0_i hm_103
                  clear hm_103
                  obtain ⟨bkl103, hv_103⟩ := hv_103
                  obtain ⟨kI103, cI103, kJ103, r304_I103, r305_I103, r309_I103, o_I103, hu, hct, hsv, hfd⟩ := hv_103
                  have qI103 := RX_s cI103
                  have rf_I103 : FU (I103 51 304) = FU (I_97 51 304) := by rw [r304_I103]
                  refine ww_iload hX (pc := 103) dX11_codes0_103 rfl ?_
                  refine ww_iload hX (pc := 105) dX11_codes0_105 rfl ?_
                  refine ww_icmp_ge hX (pc := 107) (tgt := 224) dX11_codes0_107 (by decide) (fun h_107 => ?_) (fun h_107 => ?_)
                  · simp only [w32_mod] at h_107
                    have hcn : I103 49 31 = ((cN b.toNat (FU a + 1).toNat c.toNat (b.toNat ^ (FU a + 1).toNat) : Nat) : Int) := by
                      rw [hct]
                      have h9 : cc9 = b ^ (FU a + 1).toNat := by omega
                      rw [h9, pow_nat _ (by omega)]
                    refine ww_aload_n hX (pc := 224) dX11_codes0_224 rfl ?_
                    refine ww_getR hX (pc := 225) fX11_20 (by decide) (xs_49 hL) (xr_49_3 hL) dX11_codes0_225 ?_
                    refine ww_sipush hX (pc := 228) (x := 304) dX11_codes0_228 (by decide) ?_
                    refine ww_iload hX (pc := 231) dX11_codes0_231 rfl ?_
                    refine ww_iast hX (pc := 233) (xs_51 hL) (by decide) (by omega) (by omega) dX11_codes0_233 ?_
                    refine ww_nmH (fun I_233 eI_233 => ?_)
                    have kI_233 : Ch [51, 61, 65, 66] [25, 31] Ia I_233 := by rw [eI_233]; exact Ch_r kI103 (by decide) (by decide)
                    have cI_233 : RX I_233 := by rw [eI_233]; exact RX_304 cI103 (by omega) (by omega)
                    have qI_233 := RX_s cI_233
                    have r305_I_233 : I_233 51 305 = I103 51 305 := by rw [eI_233, up2_n _ _ (Or.inr (by decide))]
                    have r309_I_233 : I_233 51 309 = I103 51 309 := by rw [eI_233, up2_n _ _ (Or.inr (by decide))]
                    have f31_I_233 : I_233 49 31 = I103 49 31 := by rw [eI_233, up2_off _ _ _ (by decide)]
                    have m304 : I_233 51 304 = v_38 := by rw [eI_233]; exact up2_s _ _ _ _
                    have o_I_233 : ∀ j : Nat, 256 ≤ j → j ≠ 304 → j ≠ 305 → I_233 51 j = Ia 51 j := fun j h1 h2 h3 => (by rw [eI_233, up2_n _ _ (Or.inr (by omega))] : I_233 51 j = I103 51 j).trans (o_I103 j h1 h2 h3)
                    have y65_I_233 : I_233 65 = I103 65 := by rw [eI_233, up2_off _ _ _ (by decide)]
                    have y66_I_233 : I_233 66 = I103 66 := by rw [eI_233, up2_off _ _ _ (by decide)]
                    have bkI_233 : BK9 Ia I_233 := by rw [eI_233]; exact BK9_up bkl103 (by decide)
                    refine ww_aload_n hX (pc := 234) dX11_codes0_234 rfl ?_
                    refine ww_getR hX (pc := 235) fX11_20 (by decide) (xs_49 hL) (xr_49_3 hL) dX11_codes0_235 ?_
                    refine ww_sipush hX (pc := 238) (x := 305) dX11_codes0_238 (by decide) ?_
                    refine ww_iload hX (pc := 241) dX11_codes0_241 rfl ?_
                    refine ww_iast hX (pc := 243) (xs_51 hL) (by decide) (by omega) (by omega) dX11_codes0_243 ?_
                    refine ww_nmH (fun I_243 eI_243 => ?_)
                    have kI_243 : Ch [51, 61, 65, 66] [25, 31] Ia I_243 := by rw [eI_243]; exact Ch_r kI_233 (by decide) (by decide)
                    have cI_243 : RX I_243 := by rw [eI_243]; exact RX_305 cI_233 (by omega) (by omega)
                    have qI_243 := RX_s cI_243
                    have r304_I_243 : I_243 51 304 = I_233 51 304 := by rw [eI_243, up2_n _ _ (Or.inr (by decide))]
                    have r309_I_243 : I_243 51 309 = I_233 51 309 := by rw [eI_243, up2_n _ _ (Or.inr (by decide))]
                    have f31_I_243 : I_243 49 31 = I_233 49 31 := by rw [eI_243, up2_off _ _ _ (by decide)]
                    have rf_I_243 : FU (I_243 51 304) = FU (I_233 51 304) := by rw [r304_I_243]
                    have m305 : I_243 51 305 = v_48 := by rw [eI_243]; exact up2_s _ _ _ _
                    have o_I_243 : ∀ j : Nat, 256 ≤ j → j ≠ 304 → j ≠ 305 → I_243 51 j = Ia 51 j := fun j h1 h2 h3 => (by rw [eI_243, up2_n _ _ (Or.inr (by omega))] : I_243 51 j = I_233 51 j).trans (o_I_233 j h1 h2 h3)
                    have y65_I_243 : I_243 65 = I_233 65 := by rw [eI_243, up2_off _ _ _ (by decide)]
                    have y66_I_243 : I_243 66 = I_233 66 := by rw [eI_243, up2_off _ _ _ (by decide)]
                    have bkI_243 : BK9 Ia I_243 := by rw [eI_243]; exact BK9_up bkI_233 (by decide)
                    refine ww_iconst hX (pc := 244) (x := 0) dX11_codes0_244 rfl ?_
                    refine ww_istore hX (pc := 245) (lv' := [some (kR (some 49)), some (kI a), some (kI b), some (kI c), some (kI v_38), some (kI v_48), some (kI al), some (kI 0), none, none]) dX11_codes0_245 (by decide) rfl rfl ?_
                    have hl_247 : ∀ (n_247 : Nat) (q : Int) (I247 : aI1) (J247 : aI1), (256 - q).toNat = n_247 → (BK9 Ia I247 ∧ (Ch [51, 61, 65, 66] [25, 31] Ia I247 ∧ RX I247 ∧ Kp 49 73 Ja J247 ∧ I247 51 304 = I_243 51 304 ∧ I247 51 305 = I_243 51 305 ∧ I247 51 309 = I_243 51 309 ∧ I247 49 31 = I_243 49 31 ∧ (∀ j : Nat, 256 ≤ j → j ≠ 304 → j ≠ 305 → I247 51 j = Ia 51 j) ∧ (0 ≤ q ∧ q ≤ 256) ∧ I247 65 = I_243 65 ∧ I247 66 = I_243 66 ∧ (∀ s : Nat, (s : Int) < q → I247 51 s = Ia 51 s))) → WW X 247 [some (kR (some 49)), some (kI a), some (kI b), some (kI c), some (kI v_38), some (kI v_48), some (kI al), some (kI q), none, none] [] I247 J247 Ra Sa 0 0 := by
                      intro n_247
                      induction n_247 using Nat.strongRecOn with
                      | ind n_247 ih_247 =>
                        intro q I247 J247 hm_247 hv_247
                        have hq_247 := Sh0_i hm_247
                        clear hm_247
                        obtain ⟨bkl247, hv_247⟩ := hv_247
                        obtain ⟨kI247, cI247, kJ247, r304_I247, r305_I247, r309_I247, f31_I247, o_I247, hw, e65_247, e66_247, e51_247⟩ := hv_247
                        have qI247 := RX_s cI247
                        have rf_I247 : FU (I247 51 304) = FU (I_243 51 304) := by rw [r304_I247]
                        refine ww_iload hX (pc := 247) dX11_codes0_247 rfl ?_
                        refine ww_sipush hX (pc := 249) (x := 256) dX11_codes0_249 (by decide) ?_
                        refine ww_icmp_ge hX (pc := 252) (tgt := 277) dX11_codes0_252 (by decide) (fun h_252 => ?_) (fun h_252 => ?_)
                        · simp only [w32_mod] at h_252
                          refine ww_aload_n hX (pc := 277) dX11_codes0_277 rfl ?_
                          refine ww_iconst hX (pc := 278) (x := (-1)) dX11_codes0_278 rfl ?_
                          refine ww_putI hX (pc := 279) (fun h9 => absurd h9 (by decide)) gX11_62 rfl (xs_49 hL) dX11_codes0_279 ?_
                          refine ww_nmH (fun I_279 eI_279 => ?_)
                          have kI_279 : Ch [51, 61, 65, 66] [25, 31] Ia I_279 := by rw [eI_279]; exact Ch_f kI247 (by decide)
                          have cI_279 : RX I_279 := by rw [eI_279]; exact RX_f cI247 (by decide)
                          have qI_279 := RX_s cI_279
                          have r304_I_279 : I_279 51 304 = I247 51 304 := by rw [eI_279, up2_off _ _ _ (by decide)]
                          have r305_I_279 : I_279 51 305 = I247 51 305 := by rw [eI_279, up2_off _ _ _ (by decide)]
                          have r309_I_279 : I_279 51 309 = I247 51 309 := by rw [eI_279, up2_off _ _ _ (by decide)]
                          have f31_I_279 : I_279 49 31 = I247 49 31 := by rw [eI_279, up2_n _ _ (Or.inr (by decide))]
                          have rf_I_279 : FU (I_279 51 304) = FU (I247 51 304) := by rw [r304_I_279]
                          have o_I_279 : ∀ j : Nat, 256 ≤ j → j ≠ 304 → j ≠ 305 → I_279 51 j = Ia 51 j := fun j h1 h2 h3 => (by rw [eI_279, up2_off _ _ _ (by decide)] : I_279 51 j = I247 51 j).trans (o_I247 j h1 h2 h3)
                          have y51_I_279 : I_279 51 = I247 51 := by rw [eI_279, up2_off _ _ _ (by decide)]
                          have y65_I_279 : I_279 65 = I247 65 := by rw [eI_279, up2_off _ _ _ (by decide)]
                          have y66_I_279 : I_279 66 = I247 66 := by rw [eI_279, up2_off _ _ _ (by decide)]
                          have bkI_279 : BK9 Ia I_279 := by rw [eI_279]; exact BK9_m bkl247
                          have tkI_279 : TK9 Ia I_279 Ja J247 := Or.inl (by rw [eI_279, up2_s])
                          refine rV hX (pc := 282) hT (Nat.le_refl 0) (Nat.le_refl 0) dX11_codes0_282 ?_
                          exact ⟨⟨kI_279, kJ247, cI_279, by omega, by omega, by omega, (by rw [← hcn]; omega), (by
                              have o9 := o_I_279
                              funext j
                              by_cases g : j < 256
                              · rw [y51_I_279]; exact e51_247 j (by omega)
                              · by_cases g4 : j = 304
                                · subst g4; omega
                                · by_cases g5 : j = 305
                                  · subst g5; omega
                                  · exact o9 j (by omega) g4 g5), (zFd_at hfd (by rw [← pow_nat _ (by omega)]; omega) (by rw [y66_I_279, e66_247, y66_I_243, y66_I_233]))⟩, bkI_279, tkI_279⟩
                        · simp only [w32_mod] at h_252
                          refine ww_aload_n hX (pc := 255) dX11_codes0_255 rfl ?_
                          refine ww_getR hX (pc := 256) fX11_20 (by decide) (xs_49 hL) (xr_49_3 hL) dX11_codes0_256 ?_
                          refine ww_iconst hX (pc := 259) (x := 0) dX11_codes0_259 rfl ?_
                          refine ww_iload hX (pc := 260) dX11_codes0_260 rfl ?_
                          refine ww_iadd hX (pc := 262) dX11_codes0_262 ?_
                          refine ww_aload_n hX (pc := 263) dX11_codes0_263 rfl ?_
                          refine ww_getR hX (pc := 264) fX11_71 (by decide) (xs_49 hL) (xr_49_29 hL) dX11_codes0_264 ?_
                          refine ww_iload hX (pc := 267) dX11_codes0_267 rfl ?_
                          refine ww_iald hX (pc := 269) (xs_65 hL) (by decide) (by omega) (by omega) dX11_codes0_269 ?_
                          refine ww_iast hX (pc := 270) (xs_51 hL) (by decide) (by omega) (by omega) dX11_codes0_270 ?_
                          refine ww_nmH (fun I_270 eI_270 => ?_)
                          have kI_270 : Ch [51, 61, 65, 66] [25, 31] Ia I_270 := by rw [eI_270]; exact Ch_r kI247 (by decide) (by decide)
                          have cI_270 : RX I_270 := by rw [eI_270]; exact RX_lo cI247 (by omega)
                          have qI_270 := RX_s cI_270
                          have r304_I_270 : I_270 51 304 = I247 51 304 := by rw [eI_270, up2_n _ _ (Or.inr (by omega))]
                          have r305_I_270 : I_270 51 305 = I247 51 305 := by rw [eI_270, up2_n _ _ (Or.inr (by omega))]
                          have r309_I_270 : I_270 51 309 = I247 51 309 := by rw [eI_270, up2_n _ _ (Or.inr (by omega))]
                          have f31_I_270 : I_270 49 31 = I247 49 31 := by rw [eI_270, up2_off _ _ _ (by decide)]
                          have rf_I_270 : FU (I_270 51 304) = FU (I247 51 304) := by rw [r304_I_270]
                          have o_I_270 : ∀ j : Nat, 256 ≤ j → j ≠ 304 → j ≠ 305 → I_270 51 j = Ia 51 j := fun j h1 h2 h3 => (by rw [eI_270, up2_n _ _ (Or.inr (by omega))] : I_270 51 j = I247 51 j).trans (o_I247 j h1 h2 h3)
                          have y65_I_270 : I_270 65 = I247 65 := by rw [eI_270, up2_off _ _ _ (by decide)]
                          have y66_I_270 : I_270 66 = I247 66 := by rw [eI_270, up2_off _ _ _ (by decide)]
                          have bkI_270 : BK9 Ia I_270 := by rw [eI_270]; exact BK9_up bkl247 (by decide)
                          refine ww_iinc hX (pc := 271) (lv' := [some (kR (some 49)), some (kI a), some (kI b), some (kI c), some (kI v_38), some (kI v_48), some (kI al), some (kI (q + 1)), none, none]) dX11_codes0_271 rfl (by decide) rfl rfl ?_
                          refine ww_goto hX (pc := 274) (tgt := 247) dX11_codes0_274 (by decide) ?_
                          exact ih_247 _ (by have hm9 := Sh0_e hq_247; omega) (q + 1) I_270 J247 rfl ⟨bkI_270, ⟨kI_270, cI_270, kJ247, by omega, by omega, by omega, by omega, o_I_270, by omega, (by rw [y65_I_270, e65_247]), (by rw [y66_I_270, e66_247]), (fun s hs => by
    rw [eI_270]
    by_cases g : s = (0 + q).toNat
    · subst g
      refine (up2_s ..).trans ?_
      rw [e65_247, y65_I_243, y65_I_233, show (0 + q).toNat = q.toNat by omega]
      exact hsv q.toNat (by omega)
    · rw [up2_n _ _ (Or.inr g)]
      exact e51_247 s (by omega))⟩⟩
                    exact hl_247 _ 0 I_243 J103 rfl ⟨bkI_243, ⟨kI_243, cI_243, kJ103, rfl, rfl, rfl, rfl, o_I_243, by omega, rfl, rfl, (fun s hs => by omega)⟩⟩
                  · simp only [w32_mod] at h_107
                    refine ww_iload hX (pc := 110) dX11_codes0_110 rfl ?_
                    refine ww_istore hX (pc := 112) (lv' := [some (kR (some 49)), some (kI a), some (kI b), some (kI c), some (kI v_38), some (kI v_48), some (kI al), some (kI cc9), some (kI cc9), none]) dX11_codes0_112 (by decide) rfl rfl ?_
                    refine ww_aload_n hX (pc := 114) dX11_codes0_114 rfl ?_
                    refine vI0 hX (pc := 115) sX11_112 (xs_49 hL) (c_X11_states l0 hL cI103 ) (by decide) (Nat.le_refl 0) (Nat.le_refl 0) (Nat.le_of_ble_eq_true rfl) dX11_codes0_115 (fun x_115 I_115 J_115 h_115 => ?_)
                    obtain ⟨rfl, rfl, h_115⟩ := h_115
                    refine ww_iconst hX (pc := 118) (x := 1) dX11_codes0_118 rfl ?_
                    refine ww_isub hX (pc := 119) dX11_codes0_119 ?_
                    refine ww_nmI (fun v_120 hv_120 => ?_)
                    refine ww_istore hX (pc := 120) (lv' := [some (kR (some 49)), some (kI a), some (kI b), some (kI c), some (kI v_38), some (kI v_48), some (kI al), some (kI cc9), some (kI cc9), some (kI v_120)]) dX11_codes0_120 (by decide) rfl rfl ?_
                    have hl_122 : ∀ (n_122 : Nat) (re : Int) (q : Int) (I122 : aI1) (J122 : aI1), (q + 1).toNat = n_122 → (BK9 Ia I122 ∧ (Ch [51, 61, 65, 66] [25, 31] Ia I122 ∧ RX I122 ∧ Kp 49 73 Ja J122 ∧ I122 51 304 = I103 51 304 ∧ I122 51 305 = I103 51 305 ∧ I122 51 309 = I103 51 309 ∧ I122 49 31 = I103 49 31 ∧ (∀ j : Nat, 256 ≤ j → j ≠ 304 → j ≠ 305 → I122 51 j = Ia 51 j) ∧ (-1 ≤ q ∧ q ≤ FU a ∧ 0 ≤ re ∧ re ≤ 65536) ∧ DG b.toNat (FU a + 1).toNat cc9.toNat q re (I122 51) ∧ I122 65 = I103 65 ∧ I122 66 = I103 66)) → WW X 122 [some (kR (some 49)), some (kI a), some (kI b), some (kI c), some (kI v_38), some (kI v_48), some (kI al), some (kI cc9), some (kI re), some (kI q)] [] I122 J122 Ra Sa 0 0 := by
                      intro n_122
                      induction n_122 using Nat.strongRecOn with
                      | ind n_122 ih_122 =>
                        intro re q I122 J122 hm_122 hv_122
                        have hq_122 := Sh0_i hm_122
                        clear hm_122
                        obtain ⟨bkl122, hv_122⟩ := hv_122
                        obtain ⟨kI122, cI122, kJ122, r304_I122, r305_I122, r309_I122, f31_I122, o_I122, hw, hdg, e65_122, e66_122⟩ := hv_122
                        have qI122 := RX_s cI122
                        have rf_I122 : FU (I122 51 304) = FU (I103 51 304) := by rw [r304_I122]
                        refine ww_iload hX (pc := 122) dX11_codes0_122 rfl ?_
                        refine ww_if_lt hX (pc := 124) (tgt := 152) dX11_codes0_124 (by decide) (fun h_124 => ?_) (fun h_124 => ?_)
                        · simp only [w32_mod] at h_124
                          have hq1 : q = -1 := by omega
                          rw [hq1] at hdg
                          refine ww_aload_n hX (pc := 152) dX11_codes0_152 rfl ?_
                          refine ww_iconst hX (pc := 153) (x := 0) dX11_codes0_153 rfl ?_
                          refine vV1 hX (pc := 154) sX11_285 (xs_49 hL) (c5_X11_lasts0 l0 hL cI122 (fun t ht => by have := DG_r hdg (s := t) (by omega) (by omega) (by omega); omega)) (by decide) (Nat.le_refl 0) (Nat.le_refl 0) (Nat.le_of_ble_eq_true rfl) dX11_codes0_154 (fun I_154 J_154 h_154 => ?_)
                          have kJ_154 : Kp 49 73 Ja J_154 := Kp_tr kJ122 h_154.2.1
                          have kI_154 : Ch [51, 61, 65, 66] [25, 31] Ia I_154 := Ch_tr kI122 (Ch_wd h_154.1 (by decide) (by decide))
                          have cI_154 : RX I_154 := h_154.2.2.1
                          have qI_154 := RX_s cI_154
                          have r304_I_154 : I_154 51 304 = I122 51 304 := by rw [h_154.1.1 51 (by decide) (by decide)]
                          have r305_I_154 : I_154 51 305 = I122 51 305 := by rw [h_154.1.1 51 (by decide) (by decide)]
                          have r309_I_154 : I_154 51 309 = I122 51 309 := by rw [h_154.1.1 51 (by decide) (by decide)]
                          have f31_I_154 : I_154 49 31 = I122 49 31 := h_154.1.2 31 (by decide)
                          have rf_I_154 : FU (I_154 51 304) = FU (I122 51 304) := by rw [r304_I_154]
                          have hlv := h_154.2.2.2.2
                          have hlb0 := h_154.2.2.1.2.2.1 0 (by decide)
                          have hd0 : I_154 61 0 = ((DL b.toNat (dgs b.toNat (FU a + 1).toNat cc9.toNat) : Nat) : Int) := DL_v (N := (FU a + 1).toNat) (q := b.toNat) (dgs_len _ _ _) (by omega) (by omega) (by omega) (by omega) (by rw [show (((FU a + 1).toNat : Nat) : Int) = FU (I122 51 304) + 1 by omega, show ((b.toNat : Nat) : Int) = I122 51 305 by omega]; exact hlv) (fun s hs => DG_e hdg hs)
                          have o_I_154 : ∀ j : Nat, 256 ≤ j → j ≠ 304 → j ≠ 305 → I_154 51 j = Ia 51 j := fun j h1 h2 h3 => (congrFun (h_154.1.1 51 (by decide) (by decide)) j).trans (o_I122 j h1 h2 h3)
                          have y51_I_154 : I_154 51 = I122 51 := h_154.1.1 51 (by decide) (by decide)
                          have y65_I_154 : I_154 65 = I122 65 := h_154.1.1 65 (by decide) (by decide)
                          have y66_I_154 : I_154 66 = I122 66 := h_154.1.1 66 (by decide) (by decide)
                          have bkI_154 : BK9 Ia I_154 := BK9_ch bkl122 h_154.1 (by decide) (by decide)
                          refine ww_aload_n hX (pc := 157) dX11_codes0_157 rfl ?_
                          refine ww_getR hX (pc := 158) fX11_55 (by decide) (xs_49 hL) (xr_49_23 hL) dX11_codes0_158 ?_
                          refine ww_iconst hX (pc := 161) (x := 0) dX11_codes0_161 rfl ?_
                          refine ww_iald hX (pc := 162) (xs_61 hL) (by decide) (by omega) (by omega) dX11_codes0_162 ?_
                          refine ww_toI (b := I_154 61 0) rfl ?_
                          refine ww_iload_n hX (pc := 163) dX11_codes0_163 rfl ?_
                          refine ww_icmp_ge hX (pc := 164) (tgt := 170) dX11_codes0_164 (by decide) (fun h_164 => ?_) (fun h_164 => ?_)
                          · simp only [w32_mod] at h_164
                            have hcs : cN b.toNat (FU a + 1).toNat c.toNat (cc9 + 1).toNat = cN b.toNat (FU a + 1).toNat c.toNat cc9.toNat + 1 := by
                              rw [show (cc9 + 1).toNat = cc9.toNat + 1 by omega]
                              show _ + (if _ then _ else _) = _
                              rw [if_pos (by omega)]
                            refine ww_aload_n hX (pc := 170) dX11_codes0_170 rfl ?_
                            refine ww_getI hX (pc := 171) fX11_324 (by decide) (xs_49 hL) dX11_codes0_171 ?_
                            refine ww_if_ne hX (pc := 174) (tgt := 208) dX11_codes0_174 (by decide) (fun h_174 => ?_) (fun h_174 => ?_)
                            · simp only [w32_mod] at h_174
                              refine ww_aload_n hX (pc := 208) dX11_codes0_208 rfl ?_
                              refine ww_dupR hX (pc := 209) dX11_codes0_209 ?_
                              refine ww_getI hX (pc := 210) fX11_324 (by decide) (xs_49 hL) dX11_codes0_210 ?_
                              refine ww_iconst hX (pc := 213) (x := 1) dX11_codes0_213 rfl ?_
                              refine ww_iadd hX (pc := 214) dX11_codes0_214 ?_
                              refine ww_putI hX (pc := 215) (fun h9 => absurd h9 (by decide)) gX11_324 rfl (xs_49 hL) dX11_codes0_215 ?_
                              refine ww_nmH (fun I_215 eI_215 => ?_)
                              have kI_215 : Ch [51, 61, 65, 66] [25, 31] Ia I_215 := by rw [eI_215]; exact Ch_f kI_154 (by decide)
                              have cI_215 : RX I_215 := by rw [eI_215]; exact RX_f cI_154 (by decide)
                              have qI_215 := RX_s cI_215
                              have r304_I_215 : I_215 51 304 = I_154 51 304 := by rw [eI_215, up2_off _ _ _ (by decide)]
                              have r305_I_215 : I_215 51 305 = I_154 51 305 := by rw [eI_215, up2_off _ _ _ (by decide)]
                              have r309_I_215 : I_215 51 309 = I_154 51 309 := by rw [eI_215, up2_off _ _ _ (by decide)]
                              have rf_I_215 : FU (I_215 51 304) = FU (I_154 51 304) := by rw [r304_I_215]
                              have z215 : I_215 49 31 = I_154 49 31 + 1 := by rw [eI_215]; exact up2_s _ _ _ _
                              have o_I_215 : ∀ j : Nat, 256 ≤ j → j ≠ 304 → j ≠ 305 → I_215 51 j = Ia 51 j := fun j h1 h2 h3 => (by rw [eI_215, up2_off _ _ _ (by decide)] : I_215 51 j = I_154 51 j).trans (o_I_154 j h1 h2 h3)
                              have y51_I_215 : I_215 51 = I_154 51 := by rw [eI_215, up2_off _ _ _ (by decide)]
                              have y65_I_215 : I_215 65 = I_154 65 := by rw [eI_215, up2_off _ _ _ (by decide)]
                              have y66_I_215 : I_215 66 = I_154 66 := by rw [eI_215, up2_off _ _ _ (by decide)]
                              have bkI_215 : BK9 Ia I_215 := by rw [eI_215]; exact BK9_f bkI_154 (by decide)
                              refine ww_iinc hX (pc := 218) (lv' := [some (kR (some 49)), some (kI a), some (kI b), some (kI c), some (kI v_38), some (kI v_48), some (kI al), some (kI (cc9 + 1)), some (kI re), some (kI q)]) dX11_codes0_218 rfl (by decide) rfl rfl ?_
                              refine ww_goto hX (pc := 221) (tgt := 103) dX11_codes0_221 (by decide) ?_
                              refine ww_sub [some (kR (some 49)), some (kI a), some (kI b), some (kI c), some (kI v_38), some (kI v_48), some (kI al), some (kI (cc9 + 1)), none, none] (aLe_s (aLe_s (aLe_s (aLe_s (aLe_s (aLe_s (aLe_s (aLe_s (aLe_n (aLe_n aLe_0)))))))))) ?_
                              exact ih_103 _ (by have hm9 := Sh0_e hq_103; omega) (cc9 + 1) I_215 J_154 rfl ⟨bkI_215, ⟨kI_215, cI_215, kJ_154, by omega, by omega, by omega, o_I_215, ⟨by omega, by omega⟩, (by rw [hcs]; omega), (fun s hs => by rw [y65_I_215, y65_I_154, e65_122]; exact hsv s hs), (by rw [show (cc9 + 1).toNat = cc9.toNat + 1 by omega]; exact zFd_old hfd (by omega) (by rw [y66_I_215, y66_I_154, e66_122]))⟩⟩
                            · simp only [w32_mod] at h_174
                              have hcb := cN_le (k := b.toNat) (N := (FU a + 1).toNat) (t := c.toNat) cc9.toNat
                              refine ww_iconst hX (pc := 177) (x := 0) dX11_codes0_177 rfl ?_
                              refine ww_istore hX (pc := 178) (lv' := [some (kR (some 49)), some (kI a), some (kI b), some (kI c), some (kI v_38), some (kI v_48), some (kI al), some (kI cc9), some (kI re), some (kI 0)]) dX11_codes0_178 (by decide) rfl rfl ?_
                              have hl_180 : ∀ (n_180 : Nat) (q : Int) (I180 : aI1) (J180 : aI1), (8 - q).toNat = n_180 → (BK9 Ia I180 ∧ (Ch [51, 61, 65, 66] [25, 31] Ia I180 ∧ RX I180 ∧ Kp 49 73 Ja J180 ∧ I180 51 304 = I_154 51 304 ∧ I180 51 305 = I_154 51 305 ∧ I180 51 309 = I_154 51 309 ∧ I180 49 31 = I_154 49 31 ∧ (∀ j : Nat, 256 ≤ j → j ≠ 304 → j ≠ 305 → I180 51 j = Ia 51 j) ∧ (0 ≤ q ∧ q ≤ 8) ∧ I180 65 = I_154 65 ∧ I180 51 = I_154 51 ∧ (∀ s : Nat, (s : Int) < q → I180 66 s = I_154 51 s))) → WW X 180 [some (kR (some 49)), some (kI a), some (kI b), some (kI c), some (kI v_38), some (kI v_48), some (kI al), some (kI cc9), some (kI re), some (kI q)] [] I180 J180 Ra Sa 0 0 := by
                                intro n_180
                                induction n_180 using Nat.strongRecOn with
                                | ind n_180 ih_180 =>
                                  intro q I180 J180 hm_180 hv_180
                                  have hq_180 := Sh0_i hm_180
                                  clear hm_180
                                  obtain ⟨bkl180, hv_180⟩ := hv_180
                                  obtain ⟨kI180, cI180, kJ180, r304_I180, r305_I180, r309_I180, f31_I180, o_I180, hw, e65_180, e51_180, e66_180⟩ := hv_180
                                  have qI180 := RX_s cI180
                                  have rf_I180 : FU (I180 51 304) = FU (I_154 51 304) := by rw [r304_I180]
                                  refine ww_iload hX (pc := 180) dX11_codes0_180 rfl ?_
                                  refine ww_aload_n hX (pc := 182) dX11_codes0_182 rfl ?_
                                  refine vI0 hX (pc := 183) sX11_112 (xs_49 hL) (c_X11_states l0 hL cI180 ) (by decide) (Nat.le_refl 0) (Nat.le_refl 0) (Nat.le_of_ble_eq_true rfl) dX11_codes0_183 (fun x_183 I_183 J_183 h_183 => ?_)
                                  obtain ⟨rfl, rfl, h_183⟩ := h_183
                                  refine ww_icmp_ge hX (pc := 186) (tgt := 208) dX11_codes0_186 (by decide) (fun h_186 => ?_) (fun h_186 => ?_)
                                  · simp only [w32_mod] at h_186
                                    refine ww_aload_n hX (pc := 208) dX11_codes0_208 rfl ?_
                                    refine ww_dupR hX (pc := 209) dX11_codes0_209 ?_
                                    refine ww_getI hX (pc := 210) fX11_324 (by decide) (xs_49 hL) dX11_codes0_210 ?_
                                    refine ww_iconst hX (pc := 213) (x := 1) dX11_codes0_213 rfl ?_
                                    refine ww_iadd hX (pc := 214) dX11_codes0_214 ?_
                                    refine ww_putI hX (pc := 215) (fun h9 => absurd h9 (by decide)) gX11_324 rfl (xs_49 hL) dX11_codes0_215 ?_
                                    refine ww_nmH (fun I_215 eI_215 => ?_)
                                    have kI_215 : Ch [51, 61, 65, 66] [25, 31] Ia I_215 := by rw [eI_215]; exact Ch_f kI180 (by decide)
                                    have cI_215 : RX I_215 := by rw [eI_215]; exact RX_f cI180 (by decide)
                                    have qI_215 := RX_s cI_215
                                    have r304_I_215 : I_215 51 304 = I180 51 304 := by rw [eI_215, up2_off _ _ _ (by decide)]
                                    have r305_I_215 : I_215 51 305 = I180 51 305 := by rw [eI_215, up2_off _ _ _ (by decide)]
                                    have r309_I_215 : I_215 51 309 = I180 51 309 := by rw [eI_215, up2_off _ _ _ (by decide)]
                                    have rf_I_215 : FU (I_215 51 304) = FU (I180 51 304) := by rw [r304_I_215]
                                    have z215 : I_215 49 31 = I180 49 31 + 1 := by rw [eI_215]; exact up2_s _ _ _ _
                                    have o_I_215 : ∀ j : Nat, 256 ≤ j → j ≠ 304 → j ≠ 305 → I_215 51 j = Ia 51 j := fun j h1 h2 h3 => (by rw [eI_215, up2_off _ _ _ (by decide)] : I_215 51 j = I180 51 j).trans (o_I180 j h1 h2 h3)
                                    have y51_I_215 : I_215 51 = I180 51 := by rw [eI_215, up2_off _ _ _ (by decide)]
                                    have y65_I_215 : I_215 65 = I180 65 := by rw [eI_215, up2_off _ _ _ (by decide)]
                                    have y66_I_215 : I_215 66 = I180 66 := by rw [eI_215, up2_off _ _ _ (by decide)]
                                    have bkI_215 : BK9 Ia I_215 := by rw [eI_215]; exact BK9_f bkl180 (by decide)
                                    refine ww_iinc hX (pc := 218) (lv' := [some (kR (some 49)), some (kI a), some (kI b), some (kI c), some (kI v_38), some (kI v_48), some (kI al), some (kI (cc9 + 1)), some (kI re), some (kI q)]) dX11_codes0_218 rfl (by decide) rfl rfl ?_
                                    refine ww_goto hX (pc := 221) (tgt := 103) dX11_codes0_221 (by decide) ?_
                                    refine ww_sub [some (kR (some 49)), some (kI a), some (kI b), some (kI c), some (kI v_38), some (kI v_48), some (kI al), some (kI (cc9 + 1)), none, none] (aLe_s (aLe_s (aLe_s (aLe_s (aLe_s (aLe_s (aLe_s (aLe_s (aLe_n (aLe_n aLe_0)))))))))) ?_
                                    exact ih_103 _ (by have hm9 := Sh0_e hq_103; omega) (cc9 + 1) I_215 J180 rfl ⟨bkI_215, ⟨kI_215, cI_215, kJ180, by omega, by omega, by omega, o_I_215, ⟨by omega, by omega⟩, (by rw [hcs]; omega), (fun s hs => by rw [y65_I_215, e65_180, y65_I_154, e65_122]; exact hsv s hs), (by rw [show (cc9 + 1).toNat = cc9.toNat + 1 by omega]; exact zFd_new (by omega) (by omega) (fun s hs => by rw [y66_I_215, e66_180 s (by omega), y51_I_154]; exact DG_e hdg hs))⟩⟩
                                  · simp only [w32_mod] at h_186
                                    refine ww_aload_n hX (pc := 189) dX11_codes0_189 rfl ?_
                                    refine ww_getR hX (pc := 190) fX11_74 (by decide) (xs_49 hL) (xr_49_30 hL) dX11_codes0_190 ?_
                                    refine ww_iload hX (pc := 193) dX11_codes0_193 rfl ?_
                                    refine ww_aload_n hX (pc := 195) dX11_codes0_195 rfl ?_
                                    refine ww_iload hX (pc := 196) dX11_codes0_196 rfl ?_
                                    refine vI1 hX (pc := 198) sX11_126 (xs_49 hL) (c_X11_readOf l0 hL cI180 (by omega) (by omega)) (by decide) (Nat.le_refl 0) (Nat.le_refl 0) (Nat.le_of_ble_eq_true rfl) dX11_codes0_198 (fun x_198 I_198 J_198 h_198 => ?_)
                                    obtain ⟨rfl, rfl, h_198⟩ := h_198
                                    refine ww_iast hX (pc := 201) (xs_66 hL) (by decide) (by omega) (by omega) dX11_codes0_201 ?_
                                    refine ww_nmH (fun I_201 eI_201 => ?_)
                                    have kI_201 : Ch [51, 61, 65, 66] [25, 31] Ia I_201 := by rw [eI_201]; exact Ch_r kI180 (by decide) (by decide)
                                    have cI_201 : RX I_201 := by rw [eI_201]; exact RX_r cI180 (by decide)
                                    have qI_201 := RX_s cI_201
                                    have r304_I_201 : I_201 51 304 = I180 51 304 := by rw [eI_201, up2_off _ _ _ (by decide)]
                                    have r305_I_201 : I_201 51 305 = I180 51 305 := by rw [eI_201, up2_off _ _ _ (by decide)]
                                    have r309_I_201 : I_201 51 309 = I180 51 309 := by rw [eI_201, up2_off _ _ _ (by decide)]
                                    have f31_I_201 : I_201 49 31 = I180 49 31 := by rw [eI_201, up2_off _ _ _ (by decide)]
                                    have rf_I_201 : FU (I_201 51 304) = FU (I180 51 304) := by rw [r304_I_201]
                                    have o_I_201 : ∀ j : Nat, 256 ≤ j → j ≠ 304 → j ≠ 305 → I_201 51 j = Ia 51 j := fun j h1 h2 h3 => (by rw [eI_201, up2_off _ _ _ (by decide)] : I_201 51 j = I180 51 j).trans (o_I180 j h1 h2 h3)
                                    have y51_I_201 : I_201 51 = I180 51 := by rw [eI_201, up2_off _ _ _ (by decide)]
                                    have y65_I_201 : I_201 65 = I180 65 := by rw [eI_201, up2_off _ _ _ (by decide)]
                                    have bkI_201 : BK9 Ia I_201 := by rw [eI_201]; exact BK9_up bkl180 (by decide)
                                    refine ww_iinc hX (pc := 202) (lv' := [some (kR (some 49)), some (kI a), some (kI b), some (kI c), some (kI v_38), some (kI v_48), some (kI al), some (kI cc9), some (kI re), some (kI (q + 1))]) dX11_codes0_202 rfl (by decide) rfl rfl ?_
                                    refine ww_goto hX (pc := 205) (tgt := 180) dX11_codes0_205 (by decide) ?_
                                    exact ih_180 _ (by have hm9 := Sh0_e hq_180; omega) (q + 1) I_201 J180 rfl ⟨bkI_201, ⟨kI_201, cI_201, kJ180, by omega, by omega, by omega, by omega, o_I_201, by omega, (by rw [y65_I_201, e65_180]), (by rw [y51_I_201, e51_180]), (fun s hs => by
    rw [eI_201]
    by_cases g : s = q.toNat
    · subst g
      refine (up2_s ..).trans ?_
      rw [h_198, e51_180]
    · rw [up2_n _ _ (Or.inr g)]
      exact e66_180 s (by omega))⟩⟩
                              exact hl_180 _ 0 I_154 J_154 rfl ⟨bkI_154, ⟨kI_154, cI_154, kJ_154, rfl, rfl, rfl, rfl, o_I_154, by omega, rfl, rfl, (fun s hs => by omega)⟩⟩
                          · simp only [w32_mod] at h_164
                            have hcs : cN b.toNat (FU a + 1).toNat c.toNat (cc9 + 1).toNat = cN b.toNat (FU a + 1).toNat c.toNat cc9.toNat := by
                              rw [show (cc9 + 1).toNat = cc9.toNat + 1 by omega]
                              show _ + (if _ then _ else _) = _
                              rw [if_neg (by omega), Nat.add_zero]
                            refine ww_goto hX (pc := 167) (tgt := 218) dX11_codes0_167 (by decide) ?_
                            refine ww_iinc hX (pc := 218) (lv' := [some (kR (some 49)), some (kI a), some (kI b), some (kI c), some (kI v_38), some (kI v_48), some (kI al), some (kI (cc9 + 1)), some (kI re), some (kI q)]) dX11_codes0_218 rfl (by decide) rfl rfl ?_
                            refine ww_goto hX (pc := 221) (tgt := 103) dX11_codes0_221 (by decide) ?_
                            refine ww_sub [some (kR (some 49)), some (kI a), some (kI b), some (kI c), some (kI v_38), some (kI v_48), some (kI al), some (kI (cc9 + 1)), none, none] (aLe_s (aLe_s (aLe_s (aLe_s (aLe_s (aLe_s (aLe_s (aLe_s (aLe_n (aLe_n aLe_0)))))))))) ?_
                            exact ih_103 _ (by have hm9 := Sh0_e hq_103; omega) (cc9 + 1) I_154 J_154 rfl ⟨bkI_154, ⟨kI_154, cI_154, kJ_154, by omega, by omega, by omega, o_I_154, ⟨by omega, by omega⟩, (by rw [hcs]; omega), (fun s hs => by rw [y65_I_154, e65_122]; exact hsv s hs), (by rw [show (cc9 + 1).toNat = cc9.toNat + 1 by omega]; exact zFd_sk hfd (by have h9 := hcs; rw [show (cc9 + 1).toNat = cc9.toNat + 1 by omega] at h9; exact h9) (by rw [y66_I_154, e66_122]))⟩⟩
                        · simp only [w32_mod] at h_124
                          refine ww_aload_n hX (pc := 127) dX11_codes0_127 rfl ?_
                          refine ww_getR hX (pc := 128) fX11_20 (by decide) (xs_49 hL) (xr_49_3 hL) dX11_codes0_128 ?_
                          refine ww_iconst hX (pc := 131) (x := 0) dX11_codes0_131 rfl ?_
                          refine ww_iload hX (pc := 132) dX11_codes0_132 rfl ?_
                          refine ww_iadd hX (pc := 134) dX11_codes0_134 ?_
                          refine ww_iload hX (pc := 135) dX11_codes0_135 rfl ?_
                          refine ww_iload_n hX (pc := 137) dX11_codes0_137 rfl ?_
                          refine ww_irem hX (pc := 138) dX11_codes0_138 (by rw [w32_id (by omega) (by omega)]; omega) ?_
                          refine ww_toI (b := re % b) (i_rem_v (by omega) (by omega) (by omega) (by omega)) ?_
                          refine ww_iast hX (pc := 139) (xs_51 hL) (by decide) (by omega) (by omega) dX11_codes0_139 ?_
                          refine ww_nmH (fun I_139 eI_139 => ?_)
                          have kI_139 : Ch [51, 61, 65, 66] [25, 31] Ia I_139 := by rw [eI_139]; exact Ch_r kI122 (by decide) (by decide)
                          have cI_139 : RX I_139 := by rw [eI_139]; exact RX_lo cI122 (by omega)
                          have qI_139 := RX_s cI_139
                          have r304_I_139 : I_139 51 304 = I122 51 304 := by rw [eI_139, up2_n _ _ (Or.inr (by omega))]
                          have r305_I_139 : I_139 51 305 = I122 51 305 := by rw [eI_139, up2_n _ _ (Or.inr (by omega))]
                          have r309_I_139 : I_139 51 309 = I122 51 309 := by rw [eI_139, up2_n _ _ (Or.inr (by omega))]
                          have f31_I_139 : I_139 49 31 = I122 49 31 := by rw [eI_139, up2_off _ _ _ (by decide)]
                          have rf_I_139 : FU (I_139 51 304) = FU (I122 51 304) := by rw [r304_I_139]
                          have g139 : I_139 51 = up1 (I122 51) q.toNat (re % b) := by rw [eI_139, up2_row]; exact congrArg (fun z => up1 (I122 51) z (re % b)) (by omega)
                          have o_I_139 : ∀ j : Nat, 256 ≤ j → j ≠ 304 → j ≠ 305 → I_139 51 j = Ia 51 j := fun j h1 h2 h3 => (by rw [eI_139, up2_n _ _ (Or.inr (by omega))] : I_139 51 j = I122 51 j).trans (o_I122 j h1 h2 h3)
                          have y65_I_139 : I_139 65 = I122 65 := by rw [eI_139, up2_off _ _ _ (by decide)]
                          have y66_I_139 : I_139 66 = I122 66 := by rw [eI_139, up2_off _ _ _ (by decide)]
                          have bkI_139 : BK9 Ia I_139 := by rw [eI_139]; exact BK9_up bkl122 (by decide)
                          refine ww_iload hX (pc := 140) dX11_codes0_140 rfl ?_
                          refine ww_iload_n hX (pc := 142) dX11_codes0_142 rfl ?_
                          refine ww_idiv hX (pc := 143) dX11_codes0_143 (by rw [w32_id (by omega) (by omega)]; omega) ?_
                          refine ww_nmI (fun v_144 hv_144 => ?_)
                          refine ww_istore hX (pc := 144) (lv' := [some (kR (some 49)), some (kI a), some (kI b), some (kI c), some (kI v_38), some (kI v_48), some (kI al), some (kI cc9), some (kI v_144), some (kI q)]) dX11_codes0_144 (by decide) rfl rfl ?_
                          rw [i_div_v (by omega) (by omega) (by omega) (by omega)] at hv_144
                          have hdv0 := Int.ediv_nonneg (show 0 ≤ re by omega) (show 0 ≤ b by omega)
                          have hdv1 := Int.ediv_le_self b (show 0 ≤ re by omega)
                          refine ww_iinc hX (pc := 146) (lv' := [some (kR (some 49)), some (kI a), some (kI b), some (kI c), some (kI v_38), some (kI v_48), some (kI al), some (kI cc9), some (kI v_144), some (kI (q + (-1)))]) dX11_codes0_146 rfl (by decide) rfl rfl ?_
                          refine ww_goto hX (pc := 149) (tgt := 122) dX11_codes0_149 (by decide) ?_
                          exact ih_122 _ (by have hm9 := Sh0_e hq_122; omega) v_144 (q + (-1)) I_139 J122 rfl ⟨bkI_139, ⟨kI_139, cI_139, kJ122, by omega, by omega, by omega, by omega, o_I_139, by omega, (DG_cg (DG_s hdg (by omega) (by omega) (by omega) hv_144 (by omega)) g139), (by rw [y65_I_139, e65_122]), (by rw [y66_I_139, e66_122])⟩⟩
                    exact hl_122 _ cc9 v_120 I103 J103 rfl ⟨bkl103, ⟨kI103, cI103, kJ103, rfl, rfl, rfl, rfl, o_I103, by omega, DG_0 (by omega) (by omega), rfl, rfl⟩⟩
              exact hl_103 _ 0 I_97 J3 rfl ⟨bkI_97, ⟨kI_97, cI_97, kJ3, rfl, rfl, rfl, o_I_97, ⟨by omega, by omega⟩, z31, (fun s hs => by rw [y65_I_97, y65_I_67, y65_I_58]; exact e65_3 s (by omega)), zFd_0⟩⟩
            · simp only [w32_mod] at h_80
              refine ww_iload hX (pc := 83) dX11_codes0_83 rfl ?_
              refine ww_iload_n hX (pc := 85) dX11_codes0_85 rfl ?_
              refine ww_imul hX (pc := 86) dX11_codes0_86 ?_
              refine ww_nmI (fun v_87 hv_87 => ?_)
              refine ww_istore hX (pc := 87) (lv' := [some (kR (some 49)), some (kI a), some (kI b), some (kI c), some (kI v_38), some (kI v_48), some (kI v_87), some (kI i7), none, none]) dX11_codes0_87 (by decide) rfl rfl ?_
              have hpw : v_87 = b ^ (i7 + 1).toNat := by
                rw [hv_87, hal, show (i7 + 1).toNat = i7.toNat + 1 by omega, Int.pow_succ]
              refine ww_iinc hX (pc := 89) (lv' := [some (kR (some 49)), some (kI a), some (kI b), some (kI c), some (kI v_38), some (kI v_48), some (kI v_87), some (kI (i7 + 1)), none, none]) dX11_codes0_89 rfl (by decide) rfl rfl ?_
              refine ww_goto hX (pc := 92) (tgt := 74) dX11_codes0_92 (by decide) ?_
              exact ih_74 _ (by have hm9 := Sh0_e hq_74; omega) v_87 (i7 + 1) rfl ⟨⟨by omega, by omega⟩, hpw⟩
        exact hl_74 _ 1 0 rfl ⟨⟨by omega, by omega⟩, (Int.pow_zero _).symm⟩
      · simp only [w32_mod] at h_8
        refine ww_aload_n hX (pc := 11) dX11_codes0_11 rfl ?_
        refine ww_getR hX (pc := 12) fX11_71 (by decide) (xs_49 hL) (xr_49_29 hL) dX11_codes0_12 ?_
        refine ww_iload hX (pc := 15) dX11_codes0_15 rfl ?_
        refine ww_aload_n hX (pc := 17) dX11_codes0_17 rfl ?_
        refine ww_iload hX (pc := 18) dX11_codes0_18 rfl ?_
        refine vI1 hX (pc := 20) sX11_126 (xs_49 hL) (c_X11_readOf l0 hL cI3 (by omega) (by omega)) (by decide) (Nat.le_refl 0) (Nat.le_refl 0) (Nat.le_of_ble_eq_true rfl) dX11_codes0_20 (fun x_20 I_20 J_20 h_20 => ?_)
        obtain ⟨rfl, rfl, h_20⟩ := h_20
        refine ww_iast hX (pc := 23) (xs_65 hL) (by decide) (by omega) (by omega) dX11_codes0_23 ?_
        refine ww_nmH (fun I_23 eI_23 => ?_)
        have kI_23 : Ch [51, 61, 65, 66] [25, 31] Ia I_23 := by rw [eI_23]; exact Ch_r kI3 (by decide) (by decide)
        have cI_23 : RX I_23 := by rw [eI_23]; exact RX_r cI3 (by decide)
        have qI_23 := RX_s cI_23
        have r304_I_23 : I_23 51 304 = I3 51 304 := by rw [eI_23, up2_off _ _ _ (by decide)]
        have r305_I_23 : I_23 51 305 = I3 51 305 := by rw [eI_23, up2_off _ _ _ (by decide)]
        have r309_I_23 : I_23 51 309 = I3 51 309 := by rw [eI_23, up2_off _ _ _ (by decide)]
        have f31_I_23 : I_23 49 31 = I3 49 31 := by rw [eI_23, up2_off _ _ _ (by decide)]
        have rf_I_23 : FU (I_23 51 304) = FU (I3 51 304) := by rw [r304_I_23]
        have o_I_23 : ∀ j : Nat, 256 ≤ j → j ≠ 304 → j ≠ 305 → I_23 51 j = Ia 51 j := fun j h1 h2 h3 => (by rw [eI_23, up2_off _ _ _ (by decide)] : I_23 51 j = I3 51 j).trans (o_I3 j h1 h2 h3)
        have y51_I_23 : I_23 51 = I3 51 := by rw [eI_23, up2_off _ _ _ (by decide)]
        have y66_I_23 : I_23 66 = I3 66 := by rw [eI_23, up2_off _ _ _ (by decide)]
        have bkI_23 : BK9 Ia I_23 := by rw [eI_23]; exact BK9_up bkl3 (by decide)
        have tkI_23 : TK9 Ia I_23 Ja J3 := by rw [eI_23]; exact TK9_up tkl3 (by decide)
        refine ww_iinc hX (pc := 24) (lv' := [some (kR (some 49)), some (kI a), some (kI b), some (kI c), some (kI (i + 1)), none, none, none, none, none]) dX11_codes0_24 rfl (by decide) rfl rfl ?_
        refine ww_goto hX (pc := 27) (tgt := 3) dX11_codes0_27 (by decide) ?_
        exact ih_3 _ (by have hm9 := Sh0_e hq_3; omega) (i + 1) I_23 J3 rfl ⟨bkI_23, tkI_23, ⟨kI_23, cI_23, kJ3, by omega, by omega, by omega, by omega, o_I_23, by omega, (by rw [y51_I_23, e51_3]), (fun s hs => by
    rw [eI_23]
    by_cases g : s = i.toNat
    · subst g
      refine (up2_s ..).trans ?_
      rw [h_20, e51_3]
    · rw [up2_n _ _ (Or.inr g)]
      exact e65_3 s (by omega))⟩⟩
  exact hl_3 _ 0 Ia Ja rfl ⟨BK9_rf, TK9_rf, ⟨Ch_rf, hQ, (Kp_rf (a := 49) (b := 73)), rfl, rfl, rfl, rfl, (fun _ _ _ _ => rfl), by omega, rfl, (fun s hs => by omega)⟩⟩
set_option maxHeartbeats 4000000 in
set_option maxRecDepth 20000 in
theorem c9_X11_codes (l0 : Launch) {Ia Ja : aI1} {Ra : aR1} {Sa : aS1} (hL : LY Ra Sa) (hQ : RX Ia) {a b c : Int} (ha0 : -2147483648 ≤ a) (ha1 : a < 2147483648) (hb0 : -2147483648 ≤ b) (hb1 : b < 2147483648) (hc0 : -2147483648 ≤ c) (hc1 : c < 2147483648)  : CT l0 4 0 0 mX11_codes [kR (some 49), kI a, kI b, kI c] Ia Ja Ra Sa (cI (fun x I' J' => (Ch [51, 61, 65, 66] [25, 31] Ia I' ∧ Kp 49 73 Ja J' ∧ RX I' ∧ (¬ (1 ≤ a ∧ a ≤ 3 ∧ 2 ≤ b ∧ b ≤ 4 ∧ 0 ≤ c ∧ c ≤ 8) → x = -1) ∧ ((1 ≤ a ∧ a ≤ 3 ∧ 2 ≤ b ∧ b ≤ 4 ∧ 0 ≤ c ∧ c ≤ 8) → x = TBX a b c) ∧ I' 51 = Ia 51) ∧ QK9 Ia I' Ja J') Ra Sa) := by
  refine ct_in pn_X11 (Nat.le_of_ble_eq_true rfl) (fun X hX hT hIn => ?_)
  have hX : aK l0 X cX11_codes 4 RX11 (some .int) 4 0 0 := hX
  change WW X 0 [some (kR (some 49)), some (kI a), some (kI b), some (kI c)] [] Ia Ja Ra Sa 0 0
  have qIa := RX_o hQ
  refine ww_iload_n hX (pc := 0) dX11_codes_0 rfl ?_
  refine ww_iload_n hX (pc := 1) dX11_codes_1 rfl ?_
  refine ww_iload_n hX (pc := 2) dX11_codes_2 rfl ?_
  refine sI3 hX (pc := 3) sX11_327 (c_X11_areCodes l0 (by omega) (by omega) (by omega) (by omega) (by omega) (by omega)) (by decide) (Nat.le_refl 0) (Nat.le_refl 0) (Nat.le_of_ble_eq_true rfl) dX11_codes_3 (fun x_3 I_3 J_3 h_3 => ?_)
  obtain ⟨rfl, rfl, h_3⟩ := h_3
  refine ww_if_ne hX (pc := 6) (tgt := 11) dX11_codes_6 (by decide) (fun h_6 => ?_) (fun h_6 => ?_)
  · simp only [w32_mod] at h_6
    have k_3 := h_3.2.mp (by omega)
    clear h_3
    refine ww_aload_n hX (pc := 11) dX11_codes_11 rfl ?_
    refine ww_iload_n hX (pc := 12) dX11_codes_12 rfl ?_
    refine ww_iload_n hX (pc := 13) dX11_codes_13 rfl ?_
    refine ww_iload_n hX (pc := 14) dX11_codes_14 rfl ?_
    refine vV3 hX (pc := 15) sX11_330 (xs_49 hL) (c9_X11_codes0 l0 hL hQ (by omega) (by omega) (by omega) (by omega) (by omega) (by omega)) (by decide) (Nat.le_refl 0) (Nat.le_refl 0) (Nat.le_of_ble_eq_true rfl) dX11_codes_15 (fun I_15 J_15 h_15 => ?_)
    obtain ⟨h_15, qxI_15⟩ := h_15
    have kJ_15 : Kp 49 73 Ja J_15 := Kp_tr (Kp_rf (a := 49) (b := 73)) h_15.2.1
    have kI_15 : Ch [51, 61, 65, 66] [25, 31] Ia I_15 := Ch_tr Ch_rf (Ch_wd h_15.1 (by decide) (by decide))
    have cI_15 : RX I_15 := h_15.2.2.1
    have qI_15 := RX_o cI_15
    have xv15 := h_15.2.2.2
    have ht15 : I_15 49 31 = TBX a b c := by
      rw [h_15.2.2.2.2.2.2.1, FU_2 (by omega) (by omega)]
      exact codes_eq (by omega) (by omega) (by omega) (by omega) (by omega)
    have y51_I_15 : I_15 51 = Ia 51 := h_15.2.2.2.2.2.2.2.1
    have bkI_15 : BK9 Ia I_15 := BK9_tr BK9_rf qxI_15.1
    have tkI_15 : TK9 Ia I_15 Ja J_15 := TK9_tr TK9_rf qxI_15.2
    refine ww_aload_n hX (pc := 18) dX11_codes_18 rfl ?_
    refine ww_getI hX (pc := 19) fX11_324 (by decide) (xs_49 hL) dX11_codes_19 ?_
    refine rI hX (pc := 22) hT (Nat.le_refl 0) (Nat.le_refl 0) dX11_codes_22 ?_
    exact ⟨⟨kI_15, kJ_15, cI_15, by omega, by omega, y51_I_15⟩, bkI_15, tkI_15⟩
  · simp only [w32_mod] at h_6
    refine ww_iconst hX (pc := 9) (x := (-1)) dX11_codes_9 rfl ?_
    refine rI hX (pc := 10) hT (Nat.le_refl 0) (Nat.le_refl 0) dX11_codes_10 ?_
    exact ⟨⟨Ch_rf, (Kp_rf (a := 49) (b := 73)), hQ, by omega, by omega, rfl⟩, BK9_rf, TK9_rf⟩
set_option maxHeartbeats 4000000 in
set_option maxRecDepth 20000 in
theorem c9_X11_make (l0 : Launch) {Ia Ja : aI1} {Ra : aR1} {Sa : aS1} (hL : LY Ra Sa) (hQ : RX Ia) {a b c : Int} (ha0 : -2147483648 ≤ a) (ha1 : a < 2147483648) (hb0 : -2147483648 ≤ b) (hb1 : b < 2147483648) (hc0 : -2147483648 ≤ c) (hc1 : c < 2147483648)  : CT l0 4 0 0 mX11_make [kR (some 49), kI a, kI b, kI c] Ia Ja Ra Sa (cI (fun x I' J' => (Ch [50, 51, 61, 65, 66] [0, 1, 25, 31] Ia I' ∧ Kp 49 73 Ja J' ∧ RX I' ∧ (¬ (1 ≤ a ∧ a ≤ 3 ∧ 2 ≤ b ∧ b ≤ 4 ∧ 0 ≤ c ∧ c ≤ 8) → x = -1 ∧ I' 51 = Ia 51) ∧ ((1 ≤ a ∧ a ≤ 3 ∧ 2 ≤ b ∧ b ≤ 4 ∧ 0 ≤ c ∧ c ≤ 8) → ¬ (a = Ia 51 304 ∧ b = Ia 51 305 ∧ ¬ TBX a b c = 0) → x = -3 ∧ I' 51 = Ia 51) ∧ ((1 ≤ a ∧ a ≤ 3 ∧ 2 ≤ b ∧ b ≤ 4 ∧ 0 ≤ c ∧ c ≤ 8) → (a = Ia 51 304 ∧ b = Ia 51 305 ∧ ¬ TBX a b c = 0) → x = 0 ∧ ∃ c0, cN b.toNat (FU a + 1).toNat c.toNat c0 = 0 ∧ c.toNat ≤ DL b.toNat (dgs b.toNat (FU a + 1).toNat c0) ∧ ∀ j : Nat, I' 51 j = if (j : Int) < FU a + 1 then ((gd (dgs b.toNat (FU a + 1).toNat c0) j : Nat) : Int) else Ia 51 j)) ∧ RGQ9 x Ia I' Ja J') Ra Sa) := by
  refine ct_in pn_X11 (Nat.le_of_ble_eq_true rfl) (fun X hX hT hIn => ?_)
  have hX : aK l0 X cX11_make 5 RX11 (some .int) 4 0 0 := hX
  change WW X 0 [some (kR (some 49)), some (kI a), some (kI b), some (kI c), none] [] Ia Ja Ra Sa 0 0
  have qIa := RX_o hQ
  refine ww_iload_n hX (pc := 0) dX11_make_0 rfl ?_
  refine ww_iload_n hX (pc := 1) dX11_make_1 rfl ?_
  refine ww_iload_n hX (pc := 2) dX11_make_2 rfl ?_
  refine sI3 hX (pc := 3) sX11_327 (c_X11_areCodes l0 (by omega) (by omega) (by omega) (by omega) (by omega) (by omega)) (by decide) (Nat.le_refl 0) (Nat.le_refl 0) (Nat.le_of_ble_eq_true rfl) dX11_make_3 (fun x_3 I_3 J_3 h_3 => ?_)
  obtain ⟨rfl, rfl, h_3⟩ := h_3
  refine ww_if_ne hX (pc := 6) (tgt := 15) dX11_make_6 (by decide) (fun h_6 => ?_) (fun h_6 => ?_)
  · simp only [w32_mod] at h_6
    have k_3 := h_3.2.mp (by omega)
    clear h_3
    refine ww_iload_n hX (pc := 15) dX11_make_15 rfl ?_
    refine ww_aload_n hX (pc := 16) dX11_make_16 rfl ?_
    refine ww_getR hX (pc := 17) fX11_20 (by decide) (xs_49 hL) (xr_49_3 hL) dX11_make_17 ?_
    refine ww_sipush hX (pc := 20) (x := 304) dX11_make_20 (by decide) ?_
    refine ww_iald hX (pc := 23) (xs_51 hL) (by decide) (by omega) (by omega) dX11_make_23 ?_
    refine ww_toI (b := Ia 51 304) rfl ?_
    refine ww_icmp_ne hX (pc := 24) (tgt := 39) dX11_make_24 (by decide) (fun h_24 => ?_) (fun h_24 => ?_)
    · simp only [w32_mod] at h_24
      refine ww_aload_n hX (pc := 39) dX11_make_39 rfl ?_
      refine ww_bipush hX (pc := 40) (x := (-3)) dX11_make_40 (by decide) ?_
      refine vI1 hX (pc := 42) sX11_105 (xs_49 hL) (n9_X11_refuses l0 hL hQ (by omega) (by omega)) (by decide) (Nat.le_refl 0) (Nat.le_refl 0) (Nat.le_of_ble_eq_true rfl) dX11_make_42 (fun x_42 I_42 J_42 h_42 => ?_)
      obtain ⟨h_42, qxI_42⟩ := h_42
      have kJ_42 : Kp 49 73 Ja J_42 := Kp_tr (Kp_rf (a := 49) (b := 73)) h_42.2.1
      have kI_42 : Ch [50, 51, 61, 65, 66] [0, 1, 25, 31] Ia I_42 := Ch_tr Ch_rf (Ch_wd h_42.1 (by decide) (by decide))
      have cI_42 : RX I_42 := h_42.2.2.1
      have qI_42 := RX_o cI_42
      have r304_I_42 : I_42 51 304 = Ia 51 304 := by rw [h_42.1.1 51 (by decide) (by decide)]
      have r305_I_42 : I_42 51 305 = Ia 51 305 := by rw [h_42.1.1 51 (by decide) (by decide)]
      have r309_I_42 : I_42 51 309 = Ia 51 309 := by rw [h_42.1.1 51 (by decide) (by decide)]
      have rf_I_42 : FU (I_42 51 304) = FU (Ia 51 304) := by rw [r304_I_42]
      have xv42 := h_42.2.2.2
      have y51_I_42_ : I_42 51 = Ia 51 := h_42.1.1 51 (by decide) (by decide)
      have y51_I_42 : I_42 51 = Ia 51 := h_42.1.1 51 (by decide) (by decide)
      have y65_I_42 : I_42 65 = Ia 65 := h_42.1.1 65 (by decide) (by decide)
      have y66_I_42 : I_42 66 = Ia 66 := h_42.1.1 66 (by decide) (by decide)
      refine rI hX (pc := 45) hT (Nat.le_refl 0) (Nat.le_refl 0) dX11_make_45 ?_
      exact ⟨⟨kI_42, kJ_42, cI_42, (fun _ => ⟨by omega, y51_I_42_⟩), (fun _ _ => ⟨by omega, y51_I_42_⟩), (fun h9 h8 => absurd h8 (by omega))⟩, ⟨(fun _ => RQ9_tr BK9_rf TK9_rf qxI_42), (fun h9 => absurd h9 (by have := h_42.2.2.2; omega))⟩⟩
    · simp only [w32_mod] at h_24
      refine ww_iload_n hX (pc := 27) dX11_make_27 rfl ?_
      refine ww_aload_n hX (pc := 28) dX11_make_28 rfl ?_
      refine ww_getR hX (pc := 29) fX11_20 (by decide) (xs_49 hL) (xr_49_3 hL) dX11_make_29 ?_
      refine ww_sipush hX (pc := 32) (x := 305) dX11_make_32 (by decide) ?_
      refine ww_iald hX (pc := 35) (xs_51 hL) (by decide) (by omega) (by omega) dX11_make_35 ?_
      refine ww_toI (b := Ia 51 305) rfl ?_
      refine ww_icmp_eq hX (pc := 36) (tgt := 46) dX11_make_36 (by decide) (fun h_36 => ?_) (fun h_36 => ?_)
      · simp only [w32_mod] at h_36
        refine ww_aload_n hX (pc := 46) dX11_make_46 rfl ?_
        refine ww_iload_n hX (pc := 47) dX11_make_47 rfl ?_
        refine ww_iload_n hX (pc := 48) dX11_make_48 rfl ?_
        refine ww_iload_n hX (pc := 49) dX11_make_49 rfl ?_
        refine vV3 hX (pc := 50) sX11_330 (xs_49 hL) (c9_X11_codes0 l0 hL hQ (by omega) (by omega) (by omega) (by omega) (by omega) (by omega)) (by decide) (Nat.le_refl 0) (Nat.le_refl 0) (Nat.le_of_ble_eq_true rfl) dX11_make_50 (fun I_50 J_50 h_50 => ?_)
        obtain ⟨h_50, qxI_50⟩ := h_50
        have kJ_50 : Kp 49 73 Ja J_50 := Kp_tr (Kp_rf (a := 49) (b := 73)) h_50.2.1
        have kI_50 : Ch [50, 51, 61, 65, 66] [0, 1, 25, 31] Ia I_50 := Ch_tr Ch_rf (Ch_wd h_50.1 (by decide) (by decide))
        have cI_50 : RX I_50 := h_50.2.2.1
        have qI_50 := RX_o cI_50
        have xv50 := h_50.2.2.2
        have hf7 : FU (I_50 51 304) ≤ 7 := FU_3 (by omega) (by omega)
        have hfn : FU (I_50 51 304) = FU a := congrArg FU (by omega)
        have ht50 : I_50 49 31 = TBX a b c := by
          rw [h_50.2.2.2.2.2.2.1, FU_2 (by omega) (by omega)]
          exact codes_eq (by omega) (by omega) (by omega) (by omega) (by omega)
        have hr50 := TBX_r a b c
        have y51_I_50 : I_50 51 = Ia 51 := h_50.2.2.2.2.2.2.2.1
        have bkI_50 : BK9 Ia I_50 := BK9_tr BK9_rf qxI_50.1
        have tkI_50 : TK9 Ia I_50 Ja J_50 := TK9_tr TK9_rf qxI_50.2
        refine ww_aload_n hX (pc := 53) dX11_make_53 rfl ?_
        refine ww_getI hX (pc := 54) fX11_324 (by decide) (xs_49 hL) dX11_make_54 ?_
        refine ww_if_ne hX (pc := 57) (tgt := 67) dX11_make_57 (by decide) (fun h_57 => ?_) (fun h_57 => ?_)
        · simp only [w32_mod] at h_57
          refine ww_iconst hX (pc := 67) (x := 0) dX11_make_67 rfl ?_
          refine ww_istore hX (pc := 68) (lv' := [some (kR (some 49)), some (kI a), some (kI b), some (kI c), some (kI 0)]) dX11_make_68 (by decide) rfl rfl ?_
          have hl_70 : ∀ (n_70 : Nat) (i : Int) (I70 : aI1) (J70 : aI1), (8 - i).toNat = n_70 → (BK9 Ia I70 ∧ TK9 Ia I70 Ja J70 ∧ (Ch [50, 51, 61, 65, 66] [0, 1, 25, 31] Ia I70 ∧ RX I70 ∧ Kp 49 73 Ja J70 ∧ I70 51 304 = I_50 51 304 ∧ I70 51 305 = I_50 51 305 ∧ I70 51 309 = I_50 51 309 ∧ (0 ≤ i ∧ i ≤ FU a + 1) ∧ I70 66 = I_50 66 ∧ (∀ s : Nat, I70 51 s = if (s : Int) < i then I_50 66 s else Ia 51 s))) → WW X 70 [some (kR (some 49)), some (kI a), some (kI b), some (kI c), some (kI i)] [] I70 J70 Ra Sa 0 0 := by
            intro n_70
            induction n_70 using Nat.strongRecOn with
            | ind n_70 ih_70 =>
              intro i I70 J70 hm_70 hv_70
              have hq_70 := Sh0_i hm_70
              clear hm_70
              obtain ⟨bkl70, tkl70, hv_70⟩ := hv_70
              obtain ⟨kI70, cI70, kJ70, r304_I70, r305_I70, r309_I70, hv, e66_70, e51_70⟩ := hv_70
              have qI70 := RX_o cI70
              have rf_I70 : FU (I70 51 304) = FU (I_50 51 304) := by rw [r304_I70]
              refine ww_iload hX (pc := 70) dX11_make_70 rfl ?_
              refine ww_aload_n hX (pc := 72) dX11_make_72 rfl ?_
              refine vI0 hX (pc := 73) sX11_112 (xs_49 hL) (c_X11_states l0 hL cI70 ) (by decide) (Nat.le_refl 0) (Nat.le_refl 0) (Nat.le_of_ble_eq_true rfl) dX11_make_73 (fun x_73 I_73 J_73 h_73 => ?_)
              obtain ⟨rfl, rfl, h_73⟩ := h_73
              refine ww_icmp_ge hX (pc := 76) (tgt := 101) dX11_make_76 (by decide) (fun h_76 => ?_) (fun h_76 => ?_)
              · simp only [w32_mod] at h_76
                refine ww_aload_n hX (pc := 101) dX11_make_101 rfl ?_
                refine ww_iconst hX (pc := 102) (x := 0) dX11_make_102 rfl ?_
                refine vI1 hX (pc := 103) sX11_109 (xs_49 hL) (n9_X11_good l0 hL cI70) (by decide) (Nat.le_refl 0) (Nat.le_refl 0) (Nat.le_of_ble_eq_true rfl) dX11_make_103 (fun x_103 I_103 J_103 h_103 => ?_)
                obtain ⟨h_103, qxI_103⟩ := h_103
                have kJ_103 : Kp 49 73 Ja J_103 := Kp_tr kJ70 h_103.2.1
                have kI_103 : Ch [50, 51, 61, 65, 66] [0, 1, 25, 31] Ia I_103 := Ch_tr kI70 (Ch_wd h_103.1 (by decide) (by decide))
                have cI_103 : RX I_103 := h_103.2.2.1
                have qI_103 := RX_o cI_103
                have r304_I_103 : I_103 51 304 = I70 51 304 := by rw [h_103.1.1 51 (by decide) (by decide)]
                have r305_I_103 : I_103 51 305 = I70 51 305 := by rw [h_103.1.1 51 (by decide) (by decide)]
                have r309_I_103 : I_103 51 309 = I70 51 309 := by rw [h_103.1.1 51 (by decide) (by decide)]
                have rf_I_103 : FU (I_103 51 304) = FU (I70 51 304) := by rw [r304_I_103]
                have xv103 := h_103.2.2.2
                have y51_I_103 : I_103 51 = I70 51 := h_103.1.1 51 (by decide) (by decide)
                have y65_I_103 : I_103 65 = I70 65 := h_103.1.1 65 (by decide) (by decide)
                have y66_I_103 : I_103 66 = I70 66 := h_103.1.1 66 (by decide) (by decide)
                refine rI hX (pc := 106) hT (Nat.le_refl 0) (Nat.le_refl 0) dX11_make_106 ?_
                exact ⟨⟨kI_103, kJ_103, cI_103, (fun h9 => absurd (by omega) h9), (fun _ h8 => absurd (by omega) h8), (fun _ _ => ⟨by omega, (by
                    obtain ⟨c0, f1, f2, f3⟩ := h_50.2.2.2.2.2.2.2.2 (by omega)
                    refine ⟨c0, f1, f2, fun j => ?_⟩
                    rw [y51_I_103, e51_70 j]
                    by_cases g : (j : Int) < i
                    · rw [if_pos g, if_pos (by omega)]
                      exact f3 j (by omega)
                    · rw [if_neg g, if_neg (by omega)])⟩)⟩, ⟨(fun h9 => absurd h9 (by have := h_103.2.2.2; omega)), (fun _ => GQ9_tr bkl70 qxI_103)⟩⟩
              · simp only [w32_mod] at h_76
                refine ww_aload_n hX (pc := 79) dX11_make_79 rfl ?_
                refine ww_getR hX (pc := 80) fX11_20 (by decide) (xs_49 hL) (xr_49_3 hL) dX11_make_80 ?_
                refine ww_iconst hX (pc := 83) (x := 0) dX11_make_83 rfl ?_
                refine ww_iload hX (pc := 84) dX11_make_84 rfl ?_
                refine ww_iadd hX (pc := 86) dX11_make_86 ?_
                refine ww_aload_n hX (pc := 87) dX11_make_87 rfl ?_
                refine ww_getR hX (pc := 88) fX11_74 (by decide) (xs_49 hL) (xr_49_30 hL) dX11_make_88 ?_
                refine ww_iload hX (pc := 91) dX11_make_91 rfl ?_
                refine ww_iald hX (pc := 93) (xs_66 hL) (by decide) (by omega) (by omega) dX11_make_93 ?_
                refine ww_iast hX (pc := 94) (xs_51 hL) (by decide) (by omega) (by omega) dX11_make_94 ?_
                refine ww_nmH (fun I_94 eI_94 => ?_)
                have kI_94 : Ch [50, 51, 61, 65, 66] [0, 1, 25, 31] Ia I_94 := by rw [eI_94]; exact Ch_r kI70 (by decide) (by decide)
                have cI_94 : RX I_94 := by rw [eI_94]; exact RX_lo cI70 (by omega)
                have qI_94 := RX_o cI_94
                have r304_I_94 : I_94 51 304 = I70 51 304 := by rw [eI_94, up2_n _ _ (Or.inr (by omega))]
                have r305_I_94 : I_94 51 305 = I70 51 305 := by rw [eI_94, up2_n _ _ (Or.inr (by omega))]
                have r309_I_94 : I_94 51 309 = I70 51 309 := by rw [eI_94, up2_n _ _ (Or.inr (by omega))]
                have rf_I_94 : FU (I_94 51 304) = FU (I70 51 304) := by rw [r304_I_94]
                have y65_I_94 : I_94 65 = I70 65 := by rw [eI_94, up2_off _ _ _ (by decide)]
                have y66_I_94 : I_94 66 = I70 66 := by rw [eI_94, up2_off _ _ _ (by decide)]
                have bkI_94 : BK9 Ia I_94 := by rw [eI_94]; exact BK9_up bkl70 (by decide)
                have tkI_94 : TK9 Ia I_94 Ja J70 := by rw [eI_94]; exact TK9_up tkl70 (by decide)
                refine ww_iinc hX (pc := 95) (lv' := [some (kR (some 49)), some (kI a), some (kI b), some (kI c), some (kI (i + 1))]) dX11_make_95 rfl (by decide) rfl rfl ?_
                refine ww_goto hX (pc := 98) (tgt := 70) dX11_make_98 (by decide) ?_
                exact ih_70 _ (by have hm9 := Sh0_e hq_70; omega) (i + 1) I_94 J70 rfl ⟨bkI_94, tkI_94, ⟨kI_94, cI_94, kJ70, by omega, by omega, by omega, by omega, (by rw [y66_I_94, e66_70]), (fun s => by
    rw [eI_94]
    by_cases g : s = (0 + i).toNat
    · subst g
      rw [if_pos (by omega)]
      refine (up2_s ..).trans ?_
      rw [e66_70, show (0 + i).toNat = i.toNat by omega]
    · rw [up2_n _ _ (Or.inr g), e51_70 s]
      by_cases g2 : (s : Int) < i
      · rw [if_pos g2, if_pos (by omega)]
      · rw [if_neg g2, if_neg (by omega)])⟩⟩
          exact hl_70 _ 0 I_50 J_50 rfl ⟨bkI_50, tkI_50, ⟨kI_50, cI_50, kJ_50, rfl, rfl, rfl, by omega, rfl, (fun s => by rw [if_neg (by omega), y51_I_50])⟩⟩
        · simp only [w32_mod] at h_57
          refine ww_aload_n hX (pc := 60) dX11_make_60 rfl ?_
          refine ww_bipush hX (pc := 61) (x := (-3)) dX11_make_61 (by decide) ?_
          refine vI1 hX (pc := 63) sX11_105 (xs_49 hL) (n9_X11_refuses l0 hL cI_50 (by omega) (by omega)) (by decide) (Nat.le_refl 0) (Nat.le_refl 0) (Nat.le_of_ble_eq_true rfl) dX11_make_63 (fun x_63 I_63 J_63 h_63 => ?_)
          obtain ⟨h_63, qxI_63⟩ := h_63
          have kJ_63 : Kp 49 73 Ja J_63 := Kp_tr kJ_50 h_63.2.1
          have kI_63 : Ch [50, 51, 61, 65, 66] [0, 1, 25, 31] Ia I_63 := Ch_tr kI_50 (Ch_wd h_63.1 (by decide) (by decide))
          have cI_63 : RX I_63 := h_63.2.2.1
          have qI_63 := RX_o cI_63
          have r304_I_63 : I_63 51 304 = I_50 51 304 := by rw [h_63.1.1 51 (by decide) (by decide)]
          have r305_I_63 : I_63 51 305 = I_50 51 305 := by rw [h_63.1.1 51 (by decide) (by decide)]
          have r309_I_63 : I_63 51 309 = I_50 51 309 := by rw [h_63.1.1 51 (by decide) (by decide)]
          have rf_I_63 : FU (I_63 51 304) = FU (I_50 51 304) := by rw [r304_I_63]
          have xv63 := h_63.2.2.2
          have y51_I_63_ : I_63 51 = Ia 51 := (h_63.1.1 51 (by decide) (by decide)).trans y51_I_50
          have y51_I_63 : I_63 51 = I_50 51 := h_63.1.1 51 (by decide) (by decide)
          have y65_I_63 : I_63 65 = I_50 65 := h_63.1.1 65 (by decide) (by decide)
          have y66_I_63 : I_63 66 = I_50 66 := h_63.1.1 66 (by decide) (by decide)
          refine rI hX (pc := 66) hT (Nat.le_refl 0) (Nat.le_refl 0) dX11_make_66 ?_
          exact ⟨⟨kI_63, kJ_63, cI_63, (fun _ => ⟨by omega, y51_I_63_⟩), (fun _ _ => ⟨by omega, y51_I_63_⟩), (fun h9 h8 => absurd h8 (by omega))⟩, ⟨(fun _ => RQ9_tr bkI_50 tkI_50 qxI_63), (fun h9 => absurd h9 (by have := h_63.2.2.2; omega))⟩⟩
      · simp only [w32_mod] at h_36
        refine ww_aload_n hX (pc := 39) dX11_make_39 rfl ?_
        refine ww_bipush hX (pc := 40) (x := (-3)) dX11_make_40 (by decide) ?_
        refine vI1 hX (pc := 42) sX11_105 (xs_49 hL) (n9_X11_refuses l0 hL hQ (by omega) (by omega)) (by decide) (Nat.le_refl 0) (Nat.le_refl 0) (Nat.le_of_ble_eq_true rfl) dX11_make_42 (fun x_42 I_42 J_42 h_42 => ?_)
        obtain ⟨h_42, qxI_42⟩ := h_42
        have kJ_42 : Kp 49 73 Ja J_42 := Kp_tr (Kp_rf (a := 49) (b := 73)) h_42.2.1
        have kI_42 : Ch [50, 51, 61, 65, 66] [0, 1, 25, 31] Ia I_42 := Ch_tr Ch_rf (Ch_wd h_42.1 (by decide) (by decide))
        have cI_42 : RX I_42 := h_42.2.2.1
        have qI_42 := RX_o cI_42
        have r304_I_42 : I_42 51 304 = Ia 51 304 := by rw [h_42.1.1 51 (by decide) (by decide)]
        have r305_I_42 : I_42 51 305 = Ia 51 305 := by rw [h_42.1.1 51 (by decide) (by decide)]
        have r309_I_42 : I_42 51 309 = Ia 51 309 := by rw [h_42.1.1 51 (by decide) (by decide)]
        have rf_I_42 : FU (I_42 51 304) = FU (Ia 51 304) := by rw [r304_I_42]
        have xv42 := h_42.2.2.2
        have y51_I_42_ : I_42 51 = Ia 51 := h_42.1.1 51 (by decide) (by decide)
        have y51_I_42 : I_42 51 = Ia 51 := h_42.1.1 51 (by decide) (by decide)
        have y65_I_42 : I_42 65 = Ia 65 := h_42.1.1 65 (by decide) (by decide)
        have y66_I_42 : I_42 66 = Ia 66 := h_42.1.1 66 (by decide) (by decide)
        refine rI hX (pc := 45) hT (Nat.le_refl 0) (Nat.le_refl 0) dX11_make_45 ?_
        exact ⟨⟨kI_42, kJ_42, cI_42, (fun _ => ⟨by omega, y51_I_42_⟩), (fun _ _ => ⟨by omega, y51_I_42_⟩), (fun h9 h8 => absurd h8 (by omega))⟩, ⟨(fun _ => RQ9_tr BK9_rf TK9_rf qxI_42), (fun h9 => absurd h9 (by have := h_42.2.2.2; omega))⟩⟩
  · simp only [w32_mod] at h_6
    refine ww_aload_n hX (pc := 9) dX11_make_9 rfl ?_
    refine ww_iconst hX (pc := 10) (x := (-1)) dX11_make_10 rfl ?_
    refine vI1 hX (pc := 11) sX11_105 (xs_49 hL) (n9_X11_refuses l0 hL hQ (by omega) (by omega)) (by decide) (Nat.le_refl 0) (Nat.le_refl 0) (Nat.le_of_ble_eq_true rfl) dX11_make_11 (fun x_11 I_11 J_11 h_11 => ?_)
    obtain ⟨h_11, qxI_11⟩ := h_11
    have kJ_11 : Kp 49 73 Ja J_11 := Kp_tr (Kp_rf (a := 49) (b := 73)) h_11.2.1
    have kI_11 : Ch [50, 51, 61, 65, 66] [0, 1, 25, 31] Ia I_11 := Ch_tr Ch_rf (Ch_wd h_11.1 (by decide) (by decide))
    have cI_11 : RX I_11 := h_11.2.2.1
    have qI_11 := RX_o cI_11
    have r304_I_11 : I_11 51 304 = Ia 51 304 := by rw [h_11.1.1 51 (by decide) (by decide)]
    have r305_I_11 : I_11 51 305 = Ia 51 305 := by rw [h_11.1.1 51 (by decide) (by decide)]
    have r309_I_11 : I_11 51 309 = Ia 51 309 := by rw [h_11.1.1 51 (by decide) (by decide)]
    have rf_I_11 : FU (I_11 51 304) = FU (Ia 51 304) := by rw [r304_I_11]
    have xv11 := h_11.2.2.2
    have y51_I_11_ : I_11 51 = Ia 51 := h_11.1.1 51 (by decide) (by decide)
    have y51_I_11 : I_11 51 = Ia 51 := h_11.1.1 51 (by decide) (by decide)
    have y65_I_11 : I_11 65 = Ia 65 := h_11.1.1 65 (by decide) (by decide)
    have y66_I_11 : I_11 66 = Ia 66 := h_11.1.1 66 (by decide) (by decide)
    refine rI hX (pc := 14) hT (Nat.le_refl 0) (Nat.le_refl 0) dX11_make_14 ?_
    exact ⟨⟨kI_11, kJ_11, cI_11, (fun _ => ⟨by omega, y51_I_11_⟩), (fun _ _ => ⟨by omega, y51_I_11_⟩), (fun h9 h8 => absurd h8 (by omega))⟩, ⟨(fun _ => RQ9_tr BK9_rf TK9_rf qxI_11), (fun h9 => absurd h9 (by have := h_11.2.2.2; omega))⟩⟩
set_option maxHeartbeats 4000000 in
set_option maxRecDepth 20000 in
theorem c9_X11_image (l0 : Launch) {Ia Ja : aI1} {Ra : aR1} {Sa : aS1} (hL : LY Ra Sa) (hQ : RX Ia) {a : Int} (ha0 : -2147483648 ≤ a) (ha1 : a < 2147483648)  : CT l0 2 0 0 mX11_image [kR (some 49), kI a] Ia Ja Ra Sa (cI (fun x I' J' => (Ch [50, 52, 53] [0, 1] Ia I' ∧ Kp 49 73 Ja J' ∧ RX I' ∧ (¬ (0 ≤ a ∧ a < 2) → x = -1 ∧ I' 53 = Ia 53 ∧ I' 52 = Ia 52) ∧ ((0 ≤ a ∧ a < 2) → x = 0 ∧ I' 53 = up1 (Ia 53) a.toNat 1 ∧ (∀ j : Nat, j < 5117 → I' 52 (5117 * a.toNat + j) = Ia 51 j) ∧ (∀ b : Nat, (b < 5117 * a.toNat ∨ 5117 * a.toNat + 5117 ≤ b) → I' 52 b = Ia 52 b))) ∧ RGQ9 x Ia I' Ja J') Ra Sa) := by
  refine ct_in pn_X11 (Nat.le_of_ble_eq_true rfl) (fun X hX hT hIn => ?_)
  have hX : aK l0 X cX11_image 3 RX11 (some .int) 2 0 0 := hX
  change WW X 0 [some (kR (some 49)), some (kI a), none] [] Ia Ja Ra Sa 0 0
  have qIa := RX_o hQ
  refine ww_iload_n hX (pc := 0) dX11_image_0 rfl ?_
  refine ww_iconst hX (pc := 1) (x := 0) dX11_image_1 rfl ?_
  refine ww_iconst hX (pc := 2) (x := 1) dX11_image_2 rfl ?_
  refine sI3 hX (pc := 3) sX11_101 (c_X11_lies l0 (by omega) (by omega) (by omega) (by omega) (by omega) (by omega)) (by decide) (Nat.le_refl 0) (Nat.le_refl 0) (Nat.le_of_ble_eq_true rfl) dX11_image_3 (fun x_3 I_3 J_3 h_3 => ?_)
  obtain ⟨rfl, rfl, h_3⟩ := h_3
  refine ww_if_ne hX (pc := 6) (tgt := 15) dX11_image_6 (by decide) (fun h_6 => ?_) (fun h_6 => ?_)
  · simp only [w32_mod] at h_6
    have k_3 := h_3.2.mp (by omega)
    clear h_3
    refine ww_iconst hX (pc := 15) (x := 0) dX11_image_15 rfl ?_
    refine ww_istore_n hX (pc := 16) (lv' := [some (kR (some 49)), some (kI a), some (kI 0)]) dX11_image_16 (by decide) rfl rfl ?_
    have hl_17 : ∀ (n_17 : Nat) (i : Int) (I17 : aI1), (5117 - i).toNat = n_17 → (BK9 Ia I17 ∧ TK9 Ia I17 Ja Ja ∧ (Ch [50, 52, 53] [0, 1] Ia I17 ∧ (0 ≤ i ∧ i ≤ 5117) ∧ I17 = imgR Ia a i)) → WW X 17 [some (kR (some 49)), some (kI a), some (kI i)] [] I17 Ja Ra Sa 0 0 := by
      intro n_17
      induction n_17 using Nat.strongRecOn with
      | ind n_17 ih_17 =>
        intro i I17 hm_17 hv_17
        have hq_17 := Sh0_i hm_17
        clear hm_17
        obtain ⟨bkl17, tkl17, hv_17⟩ := hv_17
        obtain ⟨kI17, hv, eI17⟩ := hv_17
        refine ww_iload_n hX (pc := 17) dX11_image_17 rfl ?_
        refine ww_sipush hX (pc := 18) (x := 5117) dX11_image_18 (by decide) ?_
        refine ww_icmp_ge hX (pc := 21) (tgt := 48) dX11_image_21 (by decide) (fun h_21 => ?_) (fun h_21 => ?_)
        · simp only [w32_mod] at h_21
          refine ww_aload_n hX (pc := 48) dX11_image_48 rfl ?_
          refine ww_getR hX (pc := 49) fX11_26 (by decide) (xs_49 hL) (xr_49_5 hL) dX11_image_49 ?_
          refine ww_iload_n hX (pc := 52) dX11_image_52 rfl ?_
          refine ww_iconst hX (pc := 53) (x := 1) dX11_image_53 rfl ?_
          refine ww_zast hX (pc := 54) (xs_53 hL) (by decide) (by omega) (by omega) (by decide) dX11_image_54 ?_
          refine ww_nmH (fun I_54 eI_54 => ?_)
          have kI_54 : Ch [50, 52, 53] [0, 1] Ia I_54 := by rw [eI_54]; exact Ch_r kI17 (by decide) (by decide)
          have bkI_54 : BK9 Ia I_54 := by rw [eI_54]; exact BK9_up bkl17 (by decide)
          have tkI_54 : TK9 Ia I_54 Ja Ja := by rw [eI_54]; exact TK9_up tkl17 (by decide)
          have cI_54 : RX I_54 := by rw [eI_54, eI17, show i = 5117 by omega]; exact RX_img hQ (by omega) (by omega)
          refine ww_aload_n hX (pc := 55) dX11_image_55 rfl ?_
          refine ww_iconst hX (pc := 56) (x := 0) dX11_image_56 rfl ?_
          refine vI1 hX (pc := 57) sX11_109 (xs_49 hL) (n9_X11_good l0 hL cI_54) (by decide) (Nat.le_refl 0) (Nat.le_refl 0) (Nat.le_of_ble_eq_true rfl) dX11_image_57 (fun x_57 I_57 J_57 h_57 => ?_)
          obtain ⟨h_57, qxI_57⟩ := h_57
          have kJ_57 : Kp 49 73 Ja J_57 := Kp_tr (Kp_rf (a := 49) (b := 73)) h_57.2.1
          have kI_57 : Ch [50, 52, 53] [0, 1] Ia I_57 := Ch_tr kI_54 (Ch_wd h_57.1 (by decide) (by decide))
          have cI_57 : RX I_57 := h_57.2.2.1
          have qI_57 := RX_o cI_57
          refine rI hX (pc := 60) hT (Nat.le_refl 0) (Nat.le_refl 0) dX11_image_60 ?_
          exact ⟨⟨kI_57, kJ_57, cI_57, (fun h9 => absurd (by omega) h9), (fun _ => ⟨h_57.2.2.2, (by rw [h_57.1.1 53 (by decide) (by decide), eI_54, up2_row, eI17]; unfold imgR; rw [upR_n _ _ (by decide)]), (fun j hj => by rw [h_57.1.1 52 (by decide) (by decide), eI_54, up2_off _ _ _ (by decide), eI17, show i = 5117 by omega]; exact imgR_at (by omega) hj), (fun b hb => by rw [h_57.1.1 52 (by decide) (by decide), eI_54, up2_off _ _ _ (by decide), eI17, show i = 5117 by omega]; exact imgR_of (by omega) hb)⟩)⟩, ⟨(fun h9 => absurd h9 (by have := h_57.2.2.2; omega)), (fun _ => GQ9_tr bkI_54 qxI_57)⟩⟩
        · simp only [w32_mod] at h_21
          refine ww_aload_n hX (pc := 24) dX11_image_24 rfl ?_
          refine ww_getR hX (pc := 25) fX11_23 (by decide) (xs_49 hL) (xr_49_4 hL) dX11_image_25 ?_
          refine ww_sipush hX (pc := 28) (x := 5117) dX11_image_28 (by decide) ?_
          refine ww_iload_n hX (pc := 31) dX11_image_31 rfl ?_
          refine ww_imul hX (pc := 32) dX11_image_32 ?_
          refine ww_iload_n hX (pc := 33) dX11_image_33 rfl ?_
          refine ww_iadd hX (pc := 34) dX11_image_34 ?_
          refine ww_aload_n hX (pc := 35) dX11_image_35 rfl ?_
          refine ww_getR hX (pc := 36) fX11_20 (by decide) (xs_49 hL) (xr_49_3 hL) dX11_image_36 ?_
          refine ww_iload_n hX (pc := 39) dX11_image_39 rfl ?_
          refine ww_iald hX (pc := 40) (xs_51 hL) (by decide) (by omega) (by omega) dX11_image_40 ?_
          refine ww_iast hX (pc := 41) (xs_52 hL) (by decide) (by omega) (by omega) dX11_image_41 ?_
          refine ww_nmH (fun I_41 eI_41 => ?_)
          have kI_41 : Ch [50, 52, 53] [0, 1] Ia I_41 := by rw [eI_41]; exact Ch_r kI17 (by decide) (by decide)
          have bkI_41 : BK9 Ia I_41 := by rw [eI_41]; exact BK9_up bkl17 (by decide)
          have tkI_41 : TK9 Ia I_41 Ja Ja := by rw [eI_41]; exact TK9_up tkl17 (by decide)
          refine ww_iinc hX (pc := 42) (lv' := [some (kR (some 49)), some (kI a), some (kI (i + 1))]) dX11_image_42 rfl (by decide) rfl rfl ?_
          refine ww_goto hX (pc := 45) (tgt := 17) dX11_image_45 (by decide) ?_
          exact ih_17 _ (by have hm9 := Sh0_e hq_17; omega) (i + 1) I_41 rfl ⟨bkI_41, tkI_41, ⟨kI_41, ⟨by omega, by omega⟩, by rw [eI_41, eI17]; exact imgR_s _ (by omega) (by omega)⟩⟩
    exact hl_17 _ 0 Ia rfl ⟨BK9_rf, TK9_rf, ⟨Ch_rf, ⟨by omega, by omega⟩, imgR_0 _ _⟩⟩
  · simp only [w32_mod] at h_6
    refine ww_aload_n hX (pc := 9) dX11_image_9 rfl ?_
    refine ww_iconst hX (pc := 10) (x := (-1)) dX11_image_10 rfl ?_
    refine vI1 hX (pc := 11) sX11_105 (xs_49 hL) (n9_X11_refuses l0 hL hQ (by omega) (by omega)) (by decide) (Nat.le_refl 0) (Nat.le_refl 0) (Nat.le_of_ble_eq_true rfl) dX11_image_11 (fun x_11 I_11 J_11 h_11 => ?_)
    obtain ⟨h_11, qxI_11⟩ := h_11
    have kJ_11 : Kp 49 73 Ja J_11 := Kp_tr (Kp_rf (a := 49) (b := 73)) h_11.2.1
    have kI_11 : Ch [50, 52, 53] [0, 1] Ia I_11 := Ch_tr Ch_rf (Ch_wd h_11.1 (by decide) (by decide))
    have cI_11 : RX I_11 := h_11.2.2.1
    have qI_11 := RX_o cI_11
    refine rI hX (pc := 14) hT (Nat.le_refl 0) (Nat.le_refl 0) dX11_image_14 ?_
    exact ⟨⟨kI_11, kJ_11, cI_11, (fun _ => ⟨h_11.2.2.2, h_11.1.1 53 (by decide) (by decide), h_11.1.1 52 (by decide) (by decide)⟩), (fun h9 => absurd h9 (by omega))⟩, ⟨(fun _ => RQ9_tr BK9_rf TK9_rf qxI_11), (fun h9 => absurd h9 (by have := h_11.2.2.2; omega))⟩⟩
set_option maxHeartbeats 4000000 in
set_option maxRecDepth 20000 in
theorem c9_X11_back (l0 : Launch) {Ia Ja : aI1} {Ra : aR1} {Sa : aS1} (hL : LY Ra Sa) (hQ : RX Ia) {a : Int} (ha0 : -2147483648 ≤ a) (ha1 : a < 2147483648)  : CT l0 2 0 0 mX11_back [kR (some 49), kI a] Ia Ja Ra Sa (cI (fun x I' J' => (Ch [50, 51] [0, 1] Ia I' ∧ Kp 49 73 Ja J' ∧ RX I' ∧ (¬ (0 ≤ a ∧ a < 2) → x = -1 ∧ I' 51 = Ia 51) ∧ ((0 ≤ a ∧ a < 2) → (Ia 53 a.toNat = 0 → x = -2 ∧ I' 51 = Ia 51) ∧ (¬ Ia 53 a.toNat = 0 → x = 0 ∧ ∀ j : Nat, j < 5117 → I' 51 j = Ia 52 (5117 * a.toNat + j)))) ∧ RGQ9 x Ia I' Ja J') Ra Sa) := by
  refine ct_in pn_X11 (Nat.le_of_ble_eq_true rfl) (fun X hX hT hIn => ?_)
  have hX : aK l0 X cX11_back 3 RX11 (some .int) 2 0 0 := hX
  change WW X 0 [some (kR (some 49)), some (kI a), none] [] Ia Ja Ra Sa 0 0
  have qIa := RX_o hQ
  refine ww_iload_n hX (pc := 0) dX11_back_0 rfl ?_
  refine ww_iconst hX (pc := 1) (x := 0) dX11_back_1 rfl ?_
  refine ww_iconst hX (pc := 2) (x := 1) dX11_back_2 rfl ?_
  refine sI3 hX (pc := 3) sX11_101 (c_X11_lies l0 (by omega) (by omega) (by omega) (by omega) (by omega) (by omega)) (by decide) (Nat.le_refl 0) (Nat.le_refl 0) (Nat.le_of_ble_eq_true rfl) dX11_back_3 (fun x_3 I_3 J_3 h_3 => ?_)
  obtain ⟨rfl, rfl, h_3⟩ := h_3
  refine ww_if_ne hX (pc := 6) (tgt := 15) dX11_back_6 (by decide) (fun h_6 => ?_) (fun h_6 => ?_)
  · simp only [w32_mod] at h_6
    have k_3 := h_3.2.mp (by omega)
    clear h_3
    refine ww_aload_n hX (pc := 15) dX11_back_15 rfl ?_
    refine ww_getR hX (pc := 16) fX11_26 (by decide) (xs_49 hL) (xr_49_5 hL) dX11_back_16 ?_
    refine ww_iload_n hX (pc := 19) dX11_back_19 rfl ?_
    have h53 : Ia 53 a.toNat = 0 ∨ Ia 53 a.toNat = 1 := (hQ.2.1 a.toNat (by omega)).imp id And.left
    refine ww_zald hX (pc := 20) (xs_53 hL) (by decide) (by omega) (by omega) dX11_back_20 ?_
    refine ww_if_ne hX (pc := 21) (tgt := 31) dX11_back_21 (by decide) (fun h_21 => ?_) (fun h_21 => ?_)
    · simp only [w32_mod] at h_21
      refine ww_iconst hX (pc := 31) (x := 0) dX11_back_31 rfl ?_
      refine ww_istore_n hX (pc := 32) (lv' := [some (kR (some 49)), some (kI a), some (kI 0)]) dX11_back_32 (by decide) rfl rfl ?_
      have hl_33 : ∀ (n_33 : Nat) (i : Int) (I33 : aI1), (5117 - i).toNat = n_33 → (BK9 Ia I33 ∧ TK9 Ia I33 Ja Ja ∧ (Ch [50, 51] [0, 1] Ia I33 ∧ (0 ≤ i ∧ i ≤ 5117) ∧ I33 = backR Ia a i)) → WW X 33 [some (kR (some 49)), some (kI a), some (kI i)] [] I33 Ja Ra Sa 0 0 := by
        intro n_33
        induction n_33 using Nat.strongRecOn with
        | ind n_33 ih_33 =>
          intro i I33 hm_33 hv_33
          have hq_33 := Sh0_i hm_33
          clear hm_33
          obtain ⟨bkl33, tkl33, hv_33⟩ := hv_33
          obtain ⟨kI33, hv, eI33⟩ := hv_33
          refine ww_iload_n hX (pc := 33) dX11_back_33 rfl ?_
          refine ww_sipush hX (pc := 34) (x := 5117) dX11_back_34 (by decide) ?_
          refine ww_icmp_ge hX (pc := 37) (tgt := 64) dX11_back_37 (by decide) (fun h_37 => ?_) (fun h_37 => ?_)
          · simp only [w32_mod] at h_37
            have cI33 : RX I33 := by rw [eI33, show i = 5117 by omega]; exact RX_back hQ (by omega) (by omega) (by omega)
            refine ww_aload_n hX (pc := 64) dX11_back_64 rfl ?_
            refine ww_iconst hX (pc := 65) (x := 0) dX11_back_65 rfl ?_
            refine vI1 hX (pc := 66) sX11_109 (xs_49 hL) (n9_X11_good l0 hL cI33) (by decide) (Nat.le_refl 0) (Nat.le_refl 0) (Nat.le_of_ble_eq_true rfl) dX11_back_66 (fun x_66 I_66 J_66 h_66 => ?_)
            obtain ⟨h_66, qxI_66⟩ := h_66
            have kJ_66 : Kp 49 73 Ja J_66 := Kp_tr (Kp_rf (a := 49) (b := 73)) h_66.2.1
            have kI_66 : Ch [50, 51] [0, 1] Ia I_66 := Ch_tr kI33 (Ch_wd h_66.1 (by decide) (by decide))
            have cI_66 : RX I_66 := h_66.2.2.1
            have qI_66 := RX_o cI_66
            refine rI hX (pc := 69) hT (Nat.le_refl 0) (Nat.le_refl 0) dX11_back_69 ?_
            exact ⟨⟨kI_66, kJ_66, cI_66, (fun h9 => absurd (by omega) h9), (fun _ => ⟨fun h9 => absurd h9 (by omega), fun _ => ⟨h_66.2.2.2, fun j hj => by rw [h_66.1.1 51 (by decide) (by decide), eI33, show i = 5117 by omega]; exact backR_at (by omega) hj⟩⟩)⟩, ⟨(fun h9 => absurd h9 (by have := h_66.2.2.2; omega)), (fun _ => GQ9_tr bkl33 qxI_66)⟩⟩
          · simp only [w32_mod] at h_37
            refine ww_aload_n hX (pc := 40) dX11_back_40 rfl ?_
            refine ww_getR hX (pc := 41) fX11_20 (by decide) (xs_49 hL) (xr_49_3 hL) dX11_back_41 ?_
            refine ww_iload_n hX (pc := 44) dX11_back_44 rfl ?_
            refine ww_aload_n hX (pc := 45) dX11_back_45 rfl ?_
            refine ww_getR hX (pc := 46) fX11_23 (by decide) (xs_49 hL) (xr_49_4 hL) dX11_back_46 ?_
            refine ww_sipush hX (pc := 49) (x := 5117) dX11_back_49 (by decide) ?_
            refine ww_iload_n hX (pc := 52) dX11_back_52 rfl ?_
            refine ww_imul hX (pc := 53) dX11_back_53 ?_
            refine ww_iload_n hX (pc := 54) dX11_back_54 rfl ?_
            refine ww_iadd hX (pc := 55) dX11_back_55 ?_
            refine ww_iald hX (pc := 56) (xs_52 hL) (by decide) (by omega) (by omega) dX11_back_56 ?_
            refine ww_iast hX (pc := 57) (xs_51 hL) (by decide) (by omega) (by omega) dX11_back_57 ?_
            refine ww_nmH (fun I_57 eI_57 => ?_)
            have kI_57 : Ch [50, 51] [0, 1] Ia I_57 := by rw [eI_57]; exact Ch_r kI33 (by decide) (by decide)
            have bkI_57 : BK9 Ia I_57 := by rw [eI_57]; exact BK9_up bkl33 (by decide)
            have tkI_57 : TK9 Ia I_57 Ja Ja := by rw [eI_57]; exact TK9_up tkl33 (by decide)
            refine ww_iinc hX (pc := 58) (lv' := [some (kR (some 49)), some (kI a), some (kI (i + 1))]) dX11_back_58 rfl (by decide) rfl rfl ?_
            refine ww_goto hX (pc := 61) (tgt := 33) dX11_back_61 (by decide) ?_
            exact ih_33 _ (by have hm9 := Sh0_e hq_33; omega) (i + 1) I_57 rfl ⟨bkI_57, tkI_57, ⟨kI_57, ⟨by omega, by omega⟩, by rw [eI_57, eI33]; exact backR_s _ (by omega)⟩⟩
      exact hl_33 _ 0 Ia rfl ⟨BK9_rf, TK9_rf, ⟨Ch_rf, ⟨by omega, by omega⟩, backR_0 _ _⟩⟩
    · simp only [w32_mod] at h_21
      refine ww_aload_n hX (pc := 24) dX11_back_24 rfl ?_
      refine ww_bipush hX (pc := 25) (x := (-2)) dX11_back_25 (by decide) ?_
      refine vI1 hX (pc := 27) sX11_105 (xs_49 hL) (n9_X11_refuses l0 hL hQ (by omega) (by omega)) (by decide) (Nat.le_refl 0) (Nat.le_refl 0) (Nat.le_of_ble_eq_true rfl) dX11_back_27 (fun x_27 I_27 J_27 h_27 => ?_)
      obtain ⟨h_27, qxI_27⟩ := h_27
      have kJ_27 : Kp 49 73 Ja J_27 := Kp_tr (Kp_rf (a := 49) (b := 73)) h_27.2.1
      have kI_27 : Ch [50, 51] [0, 1] Ia I_27 := Ch_tr Ch_rf (Ch_wd h_27.1 (by decide) (by decide))
      have cI_27 : RX I_27 := h_27.2.2.1
      have qI_27 := RX_o cI_27
      refine rI hX (pc := 30) hT (Nat.le_refl 0) (Nat.le_refl 0) dX11_back_30 ?_
      exact ⟨⟨kI_27, kJ_27, cI_27, (fun h9 => absurd (by omega) h9), (fun _ => ⟨fun _ => ⟨h_27.2.2.2, h_27.1.1 51 (by decide) (by decide)⟩, fun h9 => absurd (by omega) h9⟩)⟩, ⟨(fun _ => RQ9_tr BK9_rf TK9_rf qxI_27), (fun h9 => absurd h9 (by have := h_27.2.2.2; omega))⟩⟩
  · simp only [w32_mod] at h_6
    refine ww_aload_n hX (pc := 9) dX11_back_9 rfl ?_
    refine ww_iconst hX (pc := 10) (x := (-1)) dX11_back_10 rfl ?_
    refine vI1 hX (pc := 11) sX11_105 (xs_49 hL) (n9_X11_refuses l0 hL hQ (by omega) (by omega)) (by decide) (Nat.le_refl 0) (Nat.le_refl 0) (Nat.le_of_ble_eq_true rfl) dX11_back_11 (fun x_11 I_11 J_11 h_11 => ?_)
    obtain ⟨h_11, qxI_11⟩ := h_11
    have kJ_11 : Kp 49 73 Ja J_11 := Kp_tr (Kp_rf (a := 49) (b := 73)) h_11.2.1
    have kI_11 : Ch [50, 51] [0, 1] Ia I_11 := Ch_tr Ch_rf (Ch_wd h_11.1 (by decide) (by decide))
    have cI_11 : RX I_11 := h_11.2.2.1
    have qI_11 := RX_o cI_11
    refine rI hX (pc := 14) hT (Nat.le_refl 0) (Nat.le_refl 0) dX11_back_14 ?_
    exact ⟨⟨kI_11, kJ_11, cI_11, (fun _ => ⟨h_11.2.2.2, h_11.1.1 51 (by decide) (by decide)⟩), (fun h9 => absurd h9 (by omega))⟩, ⟨(fun _ => RQ9_tr BK9_rf TK9_rf qxI_11), (fun h9 => absurd h9 (by have := h_11.2.2.2; omega))⟩⟩
