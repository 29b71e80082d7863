set_option maxHeartbeats 4000000 in
set_option maxRecDepth 20000 in
theorem c9_X11_plans (l0 : Launch) {Ia Ja : aI1} {Ra : aR1} {Sa : aS1} (hL : LY Ra Sa) (hQ : RX Ia)  : CT l0 2 0 0 mX11_plans [kR (some 49)] Ia Ja Ra Sa (cV (fun I' J' => (Ch [70, 71] [] Ia I' ∧ Kp 49 73 Ja J' ∧ RX I' ∧ ∀ i9 s9 : Int, 0 ≤ i9 → i9 < Ia 51 309 → 0 ≤ s9 → s9 ≤ FU (Ia 51 304) → PLs (Ia 51) (I' 70) i9 s9) ∧ QK9 Ia I' Ja J') Ra Sa) := by
  refine ct_in pn_X11 (Nat.le_of_ble_eq_true rfl) (fun X hX hT hIn => ?_)
  have hX : aK l0 X cX11_plans 9 RX11 none 2 0 0 := hX
  change WW X 0 [some (kR (some 49)), none, none, none, none, none, none, none, none] [] Ia Ja Ra Sa 0 0
  have qIa := RX_p hQ
  refine ww_aload_n hX (pc := 0) dX11_plans_0 rfl ?_
  refine ww_getR hX (pc := 1) fX11_20 (by decide) (xs_49 hL) (xr_49_3 hL) dX11_plans_1 ?_
  refine ww_sipush hX (pc := 4) (x := 309) dX11_plans_4 (by decide) ?_
  refine ww_iald hX (pc := 7) (xs_51 hL) (by decide) (by omega) (by omega) dX11_plans_7 ?_
  refine ww_toI (b := Ia 51 309) rfl ?_
  refine ww_nmI (fun v_8 hv_8 => ?_)
  refine ww_istore_n hX (pc := 8) (lv' := [some (kR (some 49)), some (kI v_8), none, none, none, none, none, none, none]) dX11_plans_8 (by decide) rfl rfl ?_
  refine ww_iconst hX (pc := 9) (x := 0) dX11_plans_9 rfl ?_
  refine ww_istore_n hX (pc := 10) (lv' := [some (kR (some 49)), some (kI v_8), some (kI 0), none, none, none, none, none, none]) dX11_plans_10 (by decide) rfl rfl ?_
  have hl_11 : ∀ (n_11 : Nat) (q : Int) (I11 : aI1) (J11 : aI1), (256 - q).toNat = n_11 → (BK9 Ia I11 ∧ TK9 Ia I11 Ja J11 ∧ (Ch [70, 71] [] Ia I11 ∧ RX I11 ∧ Kp 49 73 Ja J11 ∧ I11 51 304 = Ia 51 304 ∧ I11 51 305 = Ia 51 305 ∧ (0 ≤ q ∧ q ≤ 256))) → WW X 11 [some (kR (some 49)), some (kI v_8), some (kI q), none, none, none, none, none, none] [] I11 J11 Ra Sa 0 0 := by
    intro n_11
    induction n_11 using Nat.strongRecOn with
    | ind n_11 ih_11 =>
      intro q I11 J11 hm_11 hv_11
      have hq_11 := Sh0_i hm_11
      clear hm_11
      obtain ⟨bkl11, tkl11, hv_11⟩ := hv_11
      obtain ⟨kI11, cI11, kJ11, r304_I11, r305_I11, hq⟩ := hv_11
      have qI11 := RX_p cI11
      have rf_I11 : FU (I11 51 304) = FU (Ia 51 304) := by rw [r304_I11]
      refine ww_iload_n hX (pc := 11) dX11_plans_11 rfl ?_
      refine ww_aload_n hX (pc := 12) dX11_plans_12 rfl ?_
      refine vI0 hX (pc := 13) sX11_112 (xs_49 hL) (c_X11_states l0 hL cI11 ) (by decide) (Nat.le_refl 0) (Nat.le_refl 0) (Nat.le_of_ble_eq_true rfl) dX11_plans_13 (fun x_13 I_13 J_13 h_13 => ?_)
      obtain ⟨rfl, rfl, h_13⟩ := h_13
      refine ww_icmp_ge hX (pc := 16) (tgt := 51) dX11_plans_16 (by decide) (fun h_16 => ?_) (fun h_16 => ?_)
      · simp only [w32_mod] at h_16
        refine ww_iload_n hX (pc := 51) dX11_plans_51 rfl ?_
        refine ww_iconst hX (pc := 52) (x := 1) dX11_plans_52 rfl ?_
        refine ww_isub hX (pc := 53) dX11_plans_53 ?_
        refine ww_nmI (fun v_54 hv_54 => ?_)
        refine ww_istore_n hX (pc := 54) (lv' := [some (kR (some 49)), some (kI v_8), some (kI v_54), none, none, none, none, none, none]) dX11_plans_54 (by decide) rfl rfl ?_
        have hl_55 : ∀ (n_55 : Nat) (i : Int) (I55 : aI1) (J55 : aI1), (i + 1).toNat = n_55 → (BK9 Ia I55 ∧ TK9 Ia I55 Ja J55 ∧ (Ch [70, 71] [] Ia I55 ∧ RX I55 ∧ Kp 49 73 Ja J55 ∧ I55 51 304 = I11 51 304 ∧ I55 51 305 = I11 51 305 ∧ (-1 ≤ i ∧ i ≤ 15) ∧ (∀ i9 s9 : Int, i < i9 → i9 < Ia 51 309 → 0 ≤ s9 → s9 ≤ FU (Ia 51 304) → PLs (Ia 51) (I55 70) i9 s9))) → WW X 55 [some (kR (some 49)), some (kI v_8), some (kI i), none, none, none, none, none, none] [] I55 J55 Ra Sa 0 0 := by
          intro n_55
          induction n_55 using Nat.strongRecOn with
          | ind n_55 ih_55 =>
            intro i I55 J55 hm_55 hv_55
            have hq_55 := Sh0_i hm_55
            clear hm_55
            obtain ⟨bkl55, tkl55, hv_55⟩ := hv_55
            obtain ⟨kI55, cI55, kJ55, r304_I55, r305_I55, hv, hpl⟩ := hv_55
            have qI55 := RX_p cI55
            have rf_I55 : FU (I55 51 304) = FU (I11 51 304) := by rw [r304_I55]
            refine ww_iload_n hX (pc := 55) dX11_plans_55 rfl ?_
            refine ww_if_lt hX (pc := 56) (tgt := 288) dX11_plans_56 (by decide) (fun h_56 => ?_) (fun h_56 => ?_)
            · simp only [w32_mod] at h_56
              refine rV hX (pc := 288) hT (Nat.le_refl 0) (Nat.le_refl 0) dX11_plans_288 ?_
              exact ⟨⟨kI55, kJ55, cI55, fun i9 s9 g1 g2 g3 g4 => hpl i9 s9 (by omega) g2 g3 g4⟩, bkl55, tkl55⟩
            · simp only [w32_mod] at h_56
              refine ww_iconst hX (pc := 59) (x := 0) dX11_plans_59 rfl ?_
              refine ww_istore_n hX (pc := 60) (lv' := [some (kR (some 49)), some (kI v_8), some (kI i), some (kI 0), none, none, none, none, none]) dX11_plans_60 (by decide) rfl rfl ?_
              have hl_61 : ∀ (n_61 : Nat) (sa : Int) (I61 : aI1) (J61 : aI1), (256 - sa).toNat = n_61 → (BK9 Ia I61 ∧ TK9 Ia I61 Ja J61 ∧ (Ch [70, 71] [] Ia I61 ∧ RX I61 ∧ Kp 49 73 Ja J61 ∧ I61 51 304 = I55 51 304 ∧ I61 51 305 = I55 51 305 ∧ (0 ≤ sa ∧ sa ≤ 256) ∧ (∀ i9 s9 : Int, (i < i9 ∨ (i9 = i ∧ s9 < sa)) → i9 < Ia 51 309 → 0 ≤ s9 → s9 ≤ FU (Ia 51 304) → PLs (Ia 51) (I61 70) i9 s9))) → WW X 61 [some (kR (some 49)), some (kI v_8), some (kI i), some (kI sa), none, none, none, none, none] [] I61 J61 Ra Sa 0 0 := by
                intro n_61
                induction n_61 using Nat.strongRecOn with
                | ind n_61 ih_61 =>
                  intro sa I61 J61 hm_61 hv_61
                  have hq_61 := Sh0_i hm_61
                  clear hm_61
                  obtain ⟨bkl61, tkl61, hv_61⟩ := hv_61
                  obtain ⟨kI61, cI61, kJ61, r304_I61, r305_I61, hu, hpm⟩ := hv_61
                  have qI61 := RX_p cI61
                  have rf_I61 : FU (I61 51 304) = FU (I55 51 304) := by rw [r304_I61]
                  have hk61 : I61 51 = Ia 51 := kI61.1 51 (by decide) (by decide)
                  refine ww_iload_n hX (pc := 61) dX11_plans_61 rfl ?_
                  refine ww_aload_n hX (pc := 62) dX11_plans_62 rfl ?_
                  refine vI0 hX (pc := 63) sX11_112 (xs_49 hL) (c_X11_states l0 hL cI61 ) (by decide) (Nat.le_refl 0) (Nat.le_refl 0) (Nat.le_of_ble_eq_true rfl) dX11_plans_63 (fun x_63 I_63 J_63 h_63 => ?_)
                  obtain ⟨rfl, rfl, h_63⟩ := h_63
                  refine ww_icmp_ge hX (pc := 66) (tgt := 282) dX11_plans_66 (by decide) (fun h_66 => ?_) (fun h_66 => ?_)
                  · simp only [w32_mod] at h_66
                    refine ww_iinc hX (pc := 282) (lv' := [some (kR (some 49)), some (kI v_8), some (kI (i + (-1))), some (kI sa), none, none, none, none, none]) dX11_plans_282 rfl (by decide) rfl rfl ?_
                    refine ww_goto hX (pc := 285) (tgt := 55) dX11_plans_285 (by decide) ?_
                    refine ww_sub [some (kR (some 49)), some (kI v_8), some (kI (i + (-1))), none, none, none, none, none, none] (aLe_s (aLe_s (aLe_s (aLe_n (aLe_n (aLe_n (aLe_n (aLe_n (aLe_n aLe_0))))))))) ?_
                    exact ih_55 _ (by have hm9 := Sh0_e hq_55; omega) (i + (-1)) I61 J61 rfl ⟨bkl61, tkl61, ⟨kI61, cI61, kJ61, by omega, by omega, ⟨by omega, by omega⟩, fun i9 s9 g1 g2 g3 g4 => hpm i9 s9 (by omega) g2 g3 g4⟩⟩
                  · simp only [w32_mod] at h_66
                    refine ww_ldcw hX (pc := 69) (x := 1000000000) dX11_plans_69 tb_1457 ?_
                    refine ww_istore hX (pc := 72) (lv' := [some (kR (some 49)), some (kI v_8), some (kI i), some (kI sa), some (kI 1000000000), none, none, none, none]) dX11_plans_72 (by decide) rfl rfl ?_
                    refine ww_iconst hX (pc := 74) (x := 0) dX11_plans_74 rfl ?_
                    refine ww_istore hX (pc := 75) (lv' := [some (kR (some 49)), some (kI v_8), some (kI i), some (kI sa), some (kI 1000000000), some (kI 0), none, none, none]) dX11_plans_75 (by decide) rfl rfl ?_
                    refine ww_iload_n hX (pc := 77) dX11_plans_77 rfl ?_
                    refine ww_istore hX (pc := 78) (lv' := [some (kR (some 49)), some (kI v_8), some (kI i), some (kI sa), some (kI 1000000000), some (kI 0), some (kI sa), none, none]) dX11_plans_78 (by decide) rfl rfl ?_
                    have hl_80 : ∀ (n_80 : Nat) (bs : Int) (wy : Int) (t : Int), (256 - t).toNat = n_80 → ((sa ≤ t ∧ t ≤ 256) ∧ Bst (Ia 51) (I61 70) i sa t bs) → WW X 80 [some (kR (some 49)), some (kI v_8), some (kI i), some (kI sa), some (kI bs), some (kI wy), some (kI t), none, none] [] I61 J61 Ra Sa 0 0 := by
                      intro n_80
                      induction n_80 using Nat.strongRecOn with
                      | ind n_80 ih_80 =>
                        intro bs wy t hm_80 hv_80
                        have hq_80 := Sh0_i hm_80
                        clear hm_80
                        obtain ⟨hw, hb⟩ := hv_80
                        refine ww_iload hX (pc := 80) dX11_plans_80 rfl ?_
                        refine ww_aload_n hX (pc := 82) dX11_plans_82 rfl ?_
                        refine vI0 hX (pc := 83) sX11_112 (xs_49 hL) (c_X11_states l0 hL cI61 ) (by decide) (Nat.le_refl 0) (Nat.le_refl 0) (Nat.le_of_ble_eq_true rfl) dX11_plans_83 (fun x_83 I_83 J_83 h_83 => ?_)
                        obtain ⟨rfl, rfl, h_83⟩ := h_83
                        refine ww_icmp_ge hX (pc := 86) (tgt := 248) dX11_plans_86 (by decide) (fun h_86 => ?_) (fun h_86 => ?_)
                        · simp only [w32_mod] at h_86
                          refine ww_aload_n hX (pc := 248) dX11_plans_248 rfl ?_
                          refine ww_getR hX (pc := 249) fX11_86 (by decide) (xs_49 hL) (xr_49_36 hL) dX11_plans_249 ?_
                          refine ww_sipush hX (pc := 252) (x := 256) dX11_plans_252 (by decide) ?_
                          refine ww_iload_n hX (pc := 255) dX11_plans_255 rfl ?_
                          refine ww_imul hX (pc := 256) dX11_plans_256 ?_
                          refine ww_iload_n hX (pc := 257) dX11_plans_257 rfl ?_
                          refine ww_iadd hX (pc := 258) dX11_plans_258 ?_
                          refine ww_iload hX (pc := 259) dX11_plans_259 rfl ?_
                          refine ww_iast hX (pc := 261) (xs_70 hL) (by decide) (by omega) (by omega) dX11_plans_261 ?_
                          refine ww_nmH (fun I_261 eI_261 => ?_)
                          have kI_261 : Ch [70, 71] [] Ia I_261 := by rw [eI_261]; exact Ch_r kI61 (by decide) (by decide)
                          have cI_261 : RX I_261 := by rw [eI_261]; exact RX_r cI61 (by decide)
                          have qI_261 := RX_p cI_261
                          have r304_I_261 : I_261 51 304 = I61 51 304 := by rw [eI_261, up2_off _ _ _ (by decide)]
                          have r305_I_261 : I_261 51 305 = I61 51 305 := by rw [eI_261, up2_off _ _ _ (by decide)]
                          have rf_I_261 : FU (I_261 51 304) = FU (I61 51 304) := by rw [r304_I_261]
                          have bkI_261 : BK9 Ia I_261 := by rw [eI_261]; exact BK9_up bkl61 (by decide)
                          have tkI_261 : TK9 Ia I_261 Ja J61 := by rw [eI_261]; exact TK9_up tkl61 (by decide)
                          refine ww_aload_n hX (pc := 262) dX11_plans_262 rfl ?_
                          refine ww_getR hX (pc := 263) fX11_89 (by decide) (xs_49 hL) (xr_49_37 hL) dX11_plans_263 ?_
                          refine ww_sipush hX (pc := 266) (x := 256) dX11_plans_266 (by decide) ?_
                          refine ww_iload_n hX (pc := 269) dX11_plans_269 rfl ?_
                          refine ww_imul hX (pc := 270) dX11_plans_270 ?_
                          refine ww_iload_n hX (pc := 271) dX11_plans_271 rfl ?_
                          refine ww_iadd hX (pc := 272) dX11_plans_272 ?_
                          refine ww_iload hX (pc := 273) dX11_plans_273 rfl ?_
                          refine ww_iast hX (pc := 275) (xs_71 hL) (by decide) (by omega) (by omega) dX11_plans_275 ?_
                          refine ww_nmH (fun I_275 eI_275 => ?_)
                          have kI_275 : Ch [70, 71] [] Ia I_275 := by rw [eI_275]; exact Ch_r kI_261 (by decide) (by decide)
                          have cI_275 : RX I_275 := by rw [eI_275]; exact RX_r cI_261 (by decide)
                          have qI_275 := RX_p cI_275
                          have r304_I_275 : I_275 51 304 = I_261 51 304 := by rw [eI_275, up2_off _ _ _ (by decide)]
                          have r305_I_275 : I_275 51 305 = I_261 51 305 := by rw [eI_275, up2_off _ _ _ (by decide)]
                          have rf_I_275 : FU (I_275 51 304) = FU (I_261 51 304) := by rw [r304_I_275]
                          have bkI_275 : BK9 Ia I_275 := by rw [eI_275]; exact BK9_up bkI_261 (by decide)
                          have tkI_275 : TK9 Ia I_275 Ja J61 := by rw [eI_275]; exact TK9_up tkI_261 (by decide)
                          refine ww_iinc hX (pc := 276) (lv' := [some (kR (some 49)), some (kI v_8), some (kI i), some (kI (sa + 1)), some (kI bs), some (kI wy), some (kI t), none, none]) dX11_plans_276 rfl (by decide) rfl rfl ?_
                          refine ww_goto hX (pc := 279) (tgt := 61) dX11_plans_279 (by decide) ?_
                          refine ww_sub [some (kR (some 49)), some (kI v_8), some (kI i), some (kI (sa + 1)), none, none, none, none, none] (aLe_s (aLe_s (aLe_s (aLe_s (aLe_n (aLe_n (aLe_n (aLe_n (aLe_n aLe_0))))))))) ?_
                          exact ih_61 _ (by have hm9 := Sh0_e hq_61; omega) (sa + 1) I_275 J61 rfl ⟨bkI_275, tkI_275, ⟨kI_275, cI_275, kJ61, by omega, by omega, ⟨by omega, by omega⟩, fun i9 s9 g1 g2 g3 g4 => PL_st (by rw [eI_275, up2_off _ _ _ (by decide), eI_261, up2_row]) (by omega) (by omega) (by omega) hb g1 g3 (by omega) (fun g5 => hpm i9 s9 g5 g2 g3 g4)⟩⟩
                        · simp only [w32_mod] at h_86
                          refine ww_sipush hX (pc := 89) (x := 256) dX11_plans_89 (by decide) ?_
                          refine ww_iload_n hX (pc := 92) dX11_plans_92 rfl ?_
                          refine ww_iconst hX (pc := 93) (x := 1) dX11_plans_93 rfl ?_
                          refine ww_iadd hX (pc := 94) dX11_plans_94 ?_
                          refine ww_imul hX (pc := 95) dX11_plans_95 ?_
                          refine ww_iload hX (pc := 96) dX11_plans_96 rfl ?_
                          refine ww_iadd hX (pc := 98) dX11_plans_98 ?_
                          refine ww_nmI (fun v_99 hv_99 => ?_)
                          refine ww_istore hX (pc := 99) (lv' := [some (kR (some 49)), some (kI v_8), some (kI i), some (kI sa), some (kI bs), some (kI wy), some (kI t), some (kI v_99), none]) dX11_plans_99 (by decide) rfl rfl ?_
                          refine ww_aload_n hX (pc := 101) dX11_plans_101 rfl ?_
                          refine ww_iload hX (pc := 102) dX11_plans_102 rfl ?_
                          refine vI1 hX (pc := 104) sX11_126 (xs_49 hL) (c_X11_readOf l0 hL cI61 (by omega) (by omega)) (by decide) (Nat.le_refl 0) (Nat.le_refl 0) (Nat.le_of_ble_eq_true rfl) dX11_plans_104 (fun x_104 I_104 J_104 h_104 => ?_)
                          obtain ⟨rfl, rfl, h_104⟩ := h_104
                          refine ww_aload_n hX (pc := 107) dX11_plans_107 rfl ?_
                          refine ww_getR hX (pc := 108) fX11_20 (by decide) (xs_49 hL) (xr_49_3 hL) dX11_plans_108 ?_
                          refine ww_sipush hX (pc := 111) (x := 288) dX11_plans_111 (by decide) ?_
                          refine ww_iload_n hX (pc := 114) dX11_plans_114 rfl ?_
                          refine ww_iadd hX (pc := 115) dX11_plans_115 ?_
                          refine ww_iald hX (pc := 116) (xs_51 hL) (by decide) (by omega) (by omega) dX11_plans_116 ?_
                          refine ww_icmp_ne hX (pc := 117) (tgt := 242) dX11_plans_117 (by decide) (fun h_117 => ?_) (fun h_117 => ?_)
                          · simp only [w32_mod] at h_117
                            refine ww_iinc hX (pc := 242) (lv' := [some (kR (some 49)), some (kI v_8), some (kI i), some (kI sa), some (kI bs), some (kI wy), some (kI (t + 1)), some (kI v_99), none]) dX11_plans_242 rfl (by decide) rfl rfl ?_
                            refine ww_goto hX (pc := 245) (tgt := 80) dX11_plans_245 (by decide) ?_
                            refine ww_sub [some (kR (some 49)), some (kI v_8), some (kI i), some (kI sa), some (kI bs), some (kI wy), some (kI (t + 1)), none, none] (aLe_s (aLe_s (aLe_s (aLe_s (aLe_s (aLe_s (aLe_s (aLe_n (aLe_n aLe_0))))))))) ?_
                            exact ih_80 _ (by have hm9 := Sh0_e hq_80; omega) bs wy (t + 1) rfl ⟨⟨by omega, by omega⟩, Bst_k hb⟩
                          · simp only [w32_mod] at h_117
                            have hc1 : w32 (Ia 51 t.toNat) = w32 (Ia 51 (288 + i).toNat) := by rw [← hk61]; simp only [w32_mod]; omega
                            refine ww_aload_n hX (pc := 120) dX11_plans_120 rfl ?_
                            refine ww_iload_n hX (pc := 121) dX11_plans_121 rfl ?_
                            refine ww_iload hX (pc := 122) dX11_plans_122 rfl ?_
                            refine ww_aload_n hX (pc := 124) dX11_plans_124 rfl ?_
                            refine ww_getR hX (pc := 125) fX11_20 (by decide) (xs_49 hL) (xr_49_3 hL) dX11_plans_125 ?_
                            refine ww_sipush hX (pc := 128) (x := 306) dX11_plans_128 (by decide) ?_
                            refine ww_iald hX (pc := 131) (xs_51 hL) (by decide) (by omega) (by omega) dX11_plans_131 ?_
                            refine ww_toI (b := I61 51 306) rfl ?_
                            refine vI3 hX (pc := 132) sX11_271 (xs_49 hL) (c_X11_canCome l0 hL cI61 ) (by decide) (Nat.le_refl 0) (Nat.le_refl 0) (Nat.le_of_ble_eq_true rfl) dX11_plans_132 (fun x_132 I_132 J_132 h_132 => ?_)
                            obtain ⟨rfl, rfl, h_132⟩ := h_132
                            refine ww_if_eq hX (pc := 135) (tgt := 242) dX11_plans_135 (by decide) (fun h_135 => ?_) (fun h_135 => ?_)
                            · simp only [w32_mod] at h_135
                              refine ww_iinc hX (pc := 242) (lv' := [some (kR (some 49)), some (kI v_8), some (kI i), some (kI sa), some (kI bs), some (kI wy), some (kI (t + 1)), some (kI v_99), none]) dX11_plans_242 rfl (by decide) rfl rfl ?_
                              refine ww_goto hX (pc := 245) (tgt := 80) dX11_plans_245 (by decide) ?_
                              refine ww_sub [some (kR (some 49)), some (kI v_8), some (kI i), some (kI sa), some (kI bs), some (kI wy), some (kI (t + 1)), none, none] (aLe_s (aLe_s (aLe_s (aLe_s (aLe_s (aLe_s (aLe_s (aLe_n (aLe_n aLe_0))))))))) ?_
                              exact ih_80 _ (by have hm9 := Sh0_e hq_80; omega) bs wy (t + 1) rfl ⟨⟨by omega, by omega⟩, Bst_k hb⟩
                            · simp only [w32_mod] at h_135
                              have hc2 : canC sa t (Ia 51 306) := by rw [← hk61]; exact h_132.2.mp (by omega)
                              refine ww_aload_n hX (pc := 138) dX11_plans_138 rfl ?_
                              refine ww_getR hX (pc := 139) fX11_86 (by decide) (xs_49 hL) (xr_49_36 hL) dX11_plans_139 ?_
                              refine ww_iload hX (pc := 142) dX11_plans_142 rfl ?_
                              refine ww_iald hX (pc := 144) (xs_70 hL) (by decide) (by omega) (by omega) dX11_plans_144 ?_
                              refine ww_ldcw hX (pc := 145) (x := 1000000000) dX11_plans_145 tb_1457 ?_
                              refine ww_icmp_ne hX (pc := 148) (tgt := 154) dX11_plans_148 (by decide) (fun h_148 => ?_) (fun h_148 => ?_)
                              · simp only [w32_mod] at h_148
                                have hcand : Cand (Ia 51) (I61 70) i sa t := ⟨hc1, hc2, by rw [hv_99] at h_148; simp only [w32_mod]; omega⟩
                                refine ww_aload_n hX (pc := 154) dX11_plans_154 rfl ?_
                                refine ww_iload hX (pc := 155) dX11_plans_155 rfl ?_
                                refine ww_iload_n hX (pc := 157) dX11_plans_157 rfl ?_
                                refine ww_iconst hX (pc := 158) (x := (-1)) dX11_plans_158 rfl ?_
                                refine ww_ixor hX (pc := 159) dX11_plans_159 ?_
                                refine ww_iand hX (pc := 160) dX11_plans_160 ?_
                                refine vI1 hX (pc := 161) sX11_301 (xs_49 hL) (c_X11_oilOf l0 hL cI61 ) (by decide) (Nat.le_refl 0) (Nat.le_refl 0) (Nat.le_of_ble_eq_true rfl) dX11_plans_161 (fun x_161 I_161 J_161 h_161 => ?_)
                                obtain ⟨rfl, rfl, h_161⟩ := h_161
                                refine ww_aload_n hX (pc := 164) dX11_plans_164 rfl ?_
                                refine ww_getR hX (pc := 165) fX11_86 (by decide) (xs_49 hL) (xr_49_36 hL) dX11_plans_165 ?_
                                refine ww_iload hX (pc := 168) dX11_plans_168 rfl ?_
                                refine ww_iald hX (pc := 170) (xs_70 hL) (by decide) (by omega) (by omega) dX11_plans_170 ?_
                                refine ww_iadd hX (pc := 171) dX11_plans_171 ?_
                                refine ww_nmI (fun v_172 hv_172 => ?_)
                                refine ww_istore hX (pc := 172) (lv' := [some (kR (some 49)), some (kI v_8), some (kI i), some (kI sa), some (kI bs), some (kI wy), some (kI t), some (kI v_99), some (kI v_172)]) dX11_plans_172 (by decide) rfl rfl ?_
                                refine ww_iload hX (pc := 174) dX11_plans_174 rfl ?_
                                refine ww_iload hX (pc := 176) dX11_plans_176 rfl ?_
                                refine ww_icmp_le hX (pc := 178) (tgt := 184) dX11_plans_178 (by decide) (fun h_178 => ?_) (fun h_178 => ?_)
                                · simp only [w32_mod] at h_178
                                  refine ww_iload hX (pc := 184) dX11_plans_184 rfl ?_
                                  refine ww_iload hX (pc := 186) dX11_plans_186 rfl ?_
                                  refine ww_icmp_ge hX (pc := 188) (tgt := 201) dX11_plans_188 (by decide) (fun h_188 => ?_) (fun h_188 => ?_)
                                  · simp only [w32_mod] at h_188
                                    refine ww_iload hX (pc := 201) dX11_plans_201 rfl ?_
                                    refine ww_i2l hX (pc := 203) dX11_plans_203 ?_
                                    refine ww_aload_n hX (pc := 204) dX11_plans_204 rfl ?_
                                    refine ww_getR hX (pc := 205) fX11_89 (by decide) (xs_49 hL) (xr_49_37 hL) dX11_plans_205 ?_
                                    refine ww_iload hX (pc := 208) dX11_plans_208 rfl ?_
                                    refine ww_iald hX (pc := 210) (xs_71 hL) (by decide) (by omega) (by omega) dX11_plans_210 ?_
                                    refine ww_i2l hX (pc := 211) dX11_plans_211 ?_
                                    refine ww_ladd hX (pc := 212) dX11_plans_212 ?_
                                    refine ww_ldc2 hX (pc := 213) (x := 1000000000) dX11_plans_213 tb_1423 ?_
                                    refine ww_lcmp hX (pc := 216) dX11_plans_216 ?_
                                    refine ww_if_le hX (pc := 217) (tgt := 226) dX11_plans_217 (by decide) (fun h_217 => ?_) (fun h_217 => ?_)
                                    · simp only [w32_mod] at h_217
                                      refine ww_iload hX (pc := 226) dX11_plans_226 rfl ?_
                                      refine ww_aload_n hX (pc := 228) dX11_plans_228 rfl ?_
                                      refine ww_getR hX (pc := 229) fX11_89 (by decide) (xs_49 hL) (xr_49_37 hL) dX11_plans_229 ?_
                                      refine ww_iload hX (pc := 232) dX11_plans_232 rfl ?_
                                      refine ww_iald hX (pc := 234) (xs_71 hL) (by decide) (by omega) (by omega) dX11_plans_234 ?_
                                      refine ww_iadd hX (pc := 235) dX11_plans_235 ?_
                                      refine ww_nmI (fun v_236 hv_236 => ?_)
                                      refine ww_istore hX (pc := 236) (lv' := [some (kR (some 49)), some (kI v_8), some (kI i), some (kI sa), some (kI bs), some (kI v_236), some (kI t), some (kI v_99), some (kI v_172)]) dX11_plans_236 (by decide) rfl rfl ?_
                                      refine ww_iload hX (pc := 238) dX11_plans_238 rfl ?_
                                      refine ww_istore hX (pc := 240) (lv' := [some (kR (some 49)), some (kI v_8), some (kI i), some (kI sa), some (kI v_172), some (kI v_236), some (kI t), some (kI v_99), some (kI v_172)]) dX11_plans_240 (by decide) rfl rfl ?_
                                      refine ww_iinc hX (pc := 242) (lv' := [some (kR (some 49)), some (kI v_8), some (kI i), some (kI sa), some (kI v_172), some (kI v_236), some (kI (t + 1)), some (kI v_99), some (kI v_172)]) dX11_plans_242 rfl (by decide) rfl rfl ?_
                                      refine ww_goto hX (pc := 245) (tgt := 80) dX11_plans_245 (by decide) ?_
                                      refine ww_sub [some (kR (some 49)), some (kI v_8), some (kI i), some (kI sa), some (kI v_172), some (kI v_236), some (kI (t + 1)), none, none] (aLe_s (aLe_s (aLe_s (aLe_s (aLe_s (aLe_s (aLe_s (aLe_n (aLe_n aLe_0))))))))) ?_
                                      exact ih_80 _ (by have hm9 := Sh0_e hq_80; omega) v_172 v_236 (t + 1) rfl ⟨⟨by omega, by omega⟩, Bst_n (by omega) (by omega) hcand (by rw [hv_172, h_161, hv_99, hk61]; rfl)⟩
                                    · simp only [w32_mod] at h_217
                                      refine ww_ldcw hX (pc := 220) (x := 1000000000) dX11_plans_220 tb_1457 ?_
                                      refine ww_goto hX (pc := 223) (tgt := 236) dX11_plans_223 (by decide) ?_
                                      refine ww_istore hX (pc := 236) (lv' := [some (kR (some 49)), some (kI v_8), some (kI i), some (kI sa), some (kI bs), some (kI 1000000000), some (kI t), some (kI v_99), some (kI v_172)]) dX11_plans_236 (by decide) rfl rfl ?_
                                      refine ww_iload hX (pc := 238) dX11_plans_238 rfl ?_
                                      refine ww_istore hX (pc := 240) (lv' := [some (kR (some 49)), some (kI v_8), some (kI i), some (kI sa), some (kI v_172), some (kI 1000000000), some (kI t), some (kI v_99), some (kI v_172)]) dX11_plans_240 (by decide) rfl rfl ?_
                                      refine ww_iinc hX (pc := 242) (lv' := [some (kR (some 49)), some (kI v_8), some (kI i), some (kI sa), some (kI v_172), some (kI 1000000000), some (kI (t + 1)), some (kI v_99), some (kI v_172)]) dX11_plans_242 rfl (by decide) rfl rfl ?_
                                      refine ww_goto hX (pc := 245) (tgt := 80) dX11_plans_245 (by decide) ?_
                                      refine ww_sub [some (kR (some 49)), some (kI v_8), some (kI i), some (kI sa), some (kI v_172), some (kI 1000000000), some (kI (t + 1)), none, none] (aLe_s (aLe_s (aLe_s (aLe_s (aLe_s (aLe_s (aLe_s (aLe_n (aLe_n aLe_0))))))))) ?_
                                      exact ih_80 _ (by have hm9 := Sh0_e hq_80; omega) v_172 1000000000 (t + 1) rfl ⟨⟨by omega, by omega⟩, Bst_n (by omega) (by omega) hcand (by rw [hv_172, h_161, hv_99, hk61]; rfl)⟩
                                  · simp only [w32_mod] at h_188
                                    refine ww_aload_n hX (pc := 191) dX11_plans_191 rfl ?_
                                    refine ww_getR hX (pc := 192) fX11_89 (by decide) (xs_49 hL) (xr_49_37 hL) dX11_plans_192 ?_
                                    refine ww_iload hX (pc := 195) dX11_plans_195 rfl ?_
                                    refine ww_iald hX (pc := 197) (xs_71 hL) (by decide) (by omega) (by omega) dX11_plans_197 ?_
                                    refine ww_goto hX (pc := 198) (tgt := 236) dX11_plans_198 (by decide) ?_
                                    refine ww_nmI (fun v_236 hv_236 => ?_)
                                    refine ww_istore hX (pc := 236) (lv' := [some (kR (some 49)), some (kI v_8), some (kI i), some (kI sa), some (kI bs), some (kI v_236), some (kI t), some (kI v_99), some (kI v_172)]) dX11_plans_236 (by decide) rfl rfl ?_
                                    refine ww_iload hX (pc := 238) dX11_plans_238 rfl ?_
                                    refine ww_istore hX (pc := 240) (lv' := [some (kR (some 49)), some (kI v_8), some (kI i), some (kI sa), some (kI v_172), some (kI v_236), some (kI t), some (kI v_99), some (kI v_172)]) dX11_plans_240 (by decide) rfl rfl ?_
                                    refine ww_iinc hX (pc := 242) (lv' := [some (kR (some 49)), some (kI v_8), some (kI i), some (kI sa), some (kI v_172), some (kI v_236), some (kI (t + 1)), some (kI v_99), some (kI v_172)]) dX11_plans_242 rfl (by decide) rfl rfl ?_
                                    refine ww_goto hX (pc := 245) (tgt := 80) dX11_plans_245 (by decide) ?_
                                    refine ww_sub [some (kR (some 49)), some (kI v_8), some (kI i), some (kI sa), some (kI v_172), some (kI v_236), some (kI (t + 1)), none, none] (aLe_s (aLe_s (aLe_s (aLe_s (aLe_s (aLe_s (aLe_s (aLe_n (aLe_n aLe_0))))))))) ?_
                                    exact ih_80 _ (by have hm9 := Sh0_e hq_80; omega) v_172 v_236 (t + 1) rfl ⟨⟨by omega, by omega⟩, Bst_n (by omega) (by omega) hcand (by rw [hv_172, h_161, hv_99, hk61]; rfl)⟩
                                · simp only [w32_mod] at h_178
                                  refine ww_goto hX (pc := 181) (tgt := 242) dX11_plans_181 (by decide) ?_
                                  refine ww_iinc hX (pc := 242) (lv' := [some (kR (some 49)), some (kI v_8), some (kI i), some (kI sa), some (kI bs), some (kI wy), some (kI (t + 1)), some (kI v_99), some (kI v_172)]) dX11_plans_242 rfl (by decide) rfl rfl ?_
                                  refine ww_goto hX (pc := 245) (tgt := 80) dX11_plans_245 (by decide) ?_
                                  refine ww_sub [some (kR (some 49)), some (kI v_8), some (kI i), some (kI sa), some (kI bs), some (kI wy), some (kI (t + 1)), none, none] (aLe_s (aLe_s (aLe_s (aLe_s (aLe_s (aLe_s (aLe_s (aLe_n (aLe_n aLe_0))))))))) ?_
                                  exact ih_80 _ (by have hm9 := Sh0_e hq_80; omega) bs wy (t + 1) rfl ⟨⟨by omega, by omega⟩, Bst_k hb⟩
                              · simp only [w32_mod] at h_148
                                refine ww_goto hX (pc := 151) (tgt := 242) dX11_plans_151 (by decide) ?_
                                refine ww_iinc hX (pc := 242) (lv' := [some (kR (some 49)), some (kI v_8), some (kI i), some (kI sa), some (kI bs), some (kI wy), some (kI (t + 1)), some (kI v_99), none]) dX11_plans_242 rfl (by decide) rfl rfl ?_
                                refine ww_goto hX (pc := 245) (tgt := 80) dX11_plans_245 (by decide) ?_
                                refine ww_sub [some (kR (some 49)), some (kI v_8), some (kI i), some (kI sa), some (kI bs), some (kI wy), some (kI (t + 1)), none, none] (aLe_s (aLe_s (aLe_s (aLe_s (aLe_s (aLe_s (aLe_s (aLe_n (aLe_n aLe_0))))))))) ?_
                                exact ih_80 _ (by have hm9 := Sh0_e hq_80; omega) bs wy (t + 1) rfl ⟨⟨by omega, by omega⟩, Bst_k hb⟩
                    exact hl_80 _ 1000000000 0 sa rfl ⟨⟨by omega, by omega⟩, Bst_0⟩
              exact hl_61 _ 0 I55 J55 rfl ⟨bkl55, tkl55, ⟨kI55, cI55, kJ55, rfl, rfl, ⟨by omega, by omega⟩, fun i9 s9 g1 g2 g3 g4 => hpl i9 s9 (by omega) g2 g3 g4⟩⟩
        exact hl_55 _ v_54 I11 J11 rfl ⟨bkl11, tkl11, ⟨kI11, cI11, kJ11, rfl, rfl, ⟨by omega, by omega⟩, fun i9 s9 g1 g2 => by omega⟩⟩
      · simp only [w32_mod] at h_16
        refine ww_aload_n hX (pc := 19) dX11_plans_19 rfl ?_
        refine ww_getR hX (pc := 20) fX11_86 (by decide) (xs_49 hL) (xr_49_36 hL) dX11_plans_20 ?_
        refine ww_sipush hX (pc := 23) (x := 256) dX11_plans_23 (by decide) ?_
        refine ww_iload_n hX (pc := 26) dX11_plans_26 rfl ?_
        refine ww_imul hX (pc := 27) dX11_plans_27 ?_
        refine ww_iload_n hX (pc := 28) dX11_plans_28 rfl ?_
        refine ww_iadd hX (pc := 29) dX11_plans_29 ?_
        refine ww_iconst hX (pc := 30) (x := 0) dX11_plans_30 rfl ?_
        refine ww_iast hX (pc := 31) (xs_70 hL) (by decide) (by omega) (by omega) dX11_plans_31 ?_
        refine ww_nmH (fun I_31 eI_31 => ?_)
        have kI_31 : Ch [70, 71] [] Ia I_31 := by rw [eI_31]; exact Ch_r kI11 (by decide) (by decide)
        have cI_31 : RX I_31 := by rw [eI_31]; exact RX_r cI11 (by decide)
        have qI_31 := RX_p cI_31
        have r304_I_31 : I_31 51 304 = I11 51 304 := by rw [eI_31, up2_off _ _ _ (by decide)]
        have r305_I_31 : I_31 51 305 = I11 51 305 := by rw [eI_31, up2_off _ _ _ (by decide)]
        have rf_I_31 : FU (I_31 51 304) = FU (I11 51 304) := by rw [r304_I_31]
        have bkI_31 : BK9 Ia I_31 := by rw [eI_31]; exact BK9_up bkl11 (by decide)
        have tkI_31 : TK9 Ia I_31 Ja J11 := by rw [eI_31]; exact TK9_up tkl11 (by decide)
        refine ww_aload_n hX (pc := 32) dX11_plans_32 rfl ?_
        refine ww_getR hX (pc := 33) fX11_89 (by decide) (xs_49 hL) (xr_49_37 hL) dX11_plans_33 ?_
        refine ww_sipush hX (pc := 36) (x := 256) dX11_plans_36 (by decide) ?_
        refine ww_iload_n hX (pc := 39) dX11_plans_39 rfl ?_
        refine ww_imul hX (pc := 40) dX11_plans_40 ?_
        refine ww_iload_n hX (pc := 41) dX11_plans_41 rfl ?_
        refine ww_iadd hX (pc := 42) dX11_plans_42 ?_
        refine ww_iconst hX (pc := 43) (x := 1) dX11_plans_43 rfl ?_
        refine ww_iast hX (pc := 44) (xs_71 hL) (by decide) (by omega) (by omega) dX11_plans_44 ?_
        refine ww_nmH (fun I_44 eI_44 => ?_)
        have kI_44 : Ch [70, 71] [] Ia I_44 := by rw [eI_44]; exact Ch_r kI_31 (by decide) (by decide)
        have cI_44 : RX I_44 := by rw [eI_44]; exact RX_r cI_31 (by decide)
        have qI_44 := RX_p cI_44
        have r304_I_44 : I_44 51 304 = I_31 51 304 := by rw [eI_44, up2_off _ _ _ (by decide)]
        have r305_I_44 : I_44 51 305 = I_31 51 305 := by rw [eI_44, up2_off _ _ _ (by decide)]
        have rf_I_44 : FU (I_44 51 304) = FU (I_31 51 304) := by rw [r304_I_44]
        have bkI_44 : BK9 Ia I_44 := by rw [eI_44]; exact BK9_up bkI_31 (by decide)
        have tkI_44 : TK9 Ia I_44 Ja J11 := by rw [eI_44]; exact TK9_up tkI_31 (by decide)
        refine ww_iinc hX (pc := 45) (lv' := [some (kR (some 49)), some (kI v_8), some (kI (q + 1)), none, none, none, none, none, none]) dX11_plans_45 rfl (by decide) rfl rfl ?_
        refine ww_goto hX (pc := 48) (tgt := 11) dX11_plans_48 (by decide) ?_
        exact ih_11 _ (by have hm9 := Sh0_e hq_11; omega) (q + 1) I_44 J11 rfl ⟨bkI_44, tkI_44, ⟨kI_44, cI_44, kJ11, by omega, by omega, by omega⟩⟩
  exact hl_11 _ 0 Ia Ja rfl ⟨BK9_rf, TK9_rf, ⟨Ch_rf, hQ, (Kp_rf (a := 49) (b := 73)), rfl, rfl, by omega⟩⟩
