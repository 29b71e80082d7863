set_option maxHeartbeats 4000000 in
set_option maxRecDepth 20000 in
theorem c9_X11_reaches (l0 : Launch) {Ia Ja : aI1} {Ra : aR1} {Sa : aS1} (hL : LY Ra Sa) (hQ : RX Ia) (hcr : ∀ t : Nat, (t : Int) ≤ FU (Ia 51 304) → -1 ≤ Ia 51 t ∧ Ia 51 t ≤ 7)  : CT l0 1 0 0 mX11_reaches [kR (some 49)] Ia Ja Ra Sa (cV (fun I' J' => (Ch [63] [] Ia I' ∧ Kp 49 73 Ja J' ∧ RX I' ∧ ∀ t : Nat, (t : Int) < (FU (Ia 51 304) + 1) → (I' 63 t = 0 ∨ I' 63 t = 1) ∧ (I' 63 t = 1 ↔ RC (Ia 51) (Ia 51 306) t)) ∧ QK9 Ia I' Ja J') Ra Sa) := by
  refine ct_in pn_X11 (Nat.le_of_ble_eq_true rfl) (fun X hX hT hIn => ?_)
  have hX : aK l0 X cX11_reaches 3 RX11 none 1 0 0 := hX
  change WW X 0 [some (kR (some 49)), none, none] [] Ia Ja Ra Sa 0 0
  have qIa := RX_o hQ
  refine ww_iconst hX (pc := 0) (x := 0) dX11_reaches_0 rfl ?_
  refine ww_istore_n hX (pc := 1) (lv' := [some (kR (some 49)), some (kI 0), none]) dX11_reaches_1 (by decide) rfl rfl ?_
  have hl_2 : ∀ (n_2 : Nat) (i : Int) (I2 : aI1) (J2 : aI1), (256 - i).toNat = n_2 → (BK9 Ia I2 ∧ TK9 Ia I2 Ja J2 ∧ (Ch [63] [] Ia I2 ∧ RX I2 ∧ Kp 49 73 Ja J2 ∧ I2 51 304 = Ia 51 304 ∧ I2 51 305 = Ia 51 305 ∧ (0 ≤ i ∧ i ≤ (FU (Ia 51 304) + 1)) ∧ (∀ t : Nat, (t : Int) < i → I2 63 t = if t = 0 then 1 else 0))) → WW X 2 [some (kR (some 49)), some (kI i), none] [] I2 J2 Ra Sa 0 0 := by
    intro n_2
    induction n_2 using Nat.strongRecOn with
    | ind n_2 ih_2 =>
      intro i I2 J2 hm_2 hv_2
      have hq_2 := Sh0_i hm_2
      clear hm_2
      obtain ⟨bkl2, tkl2, hv_2⟩ := hv_2
      obtain ⟨kI2, cI2, kJ2, r304_I2, r305_I2, hv, hz⟩ := hv_2
      have qI2 := RX_o cI2
      have rf_I2 : FU (I2 51 304) = FU (Ia 51 304) := by rw [r304_I2]
      refine ww_iload_n hX (pc := 2) dX11_reaches_2 rfl ?_
      refine ww_aload_n hX (pc := 3) dX11_reaches_3 rfl ?_
      refine vI0 hX (pc := 4) sX11_112 (xs_49 hL) (c_X11_states l0 hL cI2 ) (by decide) (Nat.le_refl 0) (Nat.le_refl 0) (Nat.le_of_ble_eq_true rfl) dX11_reaches_4 (fun x_4 I_4 J_4 h_4 => ?_)
      obtain ⟨rfl, rfl, h_4⟩ := h_4
      refine ww_icmp_ge hX (pc := 7) (tgt := 31) dX11_reaches_7 (by decide) (fun h_7 => ?_) (fun h_7 => ?_)
      · simp only [w32_mod] at h_7
        refine ww_iconst hX (pc := 31) (x := 0) dX11_reaches_31 rfl ?_
        refine ww_istore_n hX (pc := 32) (lv' := [some (kR (some 49)), some (kI 0), none]) dX11_reaches_32 (by decide) rfl rfl ?_
        have hl_33 : ∀ (n_33 : Nat) (i : Int) (I33 : aI1) (J33 : aI1), (256 - i).toNat = n_33 → (BK9 Ia I33 ∧ TK9 Ia I33 Ja J33 ∧ (Ch [63] [] Ia I33 ∧ RX I33 ∧ Kp 49 73 Ja J33 ∧ I33 51 304 = I2 51 304 ∧ I33 51 305 = I2 51 305 ∧ (0 ≤ i ∧ i ≤ (FU (Ia 51 304) + 1)) ∧ RA (Ia 51) (Ia 51 306) (FU (Ia 51 304) + 1) i (I33 63))) → WW X 33 [some (kR (some 49)), some (kI i), none] [] I33 J33 Ra Sa 0 0 := by
          intro n_33
          induction n_33 using Nat.strongRecOn with
          | ind n_33 ih_33 =>
            intro i I33 J33 hm_33 hv_33
            have hq_33 := Sh0_i hm_33
            clear hm_33
            obtain ⟨bkl33, tkl33, hv_33⟩ := hv_33
            obtain ⟨kI33, cI33, kJ33, r304_I33, r305_I33, hv, hra0⟩ := hv_33
            have qI33 := RX_o cI33
            have rf_I33 : FU (I33 51 304) = FU (I2 51 304) := by rw [r304_I33]
            have e51_I33 : I33 51 = Ia 51 := kI33.1 51 (by decide) (by decide)
            refine ww_iload_n hX (pc := 33) dX11_reaches_33 rfl ?_
            refine ww_aload_n hX (pc := 34) dX11_reaches_34 rfl ?_
            refine vI0 hX (pc := 35) sX11_112 (xs_49 hL) (c_X11_states l0 hL cI33 ) (by decide) (Nat.le_refl 0) (Nat.le_refl 0) (Nat.le_of_ble_eq_true rfl) dX11_reaches_35 (fun x_35 I_35 J_35 h_35 => ?_)
            obtain ⟨rfl, rfl, h_35⟩ := h_35
            refine ww_icmp_ge hX (pc := 38) (tgt := 107) dX11_reaches_38 (by decide) (fun h_38 => ?_) (fun h_38 => ?_)
            · simp only [w32_mod] at h_38
              refine rV hX (pc := 107) hT (Nat.le_refl 0) (Nat.le_refl 0) dX11_reaches_107 ?_
              exact ⟨⟨kI33, kJ33, cI33, (RA_e hra0 (by omega))⟩, bkl33, tkl33⟩
            · simp only [w32_mod] at h_38
              refine ww_iload_n hX (pc := 41) dX11_reaches_41 rfl ?_
              refine ww_iconst hX (pc := 42) (x := 1) dX11_reaches_42 rfl ?_
              refine ww_iadd hX (pc := 43) dX11_reaches_43 ?_
              refine ww_nmI (fun v_44 hv_44 => ?_)
              refine ww_istore_n hX (pc := 44) (lv' := [some (kR (some 49)), some (kI i), some (kI v_44)]) dX11_reaches_44 (by decide) rfl rfl ?_
              have hl_45 : ∀ (n_45 : Nat) (t : Int) (I45 : aI1) (J45 : aI1), (256 - t).toNat = n_45 → (BK9 Ia I45 ∧ TK9 Ia I45 Ja J45 ∧ (Ch [63] [] Ia I45 ∧ RX I45 ∧ Kp 49 73 Ja J45 ∧ I45 51 304 = I33 51 304 ∧ I45 51 305 = I33 51 305 ∧ (i + 1 ≤ t ∧ t ≤ (FU (Ia 51 304) + 1)) ∧ RB (Ia 51) (Ia 51 306) (FU (Ia 51 304) + 1) i t (I45 63))) → WW X 45 [some (kR (some 49)), some (kI i), some (kI t)] [] I45 J45 Ra Sa 0 0 := by
                intro n_45
                induction n_45 using Nat.strongRecOn with
                | ind n_45 ih_45 =>
                  intro t I45 J45 hm_45 hv_45
                  have hq_45 := Sh0_i hm_45
                  clear hm_45
                  obtain ⟨bkl45, tkl45, hv_45⟩ := hv_45
                  obtain ⟨kI45, cI45, kJ45, r304_I45, r305_I45, hu, hrb0⟩ := hv_45
                  have qI45 := RX_o cI45
                  have rf_I45 : FU (I45 51 304) = FU (I33 51 304) := by rw [r304_I45]
                  have e51_I45 : I45 51 = Ia 51 := kI45.1 51 (by decide) (by decide)
                  refine ww_iload_n hX (pc := 45) dX11_reaches_45 rfl ?_
                  refine ww_aload_n hX (pc := 46) dX11_reaches_46 rfl ?_
                  refine vI0 hX (pc := 47) sX11_112 (xs_49 hL) (c_X11_states l0 hL cI45 ) (by decide) (Nat.le_refl 0) (Nat.le_refl 0) (Nat.le_of_ble_eq_true rfl) dX11_reaches_47 (fun x_47 I_47 J_47 h_47 => ?_)
                  obtain ⟨rfl, rfl, h_47⟩ := h_47
                  refine ww_icmp_ge hX (pc := 50) (tgt := 101) dX11_reaches_50 (by decide) (fun h_50 => ?_) (fun h_50 => ?_)
                  · simp only [w32_mod] at h_50
                    have hra : RA (Ia 51) (Ia 51 306) (FU (Ia 51 304) + 1) (i + 1) (I45 63) := RA_e1 hrb0 (by omega) (by omega)
                    refine ww_iinc hX (pc := 101) (lv' := [some (kR (some 49)), some (kI (i + 1)), some (kI t)]) dX11_reaches_101 rfl (by decide) rfl rfl ?_
                    refine ww_goto hX (pc := 104) (tgt := 33) dX11_reaches_104 (by decide) ?_
                    refine ww_sub [some (kR (some 49)), some (kI (i + 1)), none] (aLe_s (aLe_s (aLe_n aLe_0))) ?_
                    exact ih_33 _ (by have hm9 := Sh0_e hq_33; omega) (i + 1) I45 J45 rfl ⟨bkl45, tkl45, ⟨kI45, cI45, kJ45, by omega, by omega, ⟨by omega, by omega⟩, hra⟩⟩
                  · simp only [w32_mod] at h_50
                    refine ww_aload_n hX (pc := 53) dX11_reaches_53 rfl ?_
                    refine ww_getR hX (pc := 54) fX11_65 (by decide) (xs_49 hL) (xr_49_26 hL) dX11_reaches_54 ?_
                    refine ww_iload_n hX (pc := 57) dX11_reaches_57 rfl ?_
                    refine ww_zald hX (pc := 58) (xs_63 hL) (by decide) (by omega) (by omega) dX11_reaches_58 ?_
                    have hc01 := hrb0.1.1 i.toNat (by omega)
                    refine ww_if_eq hX (pc := 59) (tgt := 101) dX11_reaches_59 (by decide) (fun h_59 => ?_) (fun h_59 => ?_)
                    · simp only [w32_mod] at h_59
                      have hra : RA (Ia 51) (Ia 51 306) (FU (Ia 51 304) + 1) (i + 1) (I45 63) := RA_e2 hrb0 (by omega) (by omega)
                      refine ww_iinc hX (pc := 101) (lv' := [some (kR (some 49)), some (kI (i + 1)), some (kI t)]) dX11_reaches_101 rfl (by decide) rfl rfl ?_
                      refine ww_goto hX (pc := 104) (tgt := 33) dX11_reaches_104 (by decide) ?_
                      refine ww_sub [some (kR (some 49)), some (kI (i + 1)), none] (aLe_s (aLe_s (aLe_n aLe_0))) ?_
                      exact ih_33 _ (by have hm9 := Sh0_e hq_33; omega) (i + 1) I45 J45 rfl ⟨bkl45, tkl45, ⟨kI45, cI45, kJ45, by omega, by omega, ⟨by omega, by omega⟩, hra⟩⟩
                    · simp only [w32_mod] at h_59
                      refine ww_aload_n hX (pc := 62) dX11_reaches_62 rfl ?_
                      refine ww_iload_n hX (pc := 63) dX11_reaches_63 rfl ?_
                      refine vI1 hX (pc := 64) sX11_126 (xs_49 hL) (c_X11_readOf l0 hL cI45 (by omega) (by omega)) (by decide) (Nat.le_refl 0) (Nat.le_refl 0) (Nat.le_of_ble_eq_true rfl) dX11_reaches_64 (fun x_64 I_64 J_64 h_64 => ?_)
                      obtain ⟨rfl, rfl, h_64⟩ := h_64
                      rw [e51_I45] at h_64
                      have hcd := hcr t.toNat (by omega)
                      refine ww_iconst hX (pc := 67) (x := (-1)) dX11_reaches_67 rfl ?_
                      refine ww_icmp_eq hX (pc := 68) (tgt := 95) dX11_reaches_68 (by decide) (fun h_68 => ?_) (fun h_68 => ?_)
                      · simp only [w32_mod] at h_68
                        have hrb : RB (Ia 51) (Ia 51 306) (FU (Ia 51 304) + 1) i (t + 1) (I45 63) := RB_n hrb0 (by omega) (by omega) (by omega) (by omega) (fun h9 => by have := h9.1; omega)
                        refine ww_iinc hX (pc := 95) (lv' := [some (kR (some 49)), some (kI i), some (kI (t + 1))]) dX11_reaches_95 rfl (by decide) rfl rfl ?_
                        refine ww_goto hX (pc := 98) (tgt := 45) dX11_reaches_98 (by decide) ?_
                        exact ih_45 _ (by have hm9 := Sh0_e hq_45; omega) (t + 1) I45 J45 rfl ⟨bkl45, tkl45, ⟨kI45, cI45, kJ45, by omega, by omega, ⟨by omega, by omega⟩, hrb⟩⟩
                      · simp only [w32_mod] at h_68
                        refine ww_aload_n hX (pc := 71) dX11_reaches_71 rfl ?_
                        refine ww_iload_n hX (pc := 72) dX11_reaches_72 rfl ?_
                        refine ww_iload_n hX (pc := 73) dX11_reaches_73 rfl ?_
                        refine ww_aload_n hX (pc := 74) dX11_reaches_74 rfl ?_
                        refine ww_getR hX (pc := 75) fX11_20 (by decide) (xs_49 hL) (xr_49_3 hL) dX11_reaches_75 ?_
                        refine ww_sipush hX (pc := 78) (x := 306) dX11_reaches_78 (by decide) ?_
                        refine ww_iald hX (pc := 81) (xs_51 hL) (by decide) (by omega) (by omega) dX11_reaches_81 ?_
                        refine ww_toI (b := I45 51 306) rfl ?_
                        refine vI3 hX (pc := 82) sX11_271 (xs_49 hL) (c_X11_canCome l0 hL cI45 ) (by decide) (Nat.le_refl 0) (Nat.le_refl 0) (Nat.le_of_ble_eq_true rfl) dX11_reaches_82 (fun x_82 I_82 J_82 h_82 => ?_)
                        obtain ⟨rfl, rfl, h_82⟩ := h_82
                        rw [e51_I45] at h_82
                        refine ww_if_eq hX (pc := 85) (tgt := 95) dX11_reaches_85 (by decide) (fun h_85 => ?_) (fun h_85 => ?_)
                        · simp only [w32_mod] at h_85
                          have hrb : RB (Ia 51) (Ia 51 306) (FU (Ia 51 304) + 1) i (t + 1) (I45 63) := RB_n hrb0 (by omega) (by omega) (by omega) (by omega) (fun h9 => by have := h_82.2.mpr h9.2; omega)
                          refine ww_iinc hX (pc := 95) (lv' := [some (kR (some 49)), some (kI i), some (kI (t + 1))]) dX11_reaches_95 rfl (by decide) rfl rfl ?_
                          refine ww_goto hX (pc := 98) (tgt := 45) dX11_reaches_98 (by decide) ?_
                          exact ih_45 _ (by have hm9 := Sh0_e hq_45; omega) (t + 1) I45 J45 rfl ⟨bkl45, tkl45, ⟨kI45, cI45, kJ45, by omega, by omega, ⟨by omega, by omega⟩, hrb⟩⟩
                        · simp only [w32_mod] at h_85
                          have hcc := h_82.2.mp (by omega)
                          refine ww_aload_n hX (pc := 88) dX11_reaches_88 rfl ?_
                          refine ww_getR hX (pc := 89) fX11_65 (by decide) (xs_49 hL) (xr_49_26 hL) dX11_reaches_89 ?_
                          refine ww_iload_n hX (pc := 92) dX11_reaches_92 rfl ?_
                          refine ww_iconst hX (pc := 93) (x := 1) dX11_reaches_93 rfl ?_
                          refine ww_zast hX (pc := 94) (xs_63 hL) (by decide) (by omega) (by omega) (by decide) dX11_reaches_94 ?_
                          refine ww_nmH (fun I_94 eI_94 => ?_)
                          have kI_94 : Ch [63] [] Ia I_94 := by rw [eI_94]; exact Ch_r kI45 (by decide) (by decide)
                          have cI_94 : RX I_94 := by rw [eI_94]; exact RX_r cI45 (by decide)
                          have qI_94 := RX_o cI_94
                          have r304_I_94 : I_94 51 304 = I45 51 304 := by rw [eI_94, up2_off _ _ _ (by decide)]
                          have r305_I_94 : I_94 51 305 = I45 51 305 := by rw [eI_94, up2_off _ _ _ (by decide)]
                          have rf_I_94 : FU (I_94 51 304) = FU (I45 51 304) := by rw [r304_I_94]
                          have hrb : RB (Ia 51) (Ia 51 306) (FU (Ia 51 304) + 1) i (t + 1) (I_94 63) := by
                            rw [eI_94, up2_row]
                            exact RB_s hrb0 (by omega) (by omega) (by omega) (by omega) (by omega) (by omega) hcc
                          have bkI_94 : BK9 Ia I_94 := by rw [eI_94]; exact BK9_up bkl45 (by decide)
                          have tkI_94 : TK9 Ia I_94 Ja J45 := by rw [eI_94]; exact TK9_up tkl45 (by decide)
                          refine ww_iinc hX (pc := 95) (lv' := [some (kR (some 49)), some (kI i), some (kI (t + 1))]) dX11_reaches_95 rfl (by decide) rfl rfl ?_
                          refine ww_goto hX (pc := 98) (tgt := 45) dX11_reaches_98 (by decide) ?_
                          exact ih_45 _ (by have hm9 := Sh0_e hq_45; omega) (t + 1) I_94 J45 rfl ⟨bkI_94, tkI_94, ⟨kI_94, cI_94, kJ45, by omega, by omega, ⟨by omega, by omega⟩, hrb⟩⟩
              exact hl_45 _ v_44 I33 J33 rfl ⟨bkl33, tkl33, ⟨kI33, cI33, kJ33, rfl, rfl, ⟨by omega, by omega⟩, RB_0 hra0 (by omega)⟩⟩
        exact hl_33 _ 0 I2 J2 rfl ⟨bkl2, tkl2, ⟨kI2, cI2, kJ2, rfl, rfl, ⟨by omega, by omega⟩, RA_0 (by omega) (fun t ht => hz t (by omega))⟩⟩
      · simp only [w32_mod] at h_7
        refine ww_aload_n hX (pc := 10) dX11_reaches_10 rfl ?_
        refine ww_getR hX (pc := 11) fX11_65 (by decide) (xs_49 hL) (xr_49_26 hL) dX11_reaches_11 ?_
        refine ww_iload_n hX (pc := 14) dX11_reaches_14 rfl ?_
        refine ww_iload_n hX (pc := 15) dX11_reaches_15 rfl ?_
        refine ww_if_ne hX (pc := 16) (tgt := 23) dX11_reaches_16 (by decide) (fun h_16 => ?_) (fun h_16 => ?_)
        · simp only [w32_mod] at h_16
          refine ww_iconst hX (pc := 23) (x := 0) dX11_reaches_23 rfl ?_
          refine ww_zast hX (pc := 24) (xs_63 hL) (by decide) (by omega) (by omega) (by decide) dX11_reaches_24 ?_
          refine ww_nmH (fun I_24 eI_24 => ?_)
          have kI_24 : Ch [63] [] Ia I_24 := by rw [eI_24]; exact Ch_r kI2 (by decide) (by decide)
          have cI_24 : RX I_24 := by rw [eI_24]; exact RX_r cI2 (by decide)
          have qI_24 := RX_o cI_24
          have r304_I_24 : I_24 51 304 = I2 51 304 := by rw [eI_24, up2_off _ _ _ (by decide)]
          have r305_I_24 : I_24 51 305 = I2 51 305 := by rw [eI_24, up2_off _ _ _ (by decide)]
          have rf_I_24 : FU (I_24 51 304) = FU (I2 51 304) := by rw [r304_I_24]
          have t24 : ∀ t : Nat, (t : Int) < i + 1 → I_24 63 t = if t = 0 then 1 else 0 := fun t ht => by
            rw [eI_24, up2_row]
            by_cases e9 : t = i.toNat
            · rw [e9, up1_s]
              first
              | rw [if_pos (by omega)]
              | rw [if_neg (by omega)]
            · rw [up1_n _ _ e9]; exact hz t (by omega)
          have bkI_24 : BK9 Ia I_24 := by rw [eI_24]; exact BK9_up bkl2 (by decide)
          have tkI_24 : TK9 Ia I_24 Ja J2 := by rw [eI_24]; exact TK9_up tkl2 (by decide)
          refine ww_iinc hX (pc := 25) (lv' := [some (kR (some 49)), some (kI (i + 1)), none]) dX11_reaches_25 rfl (by decide) rfl rfl ?_
          refine ww_goto hX (pc := 28) (tgt := 2) dX11_reaches_28 (by decide) ?_
          exact ih_2 _ (by have hm9 := Sh0_e hq_2; omega) (i + 1) I_24 J2 rfl ⟨bkI_24, tkI_24, ⟨kI_24, cI_24, kJ2, by omega, by omega, ⟨by omega, by omega⟩, t24⟩⟩
        · simp only [w32_mod] at h_16
          refine ww_iconst hX (pc := 19) (x := 1) dX11_reaches_19 rfl ?_
          refine ww_goto hX (pc := 20) (tgt := 24) dX11_reaches_20 (by decide) ?_
          refine ww_zast hX (pc := 24) (xs_63 hL) (by decide) (by omega) (by omega) (by decide) dX11_reaches_24 ?_
          refine ww_nmH (fun I_24 eI_24 => ?_)
          have kI_24 : Ch [63] [] Ia I_24 := by rw [eI_24]; exact Ch_r kI2 (by decide) (by decide)
          have cI_24 : RX I_24 := by rw [eI_24]; exact RX_r cI2 (by decide)
          have qI_24 := RX_o cI_24
          have r304_I_24 : I_24 51 304 = I2 51 304 := by rw [eI_24, up2_off _ _ _ (by decide)]
          have r305_I_24 : I_24 51 305 = I2 51 305 := by rw [eI_24, up2_off _ _ _ (by decide)]
          have rf_I_24 : FU (I_24 51 304) = FU (I2 51 304) := by rw [r304_I_24]
          have t24 : ∀ t : Nat, (t : Int) < i + 1 → I_24 63 t = if t = 0 then 1 else 0 := fun t ht => by
            rw [eI_24, up2_row]
            by_cases e9 : t = i.toNat
            · rw [e9, up1_s]
              first
              | rw [if_pos (by omega)]
              | rw [if_neg (by omega)]
            · rw [up1_n _ _ e9]; exact hz t (by omega)
          have bkI_24 : BK9 Ia I_24 := by rw [eI_24]; exact BK9_up bkl2 (by decide)
          have tkI_24 : TK9 Ia I_24 Ja J2 := by rw [eI_24]; exact TK9_up tkl2 (by decide)
          refine ww_iinc hX (pc := 25) (lv' := [some (kR (some 49)), some (kI (i + 1)), none]) dX11_reaches_25 rfl (by decide) rfl rfl ?_
          refine ww_goto hX (pc := 28) (tgt := 2) dX11_reaches_28 (by decide) ?_
          exact ih_2 _ (by have hm9 := Sh0_e hq_2; omega) (i + 1) I_24 J2 rfl ⟨bkI_24, tkI_24, ⟨kI_24, cI_24, kJ2, by omega, by omega, ⟨by omega, by omega⟩, t24⟩⟩
  exact hl_2 _ 0 Ia Ja rfl ⟨BK9_rf, TK9_rf, ⟨Ch_rf, hQ, (Kp_rf (a := 49) (b := 73)), rfl, rfl, ⟨by omega, by omega⟩, fun t ht => absurd ht (by omega)⟩⟩
set_option maxHeartbeats 4000000 in
set_option maxRecDepth 20000 in
theorem c9_X11_reached (l0 : Launch) {Ia Ja : aI1} {Ra : aR1} {Sa : aS1} (hL : LY Ra Sa) (hQ : RX Ia) {a : Int} (ha0 : -2147483648 ≤ a) (ha1 : a < 2147483648) (hcr : ∀ t : Nat, (t : Int) ≤ FU (Ia 51 304) → -1 ≤ Ia 51 t ∧ Ia 51 t ≤ 7)  : CT l0 2 0 0 mX11_reached [kR (some 49), kI a] Ia Ja Ra Sa (cI (fun x I' J' => (Ch [63] [] Ia I' ∧ Kp 49 73 Ja J' ∧ RX I' ∧ (a = -1 → x = fW (rcF (Ia 51) (Ia 51 306)) 0 (FU (Ia 51 304) + 1).toNat) ∧ (¬ a = -1 → (0 ≤ a ∧ a ≤ FU (Ia 51 304)) → (x = 0 ∨ x = 1) ∧ (x = 1 ↔ RC (Ia 51) (Ia 51 306) a.toNat)) ∧ (¬ a = -1 → ¬ (0 ≤ a ∧ a ≤ FU (Ia 51 304)) → x = -1)) ∧ QK9 Ia I' Ja J') Ra Sa) := by
  refine ct_in pn_X11 (Nat.le_of_ble_eq_true rfl) (fun X hX hT hIn => ?_)
  have hX : aK l0 X cX11_reached 4 RX11 (some .int) 2 0 0 := hX
  change WW X 0 [some (kR (some 49)), some (kI a), none, none] [] Ia Ja Ra Sa 0 0
  have qIa := RX_o hQ
  refine ww_iload_n hX (pc := 0) dX11_reached_0 rfl ?_
  refine ww_iconst hX (pc := 1) (x := (-1)) dX11_reached_1 rfl ?_
  refine ww_icmp_eq hX (pc := 2) (tgt := 15) dX11_reached_2 (by decide) (fun h_2 => ?_) (fun h_2 => ?_)
  · simp only [w32_mod] at h_2
    refine ww_aload_n hX (pc := 15) dX11_reached_15 rfl ?_
    refine vV0 hX (pc := 16) sX11_315 (xs_49 hL) (c9_X11_reaches l0 hL hQ hcr) (by decide) (Nat.le_refl 0) (Nat.le_refl 0) (Nat.le_of_ble_eq_true rfl) dX11_reached_16 (fun I_16 J_16 h_16 => ?_)
    obtain ⟨h_16, qxI_16⟩ := h_16
    have kJ_16 : Kp 49 73 Ja J_16 := Kp_tr (Kp_rf (a := 49) (b := 73)) h_16.2.1
    have kI_16 : Ch [63] [] Ia I_16 := Ch_tr Ch_rf (Ch_wd h_16.1 (by decide) (by decide))
    have cI_16 : RX I_16 := h_16.2.2.1
    have qI_16 := RX_o cI_16
    have r304_I_16 : I_16 51 304 = Ia 51 304 := by rw [h_16.1.1 51 (by decide) (by decide)]
    have r305_I_16 : I_16 51 305 = Ia 51 305 := by rw [h_16.1.1 51 (by decide) (by decide)]
    have rf_I_16 : FU (I_16 51 304) = FU (Ia 51 304) := by rw [r304_I_16]
    have hcan := h_16.2.2.2
    have e51 : I_16 51 = Ia 51 := h_16.1.1 51 (by decide) (by decide)
    have bkI_16 : BK9 Ia I_16 := BK9_tr BK9_rf qxI_16.1
    have tkI_16 : TK9 Ia I_16 Ja J_16 := TK9_tr TK9_rf qxI_16.2
    refine ww_iconst hX (pc := 19) (x := 0) dX11_reached_19 rfl ?_
    refine ww_istore_n hX (pc := 20) (lv' := [some (kR (some 49)), some (kI a), some (kI 0), none]) dX11_reached_20 (by decide) rfl rfl ?_
    refine ww_iconst hX (pc := 21) (x := 0) dX11_reached_21 rfl ?_
    refine ww_istore_n hX (pc := 22) (lv' := [some (kR (some 49)), some (kI a), some (kI 0), some (kI 0)]) dX11_reached_22 (by decide) rfl rfl ?_
    have hl_23 : ∀ (n_23 : Nat) (n : Int) (i : Int), (256 - i).toNat = n_23 → ((0 ≤ i ∧ i ≤ (FU (Ia 51 304) + 1)) ∧ n = fW (rcF (Ia 51) (Ia 51 306)) 0 i.toNat) → WW X 23 [some (kR (some 49)), some (kI a), some (kI n), some (kI i)] [] I_16 J_16 Ra Sa 0 0 := by
      intro n_23
      induction n_23 using Nat.strongRecOn with
      | ind n_23 ih_23 =>
        intro n i hm_23 hv_23
        have hq_23 := Sh0_i hm_23
        clear hm_23
        obtain ⟨hv, hn⟩ := hv_23
        refine ww_iload_n hX (pc := 23) dX11_reached_23 rfl ?_
        refine ww_aload_n hX (pc := 24) dX11_reached_24 rfl ?_
        refine vI0 hX (pc := 25) sX11_112 (xs_49 hL) (c_X11_states l0 hL cI_16 ) (by decide) (Nat.le_refl 0) (Nat.le_refl 0) (Nat.le_of_ble_eq_true rfl) dX11_reached_25 (fun x_25 I_25 J_25 h_25 => ?_)
        obtain ⟨rfl, rfl, h_25⟩ := h_25
        refine ww_icmp_ge hX (pc := 28) (tgt := 54) dX11_reached_28 (by decide) (fun h_28 => ?_) (fun h_28 => ?_)
        · simp only [w32_mod] at h_28
          refine ww_iload_n hX (pc := 54) dX11_reached_54 rfl ?_
          refine ww_iconst hX (pc := 55) (x := (-1)) dX11_reached_55 rfl ?_
          refine ww_icmp_ne hX (pc := 56) (tgt := 63) dX11_reached_56 (by decide) (fun h_56 => ?_) (fun h_56 => ?_)
          · simp only [w32_mod] at h_56
            have hci := (hcan a.toNat (by omega)).1
            refine ww_aload_n hX (pc := 63) dX11_reached_63 rfl ?_
            refine ww_getR hX (pc := 64) fX11_65 (by decide) (xs_49 hL) (xr_49_26 hL) dX11_reached_64 ?_
            refine ww_iload_n hX (pc := 67) dX11_reached_67 rfl ?_
            refine ww_zald hX (pc := 68) (xs_63 hL) (by decide) (by omega) (by omega) dX11_reached_68 ?_
            refine ww_if_eq hX (pc := 69) (tgt := 76) dX11_reached_69 (by decide) (fun h_69 => ?_) (fun h_69 => ?_)
            · simp only [w32_mod] at h_69
              refine ww_iconst hX (pc := 76) (x := 0) dX11_reached_76 rfl ?_
              refine rI hX (pc := 77) hT (Nat.le_refl 0) (Nat.le_refl 0) dX11_reached_77 ?_
              exact ⟨⟨kI_16, kJ_16, cI_16, (fun h9 => absurd h9 (by omega)), (fun _ _ => ⟨by omega, fun h9 => absurd h9 (by decide), fun h9 => absurd ((hcan a.toNat (by omega)).2.mpr h9) (by have := (hcan a.toNat (by omega)).1; omega)⟩), (fun _ h9 => absurd (by omega) h9)⟩, bkI_16, tkI_16⟩
            · simp only [w32_mod] at h_69
              refine ww_iconst hX (pc := 72) (x := 1) dX11_reached_72 rfl ?_
              refine ww_goto hX (pc := 73) (tgt := 77) dX11_reached_73 (by decide) ?_
              refine rI hX (pc := 77) hT (Nat.le_refl 0) (Nat.le_refl 0) dX11_reached_77 ?_
              exact ⟨⟨kI_16, kJ_16, cI_16, (fun h9 => absurd h9 (by omega)), (fun _ _ => ⟨by omega, fun _ => (hcan a.toNat (by omega)).2.mp (by have := (hcan a.toNat (by omega)).1; omega), fun _ => rfl⟩), (fun _ h9 => absurd (by omega) h9)⟩, bkI_16, tkI_16⟩
          · simp only [w32_mod] at h_56
            refine ww_iload_n hX (pc := 59) dX11_reached_59 rfl ?_
            refine ww_goto hX (pc := 60) (tgt := 77) dX11_reached_60 (by decide) ?_
            refine rI hX (pc := 77) hT (Nat.le_refl 0) (Nat.le_refl 0) dX11_reached_77 ?_
            exact ⟨⟨kI_16, kJ_16, cI_16, (fun _ => by rw [hn, show i = FU (Ia 51 304) + 1 by omega]), (fun h9 => absurd (by omega) h9), (fun h9 => absurd (by omega) h9)⟩, bkI_16, tkI_16⟩
        · simp only [w32_mod] at h_28
          have hci := hcan i.toNat (by omega)
          refine ww_iload_n hX (pc := 31) dX11_reached_31 rfl ?_
          refine ww_aload_n hX (pc := 32) dX11_reached_32 rfl ?_
          refine ww_getR hX (pc := 33) fX11_65 (by decide) (xs_49 hL) (xr_49_26 hL) dX11_reached_33 ?_
          refine ww_iload_n hX (pc := 36) dX11_reached_36 rfl ?_
          refine ww_zald hX (pc := 37) (xs_63 hL) (by decide) (by omega) (by omega) dX11_reached_37 ?_
          refine ww_if_eq hX (pc := 38) (tgt := 45) dX11_reached_38 (by decide) (fun h_38 => ?_) (fun h_38 => ?_)
          · simp only [w32_mod] at h_38
            have hst : rcF (Ia 51) (Ia 51 306) n i.toNat = n + 0 := by
              rw [rcF_0 (fun h9 => by have := hci.2.mpr h9; omega), Int.add_zero]
            refine ww_iconst hX (pc := 45) (x := 0) dX11_reached_45 rfl ?_
            refine ww_iadd hX (pc := 46) dX11_reached_46 ?_
            refine ww_nmI (fun v_47 hv_47 => ?_)
            refine ww_istore_n hX (pc := 47) (lv' := [some (kR (some 49)), some (kI a), some (kI v_47), some (kI i)]) dX11_reached_47 (by decide) rfl rfl ?_
            refine ww_iinc hX (pc := 48) (lv' := [some (kR (some 49)), some (kI a), some (kI v_47), some (kI (i + 1))]) dX11_reached_48 rfl (by decide) rfl rfl ?_
            refine ww_goto hX (pc := 51) (tgt := 23) dX11_reached_51 (by decide) ?_
            exact ih_23 _ (by have hm9 := Sh0_e hq_23; omega) v_47 (i + 1) rfl ⟨⟨by omega, by omega⟩, (by rw [fW_s _ _ (by omega), ← hn, hst]; omega)⟩
          · simp only [w32_mod] at h_38
            have hst : rcF (Ia 51) (Ia 51 306) n i.toNat = n + 1 := rcF_1 (hci.2.mp (by have := hci.1; omega))
            refine ww_iconst hX (pc := 41) (x := 1) dX11_reached_41 rfl ?_
            refine ww_goto hX (pc := 42) (tgt := 46) dX11_reached_42 (by decide) ?_
            refine ww_iadd hX (pc := 46) dX11_reached_46 ?_
            refine ww_nmI (fun v_47 hv_47 => ?_)
            refine ww_istore_n hX (pc := 47) (lv' := [some (kR (some 49)), some (kI a), some (kI v_47), some (kI i)]) dX11_reached_47 (by decide) rfl rfl ?_
            refine ww_iinc hX (pc := 48) (lv' := [some (kR (some 49)), some (kI a), some (kI v_47), some (kI (i + 1))]) dX11_reached_48 rfl (by decide) rfl rfl ?_
            refine ww_goto hX (pc := 51) (tgt := 23) dX11_reached_51 (by decide) ?_
            exact ih_23 _ (by have hm9 := Sh0_e hq_23; omega) v_47 (i + 1) rfl ⟨⟨by omega, by omega⟩, (by rw [fW_s _ _ (by omega), ← hn, hst]; omega)⟩
    exact hl_23 _ 0 0 rfl ⟨⟨by omega, by omega⟩, rfl⟩
  · simp only [w32_mod] at h_2
    refine ww_aload_n hX (pc := 5) dX11_reached_5 rfl ?_
    refine ww_iload_n hX (pc := 6) dX11_reached_6 rfl ?_
    refine vI1 hX (pc := 7) sX11_120 (xs_49 hL) (c_X11_isState l0 hL hQ (by omega) (by omega)) (by decide) (Nat.le_refl 0) (Nat.le_refl 0) (Nat.le_of_ble_eq_true rfl) dX11_reached_7 (fun x_7 I_7 J_7 h_7 => ?_)
    obtain ⟨rfl, rfl, h_7⟩ := h_7
    refine ww_if_ne hX (pc := 10) (tgt := 15) dX11_reached_10 (by decide) (fun h_10 => ?_) (fun h_10 => ?_)
    · simp only [w32_mod] at h_10
      have k_7 := h_7.2.mp (by omega)
      clear h_7
      refine ww_aload_n hX (pc := 15) dX11_reached_15 rfl ?_
      refine vV0 hX (pc := 16) sX11_315 (xs_49 hL) (c9_X11_reaches l0 hL hQ hcr) (by decide) (Nat.le_refl 0) (Nat.le_refl 0) (Nat.le_of_ble_eq_true rfl) dX11_reached_16 (fun I_16 J_16 h_16 => ?_)
      obtain ⟨h_16, qxI_16⟩ := h_16
      have kJ_16 : Kp 49 73 Ja J_16 := Kp_tr (Kp_rf (a := 49) (b := 73)) h_16.2.1
      have kI_16 : Ch [63] [] Ia I_16 := Ch_tr Ch_rf (Ch_wd h_16.1 (by decide) (by decide))
      have cI_16 : RX I_16 := h_16.2.2.1
      have qI_16 := RX_o cI_16
      have r304_I_16 : I_16 51 304 = Ia 51 304 := by rw [h_16.1.1 51 (by decide) (by decide)]
      have r305_I_16 : I_16 51 305 = Ia 51 305 := by rw [h_16.1.1 51 (by decide) (by decide)]
      have rf_I_16 : FU (I_16 51 304) = FU (Ia 51 304) := by rw [r304_I_16]
      have hcan := h_16.2.2.2
      have e51 : I_16 51 = Ia 51 := h_16.1.1 51 (by decide) (by decide)
      have bkI_16 : BK9 Ia I_16 := BK9_tr BK9_rf qxI_16.1
      have tkI_16 : TK9 Ia I_16 Ja J_16 := TK9_tr TK9_rf qxI_16.2
      refine ww_iconst hX (pc := 19) (x := 0) dX11_reached_19 rfl ?_
      refine ww_istore_n hX (pc := 20) (lv' := [some (kR (some 49)), some (kI a), some (kI 0), none]) dX11_reached_20 (by decide) rfl rfl ?_
      refine ww_iconst hX (pc := 21) (x := 0) dX11_reached_21 rfl ?_
      refine ww_istore_n hX (pc := 22) (lv' := [some (kR (some 49)), some (kI a), some (kI 0), some (kI 0)]) dX11_reached_22 (by decide) rfl rfl ?_
      have hl_23 : ∀ (n_23 : Nat) (n : Int) (i : Int), (256 - i).toNat = n_23 → ((0 ≤ i ∧ i ≤ (FU (Ia 51 304) + 1)) ∧ n = fW (rcF (Ia 51) (Ia 51 306)) 0 i.toNat) → WW X 23 [some (kR (some 49)), some (kI a), some (kI n), some (kI i)] [] I_16 J_16 Ra Sa 0 0 := by
        intro n_23
        induction n_23 using Nat.strongRecOn with
        | ind n_23 ih_23 =>
          intro n i hm_23 hv_23
          have hq_23 := Sh0_i hm_23
          clear hm_23
          obtain ⟨hv, hn⟩ := hv_23
          refine ww_iload_n hX (pc := 23) dX11_reached_23 rfl ?_
          refine ww_aload_n hX (pc := 24) dX11_reached_24 rfl ?_
          refine vI0 hX (pc := 25) sX11_112 (xs_49 hL) (c_X11_states l0 hL cI_16 ) (by decide) (Nat.le_refl 0) (Nat.le_refl 0) (Nat.le_of_ble_eq_true rfl) dX11_reached_25 (fun x_25 I_25 J_25 h_25 => ?_)
          obtain ⟨rfl, rfl, h_25⟩ := h_25
          refine ww_icmp_ge hX (pc := 28) (tgt := 54) dX11_reached_28 (by decide) (fun h_28 => ?_) (fun h_28 => ?_)
          · simp only [w32_mod] at h_28
            refine ww_iload_n hX (pc := 54) dX11_reached_54 rfl ?_
            refine ww_iconst hX (pc := 55) (x := (-1)) dX11_reached_55 rfl ?_
            refine ww_icmp_ne hX (pc := 56) (tgt := 63) dX11_reached_56 (by decide) (fun h_56 => ?_) (fun h_56 => ?_)
            · simp only [w32_mod] at h_56
              have hci := (hcan a.toNat (by omega)).1
              refine ww_aload_n hX (pc := 63) dX11_reached_63 rfl ?_
              refine ww_getR hX (pc := 64) fX11_65 (by decide) (xs_49 hL) (xr_49_26 hL) dX11_reached_64 ?_
              refine ww_iload_n hX (pc := 67) dX11_reached_67 rfl ?_
              refine ww_zald hX (pc := 68) (xs_63 hL) (by decide) (by omega) (by omega) dX11_reached_68 ?_
              refine ww_if_eq hX (pc := 69) (tgt := 76) dX11_reached_69 (by decide) (fun h_69 => ?_) (fun h_69 => ?_)
              · simp only [w32_mod] at h_69
                refine ww_iconst hX (pc := 76) (x := 0) dX11_reached_76 rfl ?_
                refine rI hX (pc := 77) hT (Nat.le_refl 0) (Nat.le_refl 0) dX11_reached_77 ?_
                exact ⟨⟨kI_16, kJ_16, cI_16, (fun h9 => absurd h9 (by omega)), (fun _ _ => ⟨by omega, fun h9 => absurd h9 (by decide), fun h9 => absurd ((hcan a.toNat (by omega)).2.mpr h9) (by have := (hcan a.toNat (by omega)).1; omega)⟩), (fun _ h9 => absurd (by omega) h9)⟩, bkI_16, tkI_16⟩
              · simp only [w32_mod] at h_69
                refine ww_iconst hX (pc := 72) (x := 1) dX11_reached_72 rfl ?_
                refine ww_goto hX (pc := 73) (tgt := 77) dX11_reached_73 (by decide) ?_
                refine rI hX (pc := 77) hT (Nat.le_refl 0) (Nat.le_refl 0) dX11_reached_77 ?_
                exact ⟨⟨kI_16, kJ_16, cI_16, (fun h9 => absurd h9 (by omega)), (fun _ _ => ⟨by omega, fun _ => (hcan a.toNat (by omega)).2.mp (by have := (hcan a.toNat (by omega)).1; omega), fun _ => rfl⟩), (fun _ h9 => absurd (by omega) h9)⟩, bkI_16, tkI_16⟩
            · simp only [w32_mod] at h_56
              refine ww_iload_n hX (pc := 59) dX11_reached_59 rfl ?_
              refine ww_goto hX (pc := 60) (tgt := 77) dX11_reached_60 (by decide) ?_
              refine rI hX (pc := 77) hT (Nat.le_refl 0) (Nat.le_refl 0) dX11_reached_77 ?_
              exact ⟨⟨kI_16, kJ_16, cI_16, (fun _ => by rw [hn, show i = FU (Ia 51 304) + 1 by omega]), (fun h9 => absurd (by omega) h9), (fun h9 => absurd (by omega) h9)⟩, bkI_16, tkI_16⟩
          · simp only [w32_mod] at h_28
            have hci := hcan i.toNat (by omega)
            refine ww_iload_n hX (pc := 31) dX11_reached_31 rfl ?_
            refine ww_aload_n hX (pc := 32) dX11_reached_32 rfl ?_
            refine ww_getR hX (pc := 33) fX11_65 (by decide) (xs_49 hL) (xr_49_26 hL) dX11_reached_33 ?_
            refine ww_iload_n hX (pc := 36) dX11_reached_36 rfl ?_
            refine ww_zald hX (pc := 37) (xs_63 hL) (by decide) (by omega) (by omega) dX11_reached_37 ?_
            refine ww_if_eq hX (pc := 38) (tgt := 45) dX11_reached_38 (by decide) (fun h_38 => ?_) (fun h_38 => ?_)
            · simp only [w32_mod] at h_38
              have hst : rcF (Ia 51) (Ia 51 306) n i.toNat = n + 0 := by
                rw [rcF_0 (fun h9 => by have := hci.2.mpr h9; omega), Int.add_zero]
              refine ww_iconst hX (pc := 45) (x := 0) dX11_reached_45 rfl ?_
              refine ww_iadd hX (pc := 46) dX11_reached_46 ?_
              refine ww_nmI (fun v_47 hv_47 => ?_)
              refine ww_istore_n hX (pc := 47) (lv' := [some (kR (some 49)), some (kI a), some (kI v_47), some (kI i)]) dX11_reached_47 (by decide) rfl rfl ?_
              refine ww_iinc hX (pc := 48) (lv' := [some (kR (some 49)), some (kI a), some (kI v_47), some (kI (i + 1))]) dX11_reached_48 rfl (by decide) rfl rfl ?_
              refine ww_goto hX (pc := 51) (tgt := 23) dX11_reached_51 (by decide) ?_
              exact ih_23 _ (by have hm9 := Sh0_e hq_23; omega) v_47 (i + 1) rfl ⟨⟨by omega, by omega⟩, (by rw [fW_s _ _ (by omega), ← hn, hst]; omega)⟩
            · simp only [w32_mod] at h_38
              have hst : rcF (Ia 51) (Ia 51 306) n i.toNat = n + 1 := rcF_1 (hci.2.mp (by have := hci.1; omega))
              refine ww_iconst hX (pc := 41) (x := 1) dX11_reached_41 rfl ?_
              refine ww_goto hX (pc := 42) (tgt := 46) dX11_reached_42 (by decide) ?_
              refine ww_iadd hX (pc := 46) dX11_reached_46 ?_
              refine ww_nmI (fun v_47 hv_47 => ?_)
              refine ww_istore_n hX (pc := 47) (lv' := [some (kR (some 49)), some (kI a), some (kI v_47), some (kI i)]) dX11_reached_47 (by decide) rfl rfl ?_
              refine ww_iinc hX (pc := 48) (lv' := [some (kR (some 49)), some (kI a), some (kI v_47), some (kI (i + 1))]) dX11_reached_48 rfl (by decide) rfl rfl ?_
              refine ww_goto hX (pc := 51) (tgt := 23) dX11_reached_51 (by decide) ?_
              exact ih_23 _ (by have hm9 := Sh0_e hq_23; omega) v_47 (i + 1) rfl ⟨⟨by omega, by omega⟩, (by rw [fW_s _ _ (by omega), ← hn, hst]; omega)⟩
      exact hl_23 _ 0 0 rfl ⟨⟨by omega, by omega⟩, rfl⟩
    · simp only [w32_mod] at h_10
      refine ww_iconst hX (pc := 13) (x := (-1)) dX11_reached_13 rfl ?_
      refine rI hX (pc := 14) hT (Nat.le_refl 0) (Nat.le_refl 0) dX11_reached_14 ?_
      exact ⟨⟨Ch_rf, (Kp_rf (a := 49) (b := 73)), hQ, (fun h9 => absurd h9 (by omega)), (fun _ h9 => absurd h9 (by omega)), (fun _ _ => rfl)⟩, BK9_rf, TK9_rf⟩
set_option maxHeartbeats 4000000 in
set_option maxRecDepth 20000 in
theorem c9_X11_maybe (l0 : Launch) {Ia Ja : aI1} {Ra : aR1} {Sa : aS1} (hL : LY Ra Sa) (hQ : RX Ia) {a b : Int} (ha0 : -2147483648 ≤ a) (ha1 : a < 2147483648) (hb0 : -2147483648 ≤ b) (hb1 : b < 2147483648) (hcr : ∀ t : Nat, (t : Int) ≤ FU (Ia 51 304) → -1 ≤ Ia 51 t ∧ Ia 51 t ≤ 7)  : CT l0 2 0 0 mX11_maybe [kR (some 49), kI a, kI b] Ia Ja Ra Sa (cI (fun x I' J' => (Ch [63] [] Ia I' ∧ Kp 49 73 Ja J' ∧ RX I' ∧ ((0 ≤ a ∧ a ≤ FU (Ia 51 304) ∧ 0 ≤ b ∧ b ≤ 8) → x = fW (mbF (Ia 51) (Ia 51 306) a (FU (Ia 51 304) + 1) b) 0 (FU (Ia 51 304) + 1).toNat) ∧ (¬ (0 ≤ a ∧ a ≤ FU (Ia 51 304) ∧ 0 ≤ b ∧ b ≤ 8) → x = -1)) ∧ QK9 Ia I' Ja J') Ra Sa) := by
  refine ct_in pn_X11 (Nat.le_of_ble_eq_true rfl) (fun X hX hT hIn => ?_)
  have hX : aK l0 X cX11_maybe 5 RX11 (some .int) 2 0 0 := hX
  change WW X 0 [some (kR (some 49)), some (kI a), some (kI b), none, none] [] Ia Ja Ra Sa 0 0
  have qIa := RX_o hQ
  refine ww_aload_n hX (pc := 0) dX11_maybe_0 rfl ?_
  refine ww_iload_n hX (pc := 1) dX11_maybe_1 rfl ?_
  refine vI1 hX (pc := 2) sX11_120 (xs_49 hL) (c_X11_isState l0 hL hQ (by omega) (by omega)) (by decide) (Nat.le_refl 0) (Nat.le_refl 0) (Nat.le_of_ble_eq_true rfl) dX11_maybe_2 (fun x_2 I_2 J_2 h_2 => ?_)
  obtain ⟨rfl, rfl, h_2⟩ := h_2
  refine ww_if_eq hX (pc := 5) (tgt := 18) dX11_maybe_5 (by decide) (fun h_5 => ?_) (fun h_5 => ?_)
  · simp only [w32_mod] at h_5
    refine ww_iconst hX (pc := 18) (x := (-1)) dX11_maybe_18 rfl ?_
    refine rI hX (pc := 19) hT (Nat.le_refl 0) (Nat.le_refl 0) dX11_maybe_19 ?_
    exact ⟨⟨Ch_rf, (Kp_rf (a := 49) (b := 73)), hQ, (fun h9 => absurd h9 (by omega)), (fun _ => rfl)⟩, BK9_rf, TK9_rf⟩
  · simp only [w32_mod] at h_5
    have k_2 := h_2.2.mp (by omega)
    clear h_2
    refine ww_iload_n hX (pc := 8) dX11_maybe_8 rfl ?_
    refine ww_iconst hX (pc := 9) (x := 0) dX11_maybe_9 rfl ?_
    refine ww_bipush hX (pc := 10) (x := 8) dX11_maybe_10 (by decide) ?_
    refine sI3 hX (pc := 12) sX11_101 (c_X11_lies l0 (by omega) (by omega) (by omega) (by omega) (by omega) (by omega)) (by decide) (Nat.le_refl 0) (Nat.le_refl 0) (Nat.le_of_ble_eq_true rfl) dX11_maybe_12 (fun x_12 I_12 J_12 h_12 => ?_)
    obtain ⟨rfl, rfl, h_12⟩ := h_12
    refine ww_if_ne hX (pc := 15) (tgt := 20) dX11_maybe_15 (by decide) (fun h_15 => ?_) (fun h_15 => ?_)
    · simp only [w32_mod] at h_15
      have k_12 := h_12.2.mp (by omega)
      clear h_12
      refine ww_aload_n hX (pc := 20) dX11_maybe_20 rfl ?_
      refine vV0 hX (pc := 21) sX11_315 (xs_49 hL) (c9_X11_reaches l0 hL hQ hcr) (by decide) (Nat.le_refl 0) (Nat.le_refl 0) (Nat.le_of_ble_eq_true rfl) dX11_maybe_21 (fun I_21 J_21 h_21 => ?_)
      obtain ⟨h_21, qxI_21⟩ := h_21
      have kJ_21 : Kp 49 73 Ja J_21 := Kp_tr (Kp_rf (a := 49) (b := 73)) h_21.2.1
      have kI_21 : Ch [63] [] Ia I_21 := Ch_tr Ch_rf (Ch_wd h_21.1 (by decide) (by decide))
      have cI_21 : RX I_21 := h_21.2.2.1
      have qI_21 := RX_o cI_21
      have r304_I_21 : I_21 51 304 = Ia 51 304 := by rw [h_21.1.1 51 (by decide) (by decide)]
      have r305_I_21 : I_21 51 305 = Ia 51 305 := by rw [h_21.1.1 51 (by decide) (by decide)]
      have rf_I_21 : FU (I_21 51 304) = FU (Ia 51 304) := by rw [r304_I_21]
      have hcan := h_21.2.2.2
      have e51 : I_21 51 = Ia 51 := h_21.1.1 51 (by decide) (by decide)
      have bkI_21 : BK9 Ia I_21 := BK9_tr BK9_rf qxI_21.1
      have tkI_21 : TK9 Ia I_21 Ja J_21 := TK9_tr TK9_rf qxI_21.2
      refine ww_iconst hX (pc := 24) (x := 0) dX11_maybe_24 rfl ?_
      refine ww_istore_n hX (pc := 25) (lv' := [some (kR (some 49)), some (kI a), some (kI b), some (kI 0), none]) dX11_maybe_25 (by decide) rfl rfl ?_
      refine ww_iload_n hX (pc := 26) dX11_maybe_26 rfl ?_
      refine ww_istore hX (pc := 27) (lv' := [some (kR (some 49)), some (kI a), some (kI b), some (kI 0), some (kI a)]) dX11_maybe_27 (by decide) rfl rfl ?_
      have hl_29 : ∀ (n_29 : Nat) (n : Int) (t : Int), (256 - t).toNat = n_29 → ((a ≤ t ∧ t ≤ (FU (Ia 51 304) + 1)) ∧ n = fW (mbF (Ia 51) (Ia 51 306) a (FU (Ia 51 304) + 1) b) 0 t.toNat) → WW X 29 [some (kR (some 49)), some (kI a), some (kI b), some (kI n), some (kI t)] [] I_21 J_21 Ra Sa 0 0 := by
        intro n_29
        induction n_29 using Nat.strongRecOn with
        | ind n_29 ih_29 =>
          intro n t hm_29 hv_29
          have hq_29 := Sh0_i hm_29
          clear hm_29
          obtain ⟨hv, hn⟩ := hv_29
          refine ww_iload hX (pc := 29) dX11_maybe_29 rfl ?_
          refine ww_aload_n hX (pc := 31) dX11_maybe_31 rfl ?_
          refine vI0 hX (pc := 32) sX11_112 (xs_49 hL) (c_X11_states l0 hL cI_21 ) (by decide) (Nat.le_refl 0) (Nat.le_refl 0) (Nat.le_of_ble_eq_true rfl) dX11_maybe_32 (fun x_32 I_32 J_32 h_32 => ?_)
          obtain ⟨rfl, rfl, h_32⟩ := h_32
          refine ww_icmp_ge hX (pc := 35) (tgt := 97) dX11_maybe_35 (by decide) (fun h_35 => ?_) (fun h_35 => ?_)
          · simp only [w32_mod] at h_35
            refine ww_iload_n hX (pc := 97) dX11_maybe_97 rfl ?_
            refine rI hX (pc := 98) hT (Nat.le_refl 0) (Nat.le_refl 0) dX11_maybe_98 ?_
            exact ⟨⟨kI_21, kJ_21, cI_21, (fun _ => by rw [hn, show t = FU (Ia 51 304) + 1 by omega]), (fun h9 => absurd (by omega) h9)⟩, bkI_21, tkI_21⟩
          · simp only [w32_mod] at h_35
            have hcd := hcr t.toNat (by omega)
            have hct : ((t.toNat : Nat) : Int) = t := by omega
            have hci := hcan t.toNat (by omega)
            have hdf := anx_N (s := a) (t := t) (by omega) (by omega) (by omega) (by omega)
            have hdf2 := anx_N (s := t) (t := a) (by omega) (by omega) (by omega) (by omega)
            have hdl := df_lt (s := t.toNat) (t := a.toNat) (by omega)
            have hdl2 := df_lt (s := a.toNat) (t := t.toNat) (by omega)
            refine ww_aload_n hX (pc := 38) dX11_maybe_38 rfl ?_
            refine ww_getR hX (pc := 39) fX11_65 (by decide) (xs_49 hL) (xr_49_26 hL) dX11_maybe_39 ?_
            refine ww_iload hX (pc := 42) dX11_maybe_42 rfl ?_
            refine ww_zald hX (pc := 44) (xs_63 hL) (by decide) (by omega) (by omega) dX11_maybe_44 ?_
            refine ww_if_eq hX (pc := 45) (tgt := 91) dX11_maybe_45 (by decide) (fun h_45 => ?_) (fun h_45 => ?_)
            · simp only [w32_mod] at h_45
              have hst : mbF (Ia 51) (Ia 51 306) a (FU (Ia 51 304) + 1) b n t.toNat = n := if_neg (fun h9 => by
                have h8 := hci.2.mpr (Or.inr ⟨h9.2.2.1, h9.2.2.2.1⟩)
                omega)
              refine ww_iinc hX (pc := 91) (lv' := [some (kR (some 49)), some (kI a), some (kI b), some (kI n), some (kI (t + 1))]) dX11_maybe_91 rfl (by decide) rfl rfl ?_
              refine ww_goto hX (pc := 94) (tgt := 29) dX11_maybe_94 (by decide) ?_
              exact ih_29 _ (by have hm9 := Sh0_e hq_29; omega) n (t + 1) rfl ⟨⟨by omega, by omega⟩, (by rw [fW_s _ _ (by omega), ← hn, hst])⟩
            · simp only [w32_mod] at h_45
              refine ww_aload_n hX (pc := 48) dX11_maybe_48 rfl ?_
              refine ww_iload hX (pc := 49) dX11_maybe_49 rfl ?_
              refine vI1 hX (pc := 51) sX11_126 (xs_49 hL) (c_X11_readOf l0 hL cI_21 (by omega) (by omega)) (by decide) (Nat.le_refl 0) (Nat.le_refl 0) (Nat.le_of_ble_eq_true rfl) dX11_maybe_51 (fun x_51 I_51 J_51 h_51 => ?_)
              obtain ⟨rfl, rfl, h_51⟩ := h_51
              rw [e51] at h_51
              refine ww_iconst hX (pc := 54) (x := (-1)) dX11_maybe_54 rfl ?_
              refine ww_icmp_eq hX (pc := 55) (tgt := 91) dX11_maybe_55 (by decide) (fun h_55 => ?_) (fun h_55 => ?_)
              · simp only [w32_mod] at h_55
                have hst : mbF (Ia 51) (Ia 51 306) a (FU (Ia 51 304) + 1) b n t.toNat = n := if_neg (fun h9 => by
                  have h8 := h9.2.2.1
                  omega)
                refine ww_iinc hX (pc := 91) (lv' := [some (kR (some 49)), some (kI a), some (kI b), some (kI n), some (kI (t + 1))]) dX11_maybe_91 rfl (by decide) rfl rfl ?_
                refine ww_goto hX (pc := 94) (tgt := 29) dX11_maybe_94 (by decide) ?_
                exact ih_29 _ (by have hm9 := Sh0_e hq_29; omega) n (t + 1) rfl ⟨⟨by omega, by omega⟩, (by rw [fW_s _ _ (by omega), ← hn, hst])⟩
              · simp only [w32_mod] at h_55
                refine ww_iload_n hX (pc := 58) dX11_maybe_58 rfl ?_
                refine ww_iload hX (pc := 59) dX11_maybe_59 rfl ?_
                refine ww_iconst hX (pc := 61) (x := (-1)) dX11_maybe_61 rfl ?_
                refine ww_ixor hX (pc := 62) dX11_maybe_62 ?_
                refine ww_iand hX (pc := 63) dX11_maybe_63 ?_
                refine ww_if_ne hX (pc := 64) (tgt := 91) dX11_maybe_64 (by decide) (fun h_64 => ?_) (fun h_64 => ?_)
                · simp only [w32_mod] at h_64
                  have hst : mbF (Ia 51) (Ia 51 306) a (FU (Ia 51 304) + 1) b n t.toNat = n := if_neg (fun h9 => by
                    have h8 := df_0.mpr h9.2.1
                    omega)
                  refine ww_iinc hX (pc := 91) (lv' := [some (kR (some 49)), some (kI a), some (kI b), some (kI n), some (kI (t + 1))]) dX11_maybe_91 rfl (by decide) rfl rfl ?_
                  refine ww_goto hX (pc := 94) (tgt := 29) dX11_maybe_94 (by decide) ?_
                  exact ih_29 _ (by have hm9 := Sh0_e hq_29; omega) n (t + 1) rfl ⟨⟨by omega, by omega⟩, (by rw [fW_s _ _ (by omega), ← hn, hst])⟩
                · simp only [w32_mod] at h_64
                  have hsub : a.toNat &&& t.toNat = a.toNat := df_0.mp (by omega)
                  refine ww_iload hX (pc := 67) dX11_maybe_67 rfl ?_
                  refine ww_iload_n hX (pc := 69) dX11_maybe_69 rfl ?_
                  refine ww_iconst hX (pc := 70) (x := (-1)) dX11_maybe_70 rfl ?_
                  refine ww_ixor hX (pc := 71) dX11_maybe_71 ?_
                  refine ww_iand hX (pc := 72) dX11_maybe_72 ?_
                  refine sI1 hX (pc := 73) sX11_259 (c7_X11_ones l0 (by omega) (by omega)) (by decide) (Nat.le_refl 0) (Nat.le_refl 0) (Nat.le_of_ble_eq_true rfl) dX11_maybe_73 (fun x_73 I_73 J_73 h_73 => ?_)
                  obtain ⟨rfl, rfl, h_73⟩ := h_73
                  rw [hdf2, Int.toNat_natCast, df_sub hsub] at h_73
                  have hpq := pcn_r (t.toNat ^^^ a.toNat)
                  refine ww_iload_n hX (pc := 76) dX11_maybe_76 rfl ?_
                  refine ww_icmp_gt hX (pc := 77) (tgt := 91) dX11_maybe_77 (by decide) (fun h_77 => ?_) (fun h_77 => ?_)
                  · simp only [w32_mod] at h_77
                    have hst : mbF (Ia 51) (Ia 51 306) a (FU (Ia 51 304) + 1) b n t.toNat = n := if_neg (fun h9 => by
                      have h8 := h9.2.2.2.2
                      omega)
                    refine ww_iinc hX (pc := 91) (lv' := [some (kR (some 49)), some (kI a), some (kI b), some (kI n), some (kI (t + 1))]) dX11_maybe_91 rfl (by decide) rfl rfl ?_
                    refine ww_goto hX (pc := 94) (tgt := 29) dX11_maybe_94 (by decide) ?_
                    exact ih_29 _ (by have hm9 := Sh0_e hq_29; omega) n (t + 1) rfl ⟨⟨by omega, by omega⟩, (by rw [fW_s _ _ (by omega), ← hn, hst])⟩
                  · simp only [w32_mod] at h_77
                    have hrc := (RR7_RC (code := Ia 51) (g := Ia 51 306) (N := (FU (Ia 51 304) + 1)) (t := t.toNat) (by omega)).mpr ⟨by omega, hci.2.mp (by have := hci.1; omega)⟩
                    refine ww_iload_n hX (pc := 80) dX11_maybe_80 rfl ?_
                    refine ww_iconst hX (pc := 81) (x := 1) dX11_maybe_81 rfl ?_
                    refine ww_aload_n hX (pc := 82) dX11_maybe_82 rfl ?_
                    refine ww_iload hX (pc := 83) dX11_maybe_83 rfl ?_
                    refine vI1 hX (pc := 85) sX11_126 (xs_49 hL) (c_X11_readOf l0 hL cI_21 (by omega) (by omega)) (by decide) (Nat.le_refl 0) (Nat.le_refl 0) (Nat.le_of_ble_eq_true rfl) dX11_maybe_85 (fun x_85 I_85 J_85 h_85 => ?_)
                    obtain ⟨rfl, rfl, h_85⟩ := h_85
                    rw [e51] at h_85
                    refine ww_ishl hX (pc := 88) dX11_maybe_88 ?_
                    refine ww_ior hX (pc := 89) dX11_maybe_89 ?_
                    refine ww_nmI (fun v_90 hv_90 => ?_)
                    refine ww_istore_n hX (pc := 90) (lv' := [some (kR (some 49)), some (kI a), some (kI b), some (kI v_90), some (kI t)]) dX11_maybe_90 (by decide) rfl rfl ?_
                    have hst : mbF (Ia 51) (Ia 51 306) a (FU (Ia 51 304) + 1) b n t.toNat = v_90 := by
                      rw [hv_90, h_85]
                      exact if_pos ⟨by omega, hsub, hrc.2.1, hrc.2.2, by omega⟩
                    refine ww_iinc hX (pc := 91) (lv' := [some (kR (some 49)), some (kI a), some (kI b), some (kI v_90), some (kI (t + 1))]) dX11_maybe_91 rfl (by decide) rfl rfl ?_
                    refine ww_goto hX (pc := 94) (tgt := 29) dX11_maybe_94 (by decide) ?_
                    exact ih_29 _ (by have hm9 := Sh0_e hq_29; omega) v_90 (t + 1) rfl ⟨⟨by omega, by omega⟩, (by rw [fW_s _ _ (by omega), ← hn, hst])⟩
      exact hl_29 _ 0 a rfl ⟨⟨by omega, by omega⟩, (fW_e mbF_n).symm⟩
    · simp only [w32_mod] at h_15
      refine ww_iconst hX (pc := 18) (x := (-1)) dX11_maybe_18 rfl ?_
      refine rI hX (pc := 19) hT (Nat.le_refl 0) (Nat.le_refl 0) dX11_maybe_19 ?_
      exact ⟨⟨Ch_rf, (Kp_rf (a := 49) (b := 73)), hQ, (fun h9 => absurd h9 (by omega)), (fun _ => rfl)⟩, BK9_rf, TK9_rf⟩
set_option maxHeartbeats 4000000 in
set_option maxRecDepth 20000 in
theorem c9_X11_safe (l0 : Launch) {Ia Ja : aI1} {Ra : aR1} {Sa : aS1} (hL : LY Ra Sa) (hQ : RX Ia) (hcr : ∀ t : Nat, (t : Int) ≤ FU (Ia 51 304) → -1 ≤ Ia 51 t ∧ Ia 51 t ≤ 7)  : CT l0 2 0 0 mX11_safe [kR (some 49)] Ia Ja Ra Sa (cI (fun x I' J' => (Ch [63] [] Ia I' ∧ Kp 49 73 Ja J' ∧ RX I' ∧ SFE (Ia 51) (Ia 51 306) (FU (Ia 51 304) + 1) x) ∧ QK9 Ia I' Ja J') Ra Sa) := by
  refine ct_in pn_X11 (Nat.le_of_ble_eq_true rfl) (fun X hX hT hIn => ?_)
  have hX : aK l0 X cX11_safe 5 RX11 (some .int) 2 0 0 := hX
  change WW X 0 [some (kR (some 49)), none, none, none, none] [] Ia Ja Ra Sa 0 0
  have qIa := RX_o hQ
  refine ww_aload_n hX (pc := 0) dX11_safe_0 rfl ?_
  refine vV0 hX (pc := 1) sX11_315 (xs_49 hL) (c9_X11_reaches l0 hL hQ hcr) (by decide) (Nat.le_refl 0) (Nat.le_refl 0) (Nat.le_of_ble_eq_true rfl) dX11_safe_1 (fun I_1 J_1 h_1 => ?_)
  obtain ⟨h_1, qxI_1⟩ := h_1
  have kJ_1 : Kp 49 73 Ja J_1 := Kp_tr (Kp_rf (a := 49) (b := 73)) h_1.2.1
  have kI_1 : Ch [63] [] Ia I_1 := Ch_tr Ch_rf (Ch_wd h_1.1 (by decide) (by decide))
  have cI_1 : RX I_1 := h_1.2.2.1
  have qI_1 := RX_o cI_1
  have r304_I_1 : I_1 51 304 = Ia 51 304 := by rw [h_1.1.1 51 (by decide) (by decide)]
  have r305_I_1 : I_1 51 305 = Ia 51 305 := by rw [h_1.1.1 51 (by decide) (by decide)]
  have rf_I_1 : FU (I_1 51 304) = FU (Ia 51 304) := by rw [r304_I_1]
  have hcan := h_1.2.2.2
  have e51 : I_1 51 = Ia 51 := h_1.1.1 51 (by decide) (by decide)
  have bkI_1 : BK9 Ia I_1 := BK9_tr BK9_rf qxI_1.1
  have tkI_1 : TK9 Ia I_1 Ja J_1 := TK9_tr TK9_rf qxI_1.2
  refine ww_bipush hX (pc := 4) (x := 9) dX11_safe_4 (by decide) ?_
  refine ww_istore_n hX (pc := 6) (lv' := [some (kR (some 49)), some (kI 9), none, none, none]) dX11_safe_6 (by decide) rfl rfl ?_
  refine ww_iconst hX (pc := 7) (x := 0) dX11_safe_7 rfl ?_
  refine ww_istore_n hX (pc := 8) (lv' := [some (kR (some 49)), some (kI 9), some (kI 0), none, none]) dX11_safe_8 (by decide) rfl rfl ?_
  have hl_9 : ∀ (n_9 : Nat) (n : Int) (i : Int), (256 - i).toNat = n_9 → (((0 ≤ i ∧ i ≤ (FU (Ia 51 304) + 1)) ∧ (-1 ≤ n ∧ n ≤ 9)) ∧ SGz (Ia 51) (Ia 51 306) (FU (Ia 51 304) + 1) i 0 n) → WW X 9 [some (kR (some 49)), some (kI n), some (kI i), none, none] [] I_1 J_1 Ra Sa 0 0 := by
    intro n_9
    induction n_9 using Nat.strongRecOn with
    | ind n_9 ih_9 =>
      intro n i hm_9 hv_9
      have hq_9 := Sh0_i hm_9
      clear hm_9
      obtain ⟨hv, hsg1⟩ := hv_9
      refine ww_iload_n hX (pc := 9) dX11_safe_9 rfl ?_
      refine ww_aload_n hX (pc := 10) dX11_safe_10 rfl ?_
      refine vI0 hX (pc := 11) sX11_112 (xs_49 hL) (c_X11_states l0 hL cI_1 ) (by decide) (Nat.le_refl 0) (Nat.le_refl 0) (Nat.le_of_ble_eq_true rfl) dX11_safe_11 (fun x_11 I_11 J_11 h_11 => ?_)
      obtain ⟨rfl, rfl, h_11⟩ := h_11
      refine ww_icmp_ge hX (pc := 14) (tgt := 122) dX11_safe_14 (by decide) (fun h_14 => ?_) (fun h_14 => ?_)
      · simp only [w32_mod] at h_14
        refine ww_iload_n hX (pc := 122) dX11_safe_122 rfl ?_
        refine ww_iconst hX (pc := 123) (x := 1) dX11_safe_123 rfl ?_
        refine ww_isub hX (pc := 124) dX11_safe_124 ?_
        refine rI hX (pc := 125) hT (Nat.le_refl 0) (Nat.le_refl 0) dX11_safe_125 ?_
        exact ⟨⟨kI_1, kJ_1, cI_1, (SGz_e ((show i = FU (Ia 51 304) + 1 by omega) ▸ hsg1))⟩, bkI_1, tkI_1⟩
      · simp only [w32_mod] at h_14
        refine ww_iconst hX (pc := 17) (x := 0) dX11_safe_17 rfl ?_
        refine ww_istore_n hX (pc := 18) (lv' := [some (kR (some 49)), some (kI n), some (kI i), some (kI 0), none]) dX11_safe_18 (by decide) rfl rfl ?_
        have hl_19 : ∀ (n_19 : Nat) (n2 : Int) (t : Int), (i - t).toNat = n_19 → (((0 ≤ t ∧ t ≤ i) ∧ (-1 ≤ n2 ∧ n2 ≤ 9)) ∧ SGz (Ia 51) (Ia 51 306) (FU (Ia 51 304) + 1) i t n2) → WW X 19 [some (kR (some 49)), some (kI n2), some (kI i), some (kI t), none] [] I_1 J_1 Ra Sa 0 0 := by
          intro n_19
          induction n_19 using Nat.strongRecOn with
          | ind n_19 ih_19 =>
            intro n2 t hm_19 hv_19
            have hq_19 := Sh0_i hm_19
            clear hm_19
            obtain ⟨hu, hsg0⟩ := hv_19
            refine ww_iload_n hX (pc := 19) dX11_safe_19 rfl ?_
            refine ww_iload_n hX (pc := 20) dX11_safe_20 rfl ?_
            refine ww_icmp_ge hX (pc := 21) (tgt := 116) dX11_safe_21 (by decide) (fun h_21 => ?_) (fun h_21 => ?_)
            · simp only [w32_mod] at h_21
              refine ww_iinc hX (pc := 116) (lv' := [some (kR (some 49)), some (kI n2), some (kI (i + 1)), some (kI t), none]) dX11_safe_116 rfl (by decide) rfl rfl ?_
              refine ww_goto hX (pc := 119) (tgt := 9) dX11_safe_119 (by decide) ?_
              refine ww_sub [some (kR (some 49)), some (kI n2), some (kI (i + 1)), none, none] (aLe_s (aLe_s (aLe_s (aLe_n (aLe_n aLe_0))))) ?_
              exact ih_9 _ (by have hm9 := Sh0_e hq_9; omega) n2 (i + 1) rfl ⟨by omega, (SGz_r hsg0 (by omega))⟩
            · simp only [w32_mod] at h_21
              have hcd := hcr t.toNat (by omega)
              have hce := hcr i.toNat (by omega)
              have hci := hcan i.toNat (by omega)
              have hcj := hcan t.toNat (by omega)
              have hdf := anx_N (s := i) (t := t) (by omega) (by omega) (by omega) (by omega)
              have hdf2 := anx_N (s := t) (t := i) (by omega) (by omega) (by omega) (by omega)
              have hdl := df_lt (s := t.toNat) (t := i.toNat) (by omega)
              have hdl2 := df_lt (s := i.toNat) (t := t.toNat) (by omega)
              have hn9 := hsg0.1
              refine ww_aload_n hX (pc := 24) dX11_safe_24 rfl ?_
              refine ww_getR hX (pc := 25) fX11_65 (by decide) (xs_49 hL) (xr_49_26 hL) dX11_safe_25 ?_
              refine ww_iload_n hX (pc := 28) dX11_safe_28 rfl ?_
              refine ww_zald hX (pc := 29) (xs_63 hL) (by decide) (by omega) (by omega) dX11_safe_29 ?_
              refine ww_if_eq hX (pc := 30) (tgt := 110) dX11_safe_30 (by decide) (fun h_30 => ?_) (fun h_30 => ?_)
              · simp only [w32_mod] at h_30
                have hsg : SGz (Ia 51) (Ia 51 306) (FU (Ia 51 304) + 1) i (t + 1) n2 := SGz_n hsg0 (by omega) (by omega) (fun h9 => by
                  have h8 := hci.2.mpr ((RR7_RC h9.1.1).mp h9.1).2
                  omega)
                refine ww_iinc hX (pc := 110) (lv' := [some (kR (some 49)), some (kI n2), some (kI i), some (kI (t + 1)), none]) dX11_safe_110 rfl (by decide) rfl rfl ?_
                refine ww_goto hX (pc := 113) (tgt := 19) dX11_safe_113 (by decide) ?_
                exact ih_19 _ (by have hm9 := Sh0_e hq_19; omega) n2 (t + 1) rfl ⟨by omega, hsg⟩
              · simp only [w32_mod] at h_30
                refine ww_aload_n hX (pc := 33) dX11_safe_33 rfl ?_
                refine ww_getR hX (pc := 34) fX11_65 (by decide) (xs_49 hL) (xr_49_26 hL) dX11_safe_34 ?_
                refine ww_iload_n hX (pc := 37) dX11_safe_37 rfl ?_
                refine ww_zald hX (pc := 38) (xs_63 hL) (by decide) (by omega) (by omega) dX11_safe_38 ?_
                refine ww_if_eq hX (pc := 39) (tgt := 110) dX11_safe_39 (by decide) (fun h_39 => ?_) (fun h_39 => ?_)
                · simp only [w32_mod] at h_39
                  have hsg : SGz (Ia 51) (Ia 51 306) (FU (Ia 51 304) + 1) i (t + 1) n2 := SGz_n hsg0 (by omega) (by omega) (fun h9 => by
                    have h8 := hcj.2.mpr ((RR7_RC h9.2.1.1).mp h9.2.1).2
                    omega)
                  refine ww_iinc hX (pc := 110) (lv' := [some (kR (some 49)), some (kI n2), some (kI i), some (kI (t + 1)), none]) dX11_safe_110 rfl (by decide) rfl rfl ?_
                  refine ww_goto hX (pc := 113) (tgt := 19) dX11_safe_113 (by decide) ?_
                  exact ih_19 _ (by have hm9 := Sh0_e hq_19; omega) n2 (t + 1) rfl ⟨by omega, hsg⟩
                · simp only [w32_mod] at h_39
                  refine ww_aload_n hX (pc := 42) dX11_safe_42 rfl ?_
                  refine ww_iload_n hX (pc := 43) dX11_safe_43 rfl ?_
                  refine vI1 hX (pc := 44) sX11_126 (xs_49 hL) (c_X11_readOf l0 hL cI_1 (by omega) (by omega)) (by decide) (Nat.le_refl 0) (Nat.le_refl 0) (Nat.le_of_ble_eq_true rfl) dX11_safe_44 (fun x_44 I_44 J_44 h_44 => ?_)
                  obtain ⟨rfl, rfl, h_44⟩ := h_44
                  rw [e51] at h_44
                  refine ww_iconst hX (pc := 47) (x := (-1)) dX11_safe_47 rfl ?_
                  refine ww_icmp_eq hX (pc := 48) (tgt := 110) dX11_safe_48 (by decide) (fun h_48 => ?_) (fun h_48 => ?_)
                  · simp only [w32_mod] at h_48
                    have hsg : SGz (Ia 51) (Ia 51 306) (FU (Ia 51 304) + 1) i (t + 1) n2 := SGz_n hsg0 (by omega) (by omega) (fun h9 => by
                      have h8 := h9.1.2.1
                      omega)
                    refine ww_iinc hX (pc := 110) (lv' := [some (kR (some 49)), some (kI n2), some (kI i), some (kI (t + 1)), none]) dX11_safe_110 rfl (by decide) rfl rfl ?_
                    refine ww_goto hX (pc := 113) (tgt := 19) dX11_safe_113 (by decide) ?_
                    exact ih_19 _ (by have hm9 := Sh0_e hq_19; omega) n2 (t + 1) rfl ⟨by omega, hsg⟩
                  · simp only [w32_mod] at h_48
                    refine ww_aload_n hX (pc := 51) dX11_safe_51 rfl ?_
                    refine ww_iload_n hX (pc := 52) dX11_safe_52 rfl ?_
                    refine vI1 hX (pc := 53) sX11_126 (xs_49 hL) (c_X11_readOf l0 hL cI_1 (by omega) (by omega)) (by decide) (Nat.le_refl 0) (Nat.le_refl 0) (Nat.le_of_ble_eq_true rfl) dX11_safe_53 (fun x_53 I_53 J_53 h_53 => ?_)
                    obtain ⟨rfl, rfl, h_53⟩ := h_53
                    rw [e51] at h_53
                    refine ww_iconst hX (pc := 56) (x := (-1)) dX11_safe_56 rfl ?_
                    refine ww_icmp_eq hX (pc := 57) (tgt := 110) dX11_safe_57 (by decide) (fun h_57 => ?_) (fun h_57 => ?_)
                    · simp only [w32_mod] at h_57
                      have hsg : SGz (Ia 51) (Ia 51 306) (FU (Ia 51 304) + 1) i (t + 1) n2 := SGz_n hsg0 (by omega) (by omega) (fun h9 => by
                        have h8 := h9.2.1.2.1
                        omega)
                      refine ww_iinc hX (pc := 110) (lv' := [some (kR (some 49)), some (kI n2), some (kI i), some (kI (t + 1)), none]) dX11_safe_110 rfl (by decide) rfl rfl ?_
                      refine ww_goto hX (pc := 113) (tgt := 19) dX11_safe_113 (by decide) ?_
                      exact ih_19 _ (by have hm9 := Sh0_e hq_19; omega) n2 (t + 1) rfl ⟨by omega, hsg⟩
                    · simp only [w32_mod] at h_57
                      refine ww_aload_n hX (pc := 60) dX11_safe_60 rfl ?_
                      refine ww_iload_n hX (pc := 61) dX11_safe_61 rfl ?_
                      refine vI1 hX (pc := 62) sX11_126 (xs_49 hL) (c_X11_readOf l0 hL cI_1 (by omega) (by omega)) (by decide) (Nat.le_refl 0) (Nat.le_refl 0) (Nat.le_of_ble_eq_true rfl) dX11_safe_62 (fun x_62 I_62 J_62 h_62 => ?_)
                      obtain ⟨rfl, rfl, h_62⟩ := h_62
                      rw [e51] at h_62
                      refine ww_aload_n hX (pc := 65) dX11_safe_65 rfl ?_
                      refine ww_iload_n hX (pc := 66) dX11_safe_66 rfl ?_
                      refine vI1 hX (pc := 67) sX11_126 (xs_49 hL) (c_X11_readOf l0 hL cI_1 (by omega) (by omega)) (by decide) (Nat.le_refl 0) (Nat.le_refl 0) (Nat.le_of_ble_eq_true rfl) dX11_safe_67 (fun x_67 I_67 J_67 h_67 => ?_)
                      obtain ⟨rfl, rfl, h_67⟩ := h_67
                      rw [e51] at h_67
                      refine ww_icmp_ne hX (pc := 70) (tgt := 76) dX11_safe_70 (by decide) (fun h_70 => ?_) (fun h_70 => ?_)
                      · simp only [w32_mod] at h_70
                        refine ww_iload_n hX (pc := 76) dX11_safe_76 rfl ?_
                        refine ww_iload_n hX (pc := 77) dX11_safe_77 rfl ?_
                        refine ww_iconst hX (pc := 78) (x := (-1)) dX11_safe_78 rfl ?_
                        refine ww_ixor hX (pc := 79) dX11_safe_79 ?_
                        refine ww_iand hX (pc := 80) dX11_safe_80 ?_
                        refine sI1 hX (pc := 81) sX11_259 (c7_X11_ones l0 (by omega) (by omega)) (by decide) (Nat.le_refl 0) (Nat.le_refl 0) (Nat.le_of_ble_eq_true rfl) dX11_safe_81 (fun x_81 I_81 J_81 h_81 => ?_)
                        obtain ⟨rfl, rfl, h_81⟩ := h_81
                        rw [hdf, Int.toNat_natCast] at h_81
                        have hp1 := pcn_r (df i.toNat t.toNat)
                        refine ww_iload_n hX (pc := 84) dX11_safe_84 rfl ?_
                        refine ww_iload_n hX (pc := 85) dX11_safe_85 rfl ?_
                        refine ww_iconst hX (pc := 86) (x := (-1)) dX11_safe_86 rfl ?_
                        refine ww_ixor hX (pc := 87) dX11_safe_87 ?_
                        refine ww_iand hX (pc := 88) dX11_safe_88 ?_
                        refine sI1 hX (pc := 89) sX11_259 (c7_X11_ones l0 (by omega) (by omega)) (by decide) (Nat.le_refl 0) (Nat.le_refl 0) (Nat.le_of_ble_eq_true rfl) dX11_safe_89 (fun x_89 I_89 J_89 h_89 => ?_)
                        obtain ⟨rfl, rfl, h_89⟩ := h_89
                        rw [hdf2, Int.toNat_natCast] at h_89
                        have hp2 := pcn_r (df t.toNat i.toNat)
                        refine sI2 hX (pc := 92) sX11_132 (c_X11_greater l0 (by omega) (by omega) (by omega) (by omega)) (by decide) (Nat.le_refl 0) (Nat.le_refl 0) (Nat.le_of_ble_eq_true rfl) dX11_safe_92 (fun x_92 I_92 J_92 h_92 => ?_)
                        obtain ⟨rfl, rfl, h_92⟩ := h_92
                        have hdd : x_92 = DD i.toNat t.toNat := by
                          rw [h_92, h_81, h_89]
                          rfl
                        have hun : UN (Ia 51) (Ia 51 306) (FU (Ia 51 304) + 1) i.toNat t.toNat := ⟨(RR7_RC (by omega)).mpr ⟨by omega, hci.2.mp (by have := hci.1; omega)⟩, (RR7_RC (by omega)).mpr ⟨by omega, hcj.2.mp (by have := hcj.1; omega)⟩, by omega⟩
                        refine ww_istore hX (pc := 95) (lv' := [some (kR (some 49)), some (kI n2), some (kI i), some (kI t), some (kI x_92)]) dX11_safe_95 (by decide) rfl rfl ?_
                        refine ww_iload hX (pc := 97) dX11_safe_97 rfl ?_
                        refine ww_iload_n hX (pc := 99) dX11_safe_99 rfl ?_
                        refine ww_icmp_ge hX (pc := 100) (tgt := 108) dX11_safe_100 (by decide) (fun h_100 => ?_) (fun h_100 => ?_)
                        · simp only [w32_mod] at h_100
                          have hsg : SGz (Ia 51) (Ia 51 306) (FU (Ia 51 304) + 1) i (t + 1) n2 := SGz_k hsg0 (by omega) (by omega) (by omega)
                          refine ww_iload_n hX (pc := 108) dX11_safe_108 rfl ?_
                          refine ww_istore_n hX (pc := 109) (lv' := [some (kR (some 49)), some (kI n2), some (kI i), some (kI t), some (kI x_92)]) dX11_safe_109 (by decide) rfl rfl ?_
                          refine ww_iinc hX (pc := 110) (lv' := [some (kR (some 49)), some (kI n2), some (kI i), some (kI (t + 1)), some (kI x_92)]) dX11_safe_110 rfl (by decide) rfl rfl ?_
                          refine ww_goto hX (pc := 113) (tgt := 19) dX11_safe_113 (by decide) ?_
                          refine ww_sub [some (kR (some 49)), some (kI n2), some (kI i), some (kI (t + 1)), none] (aLe_s (aLe_s (aLe_s (aLe_s (aLe_n aLe_0))))) ?_
                          exact ih_19 _ (by have hm9 := Sh0_e hq_19; omega) n2 (t + 1) rfl ⟨by omega, hsg⟩
                        · simp only [w32_mod] at h_100
                          have hsg : SGz (Ia 51) (Ia 51 306) (FU (Ia 51 304) + 1) i (t + 1) x_92 := by
                            rw [hdd]
                            exact SGz_s hsg0 (by omega) (by omega) hun (by omega)
                          refine ww_iload hX (pc := 103) dX11_safe_103 rfl ?_
                          refine ww_goto hX (pc := 105) (tgt := 109) dX11_safe_105 (by decide) ?_
                          refine ww_istore_n hX (pc := 109) (lv' := [some (kR (some 49)), some (kI x_92), some (kI i), some (kI t), some (kI x_92)]) dX11_safe_109 (by decide) rfl rfl ?_
                          refine ww_iinc hX (pc := 110) (lv' := [some (kR (some 49)), some (kI x_92), some (kI i), some (kI (t + 1)), some (kI x_92)]) dX11_safe_110 rfl (by decide) rfl rfl ?_
                          refine ww_goto hX (pc := 113) (tgt := 19) dX11_safe_113 (by decide) ?_
                          refine ww_sub [some (kR (some 49)), some (kI x_92), some (kI i), some (kI (t + 1)), none] (aLe_s (aLe_s (aLe_s (aLe_s (aLe_n aLe_0))))) ?_
                          exact ih_19 _ (by have hm9 := Sh0_e hq_19; omega) x_92 (t + 1) rfl ⟨by omega, hsg⟩
                      · simp only [w32_mod] at h_70
                        have hsg : SGz (Ia 51) (Ia 51 306) (FU (Ia 51 304) + 1) i (t + 1) n2 := SGz_n hsg0 (by omega) (by omega) (fun h9 => by
                          have h8 := h9.2.2
                          omega)
                        refine ww_goto hX (pc := 73) (tgt := 110) dX11_safe_73 (by decide) ?_
                        refine ww_iinc hX (pc := 110) (lv' := [some (kR (some 49)), some (kI n2), some (kI i), some (kI (t + 1)), none]) dX11_safe_110 rfl (by decide) rfl rfl ?_
                        refine ww_goto hX (pc := 113) (tgt := 19) dX11_safe_113 (by decide) ?_
                        exact ih_19 _ (by have hm9 := Sh0_e hq_19; omega) n2 (t + 1) rfl ⟨by omega, hsg⟩
        exact hl_19 _ n 0 rfl ⟨by omega, hsg1⟩
  exact hl_9 _ 9 0 rfl ⟨by omega, SGz_0⟩
set_option maxHeartbeats 4000000 in
set_option maxRecDepth 20000 in
theorem c9_X11_hurts (l0 : Launch) {Ia Ja : aI1} {Ra : aR1} {Sa : aS1} (hL : LY Ra Sa) (hQ : RX Ia) {a : Int} (ha0 : -2147483648 ≤ a) (ha1 : a < 2147483648) (hcr : ∀ t : Nat, (t : Int) ≤ FU (Ia 51 304) → -1 ≤ Ia 51 t ∧ Ia 51 t ≤ 7)  : CT l0 3 0 0 mX11_hurts [kR (some 49), kI a] Ia Ja Ra Sa (cI (fun x I' J' => (Ch [61] [25] Ia I' ∧ Kp 49 73 Ja J' ∧ RX I' ∧ ((0 ≤ a ∧ a < Ia 51 304) → ∃ L, zLV (Ia 51) (i_or (Ia 51 306) (i_shl 1 a)) (FU (Ia 51 304) + 1) (Ia 51 305) (-1) L ∧ x = L 0) ∧ (¬ (0 ≤ a ∧ a < Ia 51 304) → x = -1)) ∧ QK9 Ia I' Ja J') Ra Sa) := by
  refine ct_in pn_X11 (Nat.le_of_ble_eq_true rfl) (fun X hX hT hIn => ?_)
  have hX : aK l0 X cX11_hurts 3 RX11 (some .int) 3 0 0 := hX
  change WW X 0 [some (kR (some 49)), some (kI a), none] [] Ia Ja Ra Sa 0 0
  have qIa := RX_o hQ
  refine ww_aload_n hX (pc := 0) dX11_hurts_0 rfl ?_
  refine ww_iload_n hX (pc := 1) dX11_hurts_1 rfl ?_
  refine vI1 hX (pc := 2) sX11_116 (xs_49 hL) (c_X11_isLamp l0 hL hQ (by omega) (by omega)) (by decide) (Nat.le_refl 0) (Nat.le_refl 0) (Nat.le_of_ble_eq_true rfl) dX11_hurts_2 (fun x_2 I_2 J_2 h_2 => ?_)
  obtain ⟨rfl, rfl, h_2⟩ := h_2
  refine ww_if_ne hX (pc := 5) (tgt := 10) dX11_hurts_5 (by decide) (fun h_5 => ?_) (fun h_5 => ?_)
  · simp only [w32_mod] at h_5
    have k_2 := h_2.2.mp (by omega)
    clear h_2
    refine ww_aload_n hX (pc := 10) dX11_hurts_10 rfl ?_
    refine ww_aload_n hX (pc := 11) dX11_hurts_11 rfl ?_
    refine ww_getR hX (pc := 12) fX11_20 (by decide) (xs_49 hL) (xr_49_3 hL) dX11_hurts_12 ?_
    refine ww_sipush hX (pc := 15) (x := 306) dX11_hurts_15 (by decide) ?_
    refine ww_iald hX (pc := 18) (xs_51 hL) (by decide) (by omega) (by omega) dX11_hurts_18 ?_
    refine ww_toI (b := Ia 51 306) rfl ?_
    refine ww_iconst hX (pc := 19) (x := 1) dX11_hurts_19 rfl ?_
    refine ww_iload_n hX (pc := 20) dX11_hurts_20 rfl ?_
    refine ww_ishl hX (pc := 21) dX11_hurts_21 ?_
    refine ww_ior hX (pc := 22) dX11_hurts_22 ?_
    refine vV1 hX (pc := 23) sX11_285 (xs_49 hL) (c5_X11_lasts0 l0 hL hQ hcr) (by decide) (Nat.le_refl 0) (Nat.le_refl 0) (Nat.le_of_ble_eq_true rfl) dX11_hurts_23 (fun I_23 J_23 h_23 => ?_)
    have kJ_23 : Kp 49 73 Ja J_23 := Kp_tr (Kp_rf (a := 49) (b := 73)) h_23.2.1
    have kI_23 : Ch [61] [25] Ia I_23 := Ch_tr Ch_rf (Ch_wd h_23.1 (by decide) (by decide))
    have cI_23 : RX I_23 := h_23.2.2.1
    have qI_23 := RX_o cI_23
    have r304_I_23 : I_23 51 304 = Ia 51 304 := by rw [h_23.1.1 51 (by decide) (by decide)]
    have r305_I_23 : I_23 51 305 = Ia 51 305 := by rw [h_23.1.1 51 (by decide) (by decide)]
    have rf_I_23 : FU (I_23 51 304) = FU (Ia 51 304) := by rw [r304_I_23]
    have bkI_23 : BK9 Ia I_23 := BK9_ch BK9_rf h_23.1 (by decide) (by decide)
    refine ww_aload_n hX (pc := 26) dX11_hurts_26 rfl ?_
    refine ww_getR hX (pc := 27) fX11_55 (by decide) (xs_49 hL) (xr_49_23 hL) dX11_hurts_27 ?_
    refine ww_iconst hX (pc := 30) (x := 0) dX11_hurts_30 rfl ?_
    refine ww_iald hX (pc := 31) (xs_61 hL) (by decide) (by omega) (by omega) dX11_hurts_31 ?_
    refine ww_toI (b := I_23 61 0) rfl ?_
    refine ww_nmI (fun v_32 hv_32 => ?_)
    refine ww_istore_n hX (pc := 32) (lv' := [some (kR (some 49)), some (kI a), some (kI v_32)]) dX11_hurts_32 (by decide) rfl rfl ?_
    refine ww_aload_n hX (pc := 33) dX11_hurts_33 rfl ?_
    refine ww_iconst hX (pc := 34) (x := (-1)) dX11_hurts_34 rfl ?_
    refine ww_putI hX (pc := 35) (fun h9 => absurd h9 (by decide)) gX11_62 rfl (xs_49 hL) dX11_hurts_35 ?_
    refine ww_nmH (fun I_35 eI_35 => ?_)
    have kI_35 : Ch [61] [25] Ia I_35 := by rw [eI_35]; exact Ch_f kI_23 (by decide)
    have cI_35 : RX I_35 := by rw [eI_35]; exact RX_f cI_23 (by decide)
    have qI_35 := RX_o cI_35
    have r304_I_35 : I_35 51 304 = I_23 51 304 := by rw [eI_35, up2_off _ _ _ (by decide)]
    have r305_I_35 : I_35 51 305 = I_23 51 305 := by rw [eI_35, up2_off _ _ _ (by decide)]
    have rf_I_35 : FU (I_35 51 304) = FU (I_23 51 304) := by rw [r304_I_35]
    have bkI_35 : BK9 Ia I_35 := by rw [eI_35]; exact BK9_m bkI_23
    have tkI_35 : TK9 Ia I_35 Ja J_23 := Or.inl (by rw [eI_35, up2_s])
    refine ww_iload_n hX (pc := 38) dX11_hurts_38 rfl ?_
    refine rI hX (pc := 39) hT (Nat.le_refl 0) (Nat.le_refl 0) dX11_hurts_39 ?_
    exact ⟨⟨kI_35, kJ_23, cI_35, (fun _ => ⟨_, h_23.2.2.2.2, hv_32⟩), (fun h9 => absurd (by omega) h9)⟩, bkI_35, tkI_35⟩
  · simp only [w32_mod] at h_5
    refine ww_iconst hX (pc := 8) (x := (-1)) dX11_hurts_8 rfl ?_
    refine rI hX (pc := 9) hT (Nat.le_refl 0) (Nat.le_refl 0) dX11_hurts_9 ?_
    exact ⟨⟨Ch_rf, (Kp_rf (a := 49) (b := 73)), hQ, (fun h9 => absurd h9 (by omega)), (fun _ => rfl)⟩, BK9_rf, TK9_rf⟩
set_option maxHeartbeats 4000000 in
set_option maxRecDepth 20000 in
theorem c9_X11_spy (l0 : Launch) {Ia Ja : aI1} {Ra : aR1} {Sa : aS1} (hL : LY Ra Sa) (hQ : RX Ia) {a : Int} (ha0 : -2147483648 ≤ a) (ha1 : a < 2147483648) (hcr : ∀ t : Nat, (t : Int) ≤ FU (Ia 51 304) → -1 ≤ Ia 51 t ∧ Ia 51 t ≤ 7)  : CT l0 2 0 0 mX11_spy [kR (some 49), kI a] Ia Ja Ra Sa (cI (fun x I' J' => (Ch [63] [] Ia I' ∧ Kp 49 73 Ja J' ∧ RX I' ∧ True) ∧ QK9 Ia I' Ja J') Ra Sa) := by
  refine ct_in pn_X11 (Nat.le_of_ble_eq_true rfl) (fun X hX hT hIn => ?_)
  have hX : aK l0 X cX11_spy 4 RX11 (some .int) 2 0 0 := hX
  change WW X 0 [some (kR (some 49)), some (kI a), none, none] [] Ia Ja Ra Sa 0 0
  have qIa := RX_o hQ
  refine ww_iload_n hX (pc := 0) dX11_spy_0 rfl ?_
  refine ww_iconst hX (pc := 1) (x := 0) dX11_spy_1 rfl ?_
  refine ww_bipush hX (pc := 2) (x := 8) dX11_spy_2 (by decide) ?_
  refine sI3 hX (pc := 4) sX11_101 (c_X11_lies l0 (by omega) (by omega) (by omega) (by omega) (by omega) (by omega)) (by decide) (Nat.le_refl 0) (Nat.le_refl 0) (Nat.le_of_ble_eq_true rfl) dX11_spy_4 (fun x_4 I_4 J_4 h_4 => ?_)
  obtain ⟨rfl, rfl, h_4⟩ := h_4
  refine ww_if_ne hX (pc := 7) (tgt := 12) dX11_spy_7 (by decide) (fun h_7 => ?_) (fun h_7 => ?_)
  · simp only [w32_mod] at h_7
    have k_4 := h_4.2.mp (by omega)
    clear h_4
    refine ww_aload_n hX (pc := 12) dX11_spy_12 rfl ?_
    refine vV0 hX (pc := 13) sX11_315 (xs_49 hL) (c9_X11_reaches l0 hL hQ hcr) (by decide) (Nat.le_refl 0) (Nat.le_refl 0) (Nat.le_of_ble_eq_true rfl) dX11_spy_13 (fun I_13 J_13 h_13 => ?_)
    obtain ⟨h_13, qxI_13⟩ := h_13
    have kJ_13 : Kp 49 73 Ja J_13 := Kp_tr (Kp_rf (a := 49) (b := 73)) h_13.2.1
    have kI_13 : Ch [63] [] Ia I_13 := Ch_tr Ch_rf (Ch_wd h_13.1 (by decide) (by decide))
    have cI_13 : RX I_13 := h_13.2.2.1
    have qI_13 := RX_o cI_13
    have r304_I_13 : I_13 51 304 = Ia 51 304 := by rw [h_13.1.1 51 (by decide) (by decide)]
    have r305_I_13 : I_13 51 305 = Ia 51 305 := by rw [h_13.1.1 51 (by decide) (by decide)]
    have rf_I_13 : FU (I_13 51 304) = FU (Ia 51 304) := by rw [r304_I_13]
    have bkI_13 : BK9 Ia I_13 := BK9_tr BK9_rf qxI_13.1
    have tkI_13 : TK9 Ia I_13 Ja J_13 := TK9_tr TK9_rf qxI_13.2
    refine ww_iconst hX (pc := 16) (x := 0) dX11_spy_16 rfl ?_
    refine ww_istore_n hX (pc := 17) (lv' := [some (kR (some 49)), some (kI a), some (kI 0), none]) dX11_spy_17 (by decide) rfl rfl ?_
    refine ww_iconst hX (pc := 18) (x := 0) dX11_spy_18 rfl ?_
    refine ww_istore_n hX (pc := 19) (lv' := [some (kR (some 49)), some (kI a), some (kI 0), some (kI 0)]) dX11_spy_19 (by decide) rfl rfl ?_
    have hl_20 : ∀ (n_20 : Nat) (n : Int) (t : Int), (256 - t).toNat = n_20 → ((0 ≤ t ∧ t ≤ 256)) → WW X 20 [some (kR (some 49)), some (kI a), some (kI n), some (kI t)] [] I_13 J_13 Ra Sa 0 0 := by
      intro n_20
      induction n_20 using Nat.strongRecOn with
      | ind n_20 ih_20 =>
        intro n t hm_20 hv_20
        have hq_20 := Sh0_i hm_20
        clear hm_20
        have hv := hv_20
        refine ww_iload_n hX (pc := 20) dX11_spy_20 rfl ?_
        refine ww_aload_n hX (pc := 21) dX11_spy_21 rfl ?_
        refine vI0 hX (pc := 22) sX11_112 (xs_49 hL) (c_X11_states l0 hL cI_13 ) (by decide) (Nat.le_refl 0) (Nat.le_refl 0) (Nat.le_of_ble_eq_true rfl) dX11_spy_22 (fun x_22 I_22 J_22 h_22 => ?_)
        obtain ⟨rfl, rfl, h_22⟩ := h_22
        refine ww_icmp_ge hX (pc := 25) (tgt := 70) dX11_spy_25 (by decide) (fun h_25 => ?_) (fun h_25 => ?_)
        · simp only [w32_mod] at h_25
          refine ww_iload_n hX (pc := 70) dX11_spy_70 rfl ?_
          refine rI hX (pc := 71) hT (Nat.le_refl 0) (Nat.le_refl 0) dX11_spy_71 ?_
          exact ⟨⟨kI_13, kJ_13, cI_13, trivial⟩, bkI_13, tkI_13⟩
        · simp only [w32_mod] at h_25
          refine ww_aload_n hX (pc := 28) dX11_spy_28 rfl ?_
          refine ww_getR hX (pc := 29) fX11_65 (by decide) (xs_49 hL) (xr_49_26 hL) dX11_spy_29 ?_
          refine ww_iload_n hX (pc := 32) dX11_spy_32 rfl ?_
          refine ww_zald hX (pc := 33) (xs_63 hL) (by decide) (by omega) (by omega) dX11_spy_33 ?_
          refine ww_if_eq hX (pc := 34) (tgt := 64) dX11_spy_34 (by decide) (fun h_34 => ?_) (fun h_34 => ?_)
          · simp only [w32_mod] at h_34
            refine ww_iinc hX (pc := 64) (lv' := [some (kR (some 49)), some (kI a), some (kI n), some (kI (t + 1))]) dX11_spy_64 rfl (by decide) rfl rfl ?_
            refine ww_goto hX (pc := 67) (tgt := 20) dX11_spy_67 (by decide) ?_
            exact ih_20 _ (by have hm9 := Sh0_e hq_20; omega) n (t + 1) rfl (by omega)
          · simp only [w32_mod] at h_34
            refine ww_aload_n hX (pc := 37) dX11_spy_37 rfl ?_
            refine ww_iload_n hX (pc := 38) dX11_spy_38 rfl ?_
            refine vI1 hX (pc := 39) sX11_126 (xs_49 hL) (c_X11_readOf l0 hL cI_13 (by omega) (by omega)) (by decide) (Nat.le_refl 0) (Nat.le_refl 0) (Nat.le_of_ble_eq_true rfl) dX11_spy_39 (fun x_39 I_39 J_39 h_39 => ?_)
            obtain ⟨rfl, rfl, h_39⟩ := h_39
            refine ww_iconst hX (pc := 42) (x := (-1)) dX11_spy_42 rfl ?_
            refine ww_icmp_eq hX (pc := 43) (tgt := 64) dX11_spy_43 (by decide) (fun h_43 => ?_) (fun h_43 => ?_)
            · simp only [w32_mod] at h_43
              refine ww_iinc hX (pc := 64) (lv' := [some (kR (some 49)), some (kI a), some (kI n), some (kI (t + 1))]) dX11_spy_64 rfl (by decide) rfl rfl ?_
              refine ww_goto hX (pc := 67) (tgt := 20) dX11_spy_67 (by decide) ?_
              exact ih_20 _ (by have hm9 := Sh0_e hq_20; omega) n (t + 1) rfl (by omega)
            · simp only [w32_mod] at h_43
              refine ww_iload_n hX (pc := 46) dX11_spy_46 rfl ?_
              refine sI1 hX (pc := 47) sX11_259 (c_X11_ones l0 ) (by decide) (Nat.le_refl 0) (Nat.le_refl 0) (Nat.le_of_ble_eq_true rfl) dX11_spy_47 (fun x_47 I_47 J_47 h_47 => ?_)
              obtain ⟨rfl, rfl, h_47⟩ := h_47
              refine ww_iload_n hX (pc := 50) dX11_spy_50 rfl ?_
              refine ww_icmp_ne hX (pc := 51) (tgt := 64) dX11_spy_51 (by decide) (fun h_51 => ?_) (fun h_51 => ?_)
              · simp only [w32_mod] at h_51
                refine ww_iinc hX (pc := 64) (lv' := [some (kR (some 49)), some (kI a), some (kI n), some (kI (t + 1))]) dX11_spy_64 rfl (by decide) rfl rfl ?_
                refine ww_goto hX (pc := 67) (tgt := 20) dX11_spy_67 (by decide) ?_
                exact ih_20 _ (by have hm9 := Sh0_e hq_20; omega) n (t + 1) rfl (by omega)
              · simp only [w32_mod] at h_51
                refine ww_iload_n hX (pc := 54) dX11_spy_54 rfl ?_
                refine ww_iconst hX (pc := 55) (x := 1) dX11_spy_55 rfl ?_
                refine ww_aload_n hX (pc := 56) dX11_spy_56 rfl ?_
                refine ww_iload_n hX (pc := 57) dX11_spy_57 rfl ?_
                refine vI1 hX (pc := 58) sX11_126 (xs_49 hL) (c_X11_readOf l0 hL cI_13 (by omega) (by omega)) (by decide) (Nat.le_refl 0) (Nat.le_refl 0) (Nat.le_of_ble_eq_true rfl) dX11_spy_58 (fun x_58 I_58 J_58 h_58 => ?_)
                obtain ⟨rfl, rfl, h_58⟩ := h_58
                refine ww_ishl hX (pc := 61) dX11_spy_61 ?_
                refine ww_ior hX (pc := 62) dX11_spy_62 ?_
                refine ww_nmI (fun v_63 hv_63 => ?_)
                refine ww_istore_n hX (pc := 63) (lv' := [some (kR (some 49)), some (kI a), some (kI v_63), some (kI t)]) dX11_spy_63 (by decide) rfl rfl ?_
                refine ww_iinc hX (pc := 64) (lv' := [some (kR (some 49)), some (kI a), some (kI v_63), some (kI (t + 1))]) dX11_spy_64 rfl (by decide) rfl rfl ?_
                refine ww_goto hX (pc := 67) (tgt := 20) dX11_spy_67 (by decide) ?_
                exact ih_20 _ (by have hm9 := Sh0_e hq_20; omega) v_63 (t + 1) rfl (by omega)
    exact hl_20 _ 0 0 rfl (by omega)
  · simp only [w32_mod] at h_7
    refine ww_iconst hX (pc := 10) (x := (-1)) dX11_spy_10 rfl ?_
    refine rI hX (pc := 11) hT (Nat.le_refl 0) (Nat.le_refl 0) dX11_spy_11 ?_
    exact ⟨⟨Ch_rf, (Kp_rf (a := 49) (b := 73)), hQ, trivial⟩, BK9_rf, TK9_rf⟩
