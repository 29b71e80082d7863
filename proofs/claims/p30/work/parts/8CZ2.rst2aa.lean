set_option maxHeartbeats 4000000 in
set_option maxRecDepth 20000 in
theorem c9_X11_reaches (l0 : Launch) {Ia Ja : aI1} {Ra : aR1} {Sa : aS1} (hL : LY Ra Sa) (hQ : RX Ia) (hcr : ∀ t : Nat, (t : Int) ≤ FU (Ia 51 304) → -1 ≤ Ia 51 t ∧ Ia 51 t ≤ 7)  : CT l0 1 0 0 mX11_reaches [kR (some 49)] Ia Ja Ra Sa (cV (fun I' J' => (Ch [63] [] Ia I' ∧ Kp 49 73 Ja J' ∧ RX I' ∧ ∀ t : Nat, (t : Int) < (FU (Ia 51 304) + 1) → (I' 63 t = 0 ∨ I' 63 t = 1) ∧ (I' 63 t = 1 ↔ RC (Ia 51) (Ia 51 306) t)) ∧ QK9 Ia I' Ja J') Ra Sa) := by
  refine ct_in pn_X11 (Nat.le_of_ble_eq_true rfl) (fun X hX hT hIn => ?_)
  have hX : aK l0 X cX11_reaches 3 RX11 none 1 0 0 := hX
  change WW X 0 [some (kR (some 49)), none, none] [] Ia Ja Ra Sa 0 0
  have qIa := RX_o hQ
  refine ww_iconst hX (pc := 0) (x := 0) dX11_reaches_0 rfl ?_
  refine ww_istore_n hX (pc := 1) (lv' := [some (kR (some 49)), some (kI 0), none]) dX11_reaches_1 (by decide) rfl rfl ?_
  have hl_2 : ∀ (n_2 : Nat) (i : Int) (I2 : aI1) (J2 : aI1), (256 - i).toNat = n_2 → (BK9 Ia I2 ∧ TK9 Ia I2 Ja J2 ∧ (Ch [63] [] Ia I2 ∧ RX I2 ∧ Kp 49 73 Ja J2 ∧ I2 51 304 = Ia 51 304 ∧ I2 51 305 = Ia 51 305 ∧ (0 ≤ i ∧ i ≤ (FU (Ia 51 304) + 1)) ∧ (∀ t : Nat, (t : Int) < i → I2 63 t = if t = 0 then 1 else 0))) → WW X 2 [some (kR (some 49)), some (kI i), none] [] I2 J2 Ra Sa 0 0 := by
    intro n_2
    induction n_2 using Nat.strongRecOn with
    | ind n_2 ih_2 =>
      intro i I2 J2 hm_2 hv_2
      have hq_2 := Sh0_i hm_2
      clear hm_2
      obtain ⟨bkl2, tkl2, hv_2⟩ := hv_2
      obtain ⟨kI2, cI2, kJ2, r304_I2, r305_I2, hv, hz⟩ := hv_2
      have qI2 := RX_o cI2
      have rf_I2 : FU (I2 51 304) = FU (Ia 51 304) := by rw [r304_I2]
      refine ww_iload_n hX (pc := 2) dX11_reaches_2 rfl ?_
      refine ww_aload_n hX (pc := 3) dX11_reaches_3 rfl ?_
      refine vI0 hX (pc := 4) sX11_112 (xs_49 hL) (c_X11_states l0 hL cI2 ) (by decide) (Nat.le_refl 0) (Nat.le_refl 0) (Nat.le_of_ble_eq_true rfl) dX11_reaches_4 (fun x_4 I_4 J_4 h_4 => ?_)
      obtain ⟨rfl, rfl, h_4⟩ := h_4
      refine ww_icmp_ge hX (pc := 7) (tgt := 31) dX11_reaches_7 (by decide) (fun h_7 => ?_) (fun h_7 => ?_)
      · simp only [w32_mod] at h_7
        refine ww_iconst hX (pc := 31) (x := 0) dX11_reaches_31 rfl ?_
        refine ww_istore_n hX (pc := 32) (lv' := [some (kR (some 49)), some (kI 0), none]) dX11_reaches_32 (by decide) rfl rfl ?_
        have hl_33 : ∀ (n_33 : Nat) (i : Int) (I33 : aI1) (J33 : aI1), (256 - i).toNat = n_33 → (BK9 Ia I33 ∧ TK9 Ia I33 Ja J33 ∧ (Ch [63] [] Ia I33 ∧ RX I33 ∧ Kp 49 73 Ja J33 ∧ I33 51 304 = I2 51 304 ∧ I33 51 305 = I2 51 305 ∧ (0 ≤ i ∧ i ≤ (FU (Ia 51 304) + 1)) ∧ RA (Ia 51) (Ia 51 306) (FU (Ia 51 304) + 1) i (I33 63))) → WW X 33 [some (kR (some 49)), some (kI i), none] [] I33 J33 Ra Sa 0 0 := by
          intro n_33
          induction n_33 using Nat.strongRecOn with
          | ind n_33 ih_33 =>
            intro i I33 J33 hm_33 hv_33
            have hq_33 := Sh0_i hm_33
            clear hm_33
            obtain ⟨bkl33, tkl33, hv_33⟩ := hv_33
            obtain ⟨kI33, cI33, kJ33, r304_I33, r305_I33, hv, hra0⟩ := hv_33
            have qI33 := RX_o cI33
            have rf_I33 : FU (I33 51 304) = FU (I2 51 304) := by rw [r304_I33]
            have e51_I33 : I33 51 = Ia 51 := kI33.1 51 (by decide) (by decide)
            refine ww_iload_n hX (pc := 33) dX11_reaches_33 rfl ?_
            refine ww_aload_n hX (pc := 34) dX11_reaches_34 rfl ?_
            refine vI0 hX (pc := 35) sX11_112 (xs_49 hL) (c_X11_states l0 hL cI33 ) (by decide) (Nat.le_refl 0) (Nat.le_refl 0) (Nat.le_of_ble_eq_true rfl) dX11_reaches_35 (fun x_35 I_35 J_35 h_35 => ?_)
            obtain ⟨rfl, rfl, h_35⟩ := h_35
            refine ww_icmp_ge hX (pc := 38) (tgt := 107) dX11_reaches_38 (by decide) (fun h_38 => ?_) (fun h_38 => ?_)
            · simp only [w32_mod] at h_38
              refine rV hX (pc := 107) hT (Nat.le_refl 0) (Nat.le_refl 0) dX11_reaches_107 ?_
              exact ⟨⟨kI33, kJ33, cI33, (RA_e hra0 (by omega))⟩, bkl33, tkl33⟩
            · simp only [w32_mod] at h_38
              refine ww_iload_n hX (pc := 41) dX11_reaches_41 rfl ?_
              refine ww_iconst hX (pc := 42) (x := 1) dX11_reaches_42 rfl ?_
              refine ww_iadd hX (pc := 43) dX11_reaches_43 ?_
              refine ww_nmI (fun v_44 hv_44 => ?_)
              refine ww_istore_n hX (pc := 44) (lv' := [some (kR (some 49)), some (kI i), some (kI v_44)]) dX11_reaches_44 (by decide) rfl rfl ?_
              have hl_45 : ∀ (n_45 : Nat) (t : Int) (I45 : aI1) (J45 : aI1), (256 - t).toNat = n_45 → (BK9 Ia I45 ∧ TK9 Ia I45 Ja J45 ∧ (Ch [63] [] Ia I45 ∧ RX I45 ∧ Kp 49 73 Ja J45 ∧ I45 51 304 = I33 51 304 ∧ I45 51 305 = I33 51 305 ∧ (i + 1 ≤ t ∧ t ≤ (FU (Ia 51 304) + 1)) ∧ RB (Ia 51) (Ia 51 306) (FU (Ia 51 304) + 1) i t (I45 63))) → WW X 45 [some (kR (some 49)), some (kI i), some (kI t)] [] I45 J45 Ra Sa 0 0 := by
                intro n_45
                induction n_45 using Nat.strongRecOn with
                | ind n_45 ih_45 =>
                  intro t I45 J45 hm_45 hv_45
                  have hq_45 := Sh0_i hm_45
                  clear hm_45
                  obtain ⟨bkl45, tkl45, hv_45⟩ := hv_45
                  obtain ⟨kI45, cI45, kJ45, r304_I45, r305_I45, hu, hrb0⟩ := hv_45
                  have qI45 := RX_o cI45
                  have rf_I45 : FU (I45 51 304) = FU (I33 51 304) := by rw [r304_I45]
                  have e51_I45 : I45 51 = Ia 51 := kI45.1 51 (by decide) (by decide)
                  refine ww_iload_n hX (pc := 45) dX11_reaches_45 rfl ?_
                  refine ww_aload_n hX (pc := 46) dX11_reaches_46 rfl ?_
                  refine vI0 hX (pc := 47) sX11_112 (xs_49 hL) (c_X11_states l0 hL cI45 ) (by decide) (Nat.le_refl 0) (Nat.le_refl 0) (Nat.le_of_ble_eq_true rfl) dX11_reaches_47 (fun x_47 I_47 J_47 h_47 => ?_)
                  obtain ⟨rfl, rfl, h_47⟩ := h_47
                  refine ww_icmp_ge hX (pc := 50) (tgt := 101) dX11_reaches_50 (by decide) (fun h_50 => ?_) (fun h_50 => ?_)
                  · simp only [w32_mod] at h_50
                    have hra : RA (Ia 51) (Ia 51 306) (FU (Ia 51 304) + 1) (i + 1) (I45 63) := RA_e1 hrb0 (by omega) (by omega)
                    refine ww_iinc hX (pc := 101) (lv' := [some (kR (some 49)), some (kI (i + 1)), some (kI t)]) dX11_reaches_101 rfl (by decide) rfl rfl ?_
                    refine ww_goto hX (pc := 104) (tgt := 33) dX11_reaches_104 (by decide) ?_
                    refine ww_sub [some (kR (some 49)), some (kI (i + 1)), none] (aLe_s (aLe_s (aLe_n aLe_0))) ?_
                    exact ih_33 _ (by have hm9 := Sh0_e hq_33; omega) (i + 1) I45 J45 rfl ⟨bkl45, tkl45, ⟨kI45, cI45, kJ45, by omega, by omega, ⟨by omega, by omega⟩, hra⟩⟩
                  · simp only [w32_mod] at h_50
                    refine ww_aload_n hX (pc := 53) dX11_reaches_53 rfl ?_
                    refine ww_getR hX (pc := 54) fX11_65 (by decide) (xs_49 hL) (xr_49_26 hL) dX11_reaches_54 ?_
                    refine ww_iload_n hX (pc := 57) dX11_reaches_57 rfl ?_
                    refine ww_zald hX (pc := 58) (xs_63 hL) (by decide) (by omega) (by omega) dX11_reaches_58 ?_
                    have hc01 := hrb0.1.1 i.toNat (by omega)
                    refine ww_if_eq hX (pc := 59) (tgt := 101) dX11_reaches_59 (by decide) (fun h_59 => ?_) (fun h_59 => ?_)
                    · simp only [w32_mod] at h_59
                      have hra : RA (Ia 51) (Ia 51 306) (FU (Ia 51 304) + 1) (i + 1) (I45 63) := RA_e2 hrb0 (by omega) (by omega)
                      refine ww_iinc hX (pc := 101) (lv' := [some (kR (some 49)), some (kI (i + 1)), some (kI t)]) dX11_reaches_101 rfl (by decide) rfl rfl ?_
                      refine ww_goto hX (pc := 104) (tgt := 33) dX11_reaches_104 (by decide) ?_
                      refine ww_sub [some (kR (some 49)), some (kI (i + 1)), none] (aLe_s (aLe_s (aLe_n aLe_0))) ?_
                      exact ih_33 _ (by have hm9 := Sh0_e hq_33; omega) (i + 1) I45 J45 rfl ⟨bkl45, tkl45, ⟨kI45, cI45, kJ45, by omega, by omega, ⟨by omega, by omega⟩, hra⟩⟩
                    · simp only [w32_mod] at h_59
                      refine ww_aload_n hX (pc := 62) dX11_reaches_62 rfl ?_
                      refine ww_iload_n hX (pc := 63) dX11_reaches_63 rfl ?_
                      refine vI1 hX (pc := 64) sX11_126 (xs_49 hL) (c_X11_readOf l0 hL cI45 (by omega) (by omega)) (by decide) (Nat.le_refl 0) (Nat.le_refl 0) (Nat.le_of_ble_eq_true rfl) dX11_reaches_64 (fun x_64 I_64 J_64 h_64 => ?_)
                      obtain ⟨rfl, rfl, h_64⟩ := h_64
                      rw [e51_I45] at h_64
                      have hcd := hcr t.toNat (by omega)
                      refine ww_iconst hX (pc := 67) (x := (-1)) dX11_reaches_67 rfl ?_
                      refine ww_icmp_eq hX (pc := 68) (tgt := 95) dX11_reaches_68 (by decide) (fun h_68 => ?_) (fun h_68 => ?_)
                      · simp only [w32_mod] at h_68
                        have hrb : RB (Ia 51) (Ia 51 306) (FU (Ia 51 304) + 1) i (t + 1) (I45 63) := RB_n hrb0 (by omega) (by omega) (by omega) (by omega) (fun h9 => by have := h9.1; omega)
                        refine ww_iinc hX (pc := 95) (lv' := [some (kR (some 49)), some (kI i), some (kI (t + 1))]) dX11_reaches_95 rfl (by decide) rfl rfl ?_
                        refine ww_goto hX (pc := 98) (tgt := 45) dX11_reaches_98 (by decide) ?_
                        exact ih_45 _ (by have hm9 := Sh0_e hq_45; omega) (t + 1) I45 J45 rfl ⟨bkl45, tkl45, ⟨kI45, cI45, kJ45, by omega, by omega, ⟨by omega, by omega⟩, hrb⟩⟩
                      · simp only [w32_mod] at h_68
                        refine ww_aload_n hX (pc := 71) dX11_reaches_71 rfl ?_
                        refine ww_iload_n hX (pc := 72) dX11_reaches_72 rfl ?_
                        refine ww_iload_n hX (pc := 73) dX11_reaches_73 rfl ?_
                        refine ww_aload_n hX (pc := 74) dX11_reaches_74 rfl ?_
                        refine ww_getR hX (pc := 75) fX11_20 (by decide) (xs_49 hL) (xr_49_3 hL) dX11_reaches_75 ?_
                        refine ww_sipush hX (pc := 78) (x := 306) dX11_reaches_78 (by decide) ?_
                        refine ww_iald hX (pc := 81) (xs_51 hL) (by decide) (by omega) (by omega) dX11_reaches_81 ?_
                        refine ww_toI (b := I45 51 306) rfl ?_
                        refine vI3 hX (pc := 82) sX11_271 (xs_49 hL) (c_X11_canCome l0 hL cI45 ) (by decide) (Nat.le_refl 0) (Nat.le_refl 0) (Nat.le_of_ble_eq_true rfl) dX11_reaches_82 (fun x_82 I_82 J_82 h_82 => ?_)
                        obtain ⟨rfl, rfl, h_82⟩ := h_82
                        rw [e51_I45] at h_82
                        refine ww_if_eq hX (pc := 85) (tgt := 95) dX11_reaches_85 (by decide) (fun h_85 => ?_) (fun h_85 => ?_)
                        · simp only [w32_mod] at h_85
                          have hrb : RB (Ia 51) (Ia 51 306) (FU (Ia 51 304) + 1) i (t + 1) (I45 63) := RB_n hrb0 (by omega) (by omega) (by omega) (by omega) (fun h9 => by have := h_82.2.mpr h9.2; omega)
                          refine ww_iinc hX (pc := 95) (lv' := [some (kR (some 49)), some (kI i), some (kI (t + 1))]) dX11_reaches_95 rfl (by decide) rfl rfl ?_
                          refine ww_goto hX (pc := 98) (tgt := 45) dX11_reaches_98 (by decide) ?_
                          exact ih_45 _ (by have hm9 := Sh0_e hq_45; omega) (t + 1) I45 J45 rfl ⟨bkl45, tkl45, ⟨kI45, cI45, kJ45, by omega, by omega, ⟨by omega, by omega⟩, hrb⟩⟩
                        · simp only [w32_mod] at h_85
                          have hcc := h_82.2.mp (by omega)
                          refine ww_aload_n hX (pc := 88) dX11_reaches_88 rfl ?_
                          refine ww_getR hX (pc := 89) fX11_65 (by decide) (xs_49 hL) (xr_49_26 hL) dX11_reaches_89 ?_
                          refine ww_iload_n hX (pc := 92) dX11_reaches_92 rfl ?_
                          refine ww_iconst hX (pc := 93) (x := 1) dX11_reaches_93 rfl ?_
                          refine ww_zast hX (pc := 94) (xs_63 hL) (by decide) (by omega) (by omega) (by decide) dX11_reaches_94 ?_
                          refine ww_nmH (fun I_94 eI_94 => ?_)
                          have kI_94 : Ch [63] [] Ia I_94 := by rw [eI_94]; exact Ch_r kI45 (by decide) (by decide)
                          have cI_94 : RX I_94 := by rw [eI_94]; exact RX_r cI45 (by decide)
                          have qI_94 := RX_o cI_94
                          have r304_I_94 : I_94 51 304 = I45 51 304 := by rw [eI_94, up2_off _ _ _ (by decide)]
                          have r305_I_94 : I_94 51 305 = I45 51 305 := by rw [eI_94, up2_off _ _ _ (by decide)]
                          have rf_I_94 : FU (I_94 51 304) = FU (I45 51 304) := by rw [r304_I_94]
                          have hrb : RB (Ia 51) (Ia 51 306) (FU (Ia 51 304) + 1) i (t + 1) (I_94 63) := by
                            rw [eI_94, up2_row]
                            exact RB_s hrb0 (by omega) (by omega) (by omega) (by omega) (by omega) (by omega) hcc
                          have bkI_94 : BK9 Ia I_94 := by rw [eI_94]; exact BK9_up bkl45 (by decide)
                          have tkI_94 : TK9 Ia I_94 Ja J45 := by rw [eI_94]; exact TK9_up tkl45 (by decide)
                          refine ww_iinc hX (pc := 95) (lv' := [some (kR (some 49)), some (kI i), some (kI (t + 1))]) dX11_reaches_95 rfl (by decide) rfl rfl ?_
                          refine ww_goto hX (pc := 98) (tgt := 45) dX11_reaches_98 (by decide) ?_
                          exact ih_45 _ (by have hm9 := Sh0_e hq_45; omega) (t + 1) I_94 J45 rfl ⟨bkI_94, tkI_94, ⟨kI_94, cI_94, kJ45, by omega, by omega, ⟨by omega, by omega⟩, hrb⟩⟩
              exact hl_45 _ v_44 I33 J33 rfl ⟨bkl33, tkl33, ⟨kI33, cI33, kJ33, rfl, rfl, ⟨by omega, by omega⟩, RB_0 hra0 (by omega)⟩⟩
        exact hl_33 _ 0 I2 J2 rfl ⟨bkl2, tkl2, ⟨kI2, cI2, kJ2, rfl, rfl, ⟨by omega, by omega⟩, RA_0 (by omega) (fun t ht => hz t (by omega))⟩⟩
      · simp only [w32_mod] at h_7
        refine ww_aload_n hX (pc := 10) dX11_reaches_10 rfl ?_
        refine ww_getR hX (pc := 11) fX11_65 (by decide) (xs_49 hL) (xr_49_26 hL) dX11_reaches_11 ?_
        refine ww_iload_n hX (pc := 14) dX11_reaches_14 rfl ?_
        refine ww_iload_n hX (pc := 15) dX11_reaches_15 rfl ?_
        refine ww_if_ne hX (pc := 16) (tgt := 23) dX11_reaches_16 (by decide) (fun h_16 => ?_) (fun h_16 => ?_)
        · simp only [w32_mod] at h_16
          refine ww_iconst hX (pc := 23) (x := 0) dX11_reaches_23 rfl ?_
          refine ww_zast hX (pc := 24) (xs_63 hL) (by decide) (by omega) (by omega) (by decide) dX11_reaches_24 ?_
          refine ww_nmH (fun I_24 eI_24 => ?_)
          have kI_24 : Ch [63] [] Ia I_24 := by rw [eI_24]; exact Ch_r kI2 (by decide) (by decide)
          have cI_24 : RX I_24 := by rw [eI_24]; exact RX_r cI2 (by decide)
          have qI_24 := RX_o cI_24
          have r304_I_24 : I_24 51 304 = I2 51 304 := by rw [eI_24, up2_off _ _ _ (by decide)]
          have r305_I_24 : I_24 51 305 = I2 51 305 := by rw [eI_24, up2_off _ _ _ (by decide)]
          have rf_I_24 : FU (I_24 51 304) = FU (I2 51 304) := by rw [r304_I_24]
          have t24 : ∀ t : Nat, (t : Int) < i + 1 → I_24 63 t = if t = 0 then 1 else 0 := fun t ht => by
            rw [eI_24, up2_row]
            by_cases e9 : t = i.toNat
            · rw [e9, up1_s]
              first
              | rw [if_pos (by omega)]
              | rw [if_neg (by omega)]
            · rw [up1_n _ _ e9]; exact hz t (by omega)
          have bkI_24 : BK9 Ia I_24 := by rw [eI_24]; exact BK9_up bkl2 (by decide)
          have tkI_24 : TK9 Ia I_24 Ja J2 := by rw [eI_24]; exact TK9_up tkl2 (by decide)
          refine ww_iinc hX (pc := 25) (lv' := [some (kR (some 49)), some (kI (i + 1)), none]) dX11_reaches_25 rfl (by decide) rfl rfl ?_
          refine ww_goto hX (pc := 28) (tgt := 2) dX11_reaches_28 (by decide) ?_
          exact ih_2 _ (by have hm9 := Sh0_e hq_2; omega) (i + 1) I_24 J2 rfl ⟨bkI_24, tkI_24, ⟨kI_24, cI_24, kJ2, by omega, by omega, ⟨by omega, by omega⟩, t24⟩⟩
        · simp only [w32_mod] at h_16
          refine ww_iconst hX (pc := 19) (x := 1) dX11_reaches_19 rfl ?_
          refine ww_goto hX (pc := 20) (tgt := 24) dX11_reaches_20 (by decide) ?_
          refine ww_zast hX (pc := 24) (xs_63 hL) (by decide) (by omega) (by omega) (by decide) dX11_reaches_24 ?_
          refine ww_nmH (fun I_24 eI_24 => ?_)
          have kI_24 : Ch [63] [] Ia I_24 := by rw [eI_24]; exact Ch_r kI2 (by decide) (by decide)
          have cI_24 : RX I_24 := by rw [eI_24]; exact RX_r cI2 (by decide)
          have qI_24 := RX_o cI_24
          have r304_I_24 : I_24 51 304 = I2 51 304 := by rw [eI_24, up2_off _ _ _ (by decide)]
          have r305_I_24 : I_24 51 305 = I2 51 305 := by rw [eI_24, up2_off _ _ _ (by decide)]
          have rf_I_24 : FU (I_24 51 304) = FU (I2 51 304) := by rw [r304_I_24]
          have t24 : ∀ t : Nat, (t : Int) < i + 1 → I_24 63 t = if t = 0 then 1 else 0 := fun t ht => by
            rw [eI_24, up2_row]
            by_cases e9 : t = i.toNat
            · rw [e9, up1_s]
              first
              | rw [if_pos (by omega)]
              | rw [if_neg (by omega)]
            · rw [up1_n _ _ e9]; exact hz t (by omega)
          have bkI_24 : BK9 Ia I_24 := by rw [eI_24]; exact BK9_up bkl2 (by decide)
          have tkI_24 : TK9 Ia I_24 Ja J2 := by rw [eI_24]; exact TK9_up tkl2 (by decide)
          refine ww_iinc hX (pc := 25) (lv' := [some (kR (some 49)), some (kI (i + 1)), none]) dX11_reaches_25 rfl (by decide) rfl rfl ?_
          refine ww_goto hX (pc := 28) (tgt := 2) dX11_reaches_28 (by decide) ?_
          exact ih_2 _ (by have hm9 := Sh0_e hq_2; omega) (i + 1) I_24 J2 rfl ⟨bkI_24, tkI_24, ⟨kI_24, cI_24, kJ2, by omega, by omega, ⟨by omega, by omega⟩, t24⟩⟩
  exact hl_2 _ 0 Ia Ja rfl ⟨BK9_rf, TK9_rf, ⟨Ch_rf, hQ, (Kp_rf (a := 49) (b := 73)), rfl, rfl, ⟨by omega, by omega⟩, fun t ht => absurd ht (by omega)⟩⟩
