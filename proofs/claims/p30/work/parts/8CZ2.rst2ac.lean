set_option maxHeartbeats 4000000 in
set_option maxRecDepth 20000 in
theorem c9_X11_maybe (l0 : Launch) {Ia Ja : aI1} {Ra : aR1} {Sa : aS1} (hL : LY Ra Sa) (hQ : RX Ia) {a b : Int} (ha0 : -2147483648 ≤ a) (ha1 : a < 2147483648) (hb0 : -2147483648 ≤ b) (hb1 : b < 2147483648) (hcr : ∀ t : Nat, (t : Int) ≤ FU (Ia 51 304) → -1 ≤ Ia 51 t ∧ Ia 51 t ≤ 7)  : CT l0 2 0 0 mX11_maybe [kR (some 49), kI a, kI b] Ia Ja Ra Sa (cI (fun x I' J' => (Ch [63] [] Ia I' ∧ Kp 49 73 Ja J' ∧ RX I' ∧ ((0 ≤ a ∧ a ≤ FU (Ia 51 304) ∧ 0 ≤ b ∧ b ≤ 8) → x = fW (mbF (Ia 51) (Ia 51 306) a (FU (Ia 51 304) + 1) b) 0 (FU (Ia 51 304) + 1).toNat) ∧ (¬ (0 ≤ a ∧ a ≤ FU (Ia 51 304) ∧ 0 ≤ b ∧ b ≤ 8) → x = -1)) ∧ QK9 Ia I' Ja J') Ra Sa) := by
  refine ct_in pn_X11 (Nat.le_of_ble_eq_true rfl) (fun X hX hT hIn => ?_)
  have hX : aK l0 X cX11_maybe 5 RX11 (some .int) 2 0 0 := hX
  change WW X 0 [some (kR (some 49)), some (kI a), some (kI b), none, none] [] Ia Ja Ra Sa 0 0
  have qIa := RX_o hQ
  refine ww_aload_n hX (pc := 0) dX11_maybe_0 rfl ?_
  refine ww_iload_n hX (pc := 1) dX11_maybe_1 rfl ?_
  refine vI1 hX (pc := 2) sX11_120 (xs_49 hL) (c_X11_isState l0 hL hQ (by omega) (by omega)) (by decide) (Nat.le_refl 0) (Nat.le_refl 0) (Nat.le_of_ble_eq_true rfl) dX11_maybe_2 (fun x_2 I_2 J_2 h_2 => ?_)
  obtain ⟨rfl, rfl, h_2⟩ := h_2
  refine ww_if_eq hX (pc := 5) (tgt := 18) dX11_maybe_5 (by decide) (fun h_5 => ?_) (fun h_5 => ?_)
  · simp only [w32_mod] at h_5
    refine ww_iconst hX (pc := 18) (x := (-1)) dX11_maybe_18 rfl ?_
    refine rI hX (pc := 19) hT (Nat.le_refl 0) (Nat.le_refl 0) dX11_maybe_19 ?_
    exact ⟨⟨Ch_rf, (Kp_rf (a := 49) (b := 73)), hQ, (fun h9 => absurd h9 (by omega)), (fun _ => rfl)⟩, BK9_rf, TK9_rf⟩
  · simp only [w32_mod] at h_5
    have k_2 := h_2.2.mp (by omega)
    clear h_2
    refine ww_iload_n hX (pc := 8) dX11_maybe_8 rfl ?_
    refine ww_iconst hX (pc := 9) (x := 0) dX11_maybe_9 rfl ?_
    refine ww_bipush hX (pc := 10) (x := 8) dX11_maybe_10 (by decide) ?_
    refine sI3 hX (pc := 12) sX11_101 (c_X11_lies l0 (by omega) (by omega) (by omega) (by omega) (by omega) (by omega)) (by decide) (Nat.le_refl 0) (Nat.le_refl 0) (Nat.le_of_ble_eq_true rfl) dX11_maybe_12 (fun x_12 I_12 J_12 h_12 => ?_)
    obtain ⟨rfl, rfl, h_12⟩ := h_12
    refine ww_if_ne hX (pc := 15) (tgt := 20) dX11_maybe_15 (by decide) (fun h_15 => ?_) (fun h_15 => ?_)
    · simp only [w32_mod] at h_15
      have k_12 := h_12.2.mp (by omega)
      clear h_12
      refine ww_aload_n hX (pc := 20) dX11_maybe_20 rfl ?_
      refine vV0 hX (pc := 21) sX11_315 (xs_49 hL) (c9_X11_reaches l0 hL hQ hcr) (by decide) (Nat.le_refl 0) (Nat.le_refl 0) (Nat.le_of_ble_eq_true rfl) dX11_maybe_21 (fun I_21 J_21 h_21 => ?_)
      obtain ⟨h_21, qxI_21⟩ := h_21
      have kJ_21 : Kp 49 73 Ja J_21 := Kp_tr (Kp_rf (a := 49) (b := 73)) h_21.2.1
      have kI_21 : Ch [63] [] Ia I_21 := Ch_tr Ch_rf (Ch_wd h_21.1 (by decide) (by decide))
      have cI_21 : RX I_21 := h_21.2.2.1
      have qI_21 := RX_o cI_21
      have r304_I_21 : I_21 51 304 = Ia 51 304 := by rw [h_21.1.1 51 (by decide) (by decide)]
      have r305_I_21 : I_21 51 305 = Ia 51 305 := by rw [h_21.1.1 51 (by decide) (by decide)]
      have rf_I_21 : FU (I_21 51 304) = FU (Ia 51 304) := by rw [r304_I_21]
      have hcan := h_21.2.2.2
      have e51 : I_21 51 = Ia 51 := h_21.1.1 51 (by decide) (by decide)
      have bkI_21 : BK9 Ia I_21 := BK9_tr BK9_rf qxI_21.1
      have tkI_21 : TK9 Ia I_21 Ja J_21 := TK9_tr TK9_rf qxI_21.2
      refine ww_iconst hX (pc := 24) (x := 0) dX11_maybe_24 rfl ?_
      refine ww_istore_n hX (pc := 25) (lv' := [some (kR (some 49)), some (kI a), some (kI b), some (kI 0), none]) dX11_maybe_25 (by decide) rfl rfl ?_
      refine ww_iload_n hX (pc := 26) dX11_maybe_26 rfl ?_
      refine ww_istore hX (pc := 27) (lv' := [some (kR (some 49)), some (kI a), some (kI b), some (kI 0), some (kI a)]) dX11_maybe_27 (by decide) rfl rfl ?_
      have hl_29 : ∀ (n_29 : Nat) (n : Int) (t : Int), (256 - t).toNat = n_29 → ((a ≤ t ∧ t ≤ (FU (Ia 51 304) + 1)) ∧ n = fW (mbF (Ia 51) (Ia 51 306) a (FU (Ia 51 304) + 1) b) 0 t.toNat) → WW X 29 [some (kR (some 49)), some (kI a), some (kI b), some (kI n), some (kI t)] [] I_21 J_21 Ra Sa 0 0 := by
        intro n_29
        induction n_29 using Nat.strongRecOn with
        | ind n_29 ih_29 =>
          intro n t hm_29 hv_29
          have hq_29 := Sh0_i hm_29
          clear hm_29
          obtain ⟨hv, hn⟩ := hv_29
          refine ww_iload hX (pc := 29) dX11_maybe_29 rfl ?_
          refine ww_aload_n hX (pc := 31) dX11_maybe_31 rfl ?_
          refine vI0 hX (pc := 32) sX11_112 (xs_49 hL) (c_X11_states l0 hL cI_21 ) (by decide) (Nat.le_refl 0) (Nat.le_refl 0) (Nat.le_of_ble_eq_true rfl) dX11_maybe_32 (fun x_32 I_32 J_32 h_32 => ?_)
          obtain ⟨rfl, rfl, h_32⟩ := h_32
          refine ww_icmp_ge hX (pc := 35) (tgt := 97) dX11_maybe_35 (by decide) (fun h_35 => ?_) (fun h_35 => ?_)
          · simp only [w32_mod] at h_35
            refine ww_iload_n hX (pc := 97) dX11_maybe_97 rfl ?_
            refine rI hX (pc := 98) hT (Nat.le_refl 0) (Nat.le_refl 0) dX11_maybe_98 ?_
            exact ⟨⟨kI_21, kJ_21, cI_21, (fun _ => by rw [hn, show t = FU (Ia 51 304) + 1 by omega]), (fun h9 => absurd (by omega) h9)⟩, bkI_21, tkI_21⟩
          · simp only [w32_mod] at h_35
            have hcd := hcr t.toNat (by omega)
            have hct : ((t.toNat : Nat) : Int) = t := by omega
            have hci := hcan t.toNat (by omega)
            have hdf := anx_N (s := a) (t := t) (by omega) (by omega) (by omega) (by omega)
            have hdf2 := anx_N (s := t) (t := a) (by omega) (by omega) (by omega) (by omega)
            have hdl := df_lt (s := t.toNat) (t := a.toNat) (by omega)
            have hdl2 := df_lt (s := a.toNat) (t := t.toNat) (by omega)
            refine ww_aload_n hX (pc := 38) dX11_maybe_38 rfl ?_
            refine ww_getR hX (pc := 39) fX11_65 (by decide) (xs_49 hL) (xr_49_26 hL) dX11_maybe_39 ?_
            refine ww_iload hX (pc := 42) dX11_maybe_42 rfl ?_
            refine ww_zald hX (pc := 44) (xs_63 hL) (by decide) (by omega) (by omega) dX11_maybe_44 ?_
            refine ww_if_eq hX (pc := 45) (tgt := 91) dX11_maybe_45 (by decide) (fun h_45 => ?_) (fun h_45 => ?_)
            · simp only [w32_mod] at h_45
              have hst : mbF (Ia 51) (Ia 51 306) a (FU (Ia 51 304) + 1) b n t.toNat = n := if_neg (fun h9 => by
                have h8 := hci.2.mpr (Or.inr ⟨h9.2.2.1, h9.2.2.2.1⟩)
                omega)
              refine ww_iinc hX (pc := 91) (lv' := [some (kR (some 49)), some (kI a), some (kI b), some (kI n), some (kI (t + 1))]) dX11_maybe_91 rfl (by decide) rfl rfl ?_
              refine ww_goto hX (pc := 94) (tgt := 29) dX11_maybe_94 (by decide) ?_
              exact ih_29 _ (by have hm9 := Sh0_e hq_29; omega) n (t + 1) rfl ⟨⟨by omega, by omega⟩, (by rw [fW_s _ _ (by omega), ← hn, hst])⟩
            · simp only [w32_mod] at h_45
              refine ww_aload_n hX (pc := 48) dX11_maybe_48 rfl ?_
              refine ww_iload hX (pc := 49) dX11_maybe_49 rfl ?_
              refine vI1 hX (pc := 51) sX11_126 (xs_49 hL) (c_X11_readOf l0 hL cI_21 (by omega) (by omega)) (by decide) (Nat.le_refl 0) (Nat.le_refl 0) (Nat.le_of_ble_eq_true rfl) dX11_maybe_51 (fun x_51 I_51 J_51 h_51 => ?_)
              obtain ⟨rfl, rfl, h_51⟩ := h_51
              rw [e51] at h_51
              refine ww_iconst hX (pc := 54) (x := (-1)) dX11_maybe_54 rfl ?_
              refine ww_icmp_eq hX (pc := 55) (tgt := 91) dX11_maybe_55 (by decide) (fun h_55 => ?_) (fun h_55 => ?_)
              · simp only [w32_mod] at h_55
                have hst : mbF (Ia 51) (Ia 51 306) a (FU (Ia 51 304) + 1) b n t.toNat = n := if_neg (fun h9 => by
                  have h8 := h9.2.2.1
                  omega)
                refine ww_iinc hX (pc := 91) (lv' := [some (kR (some 49)), some (kI a), some (kI b), some (kI n), some (kI (t + 1))]) dX11_maybe_91 rfl (by decide) rfl rfl ?_
                refine ww_goto hX (pc := 94) (tgt := 29) dX11_maybe_94 (by decide) ?_
                exact ih_29 _ (by have hm9 := Sh0_e hq_29; omega) n (t + 1) rfl ⟨⟨by omega, by omega⟩, (by rw [fW_s _ _ (by omega), ← hn, hst])⟩
              · simp only [w32_mod] at h_55
                refine ww_iload_n hX (pc := 58) dX11_maybe_58 rfl ?_
                refine ww_iload hX (pc := 59) dX11_maybe_59 rfl ?_
                refine ww_iconst hX (pc := 61) (x := (-1)) dX11_maybe_61 rfl ?_
                refine ww_ixor hX (pc := 62) dX11_maybe_62 ?_
                refine ww_iand hX (pc := 63) dX11_maybe_63 ?_
                refine ww_if_ne hX (pc := 64) (tgt := 91) dX11_maybe_64 (by decide) (fun h_64 => ?_) (fun h_64 => ?_)
                · simp only [w32_mod] at h_64
                  have hst : mbF (Ia 51) (Ia 51 306) a (FU (Ia 51 304) + 1) b n t.toNat = n := if_neg (fun h9 => by
                    have h8 := df_0.mpr h9.2.1
                    omega)
                  refine ww_iinc hX (pc := 91) (lv' := [some (kR (some 49)), some (kI a), some (kI b), some (kI n), some (kI (t + 1))]) dX11_maybe_91 rfl (by decide) rfl rfl ?_
                  refine ww_goto hX (pc := 94) (tgt := 29) dX11_maybe_94 (by decide) ?_
                  exact ih_29 _ (by have hm9 := Sh0_e hq_29; omega) n (t + 1) rfl ⟨⟨by omega, by omega⟩, (by rw [fW_s _ _ (by omega), ← hn, hst])⟩
                · simp only [w32_mod] at h_64
                  have hsub : a.toNat &&& t.toNat = a.toNat := df_0.mp (by omega)
                  refine ww_iload hX (pc := 67) dX11_maybe_67 rfl ?_
                  refine ww_iload_n hX (pc := 69) dX11_maybe_69 rfl ?_
                  refine ww_iconst hX (pc := 70) (x := (-1)) dX11_maybe_70 rfl ?_
                  refine ww_ixor hX (pc := 71) dX11_maybe_71 ?_
                  refine ww_iand hX (pc := 72) dX11_maybe_72 ?_
                  refine sI1 hX (pc := 73) sX11_259 (c7_X11_ones l0 (by omega) (by omega)) (by decide) (Nat.le_refl 0) (Nat.le_refl 0) (Nat.le_of_ble_eq_true rfl) dX11_maybe_73 (fun x_73 I_73 J_73 h_73 => ?_)
                  obtain ⟨rfl, rfl, h_73⟩ := h_73
                  rw [hdf2, Int.toNat_natCast, df_sub hsub] at h_73
                  have hpq := pcn_r (t.toNat ^^^ a.toNat)
                  refine ww_iload_n hX (pc := 76) dX11_maybe_76 rfl ?_
                  refine ww_icmp_gt hX (pc := 77) (tgt := 91) dX11_maybe_77 (by decide) (fun h_77 => ?_) (fun h_77 => ?_)
                  · simp only [w32_mod] at h_77
                    have hst : mbF (Ia 51) (Ia 51 306) a (FU (Ia 51 304) + 1) b n t.toNat = n := if_neg (fun h9 => by
                      have h8 := h9.2.2.2.2
                      omega)
                    refine ww_iinc hX (pc := 91) (lv' := [some (kR (some 49)), some (kI a), some (kI b), some (kI n), some (kI (t + 1))]) dX11_maybe_91 rfl (by decide) rfl rfl ?_
                    refine ww_goto hX (pc := 94) (tgt := 29) dX11_maybe_94 (by decide) ?_
                    exact ih_29 _ (by have hm9 := Sh0_e hq_29; omega) n (t + 1) rfl ⟨⟨by omega, by omega⟩, (by rw [fW_s _ _ (by omega), ← hn, hst])⟩
                  · simp only [w32_mod] at h_77
                    have hrc := (RR7_RC (code := Ia 51) (g := Ia 51 306) (N := (FU (Ia 51 304) + 1)) (t := t.toNat) (by omega)).mpr ⟨by omega, hci.2.mp (by have := hci.1; omega)⟩
                    refine ww_iload_n hX (pc := 80) dX11_maybe_80 rfl ?_
                    refine ww_iconst hX (pc := 81) (x := 1) dX11_maybe_81 rfl ?_
                    refine ww_aload_n hX (pc := 82) dX11_maybe_82 rfl ?_
                    refine ww_iload hX (pc := 83) dX11_maybe_83 rfl ?_
                    refine vI1 hX (pc := 85) sX11_126 (xs_49 hL) (c_X11_readOf l0 hL cI_21 (by omega) (by omega)) (by decide) (Nat.le_refl 0) (Nat.le_refl 0) (Nat.le_of_ble_eq_true rfl) dX11_maybe_85 (fun x_85 I_85 J_85 h_85 => ?_)
                    obtain ⟨rfl, rfl, h_85⟩ := h_85
                    rw [e51] at h_85
                    refine ww_ishl hX (pc := 88) dX11_maybe_88 ?_
                    refine ww_ior hX (pc := 89) dX11_maybe_89 ?_
                    refine ww_nmI (fun v_90 hv_90 => ?_)
                    refine ww_istore_n hX (pc := 90) (lv' := [some (kR (some 49)), some (kI a), some (kI b), some (kI v_90), some (kI t)]) dX11_maybe_90 (by decide) rfl rfl ?_
                    have hst : mbF (Ia 51) (Ia 51 306) a (FU (Ia 51 304) + 1) b n t.toNat = v_90 := by
                      rw [hv_90, h_85]
                      exact if_pos ⟨by omega, hsub, hrc.2.1, hrc.2.2, by omega⟩
                    refine ww_iinc hX (pc := 91) (lv' := [some (kR (some 49)), some (kI a), some (kI b), some (kI v_90), some (kI (t + 1))]) dX11_maybe_91 rfl (by decide) rfl rfl ?_
                    refine ww_goto hX (pc := 94) (tgt := 29) dX11_maybe_94 (by decide) ?_
                    exact ih_29 _ (by have hm9 := Sh0_e hq_29; omega) v_90 (t + 1) rfl ⟨⟨by omega, by omega⟩, (by rw [fW_s _ _ (by omega), ← hn, hst])⟩
      exact hl_29 _ 0 a rfl ⟨⟨by omega, by omega⟩, (fW_e mbF_n).symm⟩
    · simp only [w32_mod] at h_15
      refine ww_iconst hX (pc := 18) (x := (-1)) dX11_maybe_18 rfl ?_
      refine rI hX (pc := 19) hT (Nat.le_refl 0) (Nat.le_refl 0) dX11_maybe_19 ?_
      exact ⟨⟨Ch_rf, (Kp_rf (a := 49) (b := 73)), hQ, (fun h9 => absurd h9 (by omega)), (fun _ => rfl)⟩, BK9_rf, TK9_rf⟩
