set_option maxHeartbeats 4000000 in
set_option maxRecDepth 20000 in
theorem c9_X11_reached (l0 : Launch) {Ia Ja : aI1} {Ra : aR1} {Sa : aS1} (hL : LY Ra Sa) (hQ : RX Ia) {a : Int} (ha0 : -2147483648 ≤ a) (ha1 : a < 2147483648) (hcr : ∀ t : Nat, (t : Int) ≤ FU (Ia 51 304) → -1 ≤ Ia 51 t ∧ Ia 51 t ≤ 7)  : CT l0 2 0 0 mX11_reached [kR (some 49), kI a] Ia Ja Ra Sa (cI (fun x I' J' => (Ch [63] [] Ia I' ∧ Kp 49 73 Ja J' ∧ RX I' ∧ (a = -1 → x = fW (rcF (Ia 51) (Ia 51 306)) 0 (FU (Ia 51 304) + 1).toNat) ∧ (¬ a = -1 → (0 ≤ a ∧ a ≤ FU (Ia 51 304)) → (x = 0 ∨ x = 1) ∧ (x = 1 ↔ RC (Ia 51) (Ia 51 306) a.toNat)) ∧ (¬ a = -1 → ¬ (0 ≤ a ∧ a ≤ FU (Ia 51 304)) → x = -1)) ∧ QK9 Ia I' Ja J') Ra Sa) := by
  refine ct_in pn_X11 (Nat.le_of_ble_eq_true rfl) (fun X hX hT hIn => ?_)
  have hX : aK l0 X cX11_reached 4 RX11 (some .int) 2 0 0 := hX
  change WW X 0 [some (kR (some 49)), some (kI a), none, none] [] Ia Ja Ra Sa 0 0
  have qIa := RX_o hQ
  refine ww_iload_n hX (pc := 0) dX11_reached_0 rfl ?_
  refine ww_iconst hX (pc := 1) (x := (-1)) dX11_reached_1 rfl ?_
  refine ww_icmp_eq hX (pc := 2) (tgt := 15) dX11_reached_2 (by decide) (fun h_2 => ?_) (fun h_2 => ?_)
  · simp only [w32_mod] at h_2
    refine ww_aload_n hX (pc := 15) dX11_reached_15 rfl ?_
    refine vV0 hX (pc := 16) sX11_315 (xs_49 hL) (c9_X11_reaches l0 hL hQ hcr) (by decide) (Nat.le_refl 0) (Nat.le_refl 0) (Nat.le_of_ble_eq_true rfl) dX11_reached_16 (fun I_16 J_16 h_16 => ?_)
    obtain ⟨h_16, qxI_16⟩ := h_16
    have kJ_16 : Kp 49 73 Ja J_16 := Kp_tr (Kp_rf (a := 49) (b := 73)) h_16.2.1
    have kI_16 : Ch [63] [] Ia I_16 := Ch_tr Ch_rf (Ch_wd h_16.1 (by decide) (by decide))
    have cI_16 : RX I_16 := h_16.2.2.1
    have qI_16 := RX_o cI_16
    have r304_I_16 : I_16 51 304 = Ia 51 304 := by rw [h_16.1.1 51 (by decide) (by decide)]
    have r305_I_16 : I_16 51 305 = Ia 51 305 := by rw [h_16.1.1 51 (by decide) (by decide)]
    have rf_I_16 : FU (I_16 51 304) = FU (Ia 51 304) := by rw [r304_I_16]
    have hcan := h_16.2.2.2
    have e51 : I_16 51 = Ia 51 := h_16.1.1 51 (by decide) (by decide)
    have bkI_16 : BK9 Ia I_16 := BK9_tr BK9_rf qxI_16.1
    have tkI_16 : TK9 Ia I_16 Ja J_16 := TK9_tr TK9_rf qxI_16.2
    refine ww_iconst hX (pc := 19) (x := 0) dX11_reached_19 rfl ?_
    refine ww_istore_n hX (pc := 20) (lv' := [some (kR (some 49)), some (kI a), some (kI 0), none]) dX11_reached_20 (by decide) rfl rfl ?_
    refine ww_iconst hX (pc := 21) (x := 0) dX11_reached_21 rfl ?_
    refine ww_istore_n hX (pc := 22) (lv' := [some (kR (some 49)), some (kI a), some (kI 0), some (kI 0)]) dX11_reached_22 (by decide) rfl rfl ?_
    have hl_23 : ∀ (n_23 : Nat) (n : Int) (i : Int), (256 - i).toNat = n_23 → ((0 ≤ i ∧ i ≤ (FU (Ia 51 304) + 1)) ∧ n = fW (rcF (Ia 51) (Ia 51 306)) 0 i.toNat) → WW X 23 [some (kR (some 49)), some (kI a), some (kI n), some (kI i)] [] I_16 J_16 Ra Sa 0 0 := by
      intro n_23
      induction n_23 using Nat.strongRecOn with
      | ind n_23 ih_23 =>
        intro n i hm_23 hv_23
        have hq_23 := Sh0_i hm_23
        clear hm_23
        obtain ⟨hv, hn⟩ := hv_23
        refine ww_iload_n hX (pc := 23) dX11_reached_23 rfl ?_
        refine ww_aload_n hX (pc := 24) dX11_reached_24 rfl ?_
        refine vI0 hX (pc := 25) sX11_112 (xs_49 hL) (c_X11_states l0 hL cI_16 ) (by decide) (Nat.le_refl 0) (Nat.le_refl 0) (Nat.le_of_ble_eq_true rfl) dX11_reached_25 (fun x_25 I_25 J_25 h_25 => ?_)
        obtain ⟨rfl, rfl, h_25⟩ := h_25
        refine ww_icmp_ge hX (pc := 28) (tgt := 54) dX11_reached_28 (by decide) (fun h_28 => ?_) (fun h_28 => ?_)
        · simp only [w32_mod] at h_28
          refine ww_iload_n hX (pc := 54) dX11_reached_54 rfl ?_
          refine ww_iconst hX (pc := 55) (x := (-1)) dX11_reached_55 rfl ?_
          refine ww_icmp_ne hX (pc := 56) (tgt := 63) dX11_reached_56 (by decide) (fun h_56 => ?_) (fun h_56 => ?_)
          · simp only [w32_mod] at h_56
            have hci := (hcan a.toNat (by omega)).1
            refine ww_aload_n hX (pc := 63) dX11_reached_63 rfl ?_
            refine ww_getR hX (pc := 64) fX11_65 (by decide) (xs_49 hL) (xr_49_26 hL) dX11_reached_64 ?_
            refine ww_iload_n hX (pc := 67) dX11_reached_67 rfl ?_
            refine ww_zald hX (pc := 68) (xs_63 hL) (by decide) (by omega) (by omega) dX11_reached_68 ?_
            refine ww_if_eq hX (pc := 69) (tgt := 76) dX11_reached_69 (by decide) (fun h_69 => ?_) (fun h_69 => ?_)
            · simp only [w32_mod] at h_69
              refine ww_iconst hX (pc := 76) (x := 0) dX11_reached_76 rfl ?_
              refine rI hX (pc := 77) hT (Nat.le_refl 0) (Nat.le_refl 0) dX11_reached_77 ?_
              exact ⟨⟨kI_16, kJ_16, cI_16, (fun h9 => absurd h9 (by omega)), (fun _ _ => ⟨by omega, fun h9 => absurd h9 (by decide), fun h9 => absurd ((hcan a.toNat (by omega)).2.mpr h9) (by have := (hcan a.toNat (by omega)).1; omega)⟩), (fun _ h9 => absurd (by omega) h9)⟩, bkI_16, tkI_16⟩
            · simp only [w32_mod] at h_69
              refine ww_iconst hX (pc := 72) (x := 1) dX11_reached_72 rfl ?_
              refine ww_goto hX (pc := 73) (tgt := 77) dX11_reached_73 (by decide) ?_
              refine rI hX (pc := 77) hT (Nat.le_refl 0) (Nat.le_refl 0) dX11_reached_77 ?_
              exact ⟨⟨kI_16, kJ_16, cI_16, (fun h9 => absurd h9 (by omega)), (fun _ _ => ⟨by omega, fun _ => (hcan a.toNat (by omega)).2.mp (by have := (hcan a.toNat (by omega)).1; omega), fun _ => rfl⟩), (fun _ h9 => absurd (by omega) h9)⟩, bkI_16, tkI_16⟩
          · simp only [w32_mod] at h_56
            refine ww_iload_n hX (pc := 59) dX11_reached_59 rfl ?_
            refine ww_goto hX (pc := 60) (tgt := 77) dX11_reached_60 (by decide) ?_
            refine rI hX (pc := 77) hT (Nat.le_refl 0) (Nat.le_refl 0) dX11_reached_77 ?_
            exact ⟨⟨kI_16, kJ_16, cI_16, (fun _ => by rw [hn, show i = FU (Ia 51 304) + 1 by omega]), (fun h9 => absurd (by omega) h9), (fun h9 => absurd (by omega) h9)⟩, bkI_16, tkI_16⟩
        · simp only [w32_mod] at h_28
          have hci := hcan i.toNat (by omega)
          refine ww_iload_n hX (pc := 31) dX11_reached_31 rfl ?_
          refine ww_aload_n hX (pc := 32) dX11_reached_32 rfl ?_
          refine ww_getR hX (pc := 33) fX11_65 (by decide) (xs_49 hL) (xr_49_26 hL) dX11_reached_33 ?_
          refine ww_iload_n hX (pc := 36) dX11_reached_36 rfl ?_
          refine ww_zald hX (pc := 37) (xs_63 hL) (by decide) (by omega) (by omega) dX11_reached_37 ?_
          refine ww_if_eq hX (pc := 38) (tgt := 45) dX11_reached_38 (by decide) (fun h_38 => ?_) (fun h_38 => ?_)
          · simp only [w32_mod] at h_38
            have hst : rcF (Ia 51) (Ia 51 306) n i.toNat = n + 0 := by
              rw [rcF_0 (fun h9 => by have := hci.2.mpr h9; omega), Int.add_zero]
            refine ww_iconst hX (pc := 45) (x := 0) dX11_reached_45 rfl ?_
            refine ww_iadd hX (pc := 46) dX11_reached_46 ?_
            refine ww_nmI (fun v_47 hv_47 => ?_)
            refine ww_istore_n hX (pc := 47) (lv' := [some (kR (some 49)), some (kI a), some (kI v_47), some (kI i)]) dX11_reached_47 (by decide) rfl rfl ?_
            refine ww_iinc hX (pc := 48) (lv' := [some (kR (some 49)), some (kI a), some (kI v_47), some (kI (i + 1))]) dX11_reached_48 rfl (by decide) rfl rfl ?_
            refine ww_goto hX (pc := 51) (tgt := 23) dX11_reached_51 (by decide) ?_
            exact ih_23 _ (by have hm9 := Sh0_e hq_23; omega) v_47 (i + 1) rfl ⟨⟨by omega, by omega⟩, (by rw [fW_s _ _ (by omega), ← hn, hst]; omega)⟩
          · simp only [w32_mod] at h_38
            have hst : rcF (Ia 51) (Ia 51 306) n i.toNat = n + 1 := rcF_1 (hci.2.mp (by have := hci.1; omega))
            refine ww_iconst hX (pc := 41) (x := 1) dX11_reached_41 rfl ?_
            refine ww_goto hX (pc := 42) (tgt := 46) dX11_reached_42 (by decide) ?_
            refine ww_iadd hX (pc := 46) dX11_reached_46 ?_
            refine ww_nmI (fun v_47 hv_47 => ?_)
            refine ww_istore_n hX (pc := 47) (lv' := [some (kR (some 49)), some (kI a), some (kI v_47), some (kI i)]) dX11_reached_47 (by decide) rfl rfl ?_
            refine ww_iinc hX (pc := 48) (lv' := [some (kR (some 49)), some (kI a), some (kI v_47), some (kI (i + 1))]) dX11_reached_48 rfl (by decide) rfl rfl ?_
            refine ww_goto hX (pc := 51) (tgt := 23) dX11_reached_51 (by decide) ?_
            exact ih_23 _ (by have hm9 := Sh0_e hq_23; omega) v_47 (i + 1) rfl ⟨⟨by omega, by omega⟩, (by rw [fW_s _ _ (by omega), ← hn, hst]; omega)⟩
    exact hl_23 _ 0 0 rfl ⟨⟨by omega, by omega⟩, rfl⟩
  · simp only [w32_mod] at h_2
    refine ww_aload_n hX (pc := 5) dX11_reached_5 rfl ?_
    refine ww_iload_n hX (pc := 6) dX11_reached_6 rfl ?_
    refine vI1 hX (pc := 7) sX11_120 (xs_49 hL) (c_X11_isState l0 hL hQ (by omega) (by omega)) (by decide) (Nat.le_refl 0) (Nat.le_refl 0) (Nat.le_of_ble_eq_true rfl) dX11_reached_7 (fun x_7 I_7 J_7 h_7 => ?_)
    obtain ⟨rfl, rfl, h_7⟩ := h_7
    refine ww_if_ne hX (pc := 10) (tgt := 15) dX11_reached_10 (by decide) (fun h_10 => ?_) (fun h_10 => ?_)
    · simp only [w32_mod] at h_10
      have k_7 := h_7.2.mp (by omega)
      clear h_7
      refine ww_aload_n hX (pc := 15) dX11_reached_15 rfl ?_
      refine vV0 hX (pc := 16) sX11_315 (xs_49 hL) (c9_X11_reaches l0 hL hQ hcr) (by decide) (Nat.le_refl 0) (Nat.le_refl 0) (Nat.le_of_ble_eq_true rfl) dX11_reached_16 (fun I_16 J_16 h_16 => ?_)
      obtain ⟨h_16, qxI_16⟩ := h_16
      have kJ_16 : Kp 49 73 Ja J_16 := Kp_tr (Kp_rf (a := 49) (b := 73)) h_16.2.1
      have kI_16 : Ch [63] [] Ia I_16 := Ch_tr Ch_rf (Ch_wd h_16.1 (by decide) (by decide))
      have cI_16 : RX I_16 := h_16.2.2.1
      have qI_16 := RX_o cI_16
      have r304_I_16 : I_16 51 304 = Ia 51 304 := by rw [h_16.1.1 51 (by decide) (by decide)]
      have r305_I_16 : I_16 51 305 = Ia 51 305 := by rw [h_16.1.1 51 (by decide) (by decide)]
      have rf_I_16 : FU (I_16 51 304) = FU (Ia 51 304) := by rw [r304_I_16]
      have hcan := h_16.2.2.2
      have e51 : I_16 51 = Ia 51 := h_16.1.1 51 (by decide) (by decide)
      have bkI_16 : BK9 Ia I_16 := BK9_tr BK9_rf qxI_16.1
      have tkI_16 : TK9 Ia I_16 Ja J_16 := TK9_tr TK9_rf qxI_16.2
      refine ww_iconst hX (pc := 19) (x := 0) dX11_reached_19 rfl ?_
      refine ww_istore_n hX (pc := 20) (lv' := [some (kR (some 49)), some (kI a), some (kI 0), none]) dX11_reached_20 (by decide) rfl rfl ?_
      refine ww_iconst hX (pc := 21) (x := 0) dX11_reached_21 rfl ?_
      refine ww_istore_n hX (pc := 22) (lv' := [some (kR (some 49)), some (kI a), some (kI 0), some (kI 0)]) dX11_reached_22 (by decide) rfl rfl ?_
      have hl_23 : ∀ (n_23 : Nat) (n : Int) (i : Int), (256 - i).toNat = n_23 → ((0 ≤ i ∧ i ≤ (FU (Ia 51 304) + 1)) ∧ n = fW (rcF (Ia 51) (Ia 51 306)) 0 i.toNat) → WW X 23 [some (kR (some 49)), some (kI a), some (kI n), some (kI i)] [] I_16 J_16 Ra Sa 0 0 := by
        intro n_23
        induction n_23 using Nat.strongRecOn with
        | ind n_23 ih_23 =>
          intro n i hm_23 hv_23
          have hq_23 := Sh0_i hm_23
          clear hm_23
          obtain ⟨hv, hn⟩ := hv_23
          refine ww_iload_n hX (pc := 23) dX11_reached_23 rfl ?_
          refine ww_aload_n hX (pc := 24) dX11_reached_24 rfl ?_
          refine vI0 hX (pc := 25) sX11_112 (xs_49 hL) (c_X11_states l0 hL cI_16 ) (by decide) (Nat.le_refl 0) (Nat.le_refl 0) (Nat.le_of_ble_eq_true rfl) dX11_reached_25 (fun x_25 I_25 J_25 h_25 => ?_)
          obtain ⟨rfl, rfl, h_25⟩ := h_25
          refine ww_icmp_ge hX (pc := 28) (tgt := 54) dX11_reached_28 (by decide) (fun h_28 => ?_) (fun h_28 => ?_)
          · simp only [w32_mod] at h_28
            refine ww_iload_n hX (pc := 54) dX11_reached_54 rfl ?_
            refine ww_iconst hX (pc := 55) (x := (-1)) dX11_reached_55 rfl ?_
            refine ww_icmp_ne hX (pc := 56) (tgt := 63) dX11_reached_56 (by decide) (fun h_56 => ?_) (fun h_56 => ?_)
            · simp only [w32_mod] at h_56
              have hci := (hcan a.toNat (by omega)).1
              refine ww_aload_n hX (pc := 63) dX11_reached_63 rfl ?_
              refine ww_getR hX (pc := 64) fX11_65 (by decide) (xs_49 hL) (xr_49_26 hL) dX11_reached_64 ?_
              refine ww_iload_n hX (pc := 67) dX11_reached_67 rfl ?_
              refine ww_zald hX (pc := 68) (xs_63 hL) (by decide) (by omega) (by omega) dX11_reached_68 ?_
              refine ww_if_eq hX (pc := 69) (tgt := 76) dX11_reached_69 (by decide) (fun h_69 => ?_) (fun h_69 => ?_)
              · simp only [w32_mod] at h_69
                refine ww_iconst hX (pc := 76) (x := 0) dX11_reached_76 rfl ?_
                refine rI hX (pc := 77) hT (Nat.le_refl 0) (Nat.le_refl 0) dX11_reached_77 ?_
                exact ⟨⟨kI_16, kJ_16, cI_16, (fun h9 => absurd h9 (by omega)), (fun _ _ => ⟨by omega, fun h9 => absurd h9 (by decide), fun h9 => absurd ((hcan a.toNat (by omega)).2.mpr h9) (by have := (hcan a.toNat (by omega)).1; omega)⟩), (fun _ h9 => absurd (by omega) h9)⟩, bkI_16, tkI_16⟩
              · simp only [w32_mod] at h_69
                refine ww_iconst hX (pc := 72) (x := 1) dX11_reached_72 rfl ?_
                refine ww_goto hX (pc := 73) (tgt := 77) dX11_reached_73 (by decide) ?_
                refine rI hX (pc := 77) hT (Nat.le_refl 0) (Nat.le_refl 0) dX11_reached_77 ?_
                exact ⟨⟨kI_16, kJ_16, cI_16, (fun h9 => absurd h9 (by omega)), (fun _ _ => ⟨by omega, fun _ => (hcan a.toNat (by omega)).2.mp (by have := (hcan a.toNat (by omega)).1; omega), fun _ => rfl⟩), (fun _ h9 => absurd (by omega) h9)⟩, bkI_16, tkI_16⟩
            · simp only [w32_mod] at h_56
              refine ww_iload_n hX (pc := 59) dX11_reached_59 rfl ?_
              refine ww_goto hX (pc := 60) (tgt := 77) dX11_reached_60 (by decide) ?_
              refine rI hX (pc := 77) hT (Nat.le_refl 0) (Nat.le_refl 0) dX11_reached_77 ?_
              exact ⟨⟨kI_16, kJ_16, cI_16, (fun _ => by rw [hn, show i = FU (Ia 51 304) + 1 by omega]), (fun h9 => absurd (by omega) h9), (fun h9 => absurd (by omega) h9)⟩, bkI_16, tkI_16⟩
          · simp only [w32_mod] at h_28
            have hci := hcan i.toNat (by omega)
            refine ww_iload_n hX (pc := 31) dX11_reached_31 rfl ?_
            refine ww_aload_n hX (pc := 32) dX11_reached_32 rfl ?_
            refine ww_getR hX (pc := 33) fX11_65 (by decide) (xs_49 hL) (xr_49_26 hL) dX11_reached_33 ?_
            refine ww_iload_n hX (pc := 36) dX11_reached_36 rfl ?_
            refine ww_zald hX (pc := 37) (xs_63 hL) (by decide) (by omega) (by omega) dX11_reached_37 ?_
            refine ww_if_eq hX (pc := 38) (tgt := 45) dX11_reached_38 (by decide) (fun h_38 => ?_) (fun h_38 => ?_)
            · simp only [w32_mod] at h_38
              have hst : rcF (Ia 51) (Ia 51 306) n i.toNat = n + 0 := by
                rw [rcF_0 (fun h9 => by have := hci.2.mpr h9; omega), Int.add_zero]
              refine ww_iconst hX (pc := 45) (x := 0) dX11_reached_45 rfl ?_
              refine ww_iadd hX (pc := 46) dX11_reached_46 ?_
              refine ww_nmI (fun v_47 hv_47 => ?_)
              refine ww_istore_n hX (pc := 47) (lv' := [some (kR (some 49)), some (kI a), some (kI v_47), some (kI i)]) dX11_reached_47 (by decide) rfl rfl ?_
              refine ww_iinc hX (pc := 48) (lv' := [some (kR (some 49)), some (kI a), some (kI v_47), some (kI (i + 1))]) dX11_reached_48 rfl (by decide) rfl rfl ?_
              refine ww_goto hX (pc := 51) (tgt := 23) dX11_reached_51 (by decide) ?_
              exact ih_23 _ (by have hm9 := Sh0_e hq_23; omega) v_47 (i + 1) rfl ⟨⟨by omega, by omega⟩, (by rw [fW_s _ _ (by omega), ← hn, hst]; omega)⟩
            · simp only [w32_mod] at h_38
              have hst : rcF (Ia 51) (Ia 51 306) n i.toNat = n + 1 := rcF_1 (hci.2.mp (by have := hci.1; omega))
              refine ww_iconst hX (pc := 41) (x := 1) dX11_reached_41 rfl ?_
              refine ww_goto hX (pc := 42) (tgt := 46) dX11_reached_42 (by decide) ?_
              refine ww_iadd hX (pc := 46) dX11_reached_46 ?_
              refine ww_nmI (fun v_47 hv_47 => ?_)
              refine ww_istore_n hX (pc := 47) (lv' := [some (kR (some 49)), some (kI a), some (kI v_47), some (kI i)]) dX11_reached_47 (by decide) rfl rfl ?_
              refine ww_iinc hX (pc := 48) (lv' := [some (kR (some 49)), some (kI a), some (kI v_47), some (kI (i + 1))]) dX11_reached_48 rfl (by decide) rfl rfl ?_
              refine ww_goto hX (pc := 51) (tgt := 23) dX11_reached_51 (by decide) ?_
              exact ih_23 _ (by have hm9 := Sh0_e hq_23; omega) v_47 (i + 1) rfl ⟨⟨by omega, by omega⟩, (by rw [fW_s _ _ (by omega), ← hn, hst]; omega)⟩
      exact hl_23 _ 0 0 rfl ⟨⟨by omega, by omega⟩, rfl⟩
    · simp only [w32_mod] at h_10
      refine ww_iconst hX (pc := 13) (x := (-1)) dX11_reached_13 rfl ?_
      refine rI hX (pc := 14) hT (Nat.le_refl 0) (Nat.le_refl 0) dX11_reached_14 ?_
      exact ⟨⟨Ch_rf, (Kp_rf (a := 49) (b := 73)), hQ, (fun h9 => absurd h9 (by omega)), (fun _ h9 => absurd h9 (by omega)), (fun _ _ => rfl)⟩, BK9_rf, TK9_rf⟩
