set_option maxHeartbeats 4000000 in
set_option maxRecDepth 20000 in
theorem c8_X11_could (l0 : Launch) {Ia Ja : aI1} {Ra : aR1} {Sa : aS1} (hL : LY Ra Sa) (hQ : RX Ia) {a b c e f : Int} (ha0 : -2147483648 ≤ a) (ha1 : a < 2147483648) (hb0 : -2147483648 ≤ b) (hb1 : b < 2147483648) (hc0 : -2147483648 ≤ c) (hc1 : c < 2147483648) (he0 : -2147483648 ≤ e) (he1 : e < 2147483648) (hf0 : -2147483648 ≤ f) (hf1 : f < 2147483648) (hO : ∀ l, l < 8 → 0 ≤ Ia 51 (256 + l) ∧ Ia 51 (256 + l) ≤ 99) (hcr : ∀ t : Nat, (t : Int) ≤ FU (Ia 51 304) → -1 ≤ Ia 51 t ∧ Ia 51 t ≤ 7) (hK : ∀ s : Nat, (s : Int) ≤ FU (Ia 51 304) → Ia 51 s < Ia 51 305) {vv : Int} (hq : QF Ia Ja vv) (hv9 : vv ≤ 1000000)  : CT l0 6 0 0 mX11_could [kR (some 49), kI a, kI b, kI c, kI e, kI f] Ia Ja Ra Sa (cJ (fun x I' J' => Ch [61] [25] Ia I' ∧ Kp 49 73 Ja J' ∧ RX I' ∧ I' 51 = Ia 51 ∧ QF I' J' vv ∧ ((0 ≤ a ∧ a ≤ 8 ∧ 0 ≤ b ∧ b ≤ FU (Ia 51 304) ∧ 0 ≤ c ∧ c ≤ 3 ∧ 0 ≤ e ∧ e < a ∧ 0 ≤ f ∧ f < Ia 51 305) → ∃ L M, (zLV (Ia 51) (Ia 51 306) (FU (Ia 51 304) + 1) (Ia 51 305) (-1) L ∧ MRc (Ia 51) (Ia 51 306) (Ia 51 304) (Ia 51 305) M) ∧ x = RW (Ia 51) (nxRf c Ia L M) e f (Ia 51 305).toNat (FU (Ia 51 304) + 1).toNat a.toNat b.toNat) ∧ (¬ (0 ≤ a ∧ a ≤ 8 ∧ 0 ≤ b ∧ b ≤ FU (Ia 51 304) ∧ 0 ≤ c ∧ c ≤ 3 ∧ 0 ≤ e ∧ e < a ∧ 0 ≤ f ∧ f < Ia 51 305) → x = -1)) Ra Sa) := by
  refine ct_in pn_X11 (Nat.le_of_ble_eq_true rfl) (fun X hX hT hIn => ?_)
  have hX : aK l0 X cX11_could 6 RX11 (some .long) 6 0 0 := hX
  change WW X 0 [some (kR (some 49)), some (kI a), some (kI b), some (kI c), some (kI e), some (kI f)] [] Ia Ja Ra Sa 0 0
  have qIa := RX_o hQ
  refine ww_iload_n hX (pc := 0) dX11_could_0 rfl ?_
  refine ww_iconst hX (pc := 1) (x := 0) dX11_could_1 rfl ?_
  refine ww_bipush hX (pc := 2) (x := 8) dX11_could_2 (by decide) ?_
  refine sI3 hX (pc := 4) sX11_101 (c_X11_lies l0 (by omega) (by omega) (by omega) (by omega) (by omega) (by omega)) (by decide) (Nat.le_refl 0) (Nat.le_refl 0) (Nat.le_of_ble_eq_true rfl) dX11_could_4 (fun x_4 I_4 J_4 h_4 => ?_)
  obtain ⟨rfl, rfl, h_4⟩ := h_4
  refine ww_if_eq hX (pc := 7) (tgt := 60) dX11_could_7 (by decide) (fun h_7 => ?_) (fun h_7 => ?_)
  · simp only [w32_mod] at h_7
    refine ww_ldc2 hX (pc := 60) (x := (-1)) dX11_could_60 tb_1398 ?_
    refine rJ hX (pc := 63) hT (Nat.le_refl 0) (Nat.le_refl 0) dX11_could_63 ?_
    exact ⟨Ch_rf, (Kp_rf (a := 49) (b := 73)), hQ, rfl, hq, (fun h9 => absurd h9 (by omega)), (fun _ => rfl)⟩
  · simp only [w32_mod] at h_7
    have k_4 := h_4.2.mp (by omega)
    clear h_4
    refine ww_aload_n hX (pc := 10) dX11_could_10 rfl ?_
    refine ww_iload_n hX (pc := 11) dX11_could_11 rfl ?_
    refine vI1 hX (pc := 12) sX11_120 (xs_49 hL) (c_X11_isState l0 hL hQ (by omega) (by omega)) (by decide) (Nat.le_refl 0) (Nat.le_refl 0) (Nat.le_of_ble_eq_true rfl) dX11_could_12 (fun x_12 I_12 J_12 h_12 => ?_)
    obtain ⟨rfl, rfl, h_12⟩ := h_12
    refine ww_if_eq hX (pc := 15) (tgt := 60) dX11_could_15 (by decide) (fun h_15 => ?_) (fun h_15 => ?_)
    · simp only [w32_mod] at h_15
      refine ww_ldc2 hX (pc := 60) (x := (-1)) dX11_could_60 tb_1398 ?_
      refine rJ hX (pc := 63) hT (Nat.le_refl 0) (Nat.le_refl 0) dX11_could_63 ?_
      exact ⟨Ch_rf, (Kp_rf (a := 49) (b := 73)), hQ, rfl, hq, (fun h9 => absurd h9 (by omega)), (fun _ => rfl)⟩
    · simp only [w32_mod] at h_15
      have k_12 := h_12.2.mp (by omega)
      clear h_12
      refine ww_iload_n hX (pc := 18) dX11_could_18 rfl ?_
      refine sI1 hX (pc := 19) sX11_308 (c_X11_isManner l0 (by omega) (by omega)) (by decide) (Nat.le_refl 0) (Nat.le_refl 0) (Nat.le_of_ble_eq_true rfl) dX11_could_19 (fun x_19 I_19 J_19 h_19 => ?_)
      obtain ⟨rfl, rfl, h_19⟩ := h_19
      refine ww_if_eq hX (pc := 22) (tgt := 60) dX11_could_22 (by decide) (fun h_22 => ?_) (fun h_22 => ?_)
      · simp only [w32_mod] at h_22
        refine ww_ldc2 hX (pc := 60) (x := (-1)) dX11_could_60 tb_1398 ?_
        refine rJ hX (pc := 63) hT (Nat.le_refl 0) (Nat.le_refl 0) dX11_could_63 ?_
        exact ⟨Ch_rf, (Kp_rf (a := 49) (b := 73)), hQ, rfl, hq, (fun h9 => absurd h9 (by omega)), (fun _ => rfl)⟩
      · simp only [w32_mod] at h_22
        have k_19 := h_19.2.mp (by omega)
        clear h_19
        refine ww_iload hX (pc := 25) dX11_could_25 rfl ?_
        refine ww_iconst hX (pc := 27) (x := 0) dX11_could_27 rfl ?_
        refine ww_iload_n hX (pc := 28) dX11_could_28 rfl ?_
        refine ww_iconst hX (pc := 29) (x := 1) dX11_could_29 rfl ?_
        refine ww_isub hX (pc := 30) dX11_could_30 ?_
        refine sI3 hX (pc := 31) sX11_101 (c_X11_lies l0 (by omega) (by omega) (by omega) (by omega) (by omega) (by omega)) (by decide) (Nat.le_refl 0) (Nat.le_refl 0) (Nat.le_of_ble_eq_true rfl) dX11_could_31 (fun x_31 I_31 J_31 h_31 => ?_)
        obtain ⟨rfl, rfl, h_31⟩ := h_31
        refine ww_if_eq hX (pc := 34) (tgt := 60) dX11_could_34 (by decide) (fun h_34 => ?_) (fun h_34 => ?_)
        · simp only [w32_mod] at h_34
          refine ww_ldc2 hX (pc := 60) (x := (-1)) dX11_could_60 tb_1398 ?_
          refine rJ hX (pc := 63) hT (Nat.le_refl 0) (Nat.le_refl 0) dX11_could_63 ?_
          exact ⟨Ch_rf, (Kp_rf (a := 49) (b := 73)), hQ, rfl, hq, (fun h9 => absurd h9 (by omega)), (fun _ => rfl)⟩
        · simp only [w32_mod] at h_34
          have k_31 := h_31.2.mp (by omega)
          clear h_31
          refine ww_aload_n hX (pc := 37) dX11_could_37 rfl ?_
          refine ww_iload hX (pc := 38) dX11_could_38 rfl ?_
          refine vI1 hX (pc := 40) sX11_123 (xs_49 hL) (c_X11_isNews l0 hL hQ (by omega) (by omega)) (by decide) (Nat.le_refl 0) (Nat.le_refl 0) (Nat.le_of_ble_eq_true rfl) dX11_could_40 (fun x_40 I_40 J_40 h_40 => ?_)
          obtain ⟨rfl, rfl, h_40⟩ := h_40
          refine ww_if_eq hX (pc := 43) (tgt := 60) dX11_could_43 (by decide) (fun h_43 => ?_) (fun h_43 => ?_)
          · simp only [w32_mod] at h_43
            refine ww_ldc2 hX (pc := 60) (x := (-1)) dX11_could_60 tb_1398 ?_
            refine rJ hX (pc := 63) hT (Nat.le_refl 0) (Nat.le_refl 0) dX11_could_63 ?_
            exact ⟨Ch_rf, (Kp_rf (a := 49) (b := 73)), hQ, rfl, hq, (fun h9 => absurd h9 (by omega)), (fun _ => rfl)⟩
          · simp only [w32_mod] at h_43
            have k_40 := h_40.2.mp (by omega)
            clear h_40
            refine ww_aload_n hX (pc := 46) dX11_could_46 rfl ?_
            refine ww_iload_n hX (pc := 47) dX11_could_47 rfl ?_
            refine ww_iload_n hX (pc := 48) dX11_could_48 rfl ?_
            refine ww_iload_n hX (pc := 49) dX11_could_49 rfl ?_
            refine ww_iload hX (pc := 50) dX11_could_50 rfl ?_
            refine ww_iload hX (pc := 52) dX11_could_52 rfl ?_
            refine vJ5 hX (pc := 54) sX11_337 (xs_49 hL) (c8_X11_rowsOf l0 hL hQ (by omega) (by omega) (by omega) (by omega) (by omega) (by omega) (by omega) (by omega) (by omega) (by omega) hO hcr hK hq hv9) (by decide) (Nat.le_refl 0) (Nat.le_refl 0) (Nat.le_of_ble_eq_true rfl) dX11_could_54 (fun x_54 I_54 J_54 h_54 => ?_)
            have kJ_54 : Kp 49 73 Ja J_54 := Kp_tr (Kp_rf (a := 49) (b := 73)) h_54.2.1
            have kI_54 : Ch [61] [25] Ia I_54 := Ch_tr Ch_rf (Ch_wd h_54.1 (by decide) (by decide))
            have cI_54 : RX I_54 := h_54.2.2.1
            have qI_54 := RX_o cI_54
            have r304_I_54 : I_54 51 304 = Ia 51 304 := by rw [h_54.1.1 51 (by decide) (by decide)]
            have r305_I_54 : I_54 51 305 = Ia 51 305 := by rw [h_54.1.1 51 (by decide) (by decide)]
            have rf_I_54 : FU (I_54 51 304) = FU (Ia 51 304) := by rw [r304_I_54]
            refine ww_goto hX (pc := 57) (tgt := 63) dX11_could_57 (by decide) ?_
            refine rJ hX (pc := 63) hT (Nat.le_refl 0) (Nat.le_refl 0) dX11_could_63 ?_
            exact ⟨kI_54, kJ_54, cI_54, h_54.2.2.2.1, h_54.2.2.2.2.1, (fun _ => h_54.2.2.2.2.2), (fun h9 => absurd (by omega) h9)⟩
