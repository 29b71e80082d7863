/-! what the KEEPER's tables are, where they are fresh -/
def OT (I : aI1) : Prop := ∀ s : Nat, (s : Int) ≤ FU (I 1 5) → I 19 s = oilS (I 2) s (I 1 5).toNat
def LT (I : aI1) : Prop := zLV (I 3) (I 1 7) (FU (I 1 5) + 1) (I 1 6) (-1) (I 24)
/-- 0 or more, and not too much -/
def MB8 (n U cs p v : Int) : Prop := 0 ≤ v ∧ v ≤ 200 * U ∧ (¬ cs = -1 → v ≤ 2 * (n - p + 1) * U)
def MT (I J : aI1) : Prop := J 18 9 = (I 1 6 - 1) ^ 9 ∧ ∀ s : Nat, (s : Int) ≤ FU (I 1 5) → MCs (I 3) (I 1 7) (FU (I 1 5) + 1) (I 1 6) (J 18 9) (J 28) s (J 28 s) ∧ MB8 (I 1 5) (J 18 9) (I 3 s) (pcn s) (J 28 s)
def FRf (I : aI1) : Prop := (0 ≤ I 18 10 ∧ I 18 10 ≤ 1) ∧ (0 ≤ I 18 11 ∧ I 18 11 ≤ 1) ∧ (0 ≤ I 18 12 ∧ I 18 12 ≤ 1)
def FRk (I J : aI1) : Prop := FRf I ∧ (¬ I 18 10 = 0 → OT I) ∧ (¬ I 18 11 = 0 → LT I) ∧ (¬ I 18 12 = 0 → MT I J)
theorem OT_of {I I' : aI1} (h : OT I) (e5 : I' 1 5 = I 1 5) (r2 : I' 2 = I 2) (r19 : I' 19 = I 19) : OT I' := by
  unfold OT at h ⊢
  rw [e5, r2, r19]
  exact h
theorem LT_of {I I' : aI1} (h : LT I) (e5 : I' 1 5 = I 1 5) (e6 : I' 1 6 = I 1 6) (e7 : I' 1 7 = I 1 7) (r3 : I' 3 = I 3) (r24 : I' 24 = I 24) : LT I' := by
  unfold LT at h ⊢
  rw [e5, e6, e7, r3, r24]
  exact h
theorem MT_of {I I' J J' : aI1} (h : MT I J) (e5 : I' 1 5 = I 1 5) (e6 : I' 1 6 = I 1 6) (e7 : I' 1 7 = I 1 7) (r3 : I' 3 = I 3) (j9 : J' 18 9 = J 18 9) (j28 : J' 28 = J 28) : MT I' J' := by
  unfold MT at h ⊢
  rw [e5, e6, e7, r3, j9, j28]
  exact h
theorem FRk_of {I I' J J' : aI1} (h : FRk I J) (e18 : I' 18 = I 18) (e5 : I' 1 5 = I 1 5) (e6 : I' 1 6 = I 1 6) (e7 : I' 1 7 = I 1 7) (r2 : I' 2 = I 2) (r3 : I' 3 = I 3) (r19 : I' 19 = I 19) (r24 : I' 24 = I 24) (j9 : J' 18 9 = J 18 9) (j28 : J' 28 = J 28) : FRk I' J' := by
  obtain ⟨h0, h1, h2, h3⟩ := h
  unfold FRk FRf
  rw [e18]
  exact ⟨h0, fun g => OT_of (h1 g) e5 r2 r19, fun g => LT_of (h2 g) e5 e6 e7 r3 r24, fun g => MT_of (h3 g) e5 e6 e7 r3 j9 j28⟩
theorem FRk_kp {I I' J J' : aI1} {a b : Nat} (h : FRk I J) (hk : Kp a b I I') (hj : Kp a b J J') (ha : (4 ≤ a ∧ b ≤ 18) ∨ (20 ≤ a ∧ b ≤ 24) ∨ (25 ≤ a ∧ b ≤ 28) ∨ 29 ≤ a) : FRk I' J' :=
  FRk_of h (hk 18 (by omega)) (by rw [hk 1 (by omega)]) (by rw [hk 1 (by omega)]) (by rw [hk 1 (by omega)]) (hk 2 (by omega)) (hk 3 (by omega)) (hk 19 (by omega)) (hk 24 (by omega)) (by rw [hj 18 (by omega)]) (hj 28 (by omega))
theorem FRk_0 {I J : aI1} (h10 : I 18 10 = 0) (h11 : I 18 11 = 0) (h12 : I 18 12 = 0) : FRk I J := ⟨⟨by omega, by omega, by omega⟩, fun h => absurd h10 h, fun h => absurd h11 h, fun h => absurd h12 h⟩

set_option maxHeartbeats 4000000 in
set_option maxRecDepth 20000 in
theorem c8_X4_fillOil (l0 : Launch) {Ia Ja : aI1} {Ra : aR1} {Sa : aS1} (hL : LY Ra Sa) (hI : XI Ia) (hF : FRk Ia Ja)  : CT l0 1 0 0 mX4_fillOil [kR (some 18)] Ia Ja Ra Sa (cV (fun I' J' => Kp 18 20 Ia I' ∧ Ja = J' ∧ FRk I' Ja ∧ OT I') Ra Sa) := by
  refine ct_in pn_X4 (Nat.le_of_ble_eq_true rfl) (fun X hX hT hIn => ?_)
  have hX : aK l0 X cX4_fillOil 4 RX4 none 1 0 0 := hX
  change WW X 0 [some (kR (some 18)), none, none, none] [] Ia Ja Ra Sa 0 0
  obtain ⟨hn1, hn2⟩ := hI.1
  obtain ⟨hk1, hk2⟩ := hI.2.1
  obtain ⟨hf1, hf2⟩ := hI.fu
  obtain ⟨hff, hf10, hf11, hf12⟩ := id hF
  refine ww_aload_n hX (pc := 0) dX4_fillOil_0 rfl ?_
  refine ww_getI hX (pc := 1) fX4_51 (by decide) (xs_18 hL) dX4_fillOil_1 ?_
  refine ww_if_eq hX (pc := 4) (tgt := 8) dX4_fillOil_4 (by decide) (fun h_4 => ?_) (fun h_4 => ?_)
  · simp only [w32_mod] at h_4
    refine ww_aload_n hX (pc := 8) dX4_fillOil_8 rfl ?_
    refine ww_iconst hX (pc := 9) (x := 1) dX4_fillOil_9 rfl ?_
    refine ww_putZ hX (pc := 10) (fun h9 => absurd h9 (by decide)) gX4_51 rfl (by decide) (xs_18 hL) dX4_fillOil_10 ?_
    refine ww_nmH (fun I_10 eI_10 => ?_)
    have kI_10 : Kp 18 20 Ia I_10 := by rw [eI_10]; exact Kp_up (Kp_rf (a := 18) (b := 20)) _ _ (by decide)
    have r1_5_I_10 : I_10 1 5 = Ia 1 5 := Kp_at kI_10 1 5 (by decide)
    have r1_6_I_10 : I_10 1 6 = Ia 1 6 := Kp_at kI_10 1 6 (by decide)
    have rf_I_10 : FU (I_10 1 5) = FU (Ia 1 5) := by rw [r1_5_I_10]
    refine ww_aload_n hX (pc := 13) dX4_fillOil_13 rfl ?_
    refine ww_getR hX (pc := 14) fX4_9 (by decide) (xs_18 hL) (xr_18_1 hL) dX4_fillOil_14 ?_
    refine ww_iconst hX (pc := 17) (x := 0) dX4_fillOil_17 rfl ?_
    refine ww_iconst hX (pc := 18) (x := 0) dX4_fillOil_18 rfl ?_
    refine ww_iast hX (pc := 19) (xs_19 hL) (by decide) (by omega) (by omega) dX4_fillOil_19 ?_
    refine ww_nmH (fun I_19 eI_19 => ?_)
    have kI_19 : Kp 18 20 Ia I_19 := by rw [eI_19]; exact Kp_up kI_10 _ _ (by decide)
    have r1_5_I_19 : I_19 1 5 = Ia 1 5 := Kp_at kI_19 1 5 (by decide)
    have r1_6_I_19 : I_19 1 6 = Ia 1 6 := Kp_at kI_19 1 6 (by decide)
    have rf_I_19 : FU (I_19 1 5) = FU (Ia 1 5) := by rw [r1_5_I_19]
    refine ww_iconst hX (pc := 20) (x := 0) dX4_fillOil_20 rfl ?_
    refine ww_istore_n hX (pc := 21) (lv' := [some (kR (some 18)), some (kI 0), none, none]) dX4_fillOil_21 (by decide) rfl rfl ?_
    have hl_22 : ∀ (n_22 : Nat) (la : Int) (I2 : aI1), (Ia 1 5 - la).toNat = n_22 → (Kp 18 20 Ia I2 ∧ (0 ≤ la ∧ la ≤ Ia 1 5) ∧ I2 18 = up1 (Ia 18) 10 1 ∧ (∀ s : Nat, s < 2 ^ la.toNat → I2 19 s = oilS (Ia 2) s la.toNat)) → WW X 22 [some (kR (some 18)), some (kI la), none, none] [] I2 Ja Ra Sa 0 0 := by
      intro n_22
      induction n_22 using Nat.strongRecOn with
      | ind n_22 ih_22 =>
        intro la I2 hm_22 hv_22
        have hq_22 := Sh0_i hm_22
        clear hm_22
        obtain ⟨kI2, hla, h18, how⟩ := hv_22
        have r1_5_I2 : I2 1 5 = Ia 1 5 := Kp_at kI2 1 5 (by decide)
        have r1_6_I2 : I2 1 6 = Ia 1 6 := Kp_at kI2 1 6 (by decide)
        have rf_I2 : FU (I2 1 5) = FU (Ia 1 5) := by rw [r1_5_I2]
        have h24 := kI2 24 (by decide)
        refine ww_iload_n hX (pc := 22) dX4_fillOil_22 rfl ?_
        refine ww_aload_n hX (pc := 23) dX4_fillOil_23 rfl ?_
        refine ww_getR hX (pc := 24) fX4_47 (by decide) (xs_18 hL) (xr_18_0 hL) dX4_fillOil_24 ?_
        refine ww_getI hX (pc := 27) fX4_146 (by decide) (xs_1 hL) dX4_fillOil_27 ?_
        refine ww_icmp_ge hX (pc := 30) (tgt := 80) dX4_fillOil_30 (by decide) (fun h_30 => ?_) (fun h_30 => ?_)
        · simp only [w32_mod] at h_30
          refine rV hX (pc := 80) hT (Nat.le_refl 0) (Nat.le_refl 0) dX4_fillOil_80 ?_
          have hot : OT I2 := fun s hs => by
            rw [r1_5_I2, kI2 2 (by decide)]
            rw [r1_5_I2] at hs
            have hfr := FU_r (n := Ia 1 5) (by omega) (by omega)
            have e9 : ((2 ^ (Ia 1 5).toNat : Nat) : Int) = 2 ^ (Ia 1 5).toNat := by norm_cast
            have hla5 : la = Ia 1 5 := by omega
            rw [hla5] at how
            exact how s (by omega)
          exact ⟨kI2, rfl, ⟨by unfold FRf; rw [h18]; exact ⟨by rw [up1_s]; omega, by rw [up1_n _ _ (by decide)]; exact hff.2.1, by rw [up1_n _ _ (by decide)]; exact hff.2.2⟩, fun _ => hot, fun g => LT_of (hf11 (by rw [h18, up1_n _ _ (by decide)] at g; exact g)) r1_5_I2 r1_6_I2 (by rw [kI2 1 (by decide)]) (kI2 3 (by decide)) h24, fun g => MT_of (hf12 (by rw [h18, up1_n _ _ (by decide)] at g; exact g)) r1_5_I2 r1_6_I2 (by rw [kI2 1 (by decide)]) (kI2 3 (by decide)) rfl rfl⟩, hot⟩
        · simp only [w32_mod] at h_30
          refine ww_iconst hX (pc := 33) (x := 1) dX4_fillOil_33 rfl ?_
          refine ww_iload_n hX (pc := 34) dX4_fillOil_34 rfl ?_
          refine ww_ishl hX (pc := 35) dX4_fillOil_35 ?_
          refine ww_nmI (fun v_36 hv_36 => ?_)
          refine ww_istore_n hX (pc := 36) (lv' := [some (kR (some 18)), some (kI la), some (kI v_36), none]) dX4_fillOil_36 (by decide) rfl rfl ?_
          have hla7 : la.toNat ≤ 7 := by omega
          have hbt : v_36 = ((2 ^ la.toNat : Nat) : Int) := by
            rw [hv_36, i_shl1 (by omega) (by omega)]
            norm_cast
          have hbp : (2 : Nat) ^ la.toNat ≤ 2 ^ 7 := Nat.pow_le_pow_right (by decide) hla7
          have hbq : 0 < (2 : Nat) ^ la.toNat := Nat.two_pow_pos _
          refine ww_iconst hX (pc := 37) (x := 0) dX4_fillOil_37 rfl ?_
          refine ww_istore_n hX (pc := 38) (lv' := [some (kR (some 18)), some (kI la), some (kI v_36), some (kI 0)]) dX4_fillOil_38 (by decide) rfl rfl ?_
          have hl_39 : ∀ (n_39 : Nat) (q : Int) (I3 : aI1), (v_36 - q).toNat = n_39 → (Kp 18 20 Ia I3 ∧ (0 ≤ q ∧ q ≤ v_36) ∧ I3 18 = up1 (Ia 18) 10 1 ∧ (∀ s : Nat, (s : Int) < v_36 + q → I3 19 s = oilS (Ia 2) s (la.toNat + 1))) → WW X 39 [some (kR (some 18)), some (kI la), some (kI v_36), some (kI q)] [] I3 Ja Ra Sa 0 0 := by
            intro n_39
            induction n_39 using Nat.strongRecOn with
            | ind n_39 ih_39 =>
              intro q I3 hm_39 hv_39
              have hq_39 := Sh0_i hm_39
              clear hm_39
              obtain ⟨kI3, hq, h318, how3⟩ := hv_39
              have r1_5_I3 : I3 1 5 = Ia 1 5 := Kp_at kI3 1 5 (by decide)
              have r1_6_I3 : I3 1 6 = Ia 1 6 := Kp_at kI3 1 6 (by decide)
              have rf_I3 : FU (I3 1 5) = FU (Ia 1 5) := by rw [r1_5_I3]
              have h32 := kI3 2 (by decide)
              refine ww_iload_n hX (pc := 39) dX4_fillOil_39 rfl ?_
              refine ww_iload_n hX (pc := 40) dX4_fillOil_40 rfl ?_
              refine ww_icmp_ge hX (pc := 41) (tgt := 74) dX4_fillOil_41 (by decide) (fun h_41 => ?_) (fun h_41 => ?_)
              · simp only [w32_mod] at h_41
                refine ww_iinc hX (pc := 74) (lv' := [some (kR (some 18)), some (kI (la + 1)), some (kI v_36), some (kI q)]) dX4_fillOil_74 rfl (by decide) rfl rfl ?_
                refine ww_goto hX (pc := 77) (tgt := 22) dX4_fillOil_77 (by decide) ?_
                refine ww_sub [some (kR (some 18)), some (kI (la + 1)), none, none] (aLe_s (aLe_s (aLe_n (aLe_n aLe_0)))) ?_
                exact ih_22 _ (by have hm9 := Sh0_e hq_22; omega) (la + 1) I3 rfl ⟨kI3, ⟨by omega, by omega⟩, h318, fun s hs => by
    rw [show (la + 1).toNat = la.toNat + 1 by omega] at hs ⊢
    rw [Nat.pow_succ] at hs
    exact how3 s (by omega)⟩
              · simp only [w32_mod] at h_41
                have hob := or_bit (b := q.toNat) (n := la.toNat) (by omega) (by omega)
                rw [← hbt, show ((q.toNat : Nat) : Int) = q by omega] at hob
                refine ww_aload_n hX (pc := 44) dX4_fillOil_44 rfl ?_
                refine ww_getR hX (pc := 45) fX4_9 (by decide) (xs_18 hL) (xr_18_1 hL) dX4_fillOil_45 ?_
                refine ww_iload_n hX (pc := 48) dX4_fillOil_48 rfl ?_
                refine ww_iload_n hX (pc := 49) dX4_fillOil_49 rfl ?_
                refine ww_ior hX (pc := 50) dX4_fillOil_50 ?_
                refine ww_aload_n hX (pc := 51) dX4_fillOil_51 rfl ?_
                refine ww_getR hX (pc := 52) fX4_9 (by decide) (xs_18 hL) (xr_18_1 hL) dX4_fillOil_52 ?_
                refine ww_iload_n hX (pc := 55) dX4_fillOil_55 rfl ?_
                refine ww_iald hX (pc := 56) (xs_19 hL) (by decide) (by omega) (by omega) dX4_fillOil_56 ?_
                refine ww_aload_n hX (pc := 57) dX4_fillOil_57 rfl ?_
                refine ww_getR hX (pc := 58) fX4_47 (by decide) (xs_18 hL) (xr_18_0 hL) dX4_fillOil_58 ?_
                refine ww_getR hX (pc := 61) fX4_149 (by decide) (xs_1 hL) (xr_1_0 hL) dX4_fillOil_61 ?_
                refine ww_iload_n hX (pc := 64) dX4_fillOil_64 rfl ?_
                refine ww_iald hX (pc := 65) (xs_2 hL) (by decide) (by omega) (by omega) dX4_fillOil_65 ?_
                refine ww_iadd hX (pc := 66) dX4_fillOil_66 ?_
                refine ww_iast hX (pc := 67) (xs_19 hL) (by decide) (by omega) (by omega) dX4_fillOil_67 ?_
                refine ww_nmH (fun I_67 eI_67 => ?_)
                have kI_67 : Kp 18 20 Ia I_67 := by rw [eI_67]; exact Kp_up kI3 _ _ (by decide)
                have r1_5_I_67 : I_67 1 5 = Ia 1 5 := Kp_at kI_67 1 5 (by decide)
                have r1_6_I_67 : I_67 1 6 = Ia 1 6 := Kp_at kI_67 1 6 (by decide)
                have rf_I_67 : FU (I_67 1 5) = FU (Ia 1 5) := by rw [r1_5_I_67]
                refine ww_iinc hX (pc := 68) (lv' := [some (kR (some 18)), some (kI la), some (kI v_36), some (kI (q + 1))]) dX4_fillOil_68 rfl (by decide) rfl rfl ?_
                refine ww_goto hX (pc := 71) (tgt := 39) dX4_fillOil_71 (by decide) ?_
                exact ih_39 _ (by have hm9 := Sh0_e hq_39; omega) (q + 1) I_67 rfl ⟨kI_67, ⟨by omega, by omega⟩, by rw [eI_67, up2_off _ _ _ (by decide)]; exact h318, fun s hs => by
      rw [eI_67, up2_row, hob, Int.toNat_natCast]
      by_cases e9 : s = 2 ^ la.toNat + q.toNat
      · rw [e9, up1_s, how3 q.toNat (by omega), h32, oilS_bit (by omega), oilS_lt (o := Ia 2) (s := q.toNat) (n := la.toNat) (by omega) (by omega)]
      · rw [up1_n _ _ e9]
        exact how3 s (by omega)⟩
          exact hl_39 _ 0 I2 rfl ⟨kI2, ⟨by omega, by omega⟩, h18, fun s hs => by rw [how s (by omega)]; exact (oilS_lt (by omega) (by omega)).symm⟩
    exact hl_22 _ 0 I_19 rfl ⟨kI_19, ⟨by omega, by omega⟩, by rw [eI_19, up2_off _ _ _ (by decide), eI_10, up2_row], fun s hs => by
    have e0 : s = 0 := by
      have : (2 : Nat) ^ (0 : Int).toNat = 1 := rfl
      omega
    rw [e0, eI_19, show (0 : Int).toNat = 0 from rfl, up2_s]
    rfl⟩
  · simp only [w32_mod] at h_4
    refine rV hX (pc := 7) hT (Nat.le_refl 0) (Nat.le_refl 0) dX4_fillOil_7 ?_
    exact ⟨Kp_rf, rfl, hF, hf10 (by have := hff.1; omega)⟩
set_option maxHeartbeats 4000000 in
set_option maxRecDepth 20000 in
theorem c8_X4_fillLasting (l0 : Launch) {Ia Ja : aI1} {Ra : aR1} {Sa : aS1} (hL : LY Ra Sa) (hI : XI Ia) (hF : FRk Ia Ja)  : CT l0 3 0 0 mX4_fillLasting [kR (some 18)] Ia Ja Ra Sa (cV (fun I' J' => Kp 18 25 Ia I' ∧ Ja = J' ∧ FRk I' Ja ∧ LT I') Ra Sa) := by
  refine ct_in pn_X4 (Nat.le_of_ble_eq_true rfl) (fun X hX hT hIn => ?_)
  have hX : aK l0 X cX4_fillLasting 1 RX4 none 3 0 0 := hX
  change WW X 0 [some (kR (some 18))] [] Ia Ja Ra Sa 0 0
  obtain ⟨hn1, hn2⟩ := hI.1
  obtain ⟨hk1, hk2⟩ := hI.2.1
  obtain ⟨hf1, hf2⟩ := hI.fu
  obtain ⟨hff, hf10, hf11, hf12⟩ := id hF
  refine ww_aload_n hX (pc := 0) dX4_fillLasting_0 rfl ?_
  refine ww_getI hX (pc := 1) fX4_55 (by decide) (xs_18 hL) dX4_fillLasting_1 ?_
  refine ww_if_ne hX (pc := 4) (tgt := 47) dX4_fillLasting_4 (by decide) (fun h_4 => ?_) (fun h_4 => ?_)
  · simp only [w32_mod] at h_4
    refine rV hX (pc := 47) hT (Nat.le_refl 0) (Nat.le_refl 0) dX4_fillLasting_47 ?_
    exact ⟨Kp_rf, rfl, hF, hf11 (by have := hff.2.1; omega)⟩
  · simp only [w32_mod] at h_4
    refine ww_aload_n hX (pc := 7) dX4_fillLasting_7 rfl ?_
    refine ww_iconst hX (pc := 8) (x := 1) dX4_fillLasting_8 rfl ?_
    refine ww_putZ hX (pc := 9) (fun h9 => absurd h9 (by decide)) gX4_55 rfl (by decide) (xs_18 hL) dX4_fillLasting_9 ?_
    refine ww_nmH (fun I_9 eI_9 => ?_)
    have kI_9 : Kp 18 25 Ia I_9 := by rw [eI_9]; exact Kp_up (Kp_rf (a := 18) (b := 25)) _ _ (by decide)
    have r1_5_I_9 : I_9 1 5 = Ia 1 5 := Kp_at kI_9 1 5 (by decide)
    have r1_6_I_9 : I_9 1 6 = Ia 1 6 := Kp_at kI_9 1 6 (by decide)
    have rf_I_9 : FU (I_9 1 5) = FU (Ia 1 5) := by rw [r1_5_I_9]
    refine ww_aload_n hX (pc := 12) dX4_fillLasting_12 rfl ?_
    refine ww_getR hX (pc := 13) fX4_26 (by decide) (xs_18 hL) (xr_18_4 hL) dX4_fillLasting_13 ?_
    refine ww_aload_n hX (pc := 16) dX4_fillLasting_16 rfl ?_
    refine ww_getR hX (pc := 17) fX4_47 (by decide) (xs_18 hL) (xr_18_0 hL) dX4_fillLasting_17 ?_
    refine ww_getR hX (pc := 20) fX4_70 (by decide) (xs_1 hL) (xr_1_1 hL) dX4_fillLasting_20 ?_
    refine ww_aload_n hX (pc := 23) dX4_fillLasting_23 rfl ?_
    refine ww_getR hX (pc := 24) fX4_47 (by decide) (xs_18 hL) (xr_18_0 hL) dX4_fillLasting_24 ?_
    refine vI0 hX (pc := 27) sX4_75 (xs_1 hL) (c_X1_full l0 hL (XI_kp hI kI_9 (by decide))) (by decide) (Nat.le_refl 0) (Nat.le_refl 0) (Nat.le_of_ble_eq_true rfl) dX4_fillLasting_27 (fun x_27 I_27 J_27 h_27 => ?_)
    obtain ⟨rfl, rfl, h_27⟩ := h_27
    refine ww_aload_n hX (pc := 30) dX4_fillLasting_30 rfl ?_
    refine ww_getR hX (pc := 31) fX4_47 (by decide) (xs_18 hL) (xr_18_0 hL) dX4_fillLasting_31 ?_
    refine ww_getI hX (pc := 34) fX4_79 (by decide) (xs_1 hL) dX4_fillLasting_34 ?_
    refine ww_aload_n hX (pc := 37) dX4_fillLasting_37 rfl ?_
    refine ww_getR hX (pc := 38) fX4_47 (by decide) (xs_18 hL) (xr_18_0 hL) dX4_fillLasting_38 ?_
    refine ww_getI hX (pc := 41) fX4_83 (by decide) (xs_1 hL) dX4_fillLasting_41 ?_
    refine vV4 hX (pc := 44) sX4_86 (xs_22 hL) (c5_X5_fill l0 (Ia := I_9) (xs_22 hL) (xr_22_0 hL) (xr_22_1 hL) (xs_24 hL) (xs_23 hL) (xs_3 hL) (by decide) (by decide) (by decide) (by decide) (fun j hj => by rw [kI_9 3 (by decide)]; have := hI.2.2.2.2.2.2.2.2.2.1 j hj; omega) (by decide) (by omega) (by omega) (by omega) (by decide) (by omega) (by omega)) (by decide) (Nat.le_refl 0) (Nat.le_refl 0) (Nat.le_of_ble_eq_true rfl) dX4_fillLasting_44 (fun I_44 J_44 h_44 => ?_)
    obtain ⟨rfl, h_44, hz_44⟩ := h_44
    have kI_44 : Kp 18 25 Ia I_44 := Kp_tr kI_9 (Kq_kp h_44 (by decide) (by decide))
    have r1_5_I_44 : I_44 1 5 = Ia 1 5 := Kp_at kI_44 1 5 (by decide)
    have r1_6_I_44 : I_44 1 6 = Ia 1 6 := Kp_at kI_44 1 6 (by decide)
    have rf_I_44 : FU (I_44 1 5) = FU (Ia 1 5) := by rw [r1_5_I_44]
    refine rV hX (pc := 47) hT (Nat.le_refl 0) (Nat.le_refl 0) dX4_fillLasting_47 ?_
    have h18 : I_44 18 = up1 (Ia 18) 11 1 := by rw [h_44 18 (by decide) (by decide), eI_9, up2_row]
    have hlt : LT I_44 := by
      unfold LT
      rw [h_44 3 (by decide) (by decide), h_44 1 (by decide) (by decide), ← h_27]
      exact hz_44
    have h19 : I_44 19 = Ia 19 := by rw [h_44 19 (by decide) (by decide), eI_9, up2_off _ _ _ (by decide)]
    exact ⟨kI_44, rfl, ⟨by unfold FRf; rw [h18]; exact ⟨by rw [up1_n _ _ (by decide)]; exact hff.1, by rw [up1_s]; omega, by rw [up1_n _ _ (by decide)]; exact hff.2.2⟩, fun g => OT_of (hf10 (by rw [h18, up1_n _ _ (by decide)] at g; exact g)) r1_5_I_44 (kI_44 2 (by decide)) h19, fun _ => hlt, fun g => MT_of (hf12 (by rw [h18, up1_n _ _ (by decide)] at g; exact g)) r1_5_I_44 r1_6_I_44 (by rw [kI_44 1 (by decide)]) (kI_44 3 (by decide)) rfl rfl⟩, hlt⟩
set_option maxHeartbeats 4000000 in
set_option maxRecDepth 20000 in
theorem c8_X4_oilOf (l0 : Launch) {Ia Ja : aI1} {Ra : aR1} {Sa : aS1} (hL : LY Ra Sa) (hI : XI Ia) (hF : FRk Ia Ja) {a : Int} (ha0 : 0 ≤ a) (ha1 : a ≤ FU (Ia 1 5))  : CT l0 2 0 0 mX4_oilOf [kR (some 18), kI a] Ia Ja Ra Sa (cI (fun x I' J' => Kp 18 20 Ia I' ∧ Ja = J' ∧ FRk I' Ja ∧ x = oilS (Ia 2) a.toNat (Ia 1 5).toNat) Ra Sa) := by
  refine ct_in pn_X4 (Nat.le_of_ble_eq_true rfl) (fun X hX hT hIn => ?_)
  have hX : aK l0 X cX4_oilOf 2 RX4 (some .int) 2 0 0 := hX
  change WW X 0 [some (kR (some 18)), some (kI a)] [] Ia Ja Ra Sa 0 0
  obtain ⟨hn1, hn2⟩ := hI.1
  obtain ⟨hk1, hk2⟩ := hI.2.1
  obtain ⟨hf1, hf2⟩ := hI.fu
  refine ww_aload_n hX (pc := 0) dX4_oilOf_0 rfl ?_
  refine vV0 hX (pc := 1) sX4_61 (xs_18 hL) (c8_X4_fillOil l0 hL hI hF) (by decide) (Nat.le_refl 0) (Nat.le_refl 0) (Nat.le_of_ble_eq_true rfl) dX4_oilOf_1 (fun I_1 J_1 h_1 => ?_)
  have h_1j := h_1.2.1
  subst h_1j
  have kI_1 : Kp 18 20 Ia I_1 := Kp_tr (Kp_rf (a := 18) (b := 20)) (Kp_wd h_1.1 (by decide) (by decide))
  have r1_5_I_1 : I_1 1 5 = Ia 1 5 := Kp_at kI_1 1 5 (by decide)
  have r1_6_I_1 : I_1 1 6 = Ia 1 6 := Kp_at kI_1 1 6 (by decide)
  have rf_I_1 : FU (I_1 1 5) = FU (Ia 1 5) := by rw [r1_5_I_1]
  refine ww_aload_n hX (pc := 4) dX4_oilOf_4 rfl ?_
  refine ww_getR hX (pc := 5) fX4_9 (by decide) (xs_18 hL) (xr_18_1 hL) dX4_oilOf_5 ?_
  refine ww_iload_n hX (pc := 8) dX4_oilOf_8 rfl ?_
  refine ww_iald hX (pc := 9) (xs_19 hL) (by decide) (by omega) (by omega) dX4_oilOf_9 ?_
  refine rI hX (pc := 10) hT (Nat.le_refl 0) (Nat.le_refl 0) dX4_oilOf_10 ?_
  exact ⟨kI_1, rfl, h_1.2.2.1, by rw [h_1.2.2.2 a.toNat (by omega), kI_1 2 (by decide), r1_5_I_1]⟩
set_option maxHeartbeats 4000000 in
set_option maxRecDepth 20000 in
theorem c8_X4_lastingOf (l0 : Launch) {Ia Ja : aI1} {Ra : aR1} {Sa : aS1} (hL : LY Ra Sa) (hI : XI Ia) (hF : FRk Ia Ja) {a : Int} (ha0 : 0 ≤ a) (ha1 : a ≤ FU (Ia 1 5))  : CT l0 4 0 0 mX4_lastingOf [kR (some 18), kI a] Ia Ja Ra Sa (cI (fun x I' J' => Kp 18 25 Ia I' ∧ Ja = J' ∧ FRk I' Ja ∧ ∃ L, zLV (Ia 3) (Ia 1 7) (FU (Ia 1 5) + 1) (Ia 1 6) (-1) L ∧ x = L a.toNat) Ra Sa) := by
  refine ct_in pn_X4 (Nat.le_of_ble_eq_true rfl) (fun X hX hT hIn => ?_)
  have hX : aK l0 X cX4_lastingOf 2 RX4 (some .int) 4 0 0 := hX
  change WW X 0 [some (kR (some 18)), some (kI a)] [] Ia Ja Ra Sa 0 0
  obtain ⟨hn1, hn2⟩ := hI.1
  obtain ⟨hk1, hk2⟩ := hI.2.1
  obtain ⟨hf1, hf2⟩ := hI.fu
  refine ww_aload_n hX (pc := 0) dX4_lastingOf_0 rfl ?_
  refine vV0 hX (pc := 1) sX4_64 (xs_18 hL) (c8_X4_fillLasting l0 hL hI hF) (by decide) (Nat.le_refl 0) (Nat.le_refl 0) (Nat.le_of_ble_eq_true rfl) dX4_lastingOf_1 (fun I_1 J_1 h_1 => ?_)
  have h_1j := h_1.2.1
  subst h_1j
  have kI_1 : Kp 18 25 Ia I_1 := Kp_tr (Kp_rf (a := 18) (b := 25)) (Kp_wd h_1.1 (by decide) (by decide))
  have r1_5_I_1 : I_1 1 5 = Ia 1 5 := Kp_at kI_1 1 5 (by decide)
  have r1_6_I_1 : I_1 1 6 = Ia 1 6 := Kp_at kI_1 1 6 (by decide)
  have rf_I_1 : FU (I_1 1 5) = FU (Ia 1 5) := by rw [r1_5_I_1]
  refine ww_aload_n hX (pc := 4) dX4_lastingOf_4 rfl ?_
  refine ww_getR hX (pc := 5) fX4_26 (by decide) (xs_18 hL) (xr_18_4 hL) dX4_lastingOf_5 ?_
  refine ww_getR hX (pc := 8) fX4_67 (by decide) (xs_22 hL) (xr_22_0 hL) dX4_lastingOf_8 ?_
  refine ww_iload_n hX (pc := 11) dX4_lastingOf_11 rfl ?_
  refine ww_iald hX (pc := 12) (xs_24 hL) (by decide) (by omega) (by omega) dX4_lastingOf_12 ?_
  refine rI hX (pc := 13) hT (Nat.le_refl 0) (Nat.le_refl 0) dX4_lastingOf_13 ?_
  exact ⟨kI_1, rfl, h_1.2.2.1, I_1 24, by have h9 := h_1.2.2.2; unfold LT at h9; rw [kI_1 3 (by decide), kI_1 1 (by decide)] at h9; exact h9, rfl⟩
/-- what a table holds can be compared -/
def TR (m : Int) (I J : aI1) (t : Nat) : Prop := (m = 1 → -100000 ≤ I 19 t ∧ I 19 t ≤ 100000) ∧ (m = 2 → -100 ≤ I 24 t ∧ I 24 t ≤ 100) ∧ (m = 3 → 0 ≤ J 28 t ∧ J 28 t ≤ 1000000000000)
theorem TR_of {m : Int} {I I' J : aI1} {t : Nat} (h : TR m I J t) (e19 : I' 19 = I 19) (e24 : I' 24 = I 24) : TR m I' J t := by
  unfold TR at h ⊢
  rw [e19, e24]
  exact h
theorem NX_k {bt : Nat → Nat → Bool} {code : Nat → Int} {g a N to : Int} {F : Nat → Int} (h : ∀ x : Nat, x < 8 → F x = fW (nxF bt code g a N x) (-1) to.toNat) (h0 : 0 ≤ to) (h1 : to < 2147483647) (a0 : 0 ≤ a) (a1 : a < 2147483648) (hs : a.toNat &&& to.toNat = a.toNat) (hn : ∀ x : Nat, x < 8 → nxF bt code g a N x (F x) to.toNat = F x) : ∀ x : Nat, x < 8 → F x = fW (nxF bt code g a N x) (-1) (i_or (to + 1) a).toNat := fun x hx => by
  rw [fW_nx h0 h1 a0 a1 hs nxF_n, ← h x hx, hn x hx]
theorem NX_u {bt : Nat → Nat → Bool} {code : Nat → Int} {g a N to : Int} {F : Nat → Int} (h : ∀ x : Nat, x < 8 → F x = fW (nxF bt code g a N x) (-1) to.toNat) (h0 : 0 ≤ to) (h1 : to < 2147483647) (a0 : 0 ≤ a) (a1 : a < 2147483648) (hs : a.toNat &&& to.toNat = a.toNat) (x0 : Int) (y0 : 0 ≤ x0) (hc : code to.toNat = x0) (hy : nxF bt code g a N x0 (F x0.toNat) to.toNat = to) : ∀ x : Nat, x < 8 → up1 F x0.toNat to x = fW (nxF bt code g a N x) (-1) (i_or (to + 1) a).toNat := fun x hx => by
  rw [fW_nx h0 h1 a0 a1 hs nxF_n, ← h x hx]
  by_cases e : x = x0.toNat
  · rw [e, up1_s, show ((x0.toNat : Nat) : Int) = x0 by omega]
    exact hy.symm
  · rw [up1_n _ _ e, nxF_x h0 (fun h9 => by have := h9.2.1; omega)]

set_option maxHeartbeats 4000000 in
set_option maxRecDepth 20000 in
theorem c8_X4_isBetter (l0 : Launch) {Ia Ja : aI1} {Ra : aR1} {Sa : aS1} (hL : LY Ra Sa) (hI : XI Ia) {a b m : Int} (ha0 : 0 ≤ a) (ha1 : a ≤ 255) (hb0 : 0 ≤ b) (hb1 : b ≤ 255) (hm0 : 0 ≤ m) (hm1 : m ≤ 3) (hta : TR m Ia Ja a.toNat) (htb : TR m Ia Ja b.toNat)  : CT l0 1 0 0 mX4_isBetter [kR (some 18), kI a, kI b, kI m] Ia Ja Ra Sa (cI (fun x I' J' => Ia = I' ∧ Ja = J' ∧ (x = 0 ∨ x = 1) ∧ (x = 1 ↔ bC m (Ia 19) (Ia 24) (Ja 28) a.toNat b.toNat = true)) Ra Sa) := by
  refine ct_in pn_X4 (Nat.le_of_ble_eq_true rfl) (fun X hX hT hIn => ?_)
  have hX : aK l0 X cX4_isBetter 4 RX4 (some .boolean) 1 0 0 := hX
  change WW X 0 [some (kR (some 18)), some (kI a), some (kI b), some (kI m)] [] Ia Ja Ra Sa 0 0
  obtain ⟨hn1, hn2⟩ := hI.1
  obtain ⟨hk1, hk2⟩ := hI.2.1
  obtain ⟨hf1, hf2⟩ := hI.fu
  have hpa := bc_pcn (a := a) (by omega) (by omega)
  have hpb := bc_pcn (a := b) (by omega) (by omega)
  have hra := pcn_r a.toNat
  have hrb := pcn_r b.toNat
  refine ww_iload_n hX (pc := 0) dX4_isBetter_0 rfl ?_
  refine ww_table hX (pc := 1) dX4_isBetter_1 130 (by decide) (fun h_1 => ?_) (fun i_1 h_1 e_1 => ?_)
  · simp only [w32_mod] at h_1
    refine ww_iload_n hX (pc := 130) dX4_isBetter_130 rfl ?_
    refine sI1 hX (pc := 131) sX4_138 (c_J6_bitCount_0f7a4 l0) (by decide) (Nat.le_refl 0) (Nat.le_refl 0) (Nat.le_of_ble_eq_true rfl) dX4_isBetter_131 (fun x_131 I_131 J_131 h_131 => ?_)
    obtain ⟨rfl, rfl, h_131⟩ := h_131
    refine ww_iload_n hX (pc := 134) dX4_isBetter_134 rfl ?_
    refine sI1 hX (pc := 135) sX4_138 (c_J6_bitCount_0f7a4 l0) (by decide) (Nat.le_refl 0) (Nat.le_refl 0) (Nat.le_of_ble_eq_true rfl) dX4_isBetter_135 (fun x_135 I_135 J_135 h_135 => ?_)
    obtain ⟨rfl, rfl, h_135⟩ := h_135
    refine ww_icmp_ge hX (pc := 138) (tgt := 145) dX4_isBetter_138 (by decide) (fun h_138 => ?_) (fun h_138 => ?_)
    · simp only [w32_mod] at h_138
      refine ww_iconst hX (pc := 145) (x := 0) dX4_isBetter_145 rfl ?_
      refine rZ hX (pc := 146) hT (Nat.le_refl 0) (Nat.le_refl 0) dX4_isBetter_146 (by decide) ?_
      refine ⟨rfl, rfl, by omega, ?_⟩
      unfold bC
      rw [if_neg (show ¬ m = 1 by omega), if_neg (show ¬ m = 2 by omega), if_neg (show ¬ m = 3 by omega), decide_eq_true_iff]
      omega
    · simp only [w32_mod] at h_138
      refine ww_iconst hX (pc := 141) (x := 1) dX4_isBetter_141 rfl ?_
      refine ww_goto hX (pc := 142) (tgt := 146) dX4_isBetter_142 (by decide) ?_
      refine rZ hX (pc := 146) hT (Nat.le_refl 0) (Nat.le_refl 0) dX4_isBetter_146 (by decide) ?_
      refine ⟨rfl, rfl, by omega, ?_⟩
      unfold bC
      rw [if_neg (show ¬ m = 1 by omega), if_neg (show ¬ m = 2 by omega), if_neg (show ¬ m = 3 by omega), decide_eq_true_iff]
      omega
  · simp only [w32_mod] at e_1
    rcases (show i_1 = 0 ∨ i_1 = 1 ∨ i_1 = 2 by omega) with rfl | rfl | rfl
    · refine ⟨27, 28, rfl, by decide, ?_⟩
      have ht1 := hta.1 (by omega)
      have ht2 := htb.1 (by omega)
      refine ww_aload_n hX (pc := 28) dX4_isBetter_28 rfl ?_
      refine ww_getR hX (pc := 29) fX4_9 (by decide) (xs_18 hL) (xr_18_1 hL) dX4_isBetter_29 ?_
      refine ww_iload_n hX (pc := 32) dX4_isBetter_32 rfl ?_
      refine ww_iald hX (pc := 33) (xs_19 hL) (by decide) (by omega) (by omega) dX4_isBetter_33 ?_
      refine ww_aload_n hX (pc := 34) dX4_isBetter_34 rfl ?_
      refine ww_getR hX (pc := 35) fX4_9 (by decide) (xs_18 hL) (xr_18_1 hL) dX4_isBetter_35 ?_
      refine ww_iload_n hX (pc := 38) dX4_isBetter_38 rfl ?_
      refine ww_iald hX (pc := 39) (xs_19 hL) (by decide) (by omega) (by omega) dX4_isBetter_39 ?_
      refine ww_icmp_ge hX (pc := 40) (tgt := 47) dX4_isBetter_40 (by decide) (fun h_40 => ?_) (fun h_40 => ?_)
      · simp only [w32_mod] at h_40
        refine ww_iconst hX (pc := 47) (x := 0) dX4_isBetter_47 rfl ?_
        refine rZ hX (pc := 48) hT (Nat.le_refl 0) (Nat.le_refl 0) dX4_isBetter_48 (by decide) ?_
        refine ⟨rfl, rfl, by omega, ?_⟩
        unfold bC
        rw [if_pos (show m = 1 by omega), decide_eq_true_iff]
        omega
      · simp only [w32_mod] at h_40
        refine ww_iconst hX (pc := 43) (x := 1) dX4_isBetter_43 rfl ?_
        refine ww_goto hX (pc := 44) (tgt := 48) dX4_isBetter_44 (by decide) ?_
        refine rZ hX (pc := 48) hT (Nat.le_refl 0) (Nat.le_refl 0) dX4_isBetter_48 (by decide) ?_
        refine ⟨rfl, rfl, by omega, ?_⟩
        unfold bC
        rw [if_pos (show m = 1 by omega), decide_eq_true_iff]
        omega
    · refine ⟨48, 49, rfl, by decide, ?_⟩
      have ht1 := hta.2.1 (by omega)
      have ht2 := htb.2.1 (by omega)
      refine ww_aload_n hX (pc := 49) dX4_isBetter_49 rfl ?_
      refine ww_getR hX (pc := 50) fX4_26 (by decide) (xs_18 hL) (xr_18_4 hL) dX4_isBetter_50 ?_
      refine ww_getR hX (pc := 53) fX4_67 (by decide) (xs_22 hL) (xr_22_0 hL) dX4_isBetter_53 ?_
      refine ww_iload_n hX (pc := 56) dX4_isBetter_56 rfl ?_
      refine ww_iald hX (pc := 57) (xs_24 hL) (by decide) (by omega) (by omega) dX4_isBetter_57 ?_
      refine ww_aload_n hX (pc := 58) dX4_isBetter_58 rfl ?_
      refine ww_getR hX (pc := 59) fX4_26 (by decide) (xs_18 hL) (xr_18_4 hL) dX4_isBetter_59 ?_
      refine ww_getR hX (pc := 62) fX4_67 (by decide) (xs_22 hL) (xr_22_0 hL) dX4_isBetter_62 ?_
      refine ww_iload_n hX (pc := 65) dX4_isBetter_65 rfl ?_
      refine ww_iald hX (pc := 66) (xs_24 hL) (by decide) (by omega) (by omega) dX4_isBetter_66 ?_
      refine ww_icmp_gt hX (pc := 67) (tgt := 102) dX4_isBetter_67 (by decide) (fun h_67 => ?_) (fun h_67 => ?_)
      · simp only [w32_mod] at h_67
        refine ww_iconst hX (pc := 102) (x := 1) dX4_isBetter_102 rfl ?_
        refine ww_goto hX (pc := 103) (tgt := 107) dX4_isBetter_103 (by decide) ?_
        refine rZ hX (pc := 107) hT (Nat.le_refl 0) (Nat.le_refl 0) dX4_isBetter_107 (by decide) ?_
        refine ⟨rfl, rfl, by omega, ?_⟩
        unfold bC
        rw [if_neg (show ¬ m = 1 by omega), if_pos (show m = 2 by omega), decide_eq_true_iff]
        omega
      · simp only [w32_mod] at h_67
        refine ww_aload_n hX (pc := 70) dX4_isBetter_70 rfl ?_
        refine ww_getR hX (pc := 71) fX4_26 (by decide) (xs_18 hL) (xr_18_4 hL) dX4_isBetter_71 ?_
        refine ww_getR hX (pc := 74) fX4_67 (by decide) (xs_22 hL) (xr_22_0 hL) dX4_isBetter_74 ?_
        refine ww_iload_n hX (pc := 77) dX4_isBetter_77 rfl ?_
        refine ww_iald hX (pc := 78) (xs_24 hL) (by decide) (by omega) (by omega) dX4_isBetter_78 ?_
        refine ww_aload_n hX (pc := 79) dX4_isBetter_79 rfl ?_
        refine ww_getR hX (pc := 80) fX4_26 (by decide) (xs_18 hL) (xr_18_4 hL) dX4_isBetter_80 ?_
        refine ww_getR hX (pc := 83) fX4_67 (by decide) (xs_22 hL) (xr_22_0 hL) dX4_isBetter_83 ?_
        refine ww_iload_n hX (pc := 86) dX4_isBetter_86 rfl ?_
        refine ww_iald hX (pc := 87) (xs_24 hL) (by decide) (by omega) (by omega) dX4_isBetter_87 ?_
        refine ww_icmp_ne hX (pc := 88) (tgt := 106) dX4_isBetter_88 (by decide) (fun h_88 => ?_) (fun h_88 => ?_)
        · simp only [w32_mod] at h_88
          refine ww_iconst hX (pc := 106) (x := 0) dX4_isBetter_106 rfl ?_
          refine rZ hX (pc := 107) hT (Nat.le_refl 0) (Nat.le_refl 0) dX4_isBetter_107 (by decide) ?_
          refine ⟨rfl, rfl, by omega, ?_⟩
          unfold bC
          rw [if_neg (show ¬ m = 1 by omega), if_pos (show m = 2 by omega), decide_eq_true_iff]
          omega
        · simp only [w32_mod] at h_88
          refine ww_iload_n hX (pc := 91) dX4_isBetter_91 rfl ?_
          refine sI1 hX (pc := 92) sX4_138 (c_J6_bitCount_0f7a4 l0) (by decide) (Nat.le_refl 0) (Nat.le_refl 0) (Nat.le_of_ble_eq_true rfl) dX4_isBetter_92 (fun x_92 I_92 J_92 h_92 => ?_)
          obtain ⟨rfl, rfl, h_92⟩ := h_92
          refine ww_iload_n hX (pc := 95) dX4_isBetter_95 rfl ?_
          refine sI1 hX (pc := 96) sX4_138 (c_J6_bitCount_0f7a4 l0) (by decide) (Nat.le_refl 0) (Nat.le_refl 0) (Nat.le_of_ble_eq_true rfl) dX4_isBetter_96 (fun x_96 I_96 J_96 h_96 => ?_)
          obtain ⟨rfl, rfl, h_96⟩ := h_96
          refine ww_icmp_ge hX (pc := 99) (tgt := 106) dX4_isBetter_99 (by decide) (fun h_99 => ?_) (fun h_99 => ?_)
          · simp only [w32_mod] at h_99
            refine ww_iconst hX (pc := 106) (x := 0) dX4_isBetter_106 rfl ?_
            refine rZ hX (pc := 107) hT (Nat.le_refl 0) (Nat.le_refl 0) dX4_isBetter_107 (by decide) ?_
            refine ⟨rfl, rfl, by omega, ?_⟩
            unfold bC
            rw [if_neg (show ¬ m = 1 by omega), if_pos (show m = 2 by omega), decide_eq_true_iff]
            omega
          · simp only [w32_mod] at h_99
            refine ww_iconst hX (pc := 102) (x := 1) dX4_isBetter_102 rfl ?_
            refine ww_goto hX (pc := 103) (tgt := 107) dX4_isBetter_103 (by decide) ?_
            refine rZ hX (pc := 107) hT (Nat.le_refl 0) (Nat.le_refl 0) dX4_isBetter_107 (by decide) ?_
            refine ⟨rfl, rfl, by omega, ?_⟩
            unfold bC
            rw [if_neg (show ¬ m = 1 by omega), if_pos (show m = 2 by omega), decide_eq_true_iff]
            omega
    · refine ⟨107, 108, rfl, by decide, ?_⟩
      have ht1 := hta.2.2 (by omega)
      have ht2 := htb.2.2 (by omega)
      have hlc := l_cmp_v (Ja 28 a.toNat) (Ja 28 b.toNat)
      rw [w64_id (x := Ja 28 a.toNat) (by omega) (by omega), w64_id (x := Ja 28 b.toNat) (by omega) (by omega)] at hlc
      refine ww_aload_n hX (pc := 108) dX4_isBetter_108 rfl ?_
      refine ww_getR hX (pc := 109) fX4_33 (by decide) (xs_18 hL) (xr_18_6 hL) dX4_isBetter_109 ?_
      refine ww_iload_n hX (pc := 112) dX4_isBetter_112 rfl ?_
      refine ww_lald hX (pc := 113) (xs_28 hL) (by decide) (by omega) (by omega) dX4_isBetter_113 ?_
      refine ww_aload_n hX (pc := 114) dX4_isBetter_114 rfl ?_
      refine ww_getR hX (pc := 115) fX4_33 (by decide) (xs_18 hL) (xr_18_6 hL) dX4_isBetter_115 ?_
      refine ww_iload_n hX (pc := 118) dX4_isBetter_118 rfl ?_
      refine ww_lald hX (pc := 119) (xs_28 hL) (by decide) (by omega) (by omega) dX4_isBetter_119 ?_
      refine ww_lcmp hX (pc := 120) dX4_isBetter_120 ?_
      refine ww_if_le hX (pc := 121) (tgt := 128) dX4_isBetter_121 (by decide) (fun h_121 => ?_) (fun h_121 => ?_)
      · simp only [w32_mod] at h_121
        refine ww_iconst hX (pc := 128) (x := 0) dX4_isBetter_128 rfl ?_
        refine rZ hX (pc := 129) hT (Nat.le_refl 0) (Nat.le_refl 0) dX4_isBetter_129 (by decide) ?_
        refine ⟨rfl, rfl, by omega, ?_⟩
        unfold bC
        rw [if_neg (show ¬ m = 1 by omega), if_neg (show ¬ m = 2 by omega), if_pos (show m = 3 by omega), decide_eq_true_iff]
        omega
      · simp only [w32_mod] at h_121
        refine ww_iconst hX (pc := 124) (x := 1) dX4_isBetter_124 rfl ?_
        refine ww_goto hX (pc := 125) (tgt := 129) dX4_isBetter_125 (by decide) ?_
        refine rZ hX (pc := 129) hT (Nat.le_refl 0) (Nat.le_refl 0) dX4_isBetter_129 (by decide) ?_
        refine ⟨rfl, rfl, by omega, ?_⟩
        unfold bC
        rw [if_neg (show ¬ m = 1 by omega), if_neg (show ¬ m = 2 by omega), if_pos (show m = 3 by omega), decide_eq_true_iff]
        omega
set_option maxHeartbeats 4000000 in
set_option maxRecDepth 20000 in
theorem c8_X4_chooseAll (l0 : Launch) {Ia Ja : aI1} {Ra : aR1} {Sa : aS1} (hL : LY Ra Sa) (hI : XI Ia) {a m : Int} (ha0 : 0 ≤ a) (ha1 : a ≤ FU (Ia 1 5)) (hm0 : 0 ≤ m) (hm1 : m ≤ 3) (hTR : ∀ t : Nat, (t : Int) ≤ FU (Ia 1 5) → TR m Ia Ja t)  : CT l0 2 0 0 mX4_chooseAll [kR (some 18), kI a, kI m] Ia Ja Ra Sa (cV (fun I' J' => Kp 21 22 Ia I' ∧ Ja = J' ∧ (∀ x : Nat, x < 8 → I' 21 x = NX (bC m (Ia 19) (Ia 24) (Ja 28)) (Ia 3) (Ia 1 7) a (FU (Ia 1 5) + 1) x) ∧ (∀ x, x < 8 → -1 ≤ I' 21 x ∧ I' 21 x ≤ FU (Ia 1 5))) Ra Sa) := by
  refine ct_in pn_X4 (Nat.le_of_ble_eq_true rfl) (fun X hX hT hIn => ?_)
  have hX : aK l0 X cX4_chooseAll 6 RX4 none 2 0 0 := hX
  change WW X 0 [some (kR (some 18)), some (kI a), some (kI m), none, none, none] [] Ia Ja Ra Sa 0 0
  obtain ⟨hn1, hn2⟩ := hI.1
  obtain ⟨hk1, hk2⟩ := hI.2.1
  obtain ⟨hf1, hf2⟩ := hI.fu
  refine ww_aload_n hX (pc := 0) dX4_chooseAll_0 rfl ?_
  refine ww_getR hX (pc := 1) fX4_18 (by decide) (xs_18 hL) (xr_18_3 hL) dX4_chooseAll_1 ?_
  refine ww_iconst hX (pc := 4) (x := (-1)) dX4_chooseAll_4 rfl ?_
  refine sV2 hX (pc := 5) sX4_106 (c_J7_fill_53178 l0 (xs_21 hL) (by decide)) (by decide) (Nat.le_refl 0) (Nat.le_refl 0) (Nat.le_of_ble_eq_true rfl) dX4_chooseAll_5 (fun I_5 J_5 h_5 => ?_)
  obtain ⟨rfl, eI_5⟩ := h_5
  have kI_5 : Kp 21 22 Ia I_5 := by rw [eI_5]; exact Kp_upR (Kp_rf (a := 21) (b := 22)) _ (by decide)
  have r1_5_I_5 : I_5 1 5 = Ia 1 5 := Kp_at kI_5 1 5 (by decide)
  have r1_6_I_5 : I_5 1 6 = Ia 1 6 := Kp_at kI_5 1 6 (by decide)
  have rf_I_5 : FU (I_5 1 5) = FU (Ia 1 5) := by rw [r1_5_I_5]
  refine ww_aload_n hX (pc := 8) dX4_chooseAll_8 rfl ?_
  refine ww_getR hX (pc := 9) fX4_47 (by decide) (xs_18 hL) (xr_18_0 hL) dX4_chooseAll_9 ?_
  refine vI0 hX (pc := 12) sX4_75 (xs_1 hL) (c_X1_full l0 hL (XI_kp hI kI_5 (by decide))) (by decide) (Nat.le_refl 0) (Nat.le_refl 0) (Nat.le_of_ble_eq_true rfl) dX4_chooseAll_12 (fun x_12 I_12 J_12 h_12 => ?_)
  obtain ⟨rfl, rfl, h_12⟩ := h_12
  refine ww_istore_n hX (pc := 15) (lv' := [some (kR (some 18)), some (kI a), some (kI m), some (kI x_12), none, none]) dX4_chooseAll_15 (by decide) rfl rfl ?_
  refine ww_iload_n hX (pc := 16) dX4_chooseAll_16 rfl ?_
  refine ww_istore hX (pc := 17) (lv' := [some (kR (some 18)), some (kI a), some (kI m), some (kI x_12), some (kI a), none]) dX4_chooseAll_17 (by decide) rfl rfl ?_
  have hl_19 : ∀ (n_19 : Nat) (to : Int) (I2 : aI1), (x_12 + 1 - to).toNat = n_19 → (Kp 21 22 Ia I2 ∧ (0 ≤ to ∧ to < 2147483648) ∧ a.toNat &&& to.toNat = a.toNat ∧ (∀ x : Nat, x < 8 → I2 21 x = fW (nxF (bC m (Ia 19) (Ia 24) (Ja 28)) (Ia 3) (Ia 1 7) a (FU (Ia 1 5) + 1) x) (-1) (to).toNat) ∧ (∀ x, x < 8 → -1 ≤ I2 21 x ∧ I2 21 x ≤ FU (Ia 1 5))) → WW X 19 [some (kR (some 18)), some (kI a), some (kI m), some (kI x_12), some (kI to), none] [] I2 Ja Ra Sa 0 0 := by
    intro n_19
    induction n_19 using Nat.strongRecOn with
    | ind n_19 ih_19 =>
      intro to I2 hm_19 hv_19
      have hq_19 := Sh0_i hm_19
      clear hm_19
      obtain ⟨kI2, hto, hsu, hfx, hcr⟩ := hv_19
      have r1_5_I2 : I2 1 5 = Ia 1 5 := Kp_at kI2 1 5 (by decide)
      have r1_6_I2 : I2 1 6 = Ia 1 6 := Kp_at kI2 1 6 (by decide)
      have rf_I2 : FU (I2 1 5) = FU (Ia 1 5) := by rw [r1_5_I2]
      refine ww_iload hX (pc := 19) dX4_chooseAll_19 rfl ?_
      refine ww_iload_n hX (pc := 21) dX4_chooseAll_21 rfl ?_
      refine ww_icmp_gt hX (pc := 22) (tgt := 110) dX4_chooseAll_22 (by decide) (fun h_22 => ?_) (fun h_22 => ?_)
      · simp only [w32_mod] at h_22
        refine rV hX (pc := 110) hT (Nat.le_refl 0) (Nat.le_refl 0) dX4_chooseAll_110 ?_
        exact ⟨kI2, rfl, fun x hx => by rw [hfx x hx]; exact fW_N (by omega) (fun v t h => nxF_N v t (by omega)), hcr⟩
      · simp only [w32_mod] at h_22
        have hcd := hI.2.2.2.2.2.2.2.2.2.1 to.toNat (by omega)
        have hto9 : to < 256 := by omega
        refine ww_aload_n hX (pc := 25) dX4_chooseAll_25 rfl ?_
        refine ww_getR hX (pc := 26) fX4_47 (by decide) (xs_18 hL) (xr_18_0 hL) dX4_chooseAll_26 ?_
        refine ww_getR hX (pc := 29) fX4_70 (by decide) (xs_1 hL) (xr_1_1 hL) dX4_chooseAll_29 ?_
        refine ww_iload hX (pc := 32) dX4_chooseAll_32 rfl ?_
        refine ww_iald hX (pc := 34) (xs_3 hL) (by decide) (by omega) (by omega) dX4_chooseAll_34 ?_
        refine ww_nmI (fun v_35 hv_35 => ?_)
        refine ww_istore hX (pc := 35) (lv' := [some (kR (some 18)), some (kI a), some (kI m), some (kI x_12), some (kI to), some (kI v_35)]) dX4_chooseAll_35 (by decide) rfl rfl ?_
        have hv35 : v_35 = Ia 3 to.toNat := by rw [hv_35, kI2 3 (by decide)]
        refine ww_iload hX (pc := 37) dX4_chooseAll_37 rfl ?_
        refine ww_if_lt hX (pc := 39) (tgt := 99) dX4_chooseAll_39 (by decide) (fun h_39 => ?_) (fun h_39 => ?_)
        · simp only [w32_mod] at h_39
          have hfx2 : (∀ x : Nat, x < 8 → I2 21 x = fW (nxF (bC m (Ia 19) (Ia 24) (Ja 28)) (Ia 3) (Ia 1 7) a (FU (Ia 1 5) + 1) x) (-1) (i_or (to + 1) a).toNat) := NX_k hfx (by omega) (by omega) (by omega) (by omega) hsu (fun x hx => nxF_x (by omega) (fun h9 => by
            have := h9.2.1; omega))
          refine ww_iload hX (pc := 99) dX4_chooseAll_99 rfl ?_
          refine ww_iconst hX (pc := 101) (x := 1) dX4_chooseAll_101 rfl ?_
          refine ww_iadd hX (pc := 102) dX4_chooseAll_102 ?_
          refine ww_iload_n hX (pc := 103) dX4_chooseAll_103 rfl ?_
          refine ww_ior hX (pc := 104) dX4_chooseAll_104 ?_
          refine ww_nmI (fun v_105 hv_105 => ?_)
          refine ww_istore hX (pc := 105) (lv' := [some (kR (some 18)), some (kI a), some (kI m), some (kI x_12), some (kI v_105), some (kI v_35)]) dX4_chooseAll_105 (by decide) rfl rfl ?_
          refine ww_goto hX (pc := 107) (tgt := 19) dX4_chooseAll_107 (by decide) ?_
          refine ww_sub [some (kR (some 18)), some (kI a), some (kI m), some (kI x_12), some (kI v_105), none] (aLe_s (aLe_s (aLe_s (aLe_s (aLe_s (aLe_n aLe_0)))))) ?_
          have hor := i_or_ge (a := to + 1) (b := a) (by omega) (by omega) (by omega) (by omega)
          exact ih_19 _ (by have hm9 := Sh0_e hq_19; omega) v_105 I2 rfl ⟨kI2, ⟨by omega, by omega⟩, by rw [hv_105]; exact or_nx_sub (by omega) (by omega) (by omega) (by omega), by rw [hv_105]; exact hfx2, hcr⟩
        · simp only [w32_mod] at h_39
          refine ww_iload hX (pc := 42) dX4_chooseAll_42 rfl ?_
          refine ww_bipush hX (pc := 44) (x := 8) dX4_chooseAll_44 (by decide) ?_
          refine ww_icmp_ge hX (pc := 46) (tgt := 99) dX4_chooseAll_46 (by decide) (fun h_46 => ?_) (fun h_46 => ?_)
          · simp only [w32_mod] at h_46
            have hfx2 : (∀ x : Nat, x < 8 → I2 21 x = fW (nxF (bC m (Ia 19) (Ia 24) (Ja 28)) (Ia 3) (Ia 1 7) a (FU (Ia 1 5) + 1) x) (-1) (i_or (to + 1) a).toNat) := NX_k hfx (by omega) (by omega) (by omega) (by omega) hsu (fun x hx => nxF_x (by omega) (fun h9 => by
              have := h9.2.1; omega))
            refine ww_iload hX (pc := 99) dX4_chooseAll_99 rfl ?_
            refine ww_iconst hX (pc := 101) (x := 1) dX4_chooseAll_101 rfl ?_
            refine ww_iadd hX (pc := 102) dX4_chooseAll_102 ?_
            refine ww_iload_n hX (pc := 103) dX4_chooseAll_103 rfl ?_
            refine ww_ior hX (pc := 104) dX4_chooseAll_104 ?_
            refine ww_nmI (fun v_105 hv_105 => ?_)
            refine ww_istore hX (pc := 105) (lv' := [some (kR (some 18)), some (kI a), some (kI m), some (kI x_12), some (kI v_105), some (kI v_35)]) dX4_chooseAll_105 (by decide) rfl rfl ?_
            refine ww_goto hX (pc := 107) (tgt := 19) dX4_chooseAll_107 (by decide) ?_
            refine ww_sub [some (kR (some 18)), some (kI a), some (kI m), some (kI x_12), some (kI v_105), none] (aLe_s (aLe_s (aLe_s (aLe_s (aLe_s (aLe_n aLe_0)))))) ?_
            have hor := i_or_ge (a := to + 1) (b := a) (by omega) (by omega) (by omega) (by omega)
            exact ih_19 _ (by have hm9 := Sh0_e hq_19; omega) v_105 I2 rfl ⟨kI2, ⟨by omega, by omega⟩, by rw [hv_105]; exact or_nx_sub (by omega) (by omega) (by omega) (by omega), by rw [hv_105]; exact hfx2, hcr⟩
          · simp only [w32_mod] at h_46
            refine ww_aload_n hX (pc := 49) dX4_chooseAll_49 rfl ?_
            refine ww_getR hX (pc := 50) fX4_47 (by decide) (xs_18 hL) (xr_18_0 hL) dX4_chooseAll_50 ?_
            refine ww_iload_n hX (pc := 53) dX4_chooseAll_53 rfl ?_
            refine ww_iload hX (pc := 54) dX4_chooseAll_54 rfl ?_
            refine vI2 hX (pc := 56) sX4_111 (xs_1 hL) (c7_X1_canLight l0 hL (XI_kp hI kI2 (by decide))) (by decide) (Nat.le_refl 0) (Nat.le_refl 0) (Nat.le_of_ble_eq_true rfl) dX4_chooseAll_56 (fun x_56 I_56 J_56 h_56 => ?_)
            obtain ⟨rfl, rfl, h_56⟩ := h_56
            rw [kI2 1 (by decide)] at h_56
            refine ww_if_eq hX (pc := 59) (tgt := 99) dX4_chooseAll_59 (by decide) (fun h_59 => ?_) (fun h_59 => ?_)
            · simp only [w32_mod] at h_59
              have hfx2 : (∀ x : Nat, x < 8 → I2 21 x = fW (nxF (bC m (Ia 19) (Ia 24) (Ja 28)) (Ia 3) (Ia 1 7) a (FU (Ia 1 5) + 1) x) (-1) (i_or (to + 1) a).toNat) := NX_k hfx (by omega) (by omega) (by omega) (by omega) hsu (fun x hx => nxF_x (by omega) (fun h9 => by
                have := h_56.2.mpr h9.1; omega))
              refine ww_iload hX (pc := 99) dX4_chooseAll_99 rfl ?_
              refine ww_iconst hX (pc := 101) (x := 1) dX4_chooseAll_101 rfl ?_
              refine ww_iadd hX (pc := 102) dX4_chooseAll_102 ?_
              refine ww_iload_n hX (pc := 103) dX4_chooseAll_103 rfl ?_
              refine ww_ior hX (pc := 104) dX4_chooseAll_104 ?_
              refine ww_nmI (fun v_105 hv_105 => ?_)
              refine ww_istore hX (pc := 105) (lv' := [some (kR (some 18)), some (kI a), some (kI m), some (kI x_12), some (kI v_105), some (kI v_35)]) dX4_chooseAll_105 (by decide) rfl rfl ?_
              refine ww_goto hX (pc := 107) (tgt := 19) dX4_chooseAll_107 (by decide) ?_
              refine ww_sub [some (kR (some 18)), some (kI a), some (kI m), some (kI x_12), some (kI v_105), none] (aLe_s (aLe_s (aLe_s (aLe_s (aLe_s (aLe_n aLe_0)))))) ?_
              have hor := i_or_ge (a := to + 1) (b := a) (by omega) (by omega) (by omega) (by omega)
              exact ih_19 _ (by have hm9 := Sh0_e hq_19; omega) v_105 I2 rfl ⟨kI2, ⟨by omega, by omega⟩, by rw [hv_105]; exact or_nx_sub (by omega) (by omega) (by omega) (by omega), by rw [hv_105]; exact hfx2, hcr⟩
            · simp only [w32_mod] at h_59
              have hc8 := hcr v_35.toNat (by omega)
              refine ww_aload_n hX (pc := 62) dX4_chooseAll_62 rfl ?_
              refine ww_getR hX (pc := 63) fX4_18 (by decide) (xs_18 hL) (xr_18_3 hL) dX4_chooseAll_63 ?_
              refine ww_iload hX (pc := 66) dX4_chooseAll_66 rfl ?_
              refine ww_iald hX (pc := 68) (xs_21 hL) (by decide) (by omega) (by omega) dX4_chooseAll_68 ?_
              refine ww_iconst hX (pc := 69) (x := (-1)) dX4_chooseAll_69 rfl ?_
              refine ww_icmp_eq hX (pc := 70) (tgt := 90) dX4_chooseAll_70 (by decide) (fun h_70 => ?_) (fun h_70 => ?_)
              · simp only [w32_mod] at h_70
                have hyy : nxF (bC m (Ia 19) (Ia 24) (Ja 28)) (Ia 3) (Ia 1 7) a (FU (Ia 1 5) + 1) v_35 (I2 21 v_35.toNat) to.toNat = to := nxF_y (by omega) (by omega) hsu (h_56.2.mp (by omega)) (by omega) (Or.inl (by omega))
                refine ww_aload_n hX (pc := 90) dX4_chooseAll_90 rfl ?_
                refine ww_getR hX (pc := 91) fX4_18 (by decide) (xs_18 hL) (xr_18_3 hL) dX4_chooseAll_91 ?_
                refine ww_iload hX (pc := 94) dX4_chooseAll_94 rfl ?_
                refine ww_iload hX (pc := 96) dX4_chooseAll_96 rfl ?_
                refine ww_iast hX (pc := 98) (xs_21 hL) (by decide) (by omega) (by omega) dX4_chooseAll_98 ?_
                refine ww_nmH (fun I_98 eI_98 => ?_)
                have kI_98 : Kp 21 22 Ia I_98 := by rw [eI_98]; exact Kp_up kI2 _ _ (by decide)
                have r1_5_I_98 : I_98 1 5 = Ia 1 5 := Kp_at kI_98 1 5 (by decide)
                have r1_6_I_98 : I_98 1 6 = Ia 1 6 := Kp_at kI_98 1 6 (by decide)
                have rf_I_98 : FU (I_98 1 5) = FU (Ia 1 5) := by rw [r1_5_I_98]
                refine ww_iload hX (pc := 99) dX4_chooseAll_99 rfl ?_
                refine ww_iconst hX (pc := 101) (x := 1) dX4_chooseAll_101 rfl ?_
                refine ww_iadd hX (pc := 102) dX4_chooseAll_102 ?_
                refine ww_iload_n hX (pc := 103) dX4_chooseAll_103 rfl ?_
                refine ww_ior hX (pc := 104) dX4_chooseAll_104 ?_
                refine ww_nmI (fun v_105 hv_105 => ?_)
                refine ww_istore hX (pc := 105) (lv' := [some (kR (some 18)), some (kI a), some (kI m), some (kI x_12), some (kI v_105), some (kI v_35)]) dX4_chooseAll_105 (by decide) rfl rfl ?_
                refine ww_goto hX (pc := 107) (tgt := 19) dX4_chooseAll_107 (by decide) ?_
                refine ww_sub [some (kR (some 18)), some (kI a), some (kI m), some (kI x_12), some (kI v_105), none] (aLe_s (aLe_s (aLe_s (aLe_s (aLe_s (aLe_n aLe_0)))))) ?_
                have hor := i_or_ge (a := to + 1) (b := a) (by omega) (by omega) (by omega) (by omega)
                have hfx2 : (∀ x : Nat, x < 8 → I_98 21 x = fW (nxF (bC m (Ia 19) (Ia 24) (Ja 28)) (Ia 3) (Ia 1 7) a (FU (Ia 1 5) + 1) x) (-1) (i_or (to + 1) a).toNat) := by
                  rw [eI_98, up2_row]
                  exact NX_u hfx (by omega) (by omega) (by omega) (by omega) hsu v_35 (by omega) (by omega) hyy
                have hcr2 : ∀ x, x < 8 → -1 ≤ I_98 21 x ∧ I_98 21 x ≤ FU (Ia 1 5) := by rw [eI_98]; exact rng_up (by omega) hcr
                exact ih_19 _ (by have hm9 := Sh0_e hq_19; omega) v_105 I_98 rfl ⟨kI_98, ⟨by omega, by omega⟩, by rw [hv_105]; exact or_nx_sub (by omega) (by omega) (by omega) (by omega), by rw [hv_105]; exact hfx2, hcr2⟩
              · simp only [w32_mod] at h_70
                refine ww_aload_n hX (pc := 73) dX4_chooseAll_73 rfl ?_
                refine ww_iload hX (pc := 74) dX4_chooseAll_74 rfl ?_
                refine ww_aload_n hX (pc := 76) dX4_chooseAll_76 rfl ?_
                refine ww_getR hX (pc := 77) fX4_18 (by decide) (xs_18 hL) (xr_18_3 hL) dX4_chooseAll_77 ?_
                refine ww_iload hX (pc := 80) dX4_chooseAll_80 rfl ?_
                refine ww_iald hX (pc := 82) (xs_21 hL) (by decide) (by omega) (by omega) dX4_chooseAll_82 ?_
                refine ww_iload_n hX (pc := 83) dX4_chooseAll_83 rfl ?_
                refine vI3 hX (pc := 84) sX4_115 (xs_18 hL) (c8_X4_isBetter l0 hL (XI_kp hI kI2 (by decide)) (by omega) (by omega) (by omega) (by omega) (by omega) (by omega) (TR_of (hTR to.toNat (by omega)) (kI2 19 (by decide)) (kI2 24 (by decide))) (TR_of (hTR (I2 21 v_35.toNat).toNat (by omega)) (kI2 19 (by decide)) (kI2 24 (by decide)))) (by decide) (Nat.le_refl 0) (Nat.le_refl 0) (Nat.le_of_ble_eq_true rfl) dX4_chooseAll_84 (fun x_84 I_84 J_84 h_84 => ?_)
                obtain ⟨rfl, rfl, h_84⟩ := h_84
                rw [kI2 19 (by decide), kI2 24 (by decide)] at h_84
                refine ww_if_eq hX (pc := 87) (tgt := 99) dX4_chooseAll_87 (by decide) (fun h_87 => ?_) (fun h_87 => ?_)
                · simp only [w32_mod] at h_87
                  have hfx2 : (∀ x : Nat, x < 8 → I2 21 x = fW (nxF (bC m (Ia 19) (Ia 24) (Ja 28)) (Ia 3) (Ia 1 7) a (FU (Ia 1 5) + 1) x) (-1) (i_or (to + 1) a).toNat) := NX_k hfx (by omega) (by omega) (by omega) (by omega) hsu (fun x hx => nxF_x (by omega) (fun h9 => by
                    have g1 := h9.2.1
                    have g2 : x = v_35.toNat := by omega
                    rcases h9.2.2 with g3 | g3
                    · rw [g2] at g3; omega
                    · rw [g2] at g3; have := h_84.2.mpr g3; omega))
                  refine ww_iload hX (pc := 99) dX4_chooseAll_99 rfl ?_
                  refine ww_iconst hX (pc := 101) (x := 1) dX4_chooseAll_101 rfl ?_
                  refine ww_iadd hX (pc := 102) dX4_chooseAll_102 ?_
                  refine ww_iload_n hX (pc := 103) dX4_chooseAll_103 rfl ?_
                  refine ww_ior hX (pc := 104) dX4_chooseAll_104 ?_
                  refine ww_nmI (fun v_105 hv_105 => ?_)
                  refine ww_istore hX (pc := 105) (lv' := [some (kR (some 18)), some (kI a), some (kI m), some (kI x_12), some (kI v_105), some (kI v_35)]) dX4_chooseAll_105 (by decide) rfl rfl ?_
                  refine ww_goto hX (pc := 107) (tgt := 19) dX4_chooseAll_107 (by decide) ?_
                  refine ww_sub [some (kR (some 18)), some (kI a), some (kI m), some (kI x_12), some (kI v_105), none] (aLe_s (aLe_s (aLe_s (aLe_s (aLe_s (aLe_n aLe_0)))))) ?_
                  have hor := i_or_ge (a := to + 1) (b := a) (by omega) (by omega) (by omega) (by omega)
                  exact ih_19 _ (by have hm9 := Sh0_e hq_19; omega) v_105 I2 rfl ⟨kI2, ⟨by omega, by omega⟩, by rw [hv_105]; exact or_nx_sub (by omega) (by omega) (by omega) (by omega), by rw [hv_105]; exact hfx2, hcr⟩
                · simp only [w32_mod] at h_87
                  have hyy : nxF (bC m (Ia 19) (Ia 24) (Ja 28)) (Ia 3) (Ia 1 7) a (FU (Ia 1 5) + 1) v_35 (I2 21 v_35.toNat) to.toNat = to := nxF_y (by omega) (by omega) hsu (h_56.2.mp (by omega)) (by omega) (Or.inr (h_84.2.mp (by omega)))
                  refine ww_aload_n hX (pc := 90) dX4_chooseAll_90 rfl ?_
                  refine ww_getR hX (pc := 91) fX4_18 (by decide) (xs_18 hL) (xr_18_3 hL) dX4_chooseAll_91 ?_
                  refine ww_iload hX (pc := 94) dX4_chooseAll_94 rfl ?_
                  refine ww_iload hX (pc := 96) dX4_chooseAll_96 rfl ?_
                  refine ww_iast hX (pc := 98) (xs_21 hL) (by decide) (by omega) (by omega) dX4_chooseAll_98 ?_
                  refine ww_nmH (fun I_98 eI_98 => ?_)
                  have kI_98 : Kp 21 22 Ia I_98 := by rw [eI_98]; exact Kp_up kI2 _ _ (by decide)
                  have r1_5_I_98 : I_98 1 5 = Ia 1 5 := Kp_at kI_98 1 5 (by decide)
                  have r1_6_I_98 : I_98 1 6 = Ia 1 6 := Kp_at kI_98 1 6 (by decide)
                  have rf_I_98 : FU (I_98 1 5) = FU (Ia 1 5) := by rw [r1_5_I_98]
                  refine ww_iload hX (pc := 99) dX4_chooseAll_99 rfl ?_
                  refine ww_iconst hX (pc := 101) (x := 1) dX4_chooseAll_101 rfl ?_
                  refine ww_iadd hX (pc := 102) dX4_chooseAll_102 ?_
                  refine ww_iload_n hX (pc := 103) dX4_chooseAll_103 rfl ?_
                  refine ww_ior hX (pc := 104) dX4_chooseAll_104 ?_
                  refine ww_nmI (fun v_105 hv_105 => ?_)
                  refine ww_istore hX (pc := 105) (lv' := [some (kR (some 18)), some (kI a), some (kI m), some (kI x_12), some (kI v_105), some (kI v_35)]) dX4_chooseAll_105 (by decide) rfl rfl ?_
                  refine ww_goto hX (pc := 107) (tgt := 19) dX4_chooseAll_107 (by decide) ?_
                  refine ww_sub [some (kR (some 18)), some (kI a), some (kI m), some (kI x_12), some (kI v_105), none] (aLe_s (aLe_s (aLe_s (aLe_s (aLe_s (aLe_n aLe_0)))))) ?_
                  have hor := i_or_ge (a := to + 1) (b := a) (by omega) (by omega) (by omega) (by omega)
                  have hfx2 : (∀ x : Nat, x < 8 → I_98 21 x = fW (nxF (bC m (Ia 19) (Ia 24) (Ja 28)) (Ia 3) (Ia 1 7) a (FU (Ia 1 5) + 1) x) (-1) (i_or (to + 1) a).toNat) := by
                    rw [eI_98, up2_row]
                    exact NX_u hfx (by omega) (by omega) (by omega) (by omega) hsu v_35 (by omega) (by omega) hyy
                  have hcr2 : ∀ x, x < 8 → -1 ≤ I_98 21 x ∧ I_98 21 x ≤ FU (Ia 1 5) := by rw [eI_98]; exact rng_up (by omega) hcr
                  exact ih_19 _ (by have hm9 := Sh0_e hq_19; omega) v_105 I_98 rfl ⟨kI_98, ⟨by omega, by omega⟩, by rw [hv_105]; exact or_nx_sub (by omega) (by omega) (by omega) (by omega), by rw [hv_105]; exact hfx2, hcr2⟩
  exact hl_19 _ a I_5 rfl ⟨kI_5, ⟨by omega, by omega⟩, Nat.and_self _, fun x hx => by rw [eI_5, upR_s, if_pos hx]; exact (fW_e nxF_n).symm, fun j hj => by rw [eI_5, upR_s, if_pos hj]; omega⟩
set_option maxHeartbeats 4000000 in
set_option maxRecDepth 20000 in
theorem c8_X4_choose (l0 : Launch) {Ia Ja : aI1} {Ra : aR1} {Sa : aS1} (hL : LY Ra Sa) (hI : XI Ia) {a w m : Int} (ha0 : 0 ≤ a) (ha1 : a ≤ FU (Ia 1 5)) (hw0 : 0 ≤ w) (hw1 : w < 8) (hm0 : 0 ≤ m) (hm1 : m ≤ 3) (hTR : ∀ t : Nat, (t : Int) ≤ FU (Ia 1 5) → TR m Ia Ja t)  : CT l0 3 0 0 mX4_choose [kR (some 18), kI a, kI w, kI m] Ia Ja Ra Sa (cI (fun x I' J' => Kp 21 22 Ia I' ∧ Ja = J' ∧ x = NX (bC m (Ia 19) (Ia 24) (Ja 28)) (Ia 3) (Ia 1 7) a (FU (Ia 1 5) + 1) w) Ra Sa) := by
  refine ct_in pn_X4 (Nat.le_of_ble_eq_true rfl) (fun X hX hT hIn => ?_)
  have hX : aK l0 X cX4_choose 4 RX4 (some .int) 3 0 0 := hX
  change WW X 0 [some (kR (some 18)), some (kI a), some (kI w), some (kI m)] [] Ia Ja Ra Sa 0 0
  obtain ⟨hn1, hn2⟩ := hI.1
  obtain ⟨hk1, hk2⟩ := hI.2.1
  obtain ⟨hf1, hf2⟩ := hI.fu
  refine ww_aload_n hX (pc := 0) dX4_choose_0 rfl ?_
  refine ww_iload_n hX (pc := 1) dX4_choose_1 rfl ?_
  refine ww_iload_n hX (pc := 2) dX4_choose_2 rfl ?_
  refine vV2 hX (pc := 3) sX4_102 (xs_18 hL) (c8_X4_chooseAll l0 hL hI (by omega) (by omega) (by omega) (by omega) hTR) (by decide) (Nat.le_refl 0) (Nat.le_refl 0) (Nat.le_of_ble_eq_true rfl) dX4_choose_3 (fun I_3 J_3 h_3 => ?_)
  have h_3j := h_3.2.1
  subst h_3j
  have kI_3 : Kp 21 22 Ia I_3 := Kp_tr (Kp_rf (a := 21) (b := 22)) (Kp_wd h_3.1 (by decide) (by decide))
  have r1_5_I_3 : I_3 1 5 = Ia 1 5 := Kp_at kI_3 1 5 (by decide)
  have r1_6_I_3 : I_3 1 6 = Ia 1 6 := Kp_at kI_3 1 6 (by decide)
  have rf_I_3 : FU (I_3 1 5) = FU (Ia 1 5) := by rw [r1_5_I_3]
  refine ww_aload_n hX (pc := 6) dX4_choose_6 rfl ?_
  refine ww_getR hX (pc := 7) fX4_18 (by decide) (xs_18 hL) (xr_18_3 hL) dX4_choose_7 ?_
  refine ww_iload_n hX (pc := 10) dX4_choose_10 rfl ?_
  refine ww_iald hX (pc := 11) (xs_21 hL) (by decide) (by omega) (by omega) dX4_choose_11 ?_
  refine rI hX (pc := 12) hT (Nat.le_refl 0) (Nat.le_refl 0) dX4_choose_12 ?_
  exact ⟨kI_3, rfl, by rw [h_3.2.2.1 w.toNat (by omega), show ((w.toNat : Nat) : Int) = w by omega]⟩
set_option maxHeartbeats 4000000 in
set_option maxRecDepth 20000 in
theorem c8_X4_wouldLight (l0 : Launch) {Ia Ja : aI1} {Ra : aR1} {Sa : aS1} (hL : LY Ra Sa) (hI : XI Ia) {a b m : Int} (ha0 : -2147483648 ≤ a) (ha1 : a < 2147483648) (hb0 : -2147483648 ≤ b) (hb1 : b < 2147483648) (hm0 : 0 ≤ m) (hm1 : m ≤ 3) (hTR : ∀ t : Nat, (t : Int) ≤ FU (Ia 1 5) → TR m Ia Ja t)  : CT l0 4 0 0 mX4_wouldLight [kR (some 18), kI a, kI b, kI m] Ia Ja Ra Sa (cI (fun x I' J' => Kp 21 22 Ia I' ∧ Ja = J' ∧ (x = 0 ∨ x = 1) ∧ (x = 1 ↔ (0 ≤ a ∧ a ≤ FU (Ia 1 5) ∧ 0 ≤ b ∧ b ≤ FU (Ia 1 5) ∧ ¬ Ia 3 b.toNat = -1 ∧ NX (bC m (Ia 19) (Ia 24) (Ja 28)) (Ia 3) (Ia 1 7) a (FU (Ia 1 5) + 1) (Ia 3 b.toNat) = b))) Ra Sa) := by
  refine ct_in pn_X4 (Nat.le_of_ble_eq_true rfl) (fun X hX hT hIn => ?_)
  have hX : aK l0 X cX4_wouldLight 5 RX4 (some .boolean) 4 0 0 := hX
  change WW X 0 [some (kR (some 18)), some (kI a), some (kI b), some (kI m), none] [] Ia Ja Ra Sa 0 0
  obtain ⟨hn1, hn2⟩ := hI.1
  obtain ⟨hk1, hk2⟩ := hI.2.1
  obtain ⟨hf1, hf2⟩ := hI.fu
  refine ww_aload_n hX (pc := 0) dX4_wouldLight_0 rfl ?_
  refine ww_getR hX (pc := 1) fX4_47 (by decide) (xs_18 hL) (xr_18_0 hL) dX4_wouldLight_1 ?_
  refine ww_iload_n hX (pc := 4) dX4_wouldLight_4 rfl ?_
  refine vI1 hX (pc := 5) sX4_119 (xs_1 hL) (c_X1_isState l0 hL hI (by omega)) (by decide) (Nat.le_refl 0) (Nat.le_refl 0) (Nat.le_of_ble_eq_true rfl) dX4_wouldLight_5 (fun x_5 I_5 J_5 h_5 => ?_)
  obtain ⟨rfl, rfl, h_5⟩ := h_5
  refine ww_if_eq hX (pc := 8) (tgt := 29) dX4_wouldLight_8 (by decide) (fun h_8 => ?_) (fun h_8 => ?_)
  · simp only [w32_mod] at h_8
    have hwl : ¬ (0 ≤ a ∧ a ≤ FU (Ia 1 5) ∧ 0 ≤ b ∧ b ≤ FU (Ia 1 5) ∧ ¬ Ia 3 b.toNat = -1 ∧ NX (bC m (Ia 19) (Ia 24) (Ja 28)) (Ia 3) (Ia 1 7) a (FU (Ia 1 5) + 1) (Ia 3 b.toNat) = b) := fun h9 => by
      omega
    refine ww_iconst hX (pc := 29) (x := 0) dX4_wouldLight_29 rfl ?_
    refine rZ hX (pc := 30) hT (Nat.le_refl 0) (Nat.le_refl 0) dX4_wouldLight_30 (by decide) ?_
    exact ⟨(Kp_rf (a := 21) (b := 22)), rfl, by omega, fun h9 => absurd h9 (by decide), fun h9 => absurd h9 hwl⟩
  · simp only [w32_mod] at h_8
    have k_5 := h_5.2.mp (by omega)
    clear h_5
    refine ww_aload_n hX (pc := 11) dX4_wouldLight_11 rfl ?_
    refine ww_getR hX (pc := 12) fX4_47 (by decide) (xs_18 hL) (xr_18_0 hL) dX4_wouldLight_12 ?_
    refine ww_iload_n hX (pc := 15) dX4_wouldLight_15 rfl ?_
    refine vI1 hX (pc := 16) sX4_119 (xs_1 hL) (c_X1_isState l0 hL hI (by omega)) (by decide) (Nat.le_refl 0) (Nat.le_refl 0) (Nat.le_of_ble_eq_true rfl) dX4_wouldLight_16 (fun x_16 I_16 J_16 h_16 => ?_)
    obtain ⟨rfl, rfl, h_16⟩ := h_16
    refine ww_if_eq hX (pc := 19) (tgt := 29) dX4_wouldLight_19 (by decide) (fun h_19 => ?_) (fun h_19 => ?_)
    · simp only [w32_mod] at h_19
      have hwl : ¬ (0 ≤ a ∧ a ≤ FU (Ia 1 5) ∧ 0 ≤ b ∧ b ≤ FU (Ia 1 5) ∧ ¬ Ia 3 b.toNat = -1 ∧ NX (bC m (Ia 19) (Ia 24) (Ja 28)) (Ia 3) (Ia 1 7) a (FU (Ia 1 5) + 1) (Ia 3 b.toNat) = b) := fun h9 => by
        omega
      refine ww_iconst hX (pc := 29) (x := 0) dX4_wouldLight_29 rfl ?_
      refine rZ hX (pc := 30) hT (Nat.le_refl 0) (Nat.le_refl 0) dX4_wouldLight_30 (by decide) ?_
      exact ⟨(Kp_rf (a := 21) (b := 22)), rfl, by omega, fun h9 => absurd h9 (by decide), fun h9 => absurd h9 hwl⟩
    · simp only [w32_mod] at h_19
      have k_16 := h_16.2.mp (by omega)
      clear h_16
      refine ww_iload_n hX (pc := 22) dX4_wouldLight_22 rfl ?_
      have hab : i_and a b = ((a.toNat &&& b.toNat : Nat) : Int) := by
        have h9 := i_and_N (a := a.toNat) (b := b.toNat) (by omega)
        rw [show ((a.toNat : Nat) : Int) = a by omega, show ((b.toNat : Nat) : Int) = b by omega] at h9
        exact h9
      have hab2 : a.toNat &&& b.toNat ≤ a.toNat := Nat.and_le_left
      refine ww_iload_n hX (pc := 23) dX4_wouldLight_23 rfl ?_
      refine ww_iand hX (pc := 24) dX4_wouldLight_24 ?_
      refine ww_iload_n hX (pc := 25) dX4_wouldLight_25 rfl ?_
      refine ww_icmp_eq hX (pc := 26) (tgt := 31) dX4_wouldLight_26 (by decide) (fun h_26 => ?_) (fun h_26 => ?_)
      · simp only [w32_mod] at h_26
        have hcd := hI.2.2.2.2.2.2.2.2.2.1 b.toNat (by omega)
        refine ww_aload_n hX (pc := 31) dX4_wouldLight_31 rfl ?_
        refine ww_getR hX (pc := 32) fX4_47 (by decide) (xs_18 hL) (xr_18_0 hL) dX4_wouldLight_32 ?_
        refine ww_getR hX (pc := 35) fX4_70 (by decide) (xs_1 hL) (xr_1_1 hL) dX4_wouldLight_35 ?_
        refine ww_iload_n hX (pc := 38) dX4_wouldLight_38 rfl ?_
        refine ww_iald hX (pc := 39) (xs_3 hL) (by decide) (by omega) (by omega) dX4_wouldLight_39 ?_
        refine ww_nmI (fun v_40 hv_40 => ?_)
        refine ww_istore hX (pc := 40) (lv' := [some (kR (some 18)), some (kI a), some (kI b), some (kI m), some (kI v_40)]) dX4_wouldLight_40 (by decide) rfl rfl ?_
        refine ww_iload hX (pc := 42) dX4_wouldLight_42 rfl ?_
        refine ww_iconst hX (pc := 44) (x := (-1)) dX4_wouldLight_44 rfl ?_
        refine ww_icmp_eq hX (pc := 45) (tgt := 64) dX4_wouldLight_45 (by decide) (fun h_45 => ?_) (fun h_45 => ?_)
        · simp only [w32_mod] at h_45
          have hwl : ¬ (0 ≤ a ∧ a ≤ FU (Ia 1 5) ∧ 0 ≤ b ∧ b ≤ FU (Ia 1 5) ∧ ¬ Ia 3 b.toNat = -1 ∧ NX (bC m (Ia 19) (Ia 24) (Ja 28)) (Ia 3) (Ia 1 7) a (FU (Ia 1 5) + 1) (Ia 3 b.toNat) = b) := fun h9 => by
            have := h9.2.2.2.2.1
            omega
          refine ww_iconst hX (pc := 64) (x := 0) dX4_wouldLight_64 rfl ?_
          refine rZ hX (pc := 65) hT (Nat.le_refl 0) (Nat.le_refl 0) dX4_wouldLight_65 (by decide) ?_
          exact ⟨(Kp_rf (a := 21) (b := 22)), rfl, by omega, fun h9 => absurd h9 (by decide), fun h9 => absurd h9 hwl⟩
        · simp only [w32_mod] at h_45
          refine ww_aload_n hX (pc := 48) dX4_wouldLight_48 rfl ?_
          refine ww_iload_n hX (pc := 49) dX4_wouldLight_49 rfl ?_
          refine ww_iload hX (pc := 50) dX4_wouldLight_50 rfl ?_
          refine ww_iload_n hX (pc := 52) dX4_wouldLight_52 rfl ?_
          refine vI3 hX (pc := 53) sX4_123 (xs_18 hL) (c8_X4_choose l0 hL hI (by omega) (by omega) (by omega) (by omega) (by omega) (by omega) hTR) (by decide) (Nat.le_refl 0) (Nat.le_refl 0) (Nat.le_of_ble_eq_true rfl) dX4_wouldLight_53 (fun x_53 I_53 J_53 h_53 => ?_)
          have h_53j := h_53.2.1
          subst h_53j
          have kI_53 : Kp 21 22 Ia I_53 := Kp_tr (Kp_rf (a := 21) (b := 22)) (Kp_wd h_53.1 (by decide) (by decide))
          have r1_5_I_53 : I_53 1 5 = Ia 1 5 := Kp_at kI_53 1 5 (by decide)
          have r1_6_I_53 : I_53 1 6 = Ia 1 6 := Kp_at kI_53 1 6 (by decide)
          have rf_I_53 : FU (I_53 1 5) = FU (Ia 1 5) := by rw [r1_5_I_53]
          have hnr := NX_r (bt := (bC m (Ia 19) (Ia 24) (Ja 28))) (code := Ia 3) (g := Ia 1 7) (s := a) (N := (FU (Ia 1 5) + 1)) (x := Ia 3 b.toNat) (by omega)
          have e53 := h_53.2.2
          rw [hv_40] at e53
          rw [← e53] at hnr
          refine ww_iload_n hX (pc := 56) dX4_wouldLight_56 rfl ?_
          refine ww_icmp_ne hX (pc := 57) (tgt := 64) dX4_wouldLight_57 (by decide) (fun h_57 => ?_) (fun h_57 => ?_)
          · simp only [w32_mod] at h_57
            have hwl : ¬ (0 ≤ a ∧ a ≤ FU (Ia 1 5) ∧ 0 ≤ b ∧ b ≤ FU (Ia 1 5) ∧ ¬ Ia 3 b.toNat = -1 ∧ NX (bC m (Ia 19) (Ia 24) (Ja 28)) (Ia 3) (Ia 1 7) a (FU (Ia 1 5) + 1) (Ia 3 b.toNat) = b) := fun h9 => by
              have := h9.2.2.2.2.2
              omega
            refine ww_iconst hX (pc := 64) (x := 0) dX4_wouldLight_64 rfl ?_
            refine rZ hX (pc := 65) hT (Nat.le_refl 0) (Nat.le_refl 0) dX4_wouldLight_65 (by decide) ?_
            exact ⟨kI_53, rfl, by omega, fun h9 => absurd h9 (by decide), fun h9 => absurd h9 hwl⟩
          · simp only [w32_mod] at h_57
            have hwl : (0 ≤ a ∧ a ≤ FU (Ia 1 5) ∧ 0 ≤ b ∧ b ≤ FU (Ia 1 5) ∧ ¬ Ia 3 b.toNat = -1 ∧ NX (bC m (Ia 19) (Ia 24) (Ja 28)) (Ia 3) (Ia 1 7) a (FU (Ia 1 5) + 1) (Ia 3 b.toNat) = b) := ⟨by omega, by omega, by omega, by omega, by omega, by omega⟩
            refine ww_iconst hX (pc := 60) (x := 1) dX4_wouldLight_60 rfl ?_
            refine ww_goto hX (pc := 61) (tgt := 65) dX4_wouldLight_61 (by decide) ?_
            refine rZ hX (pc := 65) hT (Nat.le_refl 0) (Nat.le_refl 0) dX4_wouldLight_65 (by decide) ?_
            exact ⟨kI_53, rfl, by omega, fun _ => hwl, fun _ => rfl⟩
      · simp only [w32_mod] at h_26
        have hwl : ¬ (0 ≤ a ∧ a ≤ FU (Ia 1 5) ∧ 0 ≤ b ∧ b ≤ FU (Ia 1 5) ∧ ¬ Ia 3 b.toNat = -1 ∧ NX (bC m (Ia 19) (Ia 24) (Ja 28)) (Ia 3) (Ia 1 7) a (FU (Ia 1 5) + 1) (Ia 3 b.toNat) = b) := fun h9 => by
          have h8 := NX_r (bt := (bC m (Ia 19) (Ia 24) (Ja 28))) (code := Ia 3) (g := Ia 1 7) (s := a) (N := (FU (Ia 1 5) + 1)) (x := Ia 3 b.toNat) (by omega)
          rw [h9.2.2.2.2.2] at h8
          have h7 : a.toNat &&& b.toNat = a.toNat := by
            rcases h8 with h8 | h8
            · omega
            · exact h8.2.2.2.1
          omega
        refine ww_iconst hX (pc := 29) (x := 0) dX4_wouldLight_29 rfl ?_
        refine rZ hX (pc := 30) hT (Nat.le_refl 0) (Nat.le_refl 0) dX4_wouldLight_30 (by decide) ?_
        exact ⟨(Kp_rf (a := 21) (b := 22)), rfl, by omega, fun h9 => absurd h9 (by decide), fun h9 => absurd h9 hwl⟩
