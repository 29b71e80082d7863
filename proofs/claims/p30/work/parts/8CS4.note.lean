/-- firsts: the row is kept for the first w of a pair of which there was none -/
def NF (F G : aI1) (a w : Int) : Prop := (∀ t : Nat, t < 4 → ∀ j : Nat, j < 8 → G 44 (8 * (4 * a.toNat + t) + j) = if (t : Int) < w ∧ F 43 (4 * a.toNat + t) = 0 then F 41 j else F 44 (8 * (4 * a.toNat + t) + j)) ∧ ∀ j : Nat, (j < 32 * a.toNat ∨ 32 * a.toNat + 32 ≤ j) → G 44 j = F 44 j
theorem NF_0 {F : aI1} {a : Int} : NF F F a 0 := ⟨fun t _ j _ => by rw [if_neg (by omega)], fun _ _ => rfl⟩
theorem NF_k {F G H : aI1} {a w : Int} (h : NF F G a w) (hc : ¬ F 43 (4 * a.toNat + w.toNat) = 0) (h0 : 0 ≤ w) (e : H 44 = G 44) : NF F H a (w + 1) := by
  refine ⟨fun t ht j hj => ?_, fun j hj => by rw [e]; exact h.2 j hj⟩
  rw [e, h.1 t ht j hj]
  by_cases g : (t : Int) < w ∧ F 43 (4 * a.toNat + t) = 0
  · rw [if_pos g, if_pos ⟨by omega, g.2⟩]
  · rw [if_neg g]
    by_cases g2 : (t : Int) < w + 1 ∧ F 43 (4 * a.toNat + t) = 0
    · exfalso
      have e2 : t = w.toNat := by
        by_cases g3 : (t : Int) < w
        · exact absurd ⟨g3, g2.2⟩ g
        · omega
      rw [e2] at g2
      exact hc g2.2
    · rw [if_neg g2]
theorem NF_c {F G H : aI1} {a w : Int} {dp : Nat} (h : NF F G a w) (hc : F 43 (4 * a.toNat + w.toNat) = 0) (h0 : 0 ≤ w) (h4 : w < 4) (hd : dp = 8 * (4 * a.toNat + w.toNat)) (e : H 44 = va_cpy (F 41) (G 44) 0 dp 8) : NF F H a (w + 1) := by
  refine ⟨fun t ht j hj => ?_, fun j hj => ?_⟩
  · rw [e]
    unfold va_cpy
    by_cases e2 : t = w.toNat
    · rw [if_pos (by omega), if_pos ⟨by omega, by rw [e2]; exact hc⟩]
      exact congrArg _ (by omega)
    · rw [if_neg (by omega), h.1 t ht j hj]
      by_cases g : (t : Int) < w ∧ F 43 (4 * a.toNat + t) = 0
      · rw [if_pos g, if_pos ⟨by omega, g.2⟩]
      · rw [if_neg g]
        by_cases g2 : (t : Int) < w + 1 ∧ F 43 (4 * a.toNat + t) = 0
        · exact absurd ⟨by omega, g2.2⟩ g
        · rw [if_neg g2]
  · rw [e]
    unfold va_cpy
    rw [if_neg (by omega)]
    exact h.2 j hj
def NTy (F G : aI1) (a b c : Int) : Prop := ∃ w : Int, (w = b + 1 ∨ (w = 4 ∧ 3 ≤ b)) ∧ NI F G a w c ∧ NF F G a w
set_option maxHeartbeats 4000000 in
set_option maxRecDepth 20000 in
theorem c6_X2_note (l0 : Launch) {Ia Ja : aI1} {Ra : aR1} {Sa : aS1} (hL : LY Ra Sa) {a b c : Int} (ha0 : 0 ≤ a) (ha1 : a ≤ 8) (hb0 : 0 ≤ b) (hb1 : b ≤ 100) (hr : ∀ j, j < 8 → 0 ≤ Ia 41 j ∧ Ia 41 j ≤ 7) (hF : FI Ia) (hcb : ∀ t : Nat, t < 4 → 0 ≤ Ia 43 (4 * a.toNat + t) ∧ Ia 43 (4 * a.toNat + t) < 16777216)  : CT l0 1 0 0 mX2_note [kR (some 37), kI a, kI b, kI c] Ia Ja Ra Sa (cV (fun I' J' => Kp 43 45 Ia I' ∧ Kp 43 45 Ja J' ∧ FI I' ∧ NTy Ia I' a b c) Ra Sa) := by
  refine ct_in pn_X2 (Nat.le_of_ble_eq_true rfl) (fun X hX hT hIn => ?_)
  have hX : aK l0 X cX2_note 6 RX2 none 1 0 0 := hX
  change WW X 0 [some (kR (some 37)), some (kI a), some (kI b), some (kI c), none, none] [] Ia Ja Ra Sa 0 0
  refine ww_iconst hX (pc := 0) (x := 0) dX2_note_0 rfl ?_
  refine ww_istore hX (pc := 1) (lv' := [some (kR (some 37)), some (kI a), some (kI b), some (kI c), some (kI 0), none]) dX2_note_1 (by decide) rfl rfl ?_
  have hl_3 : ∀ (n_3 : Nat) (w : Int) (I2 : aI1) (J2 : aI1), (4 - w).toNat = n_3 → (Kp 43 45 Ia I2 ∧ Kp 43 45 Ja J2 ∧ (0 ≤ w ∧ w ≤ 4 ∧ w ≤ b + 1) ∧ FI I2 ∧ NI Ia I2 a w c ∧ NF Ia I2 a w) → WW X 3 [some (kR (some 37)), some (kI a), some (kI b), some (kI c), some (kI w), none] [] I2 J2 Ra Sa 0 0 := by
    intro n_3
    induction n_3 using Nat.strongRecOn with
    | ind n_3 ih_3 =>
      intro w I2 J2 hm_3 hv_3
      have hq_3 := Sh0_i hm_3
      clear hm_3
      obtain ⟨kI2, kJ2, hw, fI2, hni, hnf⟩ := hv_3
      refine ww_iload hX (pc := 3) dX2_note_3 rfl ?_
      refine ww_iload_n hX (pc := 5) dX2_note_5 rfl ?_
      refine ww_icmp_gt hX (pc := 6) (tgt := 69) dX2_note_6 (by decide) (fun h_6 => ?_) (fun h_6 => ?_)
      · simp only [w32_mod] at h_6
        refine rV hX (pc := 69) hT (Nat.le_refl 0) (Nat.le_refl 0) dX2_note_69 ?_
        exact ⟨kI2, kJ2, fI2, w, by omega, hni, hnf⟩
      · simp only [w32_mod] at h_6
        refine ww_iload hX (pc := 9) dX2_note_9 rfl ?_
        refine ww_iconst hX (pc := 11) (x := 4) dX2_note_11 rfl ?_
        refine ww_icmp_ge hX (pc := 12) (tgt := 69) dX2_note_12 (by decide) (fun h_12 => ?_) (fun h_12 => ?_)
        · simp only [w32_mod] at h_12
          refine rV hX (pc := 69) hT (Nat.le_refl 0) (Nat.le_refl 0) dX2_note_69 ?_
          exact ⟨kI2, kJ2, fI2, w, by omega, hni, hnf⟩
        · simp only [w32_mod] at h_12
          refine ww_iload_n hX (pc := 15) dX2_note_15 rfl ?_
          refine ww_iconst hX (pc := 16) (x := 4) dX2_note_16 rfl ?_
          refine ww_imul hX (pc := 17) dX2_note_17 ?_
          refine ww_iload hX (pc := 18) dX2_note_18 rfl ?_
          refine ww_iadd hX (pc := 20) dX2_note_20 ?_
          refine ww_nmI (fun v_21 hv_21 => ?_)
          refine ww_istore hX (pc := 21) (lv' := [some (kR (some 37)), some (kI a), some (kI b), some (kI c), some (kI w), some (kI v_21)]) dX2_note_21 (by decide) rfl rfl ?_
          refine ww_aload_n hX (pc := 23) dX2_note_23 rfl ?_
          refine ww_getR hX (pc := 24) fX2_25 (by decide) (xs_37 hL) (xr_37_3 hL) dX2_note_24 ?_
          refine ww_iload hX (pc := 27) dX2_note_27 rfl ?_
          refine ww_iald hX (pc := 29) (xs_43 hL) (by decide) (by omega) (by omega) dX2_note_29 ?_
          refine ww_if_ne hX (pc := 30) (tgt := 52) dX2_note_30 (by decide) (fun h_30 => ?_) (fun h_30 => ?_)
          · simp only [w32_mod] at h_30
            refine ww_aload_n hX (pc := 52) dX2_note_52 rfl ?_
            refine ww_getR hX (pc := 53) fX2_25 (by decide) (xs_37 hL) (xr_37_3 hL) dX2_note_53 ?_
            refine ww_iload hX (pc := 56) dX2_note_56 rfl ?_
            refine ww_dup2 hX (pc := 58) dX2_note_58 ?_
            refine ww_iald hX (pc := 59) (xs_43 hL) (by decide) (by omega) (by omega) dX2_note_59 ?_
            refine ww_iload_n hX (pc := 60) dX2_note_60 rfl ?_
            refine ww_iadd hX (pc := 61) dX2_note_61 ?_
            refine ww_iast hX (pc := 62) (xs_43 hL) (by decide) (by omega) (by omega) dX2_note_62 ?_
            refine ww_nmH (fun I_62 eI_62 => ?_)
            have kI_62 : Kp 43 45 Ia I_62 := by rw [eI_62]; exact Kp_up kI2 _ _ (by decide)
            have fI_62 : FI I_62 := FI_of fI2 (by rw [eI_62, up2_off _ _ _ (by decide)])
            have n62 : NI Ia I_62 a (w + 1) c := NI_s hni (by omega) (by omega) (by rw [eI_62, up2_row, show v_21.toNat = 4 * a.toNat + w.toNat by omega])
            have hcw := hni.1 w.toNat (by omega)
            rw [if_neg (by omega)] at hcw
            have hvw : I2 43 v_21.toNat = I2 43 (4 * a.toNat + w.toNat) := congrArg _ (by omega)
            have hbw := hcb w.toNat (by omega)
            have m62 : NF Ia I_62 a (w + 1) := NF_k hnf (by omega) (by omega) (by rw [eI_62, up2_off _ _ _ (by decide)])
            refine ww_iinc hX (pc := 63) (lv' := [some (kR (some 37)), some (kI a), some (kI b), some (kI c), some (kI (w + 1)), some (kI v_21)]) dX2_note_63 rfl (by decide) rfl rfl ?_
            refine ww_goto hX (pc := 66) (tgt := 3) dX2_note_66 (by decide) ?_
            refine ww_sub [some (kR (some 37)), some (kI a), some (kI b), some (kI c), some (kI (w + 1)), none] (aLe_s (aLe_s (aLe_s (aLe_s (aLe_s (aLe_n aLe_0)))))) ?_
            exact ih_3 _ (by have hm9 := Sh0_e hq_3; omega) (w + 1) I_62 J2 rfl ⟨kI_62, kJ2, ⟨by omega, by omega, by omega⟩, fI_62, n62, m62⟩
          · simp only [w32_mod] at h_30
            refine ww_aload_n hX (pc := 33) dX2_note_33 rfl ?_
            refine ww_getR hX (pc := 34) fX2_18 (by decide) (xs_37 hL) (xr_37_1 hL) dX2_note_34 ?_
            refine ww_iconst hX (pc := 37) (x := 0) dX2_note_37 rfl ?_
            refine ww_aload_n hX (pc := 38) dX2_note_38 rfl ?_
            refine ww_getR hX (pc := 39) fX2_28 (by decide) (xs_37 hL) (xr_37_4 hL) dX2_note_39 ?_
            refine ww_iload hX (pc := 42) dX2_note_42 rfl ?_
            refine ww_bipush hX (pc := 44) (x := 8) dX2_note_44 (by decide) ?_
            refine ww_imul hX (pc := 46) dX2_note_46 ?_
            refine ww_bipush hX (pc := 47) (x := 8) dX2_note_47 (by decide) ?_
            refine ww_copy hX (pc := 49) tb_879 tb_663 tb_662 tb_19 (xs_41 hL) (xs_44 hL) (by decide) (by decide) (by omega) (by omega) (by omega) (by omega) (by omega) (by decide) (Nat.le_of_ble_eq_true rfl) dX2_note_49 ?_
            refine ww_nmH (fun I_49 eI_49 => ?_)
            have kI_49 : Kp 43 45 Ia I_49 := by rw [eI_49]; exact Kp_upR kI2 _ (by decide)
            have fI_49 : FI I_49 := by rw [eI_49]; exact FI_cpy fI2 (by rw [show I2 41 = Ia 41 from kI2 41 (by decide)]; exact hr)
            have x43 : I_49 43 = I2 43 := by rw [eI_49, upR_n _ _ (by decide)]
            refine ww_aload_n hX (pc := 52) dX2_note_52 rfl ?_
            refine ww_getR hX (pc := 53) fX2_25 (by decide) (xs_37 hL) (xr_37_3 hL) dX2_note_53 ?_
            refine ww_iload hX (pc := 56) dX2_note_56 rfl ?_
            refine ww_dup2 hX (pc := 58) dX2_note_58 ?_
            refine ww_iald hX (pc := 59) (xs_43 hL) (by decide) (by omega) (by omega) dX2_note_59 ?_
            refine ww_iload_n hX (pc := 60) dX2_note_60 rfl ?_
            refine ww_iadd hX (pc := 61) dX2_note_61 ?_
            refine ww_iast hX (pc := 62) (xs_43 hL) (by decide) (by omega) (by omega) dX2_note_62 ?_
            refine ww_nmH (fun I_62 eI_62 => ?_)
            have kI_62 : Kp 43 45 Ia I_62 := by rw [eI_62]; exact Kp_up kI_49 _ _ (by decide)
            have fI_62 : FI I_62 := FI_of fI_49 (by rw [eI_62, up2_off _ _ _ (by decide)])
            have n62 : NI Ia I_62 a (w + 1) c := NI_s hni (by omega) (by omega) (by rw [eI_62, up2_row, show v_21.toNat = 4 * a.toNat + w.toNat by omega, x43])
            have hcw := hni.1 w.toNat (by omega)
            rw [if_neg (by omega)] at hcw
            have hvw : I2 43 v_21.toNat = I2 43 (4 * a.toNat + w.toNat) := congrArg _ (by omega)
            have hbw := hcb w.toNat (by omega)
            have m62 : NF Ia I_62 a (w + 1) := NF_c hnf (by omega) (by omega) (by omega) (dp := (v_21 * 8).toNat) (by omega) (by rw [eI_62, up2_off _ _ _ (by decide), eI_49, upR_s, show I2 41 = Ia 41 from kI2 41 (by decide)]; rfl)
            refine ww_iinc hX (pc := 63) (lv' := [some (kR (some 37)), some (kI a), some (kI b), some (kI c), some (kI (w + 1)), some (kI v_21)]) dX2_note_63 rfl (by decide) rfl rfl ?_
            refine ww_goto hX (pc := 66) (tgt := 3) dX2_note_66 (by decide) ?_
            refine ww_sub [some (kR (some 37)), some (kI a), some (kI b), some (kI c), some (kI (w + 1)), none] (aLe_s (aLe_s (aLe_s (aLe_s (aLe_s (aLe_n aLe_0)))))) ?_
            exact ih_3 _ (by have hm9 := Sh0_e hq_3; omega) (w + 1) I_62 J2 rfl ⟨kI_62, kJ2, ⟨by omega, by omega, by omega⟩, fI_62, n62, m62⟩
  exact hl_3 _ 0 Ia Ja rfl ⟨(Kp_rf (a := 43) (b := 45)), (Kp_rf (a := 43) (b := 45)), ⟨by omega, by omega, by omega⟩, hF, NI_0, NF_0⟩
