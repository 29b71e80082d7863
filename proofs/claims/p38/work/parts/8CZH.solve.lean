theorem wtC_e {I I' : aI1} (h : I' 6 = I 6) : wtC I' = wtC I := by
  funext k
  unfold wtC
  rw [h]
theorem EK_0 {I : aI1} (h : I 33 3 = 0) : EK I := fun h9 => absurd h h9
theorem EK_k {I I' : aI1} (h : EK I) (e5 : I' 1 5 = I 1 5) (e7 : I' 1 7 = I 1 7) (e11 : I' 1 11 = I 1 11) (r2 : I' 2 = I 2) (r3 : I' 3 = I 3) (r6 : I' 6 = I 6) (r33 : I' 33 = I 33) (r34 : I' 34 = I 34) : EK I' := by
  unfold EK at h ⊢
  rw [e5, e7, e11, r2, r3, r33, r34, wtC_e r6]
  exact h
theorem EK_w {rs : List Nat} {ws : List (Nat × Nat)} {I I' : aI1} (h : EK I) (w : Fw rs ws I I') (hr : 1 ∉ rs ∧ 2 ∉ rs ∧ 3 ∉ rs ∧ 6 ∉ rs ∧ 33 ∉ rs ∧ 34 ∉ rs) (hw : ∀ p ∈ ws, p ≠ (1, 5) ∧ p ≠ (1, 7) ∧ p ≠ (1, 11) ∧ p.1 ≠ 2 ∧ p.1 ≠ 3 ∧ p.1 ≠ 6 ∧ p.1 ≠ 33 ∧ p.1 ≠ 34) : EK I' :=
  EK_k h (w 1 5 (by decide) hr.1 (fun q => (hw _ q).1 rfl)) (w 1 7 (by decide) hr.1 (fun q => (hw _ q).2.1 rfl)) (w 1 11 (by decide) hr.1 (fun q => (hw _ q).2.2.1 rfl)) (Fw_row w 2 (by decide) hr.2.1 (fun p hp => (hw p hp).2.2.2.1)) (Fw_row w 3 (by decide) hr.2.2.1 (fun p hp => (hw p hp).2.2.2.2.1)) (Fw_row w 6 (by decide) hr.2.2.2.1 (fun p hp => (hw p hp).2.2.2.2.2.1)) (Fw_row w 33 (by decide) hr.2.2.2.2.1 (fun p hp => (hw p hp).2.2.2.2.2.2.1)) (Fw_row w 34 (by decide) hr.2.2.2.2.2 (fun p hp => (hw p hp).2.2.2.2.2.2.2))
theorem EK_u1 {I : aI1} {j : Nat} {v : Int} (h : EK I) (hj : j ≠ 5 ∧ j ≠ 7 ∧ j ≠ 11) : EK (up2 I 1 j v) := by
  have e : ∀ a, a ≠ 1 → up2 I 1 j v a = I a := fun a ha => up2_off _ _ _ ha
  have f : ∀ b, b ≠ j → up2 I 1 j v 1 b = I 1 b := fun b hb => up2_n _ _ (Or.inr hb)
  exact EK_k h (f 5 (by omega)) (f 7 (by omega)) (f 11 (by omega)) (e 2 (by decide)) (e 3 (by decide)) (e 6 (by decide)) (e 33 (by decide)) (e 34 (by decide))
theorem EK_kp {I I' : aI1} {a b : Nat} (h : EK I) (k : Kp a b I I') (hab : (7 ≤ a ∧ b ≤ 33) ∨ 35 ≤ a ∨ (4 ≤ a ∧ b ≤ 6)) : EK I' :=
  EK_k h (by rw [k 1 (by omega)]) (by rw [k 1 (by omega)]) (by rw [k 1 (by omega)]) (k 2 (by omega)) (k 3 (by omega)) (k 6 (by omega)) (k 33 (by omega)) (k 34 (by omega))
/-! solved -/
def ZW (I J : aI1) : Prop := JW (PC (I 3) (gN (I 1 7)) (wtC I) (FU (I 1 5) + 1).toNat (I 1 11).toNat) (FU (I 1 5) + 1).toNat (J 35)
def CL (I : aI1) (L m : Int) : Prop := ∃ tg, CW (fun v => Sm (fun t => PC (I 3) (gN (I 1 7)) (wtC I) (FU (I 1 5) + 1).toNat (I 1 11).toNat t * (if I 19 t = v then 1 else 0)) (FU (I 1 5) + 1).toNat) L tg ∧ m = min 1000000000 tg
def OPC (I : aI1) (L : Int) (F : Nat → Int) : Prop := 1 ≤ I 1 11 → OPN (OPf (I 3) (gN (I 1 7)) (wtC I) (I 19) (FU (I 1 5) + 1).toNat (I 1 11).toNat L 1) (FU (I 1 5) + 1).toNat F
def FCC (I : aI1) (L : Int) (F : Nat → Int) : Prop := FC (I 3) (gN (I 1 7)) (wtC I) (I 19) (FU (I 1 5) + 1).toNat (I 1 11).toNat L F (I 1 11).toNat
theorem CL_e {I I' : aI1} {L m : Int} (h1 : I' 1 = I 1) (h3 : I' 3 = I 3) (h6 : I' 6 = I 6) (h19 : I' 19 = I 19) : CL I' L m = CL I L m := by
  unfold CL; rw [h1, h3, h19, wtC_e h6]
theorem OPC_e {I I' : aI1} {L : Int} {F : Nat → Int} (h1 : I' 1 = I 1) (h3 : I' 3 = I 3) (h6 : I' 6 = I 6) (h19 : I' 19 = I 19) : OPC I' L F = OPC I L F := by
  unfold OPC; rw [h1, h3, h19, wtC_e h6]
theorem FCC_e {I I' : aI1} {L : Int} {F : Nat → Int} (h1 : I' 1 = I 1) (h3 : I' 3 = I 3) (h6 : I' 6 = I 6) (h19 : I' 19 = I 19) : FCC I' L F = FCC I L F := by
  unfold FCC; rw [h1, h3, h19, wtC_e h6]
theorem ZW_e {I I' J J' : aI1} (h1 : I' 1 = I 1) (h3 : I' 3 = I 3) (h6 : I' 6 = I 6) (h35 : J' 35 = J 35) : ZW I' J' = ZW I J := by
  unfold ZW; rw [h1, h3, h35, wtC_e h6]
theorem CL_ex {I : aI1} {L m : Int} (h : CL I L m) (hL : ¬ L = -1) (h0 : 1 ≤ I 1 5) (h1 : I 1 5 ≤ 8) : 0 < NC (I 3) (gN (I 1 7)) (wtC I) (I 19) (FU (I 1 5) + 1).toNat (I 1 11).toNat (I 1 11).toNat 0 L := by
  obtain ⟨tg, h2, -⟩ := h
  have hf := FU_r h0 h1
  rcases h2 with ⟨h3, -⟩ | ⟨-, h3, -⟩
  · exact absurd h3 hL
  · rw [NC_all (by omega)]; exact h3
theorem OT_r {I : aI1} (h : OT I) (hO : ∀ j, j < 8 → 0 ≤ I 2 j ∧ I 2 j ≤ 99) (h0 : 1 ≤ I 1 5) (h1 : I 1 5 ≤ 8) : ∀ t : Nat, (t : Int) ≤ FU (I 1 5) → 0 ≤ I 19 t ∧ I 19 t ≤ 1000 := fun t ht => by
  rw [h t ht]
  have := oilS_r (o := I 2) (s := t) hO (I 1 5).toNat (by omega)
  omega
theorem ES_of {I I2 : aI1} {L m : Int} {F : Nat → Int} (hc : CL I2 L m) (hf : ¬ L = -1 → FCC I2 L F) (hO : OT I2) (e1 : I2 1 = I 1) (e2 : I2 2 = I 2) (e3 : I2 3 = I 3) (e6 : I2 6 = I 6) : ESo (I 3) (gN (I 1 7)) (wtC I) (fun s => oilS (I 2) s (I 1 5).toNat) (FU (I 1 5) + 1).toNat (I 1 11).toNat L m F := by
  unfold CL at hc
  unfold FCC at hf
  unfold OT at hO
  rw [e1, e3, wtC_e e6] at hc hf
  rw [e1, e2] at hO
  exact ESo_cg (fun _ _ => rfl) (fun _ _ => rfl) (fun s hs => hO s (by omega)) ⟨hc, hf⟩
theorem EK_of {I I' : aI1} (h : ESo (I 3) (gN (I 1 7)) (wtC I) (fun s => oilS (I 2) s (I 1 5).toNat) (FU (I 1 5) + 1).toNat (I 1 11).toNat (I' 33 1) (I' 33 2) (I' 34)) (e1 : I' 1 = I 1) (e2 : I' 2 = I 2) (e3 : I' 3 = I 3) (e6 : I' 6 = I 6) : EK I' := fun _ => by
  rw [e1, e2, e3, wtC_e e6]; exact h
/-- the same, told of what was there before -/
def ESC (I : aI1) (L m : Int) (F : Nat → Int) : Prop := ESo (I 3) (gN (I 1 7)) (wtC I) (fun s => oilS (I 2) s (I 1 5).toNat) (FU (I 1 5) + 1).toNat (I 1 11).toNat L m F
theorem ESC_r {I : aI1} {L m : Int} {F : Nat → Int} (h : ESC I L m F) (hO : ∀ j, j < 8 → 0 ≤ I 2 j ∧ I 2 j ≤ 99) (h0 : 1 ≤ I 1 5) (h1 : I 1 5 ≤ 8) : -1 ≤ L ∧ L ≤ 1000 := by
  obtain ⟨⟨tg, h2, -⟩, -⟩ := h
  have hf := FU_r h0 h1
  rcases h2 with ⟨h3, -⟩ | ⟨h4, h3, -⟩
  · omega
  · have h5 := NC_all (code := I 3) (g := gN (I 1 7)) (wt := wtC I) (oil := fun s => oilS (I 2) s (I 1 5).toNat) (N := (FU (I 1 5) + 1).toNat) (w := (I 1 11).toNat) (by omega) L
    have h8 : 0 < NC (I 3) (gN (I 1 7)) (wtC I) (fun s => oilS (I 2) s (I 1 5).toNat) (FU (I 1 5) + 1).toNat (I 1 11).toNat (I 1 11).toNat 0 L := by rw [h5]; exact h3
    obtain ⟨t, -, -, ht⟩ := NC_v _ _ _ (by omega) h8
    have h6 := oilS_r (o := I 2) (s := t) hO (I 1 5).toNat (by omega)
    have h7 : oilS (I 2) t (I 1 5).toNat = L := ht
    omega

set_option maxHeartbeats 4000000 in
set_option maxRecDepth 20000 in
theorem c9_X3_solve (l0 : Launch) {Ia Ja : aI1} {Ra : aR1} {Sa : aS1} (hL : LY Ra Sa) (hI : XI Ia) (hF : FRk Ia Ja) (hO : ∀ j, j < 8 → 0 ≤ Ia 2 j ∧ Ia 2 j ≤ 99) (hEK : EK Ia)  : CT l0 2 0 0 mX3_solve [kR (some 33)] Ia Ja Ra Sa (cV (fun I' J' => Kp 18 37 Ia I' ∧ Kp 18 37 Ja J' ∧ FRk I' J' ∧ EK I' ∧ ESC Ia (I' 33 1) (I' 33 2) (I' 34)) Ra Sa) := by
  refine ct_in pn_X3 (Nat.le_of_ble_eq_true rfl) (fun X hX hT hIn => ?_)
  have hX : aK l0 X cX3_solve 1 RX3 none 2 0 0 := hX
  change WW X 0 [some (kR (some 33))] [] Ia Ja Ra Sa 0 0
  obtain ⟨hn1, hn2⟩ := hI.1
  obtain ⟨hk1, hk2⟩ := hI.2.1
  obtain ⟨hf1, hf2⟩ := hI.fu
  obtain ⟨hw1, hw2⟩ := hI.2.2.2.2.2.1
  refine ww_aload_n hX (pc := 0) dX3_solve_0 rfl ?_
  refine ww_getI hX (pc := 1) fX3_33 (by decide) (xs_33 hL) dX3_solve_1 ?_
  refine ww_if_eq hX (pc := 4) (tgt := 8) dX3_solve_4 (by decide) (fun h_4 => ?_) (fun h_4 => ?_)
  · simp only [w32_mod] at h_4
    refine ww_aload_n hX (pc := 8) dX3_solve_8 rfl ?_
    refine ww_iconst hX (pc := 9) (x := 1) dX3_solve_9 rfl ?_
    refine ww_putZ hX (pc := 10) (fun h9 => absurd h9 (by decide)) gX3_33 rfl (by decide) (xs_33 hL) dX3_solve_10 ?_
    refine ww_nmH (fun I_10 eI_10 => ?_)
    have kI_10 : Kp 18 37 Ia I_10 := by rw [eI_10]; exact Kp_up (Kp_rf (a := 18) (b := 37)) _ _ (by decide)
    have r1_5_I_10 : I_10 1 5 = Ia 1 5 := Kp_at kI_10 1 5 (by decide)
    have r1_6_I_10 : I_10 1 6 = Ia 1 6 := Kp_at kI_10 1 6 (by decide)
    have r1_11_I_10 : I_10 1 11 = Ia 1 11 := Kp_at kI_10 1 11 (by decide)
    have rf_I_10 : FU (I_10 1 5) = FU (Ia 1 5) := by rw [r1_5_I_10]
    have fr10 : FRk I_10 Ja := by rw [eI_10]; exact FRk_up hF (by decide)
    refine ww_aload_n hX (pc := 13) dX3_solve_13 rfl ?_
    refine ww_getR hX (pc := 14) fX3_22 (by decide) (xs_33 hL) (xr_33_4 hL) dX3_solve_14 ?_
    refine vV0 hX (pc := 17) sX3_37 (xs_18 hL) (n8_X4_fillOil l0 hL (XI_kp hI kI_10 (by decide)) fr10) (by decide) (Nat.le_refl 0) (Nat.le_refl 0) (Nat.le_of_ble_eq_true rfl) dX3_solve_17 (fun I_17 J_17 h_17 => ?_)
    have kI_17 : Kp 18 37 Ia I_17 := Kp_tr kI_10 (Kp_wd h_17.1 (by decide) (by decide))
    have kJ_17 : Kp 18 37 Ja J_17 := Kp_tr (Kp_rf (a := 18) (b := 37)) (Kp_wd h_17.2.1 (by decide) (by decide))
    have r1_5_I_17 : I_17 1 5 = Ia 1 5 := Kp_at kI_17 1 5 (by decide)
    have r1_6_I_17 : I_17 1 6 = Ia 1 6 := Kp_at kI_17 1 6 (by decide)
    have r1_11_I_17 : I_17 1 11 = Ia 1 11 := Kp_at kI_17 1 11 (by decide)
    have rf_I_17 : FU (I_17 1 5) = FU (Ia 1 5) := by rw [r1_5_I_17]
    have fr17 := h_17.2.2.1
    have ot17 : OT I_17 := h_17.2.2.2
    refine ww_aload_n hX (pc := 20) dX3_solve_20 rfl ?_
    refine vV0 hX (pc := 21) sX3_40 (xs_33 hL) (c9_X3_countWays l0 hL (XI_kp hI kI_17 (by decide))) (by decide) (Nat.le_refl 0) (Nat.le_refl 0) (Nat.le_of_ble_eq_true rfl) dX3_solve_21 (fun I_21 J_21 h_21 => ?_)
    have kI_21 : Kp 18 37 Ia I_21 := Kp_tr kI_17 (Kp_wd h_21.1 (by decide) (by decide))
    have kJ_21 : Kp 18 37 Ja J_21 := Kp_tr kJ_17 (Kp_wd h_21.2.1 (by decide) (by decide))
    have r1_5_I_21 : I_21 1 5 = Ia 1 5 := Kp_at kI_21 1 5 (by decide)
    have r1_6_I_21 : I_21 1 6 = Ia 1 6 := Kp_at kI_21 1 6 (by decide)
    have r1_11_I_21 : I_21 1 11 = Ia 1 11 := Kp_at kI_21 1 11 (by decide)
    have rf_I_21 : FU (I_21 1 5) = FU (Ia 1 5) := by rw [r1_5_I_21]
    have fr21 := FRk_kp fr17 h_21.1 h_21.2.1 (by decide)
    have ot21 : OT I_21 := OT_of ot17 (by rw [h_21.1 1 (by decide)]) (h_21.1 2 (by decide)) (h_21.1 19 (by decide))
    have hor21 : ∀ t : Nat, (t : Int) ≤ FU (I_21 1 5) → 0 ≤ I_21 19 t ∧ I_21 19 t ≤ 1000 := OT_r ot21 (by rw [kI_21 2 (by decide)]; exact hO) (by omega) (by omega)
    have zw21 : ZW I_21 J_21 := by
      rw [ZW_e (I := I_17) (J := J_21) (h_21.1 1 (by decide)) (h_21.1 3 (by decide)) (h_21.1 6 (by decide)) rfl]
      exact h_21.2.2
    refine ww_aload_n hX (pc := 24) dX3_solve_24 rfl ?_
    refine vV0 hX (pc := 25) sX3_43 (xs_33 hL) (c9_X3_findLeast l0 hL (XI_kp hI kI_21 (by decide)) hor21 zw21) (by decide) (Nat.le_refl 0) (Nat.le_refl 0) (Nat.le_of_ble_eq_true rfl) dX3_solve_25 (fun I_25 J_25 h_25 => ?_)
    have kI_25 : Kp 18 37 Ia I_25 := Kp_tr kI_21 (Kp_wd h_25.1 (by decide) (by decide))
    have kJ_25 : Kp 18 37 Ja J_25 := Kp_tr kJ_21 (Kp_wd h_25.2.1 (by decide) (by decide))
    have r1_5_I_25 : I_25 1 5 = Ia 1 5 := Kp_at kI_25 1 5 (by decide)
    have r1_6_I_25 : I_25 1 6 = Ia 1 6 := Kp_at kI_25 1 6 (by decide)
    have r1_11_I_25 : I_25 1 11 = Ia 1 11 := Kp_at kI_25 1 11 (by decide)
    have rf_I_25 : FU (I_25 1 5) = FU (Ia 1 5) := by rw [r1_5_I_25]
    have fr25 := FRk_kp fr21 h_25.1 h_25.2.1 (by decide)
    have ot25 : OT I_25 := OT_of ot21 (by rw [h_25.1 1 (by decide)]) (h_25.1 2 (by decide)) (h_25.1 19 (by decide))
    have hor25 : ∀ t : Nat, (t : Int) ≤ FU (I_25 1 5) → 0 ≤ I_25 19 t ∧ I_25 19 t ≤ 1000 := OT_r ot25 (by rw [kI_25 2 (by decide)]; exact hO) (by omega) (by omega)
    have cl25 : CL I_25 (I_25 33 1) (I_25 33 2) := by
      rw [CL_e (h_25.1 1 (by decide)) (h_25.1 3 (by decide)) (h_25.1 6 (by decide)) (h_25.1 19 (by decide))]
      exact h_25.2.2.1
    refine ww_aload_n hX (pc := 28) dX3_solve_28 rfl ?_
    refine ww_getI hX (pc := 29) fX3_46 (by decide) (xs_33 hL) dX3_solve_29 ?_
    refine ww_iconst hX (pc := 32) (x := (-1)) dX3_solve_32 rfl ?_
    refine ww_icmp_eq hX (pc := 33) (tgt := 44) dX3_solve_33 (by decide) (fun h_33 => ?_) (fun h_33 => ?_)
    · simp only [w32_mod] at h_33
      refine rV hX (pc := 44) hT (Nat.le_refl 0) (Nat.le_refl 0) dX3_solve_44 ?_
      have es : ESC Ia (I_25 33 1) (I_25 33 2) (I_25 34) := ES_of cl25 (fun h9 => absurd (show I_25 33 1 = -1 by omega) h9) ot25 (kI_25 1 (by decide)) (kI_25 2 (by decide)) (kI_25 3 (by decide)) (kI_25 6 (by decide))
      exact ⟨kI_25, kJ_25, fr25, EK_of es (kI_25 1 (by decide)) (kI_25 2 (by decide)) (kI_25 3 (by decide)) (kI_25 6 (by decide)), es⟩
    · simp only [w32_mod] at h_33
      refine ww_aload_n hX (pc := 36) dX3_solve_36 rfl ?_
      refine vV0 hX (pc := 37) sX3_50 (xs_33 hL) (c9_X3_findOpen l0 hL (XI_kp hI kI_25 (by decide)) hor25 h_25.2.2.2) (by decide) (Nat.le_refl 0) (Nat.le_refl 0) (Nat.le_of_ble_eq_true rfl) dX3_solve_37 (fun I_37 J_37 h_37 => ?_)
      have kI_37 : Kp 18 37 Ia I_37 := Kp_tr kI_25 (Kp_wd h_37.1 (by decide) (by decide))
      have kJ_37 : Kp 18 37 Ja J_37 := Kp_tr kJ_25 (Kp_wd h_37.2.1 (by decide) (by decide))
      have r1_5_I_37 : I_37 1 5 = Ia 1 5 := Kp_at kI_37 1 5 (by decide)
      have r1_6_I_37 : I_37 1 6 = Ia 1 6 := Kp_at kI_37 1 6 (by decide)
      have r1_11_I_37 : I_37 1 11 = Ia 1 11 := Kp_at kI_37 1 11 (by decide)
      have rf_I_37 : FU (I_37 1 5) = FU (Ia 1 5) := by rw [r1_5_I_37]
      have fr37 := FRk_kp fr25 h_37.1 h_37.2.1 (by decide)
      have ot37 : OT I_37 := OT_of ot25 (by rw [h_37.1 1 (by decide)]) (h_37.1 2 (by decide)) (h_37.1 19 (by decide))
      have e33 : I_37 33 = I_25 33 := h_37.1 33 (by decide)
      have cl37 : CL I_37 (I_37 33 1) (I_37 33 2) := by
        rw [CL_e (h_37.1 1 (by decide)) (h_37.1 3 (by decide)) (h_37.1 6 (by decide)) (h_37.1 19 (by decide)), e33]
        exact cl25
      have op37 : OPC I_37 (I_37 33 1) (I_37 36) := by
        rw [OPC_e (h_37.1 1 (by decide)) (h_37.1 3 (by decide)) (h_37.1 6 (by decide)) (h_37.1 19 (by decide)), e33]
        exact h_37.2.2
      have ex37 := CL_ex cl37 (by rw [e33]; omega) (by omega) (by omega)
      refine ww_aload_n hX (pc := 40) dX3_solve_40 rfl ?_
      refine vV0 hX (pc := 41) sX3_53 (xs_33 hL) (c9_X3_findStates l0 hL (XI_kp hI kI_37 (by decide)) op37 ex37) (by decide) (Nat.le_refl 0) (Nat.le_refl 0) (Nat.le_of_ble_eq_true rfl) dX3_solve_41 (fun I_41 J_41 h_41 => ?_)
      have kI_41 : Kp 18 37 Ia I_41 := Kp_tr kI_37 (Kp_wd h_41.1 (by decide) (by decide))
      have kJ_41 : Kp 18 37 Ja J_41 := Kp_tr kJ_37 (Kp_wd h_41.2.1 (by decide) (by decide))
      have r1_5_I_41 : I_41 1 5 = Ia 1 5 := Kp_at kI_41 1 5 (by decide)
      have r1_6_I_41 : I_41 1 6 = Ia 1 6 := Kp_at kI_41 1 6 (by decide)
      have r1_11_I_41 : I_41 1 11 = Ia 1 11 := Kp_at kI_41 1 11 (by decide)
      have rf_I_41 : FU (I_41 1 5) = FU (Ia 1 5) := by rw [r1_5_I_41]
      have fr41 := FRk_kp fr37 h_41.1 h_41.2.1 (by decide)
      have ot41 : OT I_41 := OT_of ot37 (by rw [h_41.1 1 (by decide)]) (h_41.1 2 (by decide)) (h_41.1 19 (by decide))
      have e33b : I_41 33 = I_37 33 := h_41.1 33 (by decide)
      have cl41 : CL I_41 (I_41 33 1) (I_41 33 2) := by
        rw [CL_e (h_41.1 1 (by decide)) (h_41.1 3 (by decide)) (h_41.1 6 (by decide)) (h_41.1 19 (by decide)), e33b]
        exact cl37
      have fc41 : FCC I_41 (I_41 33 1) (I_41 34) := by
        rw [FCC_e (h_41.1 1 (by decide)) (h_41.1 3 (by decide)) (h_41.1 6 (by decide)) (h_41.1 19 (by decide)), e33b]
        exact h_41.2.2
      refine rV hX (pc := 44) hT (Nat.le_refl 0) (Nat.le_refl 0) dX3_solve_44 ?_
      have es : ESC Ia (I_41 33 1) (I_41 33 2) (I_41 34) := ES_of cl41 (fun _ => fc41) ot41 (kI_41 1 (by decide)) (kI_41 2 (by decide)) (kI_41 3 (by decide)) (kI_41 6 (by decide))
      exact ⟨kI_41, kJ_41, fr41, EK_of es (kI_41 1 (by decide)) (kI_41 2 (by decide)) (kI_41 3 (by decide)) (kI_41 6 (by decide)), es⟩
  · simp only [w32_mod] at h_4
    refine rV hX (pc := 7) hT (Nat.le_refl 0) (Nat.le_refl 0) dX3_solve_7 ?_
    exact ⟨(Kp_rf (a := 18) (b := 37)), (Kp_rf (a := 18) (b := 37)), hF, hEK, hEK (by omega)⟩
set_option maxHeartbeats 4000000 in
set_option maxRecDepth 20000 in
theorem cE_X10_cheap (l0 : Launch) {Ia Ja : aI1} {Ra : aR1} {Sa : aS1} (hL : LY Ra Sa) (hC : CX Ia) (hF : FRk Ia Ja) (hEK : EK Ia) {a : Int} (ha0 : -2147483648 ≤ a) (ha1 : a < 2147483648) (hO : ∀ j, j < 8 → 0 ≤ Ia 2 j ∧ Ia 2 j ≤ 99)  : CT l0 10 0 0 mX10_cheap [kR (some 0), kI a] Ia Ja Ra Sa (cI (fun x I' J' => ((Kp 0 49 Ia I' ∧ Kp 0 49 Ja J' ∧ CX I' ∧ Fw [18, 19, 20, 21, 22, 23, 24, 25, 26, 27, 28, 29, 30, 31, 32, 33, 34, 35, 36] [] Ia I' ∧ ((a = 0 ∨ a = 1) → ∃ L m F, ESC Ia L m F ∧ x = if a = 0 then L else m) ∧ (¬ (a = 0 ∨ a = 1) → x = -1)) ∧ FRk I' J') ∧ EK I') Ra Sa) := by
  refine ct_in pn_X10 (Nat.le_of_ble_eq_true rfl) (fun X hX hT hIn => ?_)
  have hX : aK l0 X cX10_cheap 2 RX10 (some .int) 10 0 0 := hX
  change WW X 0 [some (kR (some 0)), some (kI a)] [] Ia Ja Ra Sa 0 0
  have hI := hC.1
  have hq := XI_o hI
  refine ww_iload_n hX (pc := 0) dX10_cheap_0 rfl ?_
  refine ww_if_lt hX (pc := 1) (tgt := 9) dX10_cheap_1 (by decide) (fun h_1 => ?_) (fun h_1 => ?_)
  · simp only [w32_mod] at h_1
    refine ww_iconst hX (pc := 9) (x := (-1)) dX10_cheap_9 rfl ?_
    refine rI hX (pc := 10) hT (Nat.le_refl 0) (Nat.le_refl 0) dX10_cheap_10 ?_
    exact ⟨⟨⟨(Kp_rf (a := 0) (b := 49)), (Kp_rf (a := 0) (b := 49)), hC, Fw_rf, (fun h9 => absurd h9 (by omega)), (fun _ => rfl)⟩, hF⟩, hEK⟩
  · simp only [w32_mod] at h_1
    refine ww_iload_n hX (pc := 4) dX10_cheap_4 rfl ?_
    refine ww_iconst hX (pc := 5) (x := 1) dX10_cheap_5 rfl ?_
    refine ww_icmp_le hX (pc := 6) (tgt := 11) dX10_cheap_6 (by decide) (fun h_6 => ?_) (fun h_6 => ?_)
    · simp only [w32_mod] at h_6
      refine ww_aload_n hX (pc := 11) dX10_cheap_11 rfl ?_
      refine ww_getR hX (pc := 12) fX10_64 (by decide) (xs_0 hL) (xr_0_7 hL) dX10_cheap_12 ?_
      refine vV0 hX (pc := 15) sX10_281 (xs_33 hL) (c9_X3_solve l0 hL hC.1 hF hO hEK) (by decide) (Nat.le_refl 0) (Nat.le_refl 0) (Nat.le_of_ble_eq_true rfl) dX10_cheap_15 (fun I_15 J_15 h_15 => ?_)
      have kI_15 : Kp 0 49 Ia I_15 := Kp_tr (Kp_rf (a := 0) (b := 49)) (Kp_wd h_15.1 (by decide) (by decide))
      have kJ_15 : Kp 0 49 Ja J_15 := Kp_tr (Kp_rf (a := 0) (b := 49)) (Kp_wd h_15.2.1 (by decide) (by decide))
      have cI_15 : CX I_15 := CX_kp hC h_15.1 (by decide) (by decide)
      have qI_15 := XI_o cI_15.1
      have r5_I_15 : I_15 1 5 = Ia 1 5 := by rw [h_15.1 1 (by decide)]
      have r6_I_15 : I_15 1 6 = Ia 1 6 := by rw [h_15.1 1 (by decide)]
      have r8_I_15 : I_15 1 8 = Ia 1 8 := by rw [h_15.1 1 (by decide)]
      have r9_I_15 : I_15 1 9 = Ia 1 9 := by rw [h_15.1 1 (by decide)]
      have r10_I_15 : I_15 1 10 = Ia 1 10 := by rw [h_15.1 1 (by decide)]
      have r11_I_15 : I_15 1 11 = Ia 1 11 := by rw [h_15.1 1 (by decide)]
      have rf_I_15 : FU (I_15 1 5) = FU (Ia 1 5) := by rw [r5_I_15]
      have wI_15 : Fw [18, 19, 20, 21, 22, 23, 24, 25, 26, 27, 28, 29, 30, 31, 32, 33, 34, 35, 36] [] Ia I_15 := Fw_kp Fw_rf h_15.1 (by decide)
      have r7_I_15 : I_15 1 7 = Ia 1 7 := by rw [h_15.1 1 (by decide)]
      have frI_15 : FRk I_15 J_15 := h_15.2.2.1
      have hlr := ESC_r h_15.2.2.2.2 hO (by omega) (by omega)
      have ekI_15 : EK I_15 := h_15.2.2.2.1
      refine ww_iload_n hX (pc := 18) dX10_cheap_18 rfl ?_
      refine ww_if_ne hX (pc := 19) (tgt := 32) dX10_cheap_19 (by decide) (fun h_19 => ?_) (fun h_19 => ?_)
      · simp only [w32_mod] at h_19
        refine ww_aload_n hX (pc := 32) dX10_cheap_32 rfl ?_
        refine ww_getR hX (pc := 33) fX10_64 (by decide) (xs_0 hL) (xr_0_7 hL) dX10_cheap_33 ?_
        refine ww_getI hX (pc := 36) fX10_287 (by decide) (xs_33 hL) dX10_cheap_36 ?_
        refine rI hX (pc := 39) hT (Nat.le_refl 0) (Nat.le_refl 0) dX10_cheap_39 ?_
        exact ⟨⟨⟨kI_15, kJ_15, cI_15, (Fw_wd wI_15 (by decide) (by decide)), (fun _ => ⟨_, _, _, h_15.2.2.2.2, by first | exact (if_pos (by omega)).symm | exact (if_neg (by omega)).symm⟩), (fun h9 => absurd (by omega) h9)⟩, frI_15⟩, ekI_15⟩
      · simp only [w32_mod] at h_19
        refine ww_aload_n hX (pc := 22) dX10_cheap_22 rfl ?_
        refine ww_getR hX (pc := 23) fX10_64 (by decide) (xs_0 hL) (xr_0_7 hL) dX10_cheap_23 ?_
        refine ww_getI hX (pc := 26) fX10_284 (by decide) (xs_33 hL) dX10_cheap_26 ?_
        refine ww_goto hX (pc := 29) (tgt := 39) dX10_cheap_29 (by decide) ?_
        refine rI hX (pc := 39) hT (Nat.le_refl 0) (Nat.le_refl 0) dX10_cheap_39 ?_
        exact ⟨⟨⟨kI_15, kJ_15, cI_15, (Fw_wd wI_15 (by decide) (by decide)), (fun _ => ⟨_, _, _, h_15.2.2.2.2, by first | exact (if_pos (by omega)).symm | exact (if_neg (by omega)).symm⟩), (fun h9 => absurd (by omega) h9)⟩, frI_15⟩, ekI_15⟩
    · simp only [w32_mod] at h_6
      refine ww_iconst hX (pc := 9) (x := (-1)) dX10_cheap_9 rfl ?_
      refine rI hX (pc := 10) hT (Nat.le_refl 0) (Nat.le_refl 0) dX10_cheap_10 ?_
      exact ⟨⟨⟨(Kp_rf (a := 0) (b := 49)), (Kp_rf (a := 0) (b := 49)), hC, Fw_rf, (fun h9 => absurd h9 (by omega)), (fun _ => rfl)⟩, hF⟩, hEK⟩
set_option maxHeartbeats 4000000 in
set_option maxRecDepth 20000 in
theorem cE_X10_plan (l0 : Launch) {Ia Ja : aI1} {Ra : aR1} {Sa : aS1} (hL : LY Ra Sa) (hC : CX Ia) (hF : FRk Ia Ja) (hEK : EK Ia) {a : Int} (ha0 : -2147483648 ≤ a) (ha1 : a < 2147483648) (hO : ∀ j, j < 8 → 0 ≤ Ia 2 j ∧ Ia 2 j ≤ 99)  : CT l0 10 0 0 mX10_plan [kR (some 0), kI a] Ia Ja Ra Sa (cI (fun x I' J' => ((Kp 0 49 Ia I' ∧ Kp 0 49 Ja J' ∧ CX I' ∧ Fw [18, 19, 20, 21, 22, 23, 24, 25, 26, 27, 28, 29, 30, 31, 32, 33, 34, 35, 36] [] Ia I' ∧ ((0 ≤ a ∧ a < Ia 1 11) → ∃ L m F, ESC Ia L m F ∧ (L = -1 → x = -1) ∧ (¬ L = -1 → x = F a.toNat)) ∧ (¬ (0 ≤ a ∧ a < Ia 1 11) → x = -1)) ∧ FRk I' J') ∧ EK I') Ra Sa) := by
  refine ct_in pn_X10 (Nat.le_of_ble_eq_true rfl) (fun X hX hT hIn => ?_)
  have hX : aK l0 X cX10_plan 2 RX10 (some .int) 10 0 0 := hX
  change WW X 0 [some (kR (some 0)), some (kI a)] [] Ia Ja Ra Sa 0 0
  have hI := hC.1
  have hq := XI_o hI
  refine ww_iload_n hX (pc := 0) dX10_plan_0 rfl ?_
  refine ww_if_lt hX (pc := 1) (tgt := 15) dX10_plan_1 (by decide) (fun h_1 => ?_) (fun h_1 => ?_)
  · simp only [w32_mod] at h_1
    refine ww_iconst hX (pc := 15) (x := (-1)) dX10_plan_15 rfl ?_
    refine rI hX (pc := 16) hT (Nat.le_refl 0) (Nat.le_refl 0) dX10_plan_16 ?_
    exact ⟨⟨⟨(Kp_rf (a := 0) (b := 49)), (Kp_rf (a := 0) (b := 49)), hC, Fw_rf, (fun h9 => absurd h9 (by omega)), (fun _ => rfl)⟩, hF⟩, hEK⟩
  · simp only [w32_mod] at h_1
    refine ww_iload_n hX (pc := 4) dX10_plan_4 rfl ?_
    refine ww_aload_n hX (pc := 5) dX10_plan_5 rfl ?_
    refine ww_getR hX (pc := 6) fX10_10 (by decide) (xs_0 hL) (xr_0_0 hL) dX10_plan_6 ?_
    refine ww_getI hX (pc := 9) fX10_275 (by decide) (xs_1 hL) dX10_plan_9 ?_
    refine ww_icmp_lt hX (pc := 12) (tgt := 17) dX10_plan_12 (by decide) (fun h_12 => ?_) (fun h_12 => ?_)
    · simp only [w32_mod] at h_12
      refine ww_aload_n hX (pc := 17) dX10_plan_17 rfl ?_
      refine ww_getR hX (pc := 18) fX10_64 (by decide) (xs_0 hL) (xr_0_7 hL) dX10_plan_18 ?_
      refine vV0 hX (pc := 21) sX10_281 (xs_33 hL) (c9_X3_solve l0 hL hC.1 hF hO hEK) (by decide) (Nat.le_refl 0) (Nat.le_refl 0) (Nat.le_of_ble_eq_true rfl) dX10_plan_21 (fun I_21 J_21 h_21 => ?_)
      have kI_21 : Kp 0 49 Ia I_21 := Kp_tr (Kp_rf (a := 0) (b := 49)) (Kp_wd h_21.1 (by decide) (by decide))
      have kJ_21 : Kp 0 49 Ja J_21 := Kp_tr (Kp_rf (a := 0) (b := 49)) (Kp_wd h_21.2.1 (by decide) (by decide))
      have cI_21 : CX I_21 := CX_kp hC h_21.1 (by decide) (by decide)
      have qI_21 := XI_o cI_21.1
      have r5_I_21 : I_21 1 5 = Ia 1 5 := by rw [h_21.1 1 (by decide)]
      have r6_I_21 : I_21 1 6 = Ia 1 6 := by rw [h_21.1 1 (by decide)]
      have r8_I_21 : I_21 1 8 = Ia 1 8 := by rw [h_21.1 1 (by decide)]
      have r9_I_21 : I_21 1 9 = Ia 1 9 := by rw [h_21.1 1 (by decide)]
      have r10_I_21 : I_21 1 10 = Ia 1 10 := by rw [h_21.1 1 (by decide)]
      have r11_I_21 : I_21 1 11 = Ia 1 11 := by rw [h_21.1 1 (by decide)]
      have rf_I_21 : FU (I_21 1 5) = FU (Ia 1 5) := by rw [r5_I_21]
      have wI_21 : Fw [18, 19, 20, 21, 22, 23, 24, 25, 26, 27, 28, 29, 30, 31, 32, 33, 34, 35, 36] [] Ia I_21 := Fw_kp Fw_rf h_21.1 (by decide)
      have r7_I_21 : I_21 1 7 = Ia 1 7 := by rw [h_21.1 1 (by decide)]
      have frI_21 : FRk I_21 J_21 := h_21.2.2.1
      have hlr := ESC_r h_21.2.2.2.2 hO (by omega) (by omega)
      have ekI_21 : EK I_21 := h_21.2.2.2.1
      refine ww_aload_n hX (pc := 24) dX10_plan_24 rfl ?_
      refine ww_getR hX (pc := 25) fX10_64 (by decide) (xs_0 hL) (xr_0_7 hL) dX10_plan_25 ?_
      refine ww_getI hX (pc := 28) fX10_284 (by decide) (xs_33 hL) dX10_plan_28 ?_
      refine ww_iconst hX (pc := 31) (x := (-1)) dX10_plan_31 rfl ?_
      refine ww_icmp_ne hX (pc := 32) (tgt := 39) dX10_plan_32 (by decide) (fun h_32 => ?_) (fun h_32 => ?_)
      · simp only [w32_mod] at h_32
        refine ww_aload_n hX (pc := 39) dX10_plan_39 rfl ?_
        refine ww_getR hX (pc := 40) fX10_64 (by decide) (xs_0 hL) (xr_0_7 hL) dX10_plan_40 ?_
        refine ww_getR hX (pc := 43) fX10_290 (by decide) (xs_33 hL) (xr_33_0 hL) dX10_plan_43 ?_
        refine ww_iload_n hX (pc := 46) dX10_plan_46 rfl ?_
        refine ww_iald hX (pc := 47) (xs_34 hL) (by decide) (by omega) (by omega) dX10_plan_47 ?_
        refine rI hX (pc := 48) hT (Nat.le_refl 0) (Nat.le_refl 0) dX10_plan_48 ?_
        exact ⟨⟨⟨kI_21, kJ_21, cI_21, (Fw_wd wI_21 (by decide) (by decide)), (fun _ => ⟨_, _, _, h_21.2.2.2.2, by first | exact ⟨fun _ => rfl, fun h9 => absurd (by omega) h9⟩ | exact ⟨fun h9 => absurd h9 (by omega), fun _ => rfl⟩⟩), (fun h9 => absurd (by omega) h9)⟩, frI_21⟩, ekI_21⟩
      · simp only [w32_mod] at h_32
        refine ww_iconst hX (pc := 35) (x := (-1)) dX10_plan_35 rfl ?_
        refine ww_goto hX (pc := 36) (tgt := 48) dX10_plan_36 (by decide) ?_
        refine rI hX (pc := 48) hT (Nat.le_refl 0) (Nat.le_refl 0) dX10_plan_48 ?_
        exact ⟨⟨⟨kI_21, kJ_21, cI_21, (Fw_wd wI_21 (by decide) (by decide)), (fun _ => ⟨_, _, _, h_21.2.2.2.2, by first | exact ⟨fun _ => rfl, fun h9 => absurd (by omega) h9⟩ | exact ⟨fun h9 => absurd h9 (by omega), fun _ => rfl⟩⟩), (fun h9 => absurd (by omega) h9)⟩, frI_21⟩, ekI_21⟩
    · simp only [w32_mod] at h_12
      refine ww_iconst hX (pc := 15) (x := (-1)) dX10_plan_15 rfl ?_
      refine rI hX (pc := 16) hT (Nat.le_refl 0) (Nat.le_refl 0) dX10_plan_16 ?_
      exact ⟨⟨⟨(Kp_rf (a := 0) (b := 49)), (Kp_rf (a := 0) (b := 49)), hC, Fw_rf, (fun h9 => absurd h9 (by omega)), (fun _ => rfl)⟩, hF⟩, hEK⟩
set_option maxHeartbeats 4000000 in
set_option maxRecDepth 20000 in
theorem cE_X10_codeChanged (l0 : Launch) {Ia Ja : aI1} {Ra : aR1} {Sa : aS1} (hL : LY Ra Sa) (hC : CX Ia)  : CT l0 1 0 0 mX10_codeChanged [kR (some 0)] Ia Ja Ra Sa (cV (fun I' J' => ((Kp 0 49 Ia I' ∧ Kp 0 49 Ja J' ∧ CX I' ∧ Fw [18, 19, 20, 21, 22, 23, 24, 25, 26, 27, 28, 29, 30, 33] [] Ia I' ∧ True) ∧ FRk I' J') ∧ EK I') Ra Sa) := by
  refine ct_in pn_X10 (Nat.le_of_ble_eq_true rfl) (fun X hX hT hIn => ?_)
  have hX : aK l0 X cX10_codeChanged 1 RX10 none 1 0 0 := hX
  change WW X 0 [some (kR (some 0))] [] Ia Ja Ra Sa 0 0
  have hI := hC.1
  have hq := XI_o hI
  refine ww_aload_n hX (pc := 0) dX10_codeChanged_0 rfl ?_
  refine ww_getR hX (pc := 1) fX10_48 (by decide) (xs_0 hL) (xr_0_5 hL) dX10_codeChanged_1 ?_
  refine vV0 hX (pc := 4) sX10_307 (xs_18 hL) (c8_X4_forgetTables l0 hL) (by decide) (Nat.le_refl 0) (Nat.le_refl 0) (Nat.le_of_ble_eq_true rfl) dX10_codeChanged_4 (fun I_4 J_4 h_4 => ?_)
  have kI_4 : Kp 0 49 Ia I_4 := Kp_tr (Kp_rf (a := 0) (b := 49)) (Kp_wd h_4.1 (by decide) (by decide))
  have kJ_4 : Kp 0 49 Ja J_4 := Kp_tr (Kp_rf (a := 0) (b := 49)) (Kp_wd h_4.2.1 (by decide) (by decide))
  have cI_4 : CX I_4 := CX_kp hC h_4.1 (by decide) (by decide)
  have qI_4 := XI_o cI_4.1
  have r5_I_4 : I_4 1 5 = Ia 1 5 := by rw [h_4.1 1 (by decide)]
  have r6_I_4 : I_4 1 6 = Ia 1 6 := by rw [h_4.1 1 (by decide)]
  have r8_I_4 : I_4 1 8 = Ia 1 8 := by rw [h_4.1 1 (by decide)]
  have r9_I_4 : I_4 1 9 = Ia 1 9 := by rw [h_4.1 1 (by decide)]
  have r10_I_4 : I_4 1 10 = Ia 1 10 := by rw [h_4.1 1 (by decide)]
  have r11_I_4 : I_4 1 11 = Ia 1 11 := by rw [h_4.1 1 (by decide)]
  have rf_I_4 : FU (I_4 1 5) = FU (Ia 1 5) := by rw [r5_I_4]
  have wI_4 : Fw [18, 19, 20, 21, 22, 23, 24, 25, 26, 27, 28, 29, 30, 33] [] Ia I_4 := Fw_kp Fw_rf h_4.1 (by decide)
  have r7_I_4 : I_4 1 7 = Ia 1 7 := by rw [h_4.1 1 (by decide)]
  have frI_4 : FRk I_4 J_4 := h_4.2.2
  refine ww_aload_n hX (pc := 7) dX10_codeChanged_7 rfl ?_
  refine ww_getR hX (pc := 8) fX10_64 (by decide) (xs_0 hL) (xr_0_7 hL) dX10_codeChanged_8 ?_
  refine ww_iconst hX (pc := 11) (x := 0) dX10_codeChanged_11 rfl ?_
  refine ww_putZ hX (pc := 12) (fun h9 => absurd h9 (by decide)) gX10_128 rfl (by decide) (xs_33 hL) dX10_codeChanged_12 ?_
  refine ww_nmH (fun I_12 eI_12 => ?_)
  have kI_12 : Kp 0 49 Ia I_12 := by rw [eI_12]; exact Kp_up kI_4 _ _ (by decide)
  have cI_12 : CX I_12 := by rw [eI_12]; exact CX_up cI_4 (by decide)
  have qI_12 := XI_o cI_12.1
  have r5_I_12 : I_12 1 5 = I_4 1 5 := by rw [eI_12, up2_off _ _ _ (by decide)]
  have r6_I_12 : I_12 1 6 = I_4 1 6 := by rw [eI_12, up2_off _ _ _ (by decide)]
  have r8_I_12 : I_12 1 8 = I_4 1 8 := by rw [eI_12, up2_off _ _ _ (by decide)]
  have r9_I_12 : I_12 1 9 = I_4 1 9 := by rw [eI_12, up2_off _ _ _ (by decide)]
  have r10_I_12 : I_12 1 10 = I_4 1 10 := by rw [eI_12, up2_off _ _ _ (by decide)]
  have r11_I_12 : I_12 1 11 = I_4 1 11 := by rw [eI_12, up2_off _ _ _ (by decide)]
  have rf_I_12 : FU (I_12 1 5) = FU (I_4 1 5) := by rw [r5_I_12]
  have wI_12 : Fw [18, 19, 20, 21, 22, 23, 24, 25, 26, 27, 28, 29, 30, 33] [] Ia I_12 := by rw [eI_12]; exact Fw_up wI_4 (Or.inl (by decide))
  have r7_I_12 : I_12 1 7 = I_4 1 7 := by rw [eI_12, up2_n _ _ (Or.inl (by decide))]
  have frI_12 : FRk I_12 J_4 := by rw [eI_12]; exact FRk_up frI_4 (by decide)
  have ekI_12 : EK I_12 := EK_0 (by rw [eI_12, up2_s])
  refine rV hX (pc := 15) hT (Nat.le_refl 0) (Nat.le_refl 0) dX10_codeChanged_15 ?_
  exact ⟨⟨⟨kI_12, kJ_4, cI_12, (Fw_wd wI_12 (by decide) (by decide)), trivial⟩, frI_12⟩, ekI_12⟩
set_option maxHeartbeats 4000000 in
set_option maxRecDepth 20000 in
theorem cE_X10_unwant (l0 : Launch) {Ia Ja : aI1} {Ra : aR1} {Sa : aS1} (hL : LY Ra Sa) (hC : CX Ia) (hF : FRk Ia Ja) (hEK : EK Ia)  : CT l0 10 0 0 mX10_unwant [kR (some 0)] Ia Ja Ra Sa (cI (fun x I' J' => ((Kp 0 49 Ia I' ∧ Kp 0 49 Ja J' ∧ CX I' ∧ Fw [33] [(1, 11)] Ia I' ∧ x = Ia 1 11 ∧ I' 1 11 = 0) ∧ FRk I' J') ∧ EK I') Ra Sa) := by
  refine ct_in pn_X10 (Nat.le_of_ble_eq_true rfl) (fun X hX hT hIn => ?_)
  have hX : aK l0 X cX10_unwant 2 RX10 (some .int) 10 0 0 := hX
  change WW X 0 [some (kR (some 0)), none] [] Ia Ja Ra Sa 0 0
  have hI := hC.1
  have hq := XI_o hI
  refine ww_aload_n hX (pc := 0) dX10_unwant_0 rfl ?_
  refine ww_getR hX (pc := 1) fX10_10 (by decide) (xs_0 hL) (xr_0_0 hL) dX10_unwant_1 ?_
  refine ww_getI hX (pc := 4) fX10_275 (by decide) (xs_1 hL) dX10_unwant_4 ?_
  refine ww_nmI (fun v_7 hv_7 => ?_)
  refine ww_istore_n hX (pc := 7) (lv' := [some (kR (some 0)), some (kI v_7)]) dX10_unwant_7 (by decide) rfl rfl ?_
  refine ww_aload_n hX (pc := 8) dX10_unwant_8 rfl ?_
  refine ww_getR hX (pc := 9) fX10_10 (by decide) (xs_0 hL) (xr_0_0 hL) dX10_unwant_9 ?_
  refine ww_iconst hX (pc := 12) (x := 0) dX10_unwant_12 rfl ?_
  refine ww_putI hX (pc := 13) (fun h9 => absurd h9 (by decide)) gX10_275 rfl (xs_1 hL) dX10_unwant_13 ?_
  refine ww_nmH (fun I_13 eI_13 => ?_)
  have kI_13 : Kp 0 49 Ia I_13 := by rw [eI_13]; exact Kp_up (Kp_rf (a := 0) (b := 49)) _ _ (by decide)
  have cI_13 : CX I_13 := by rw [eI_13]; exact CX_x hC (XI_1_11 hC.1 (by omega) (by omega)) (by decide)
  have qI_13 := XI_o cI_13.1
  have r5_I_13 : I_13 1 5 = Ia 1 5 := by rw [eI_13, up2_n _ _ (Or.inr (by decide))]
  have r6_I_13 : I_13 1 6 = Ia 1 6 := by rw [eI_13, up2_n _ _ (Or.inr (by decide))]
  have r8_I_13 : I_13 1 8 = Ia 1 8 := by rw [eI_13, up2_n _ _ (Or.inr (by decide))]
  have r9_I_13 : I_13 1 9 = Ia 1 9 := by rw [eI_13, up2_n _ _ (Or.inr (by decide))]
  have r10_I_13 : I_13 1 10 = Ia 1 10 := by rw [eI_13, up2_n _ _ (Or.inr (by decide))]
  skip
  have rf_I_13 : FU (I_13 1 5) = FU (Ia 1 5) := by rw [r5_I_13]
  have wI_13 : Fw [33] [(1, 11)] Ia I_13 := by rw [eI_13]; exact Fw_up Fw_rf (Or.inr (by decide))
  have r7_I_13 : I_13 1 7 = Ia 1 7 := by rw [eI_13, up2_n _ _ (Or.inr (by decide))]
  have z11_ : I_13 1 11 = 0 := by rw [eI_13, up2_s]
  have frI_13 : FRk I_13 Ja := by rw [eI_13]; exact FRk_u1 hF (by decide)
  refine ww_aload_n hX (pc := 16) dX10_unwant_16 rfl ?_
  refine ww_getR hX (pc := 17) fX10_64 (by decide) (xs_0 hL) (xr_0_7 hL) dX10_unwant_17 ?_
  refine ww_iconst hX (pc := 20) (x := 0) dX10_unwant_20 rfl ?_
  refine ww_putZ hX (pc := 21) (fun h9 => absurd h9 (by decide)) gX10_128 rfl (by decide) (xs_33 hL) dX10_unwant_21 ?_
  refine ww_nmH (fun I_21 eI_21 => ?_)
  have kI_21 : Kp 0 49 Ia I_21 := by rw [eI_21]; exact Kp_up kI_13 _ _ (by decide)
  have cI_21 : CX I_21 := by rw [eI_21]; exact CX_up cI_13 (by decide)
  have qI_21 := XI_o cI_21.1
  have r5_I_21 : I_21 1 5 = I_13 1 5 := by rw [eI_21, up2_off _ _ _ (by decide)]
  have r6_I_21 : I_21 1 6 = I_13 1 6 := by rw [eI_21, up2_off _ _ _ (by decide)]
  have r8_I_21 : I_21 1 8 = I_13 1 8 := by rw [eI_21, up2_off _ _ _ (by decide)]
  have r9_I_21 : I_21 1 9 = I_13 1 9 := by rw [eI_21, up2_off _ _ _ (by decide)]
  have r10_I_21 : I_21 1 10 = I_13 1 10 := by rw [eI_21, up2_off _ _ _ (by decide)]
  have r11_I_21 : I_21 1 11 = I_13 1 11 := by rw [eI_21, up2_off _ _ _ (by decide)]
  have rf_I_21 : FU (I_21 1 5) = FU (I_13 1 5) := by rw [r5_I_21]
  have wI_21 : Fw [33] [(1, 11)] Ia I_21 := by rw [eI_21]; exact Fw_up wI_13 (Or.inl (by decide))
  have r7_I_21 : I_21 1 7 = I_13 1 7 := by rw [eI_21, up2_n _ _ (Or.inl (by decide))]
  have z11 : I_21 1 11 = 0 := by rw [eI_21, up2_off _ _ _ (by decide)]; exact z11_
  have frI_21 : FRk I_21 Ja := by rw [eI_21]; exact FRk_up frI_13 (by decide)
  have ekI_21 : EK I_21 := EK_0 (by rw [eI_21, up2_s])
  refine ww_iload_n hX (pc := 24) dX10_unwant_24 rfl ?_
  refine rI hX (pc := 25) hT (Nat.le_refl 0) (Nat.le_refl 0) dX10_unwant_25 ?_
  exact ⟨⟨⟨kI_21, (Kp_rf (a := 0) (b := 49)), cI_21, (Fw_wd wI_21 (by decide) (by decide)), hv_7, z11⟩, frI_21⟩, ekI_21⟩
set_option maxHeartbeats 4000000 in
set_option maxRecDepth 20000 in
theorem cE_X10_want (l0 : Launch) {Ia Ja : aI1} {Ra : aR1} {Sa : aS1} (hL : LY Ra Sa) (hC : CX Ia) (hF : FRk Ia Ja) (hEK : EK Ia) {a : Int} (ha0 : -2147483648 ≤ a) (ha1 : a < 2147483648)  : CT l0 10 0 0 mX10_want [kR (some 0), kI a] Ia Ja Ra Sa (cI (fun x I' J' => ((Kp 0 49 Ia I' ∧ Kp 0 49 Ja J' ∧ CX I' ∧ Fw [6, 33, 48] [(0, 16), (1, 11)] Ia I' ∧ (¬ (0 ≤ a ∧ a < Ia 1 6) → x = -1 ∧ RFc Ia I' (-1)) ∧ ((0 ≤ a ∧ a < Ia 1 6) → (16 ≤ Ia 1 11 → x = -5 ∧ RFc Ia I' (-5)) ∧ (Ia 1 11 < 16 → x = Ia 1 11 + 1 ∧ Fw [6, 33] [(0, 16), (1, 11)] Ia I' ∧ I' 0 16 = 0 ∧ I' 1 11 = Ia 1 11 + 1 ∧ I' 6 = up1 (Ia 6) (Ia 1 11).toNat a))) ∧ FRk I' J') ∧ EK I') Ra Sa) := by
  refine ct_in pn_X10 (Nat.le_of_ble_eq_true rfl) (fun X hX hT hIn => ?_)
  have hX : aK l0 X cX10_want 2 RX10 (some .int) 10 0 0 := hX
  change WW X 0 [some (kR (some 0)), some (kI a)] [] Ia Ja Ra Sa 0 0
  have hI := hC.1
  have hq := XI_o hI
  refine ww_aload_n hX (pc := 0) dX10_want_0 rfl ?_
  refine ww_getR hX (pc := 1) fX10_10 (by decide) (xs_0 hL) (xr_0_0 hL) dX10_want_1 ?_
  refine ww_iload_n hX (pc := 4) dX10_want_4 rfl ?_
  refine vI1 hX (pc := 5) sX10_134 (xs_1 hL) (c_X1_isNews l0 hL hC.1 (by omega)) (by decide) (Nat.le_refl 0) (Nat.le_refl 0) (Nat.le_of_ble_eq_true rfl) dX10_want_5 (fun x_5 I_5 J_5 h_5 => ?_)
  obtain ⟨rfl, rfl, h_5⟩ := h_5
  refine ww_if_ne hX (pc := 8) (tgt := 17) dX10_want_8 (by decide) (fun h_8 => ?_) (fun h_8 => ?_)
  · simp only [w32_mod] at h_8
    have k_5 := h_5.2.mp (by omega)
    clear h_5
    refine ww_aload_n hX (pc := 17) dX10_want_17 rfl ?_
    refine ww_getR hX (pc := 18) fX10_10 (by decide) (xs_0 hL) (xr_0_0 hL) dX10_want_18 ?_
    refine ww_getI hX (pc := 21) fX10_275 (by decide) (xs_1 hL) dX10_want_21 ?_
    refine ww_bipush hX (pc := 24) (x := 16) dX10_want_24 (by decide) ?_
    refine ww_icmp_lt hX (pc := 26) (tgt := 36) dX10_want_26 (by decide) (fun h_26 => ?_) (fun h_26 => ?_)
    · simp only [w32_mod] at h_26
      refine ww_aload_n hX (pc := 36) dX10_want_36 rfl ?_
      refine ww_getR hX (pc := 37) fX10_10 (by decide) (xs_0 hL) (xr_0_0 hL) dX10_want_37 ?_
      refine ww_getR hX (pc := 40) fX10_278 (by decide) (xs_1 hL) (xr_1_4 hL) dX10_want_40 ?_
      refine ww_aload_n hX (pc := 43) dX10_want_43 rfl ?_
      refine ww_getR hX (pc := 44) fX10_10 (by decide) (xs_0 hL) (xr_0_0 hL) dX10_want_44 ?_
      refine ww_getI hX (pc := 47) fX10_275 (by decide) (xs_1 hL) dX10_want_47 ?_
      refine ww_iload_n hX (pc := 50) dX10_want_50 rfl ?_
      refine ww_iast hX (pc := 51) (xs_6 hL) (by decide) (by omega) (by omega) dX10_want_51 ?_
      refine ww_nmH (fun I_51 eI_51 => ?_)
      have kI_51 : Kp 0 49 Ia I_51 := by rw [eI_51]; exact Kp_up (Kp_rf (a := 0) (b := 49)) _ _ (by decide)
      have cI_51 : CX I_51 := by rw [eI_51]; exact CX_up hC (by decide)
      have qI_51 := XI_o cI_51.1
      have r5_I_51 : I_51 1 5 = Ia 1 5 := by rw [eI_51, up2_off _ _ _ (by decide)]
      have r6_I_51 : I_51 1 6 = Ia 1 6 := by rw [eI_51, up2_off _ _ _ (by decide)]
      have r8_I_51 : I_51 1 8 = Ia 1 8 := by rw [eI_51, up2_off _ _ _ (by decide)]
      have r9_I_51 : I_51 1 9 = Ia 1 9 := by rw [eI_51, up2_off _ _ _ (by decide)]
      have r10_I_51 : I_51 1 10 = Ia 1 10 := by rw [eI_51, up2_off _ _ _ (by decide)]
      have r11_I_51 : I_51 1 11 = Ia 1 11 := by rw [eI_51, up2_off _ _ _ (by decide)]
      have rf_I_51 : FU (I_51 1 5) = FU (Ia 1 5) := by rw [r5_I_51]
      have wI_51 : Fw [6, 33] [(0, 16), (1, 11)] Ia I_51 := by rw [eI_51]; exact Fw_up Fw_rf (Or.inl (by decide))
      have r7_I_51 : I_51 1 7 = Ia 1 7 := by rw [eI_51, up2_n _ _ (Or.inl (by decide))]
      have frI_51 : FRk I_51 Ja := by rw [eI_51]; exact FRk_up hF (by decide)
      refine ww_aload_n hX (pc := 52) dX10_want_52 rfl ?_
      refine ww_getR hX (pc := 53) fX10_10 (by decide) (xs_0 hL) (xr_0_0 hL) dX10_want_53 ?_
      refine ww_dupR hX (pc := 56) dX10_want_56 ?_
      refine ww_getI hX (pc := 57) fX10_275 (by decide) (xs_1 hL) dX10_want_57 ?_
      refine ww_iconst hX (pc := 60) (x := 1) dX10_want_60 rfl ?_
      refine ww_iadd hX (pc := 61) dX10_want_61 ?_
      refine ww_putI hX (pc := 62) (fun h9 => absurd h9 (by decide)) gX10_275 rfl (xs_1 hL) dX10_want_62 ?_
      refine ww_nmH (fun I_62 eI_62 => ?_)
      have kI_62 : Kp 0 49 Ia I_62 := by rw [eI_62]; exact Kp_up kI_51 _ _ (by decide)
      have cI_62 : CX I_62 := by rw [eI_62]; exact CX_x cI_51 (XI_1_11 cI_51.1 (by omega) (by omega)) (by decide)
      have qI_62 := XI_o cI_62.1
      have r5_I_62 : I_62 1 5 = I_51 1 5 := by rw [eI_62, up2_n _ _ (Or.inr (by decide))]
      have r6_I_62 : I_62 1 6 = I_51 1 6 := by rw [eI_62, up2_n _ _ (Or.inr (by decide))]
      have r8_I_62 : I_62 1 8 = I_51 1 8 := by rw [eI_62, up2_n _ _ (Or.inr (by decide))]
      have r9_I_62 : I_62 1 9 = I_51 1 9 := by rw [eI_62, up2_n _ _ (Or.inr (by decide))]
      have r10_I_62 : I_62 1 10 = I_51 1 10 := by rw [eI_62, up2_n _ _ (Or.inr (by decide))]
      skip
      have rf_I_62 : FU (I_62 1 5) = FU (I_51 1 5) := by rw [r5_I_62]
      have wI_62 : Fw [6, 33] [(0, 16), (1, 11)] Ia I_62 := by rw [eI_62]; exact Fw_up wI_51 (Or.inr (by decide))
      have r7_I_62 : I_62 1 7 = I_51 1 7 := by rw [eI_62, up2_n _ _ (Or.inr (by decide))]
      have y6_I_62 : I_62 6 = I_51 6 := by rw [eI_62, up2_off _ _ _ (by decide)]
      have z11 : I_62 1 11 = I_51 1 11 + 1 := by rw [eI_62, up2_s]
      have frI_62 : FRk I_62 Ja := by rw [eI_62]; exact FRk_u1 frI_51 (by decide)
      refine ww_aload_n hX (pc := 65) dX10_want_65 rfl ?_
      refine ww_getR hX (pc := 66) fX10_64 (by decide) (xs_0 hL) (xr_0_7 hL) dX10_want_66 ?_
      refine ww_iconst hX (pc := 69) (x := 0) dX10_want_69 rfl ?_
      refine ww_putZ hX (pc := 70) (fun h9 => absurd h9 (by decide)) gX10_128 rfl (by decide) (xs_33 hL) dX10_want_70 ?_
      refine ww_nmH (fun I_70 eI_70 => ?_)
      have kI_70 : Kp 0 49 Ia I_70 := by rw [eI_70]; exact Kp_up kI_62 _ _ (by decide)
      have cI_70 : CX I_70 := by rw [eI_70]; exact CX_up cI_62 (by decide)
      have qI_70 := XI_o cI_70.1
      have r5_I_70 : I_70 1 5 = I_62 1 5 := by rw [eI_70, up2_off _ _ _ (by decide)]
      have r6_I_70 : I_70 1 6 = I_62 1 6 := by rw [eI_70, up2_off _ _ _ (by decide)]
      have r8_I_70 : I_70 1 8 = I_62 1 8 := by rw [eI_70, up2_off _ _ _ (by decide)]
      have r9_I_70 : I_70 1 9 = I_62 1 9 := by rw [eI_70, up2_off _ _ _ (by decide)]
      have r10_I_70 : I_70 1 10 = I_62 1 10 := by rw [eI_70, up2_off _ _ _ (by decide)]
      have r11_I_70 : I_70 1 11 = I_62 1 11 := by rw [eI_70, up2_off _ _ _ (by decide)]
      have rf_I_70 : FU (I_70 1 5) = FU (I_62 1 5) := by rw [r5_I_70]
      have wI_70 : Fw [6, 33] [(0, 16), (1, 11)] Ia I_70 := by rw [eI_70]; exact Fw_up wI_62 (Or.inl (by decide))
      have r7_I_70 : I_70 1 7 = I_62 1 7 := by rw [eI_70, up2_n _ _ (Or.inl (by decide))]
      have y6_I_70 : I_70 6 = I_62 6 := by rw [eI_70, up2_off _ _ _ (by decide)]
      have frI_70 : FRk I_70 Ja := by rw [eI_70]; exact FRk_up frI_62 (by decide)
      have ekI_70 : EK I_70 := EK_0 (by rw [eI_70, up2_s])
      refine ww_aload_n hX (pc := 73) dX10_want_73 rfl ?_
      refine ww_aload_n hX (pc := 74) dX10_want_74 rfl ?_
      refine ww_getR hX (pc := 75) fX10_10 (by decide) (xs_0 hL) (xr_0_0 hL) dX10_want_75 ?_
      refine ww_getI hX (pc := 78) fX10_275 (by decide) (xs_1 hL) dX10_want_78 ?_
      refine vI1 hX (pc := 81) sX10_114 (xs_0 hL) (c8_X10_accept l0 hL cI_70 frI_70) (by decide) (Nat.le_refl 0) (Nat.le_refl 0) (Nat.le_of_ble_eq_true rfl) dX10_want_81 (fun x_81 I_81 J_81 h_81 => ?_)
      obtain ⟨h_81, frI_81⟩ := h_81
      have kI_81 : Kp 0 49 Ia I_81 := Kp_tr kI_70 (Kp_wd h_81.1 (by decide) (by decide))
      have kJ_81 : Kp 0 49 Ja J_81 := Kp_tr (Kp_rf (a := 0) (b := 49)) (Kp_wd h_81.2.1 (by decide) (by decide))
      have cI_81 : CX I_81 := h_81.2.2.1
      have qI_81 := XI_o cI_81.1
      have wI_81 : Fw [6, 33] [(0, 16), (1, 11)] Ia I_81 := Fw_tr wI_70 (Fw_wd h_81.2.2.2.1 (by decide) (by decide))
      have r5_I_81 : I_81 1 5 = I_70 1 5 := h_81.2.2.2.1 1 5 (by decide) (by decide) (by decide)
      have r6_I_81 : I_81 1 6 = I_70 1 6 := h_81.2.2.2.1 1 6 (by decide) (by decide) (by decide)
      have r7_I_81 : I_81 1 7 = I_70 1 7 := h_81.2.2.2.1 1 7 (by decide) (by decide) (by decide)
      have r8_I_81 : I_81 1 8 = I_70 1 8 := h_81.2.2.2.1 1 8 (by decide) (by decide) (by decide)
      have r9_I_81 : I_81 1 9 = I_70 1 9 := h_81.2.2.2.1 1 9 (by decide) (by decide) (by decide)
      have r10_I_81 : I_81 1 10 = I_70 1 10 := h_81.2.2.2.1 1 10 (by decide) (by decide) (by decide)
      have r11_I_81 : I_81 1 11 = I_70 1 11 := h_81.2.2.2.1 1 11 (by decide) (by decide) (by decide)
      have r81_I_81 : I_81 8 1 = I_70 8 1 := h_81.2.2.2.1 8 1 (by decide) (by decide) (by decide)
      have rf_I_81 : FU (I_81 1 5) = FU (I_70 1 5) := by rw [r5_I_81]
      have y6_I_81 : I_81 6 = I_70 6 := Fw_row h_81.2.2.2.1 6 (by decide) (by decide) (by decide)
      have xv_I_81 := h_81.2.2.2.2
      have ekI_81 : EK I_81 := EK_w ekI_70 h_81.2.2.2.1 (by decide) (by decide)
      refine rI hX (pc := 84) hT (Nat.le_refl 0) (Nat.le_refl 0) dX10_want_84 ?_
      exact ⟨⟨⟨kI_81, kJ_81, cI_81, (Fw_wd wI_81 (by decide) (by decide)), (fun h9 => absurd (by omega) h9), (fun _ => ⟨(fun h9 => absurd h9 (by omega)), (fun _ => ⟨by omega, wI_81, xv_I_81.2, by omega, by rw [y6_I_81, y6_I_70, y6_I_62, eI_51, up2_row]⟩)⟩)⟩, frI_81⟩, ekI_81⟩
    · simp only [w32_mod] at h_26
      refine ww_aload_n hX (pc := 29) dX10_want_29 rfl ?_
      refine ww_bipush hX (pc := 30) (x := (-5)) dX10_want_30 (by decide) ?_
      refine vI1 hX (pc := 32) sX10_89 (xs_0 hL) (c8_X10_refuse l0 hL hC hF (by omega) (by omega)) (by decide) (Nat.le_refl 0) (Nat.le_refl 0) (Nat.le_of_ble_eq_true rfl) dX10_want_32 (fun x_32 I_32 J_32 h_32 => ?_)
      obtain ⟨h_32, frI_32⟩ := h_32
      have kI_32 : Kp 0 49 Ia I_32 := Kp_tr (Kp_rf (a := 0) (b := 49)) (Kp_wd h_32.1 (by decide) (by decide))
      have kJ_32 : Kp 0 49 Ja J_32 := Kp_tr (Kp_rf (a := 0) (b := 49)) (Kp_wd h_32.2.1 (by decide) (by decide))
      have cI_32 : CX I_32 := h_32.2.2.1
      have qI_32 := XI_o cI_32.1
      have wI_32 : Fw [6, 33, 48] [(0, 16), (1, 11)] Ia I_32 := Fw_tr Fw_rf (Fw_wd h_32.2.2.2.1 (by decide) (by decide))
      have r5_I_32 : I_32 1 5 = Ia 1 5 := h_32.2.2.2.1 1 5 (by decide) (by decide) (by decide)
      have r6_I_32 : I_32 1 6 = Ia 1 6 := h_32.2.2.2.1 1 6 (by decide) (by decide) (by decide)
      have r7_I_32 : I_32 1 7 = Ia 1 7 := h_32.2.2.2.1 1 7 (by decide) (by decide) (by decide)
      have r8_I_32 : I_32 1 8 = Ia 1 8 := h_32.2.2.2.1 1 8 (by decide) (by decide) (by decide)
      have r9_I_32 : I_32 1 9 = Ia 1 9 := h_32.2.2.2.1 1 9 (by decide) (by decide) (by decide)
      have r10_I_32 : I_32 1 10 = Ia 1 10 := h_32.2.2.2.1 1 10 (by decide) (by decide) (by decide)
      have r11_I_32 : I_32 1 11 = Ia 1 11 := h_32.2.2.2.1 1 11 (by decide) (by decide) (by decide)
      have r81_I_32 : I_32 8 1 = Ia 8 1 := h_32.2.2.2.1 8 1 (by decide) (by decide) (by decide)
      have rf_I_32 : FU (I_32 1 5) = FU (Ia 1 5) := by rw [r5_I_32]
      have y6_I_32 : I_32 6 = Ia 6 := Fw_row h_32.2.2.2.1 6 (by decide) (by decide) (by decide)
      have xv_I_32 := h_32.2.2.2.2
      have ekI_32 : EK I_32 := EK_w hEK h_32.2.2.2.1 (by decide) (by decide)
      refine rI hX (pc := 35) hT (Nat.le_refl 0) (Nat.le_refl 0) dX10_want_35 ?_
      exact ⟨⟨⟨kI_32, kJ_32, cI_32, (Fw_wd wI_32 (by decide) (by decide)), (fun h9 => absurd (by omega) h9), (fun _ => ⟨(fun _ => ⟨xv_I_32.1, h_32.2.2.2.1, xv_I_32.2⟩), (fun h9 => absurd h9 (by omega))⟩)⟩, frI_32⟩, ekI_32⟩
  · simp only [w32_mod] at h_8
    refine ww_aload_n hX (pc := 11) dX10_want_11 rfl ?_
    refine ww_iconst hX (pc := 12) (x := (-1)) dX10_want_12 rfl ?_
    refine vI1 hX (pc := 13) sX10_89 (xs_0 hL) (c8_X10_refuse l0 hL hC hF (by omega) (by omega)) (by decide) (Nat.le_refl 0) (Nat.le_refl 0) (Nat.le_of_ble_eq_true rfl) dX10_want_13 (fun x_13 I_13 J_13 h_13 => ?_)
    obtain ⟨h_13, frI_13⟩ := h_13
    have kI_13 : Kp 0 49 Ia I_13 := Kp_tr (Kp_rf (a := 0) (b := 49)) (Kp_wd h_13.1 (by decide) (by decide))
    have kJ_13 : Kp 0 49 Ja J_13 := Kp_tr (Kp_rf (a := 0) (b := 49)) (Kp_wd h_13.2.1 (by decide) (by decide))
    have cI_13 : CX I_13 := h_13.2.2.1
    have qI_13 := XI_o cI_13.1
    have wI_13 : Fw [6, 33, 48] [(0, 16), (1, 11)] Ia I_13 := Fw_tr Fw_rf (Fw_wd h_13.2.2.2.1 (by decide) (by decide))
    have r5_I_13 : I_13 1 5 = Ia 1 5 := h_13.2.2.2.1 1 5 (by decide) (by decide) (by decide)
    have r6_I_13 : I_13 1 6 = Ia 1 6 := h_13.2.2.2.1 1 6 (by decide) (by decide) (by decide)
    have r7_I_13 : I_13 1 7 = Ia 1 7 := h_13.2.2.2.1 1 7 (by decide) (by decide) (by decide)
    have r8_I_13 : I_13 1 8 = Ia 1 8 := h_13.2.2.2.1 1 8 (by decide) (by decide) (by decide)
    have r9_I_13 : I_13 1 9 = Ia 1 9 := h_13.2.2.2.1 1 9 (by decide) (by decide) (by decide)
    have r10_I_13 : I_13 1 10 = Ia 1 10 := h_13.2.2.2.1 1 10 (by decide) (by decide) (by decide)
    have r11_I_13 : I_13 1 11 = Ia 1 11 := h_13.2.2.2.1 1 11 (by decide) (by decide) (by decide)
    have r81_I_13 : I_13 8 1 = Ia 8 1 := h_13.2.2.2.1 8 1 (by decide) (by decide) (by decide)
    have rf_I_13 : FU (I_13 1 5) = FU (Ia 1 5) := by rw [r5_I_13]
    have y6_I_13 : I_13 6 = Ia 6 := Fw_row h_13.2.2.2.1 6 (by decide) (by decide) (by decide)
    have xv_I_13 := h_13.2.2.2.2
    have ekI_13 : EK I_13 := EK_w hEK h_13.2.2.2.1 (by decide) (by decide)
    refine rI hX (pc := 16) hT (Nat.le_refl 0) (Nat.le_refl 0) dX10_want_16 ?_
    exact ⟨⟨⟨kI_13, kJ_13, cI_13, (Fw_wd wI_13 (by decide) (by decide)), (fun _ => ⟨xv_I_13.1, h_13.2.2.2.1, xv_I_13.2⟩), (fun h9 => absurd h9 (by omega))⟩, frI_13⟩, ekI_13⟩
set_option maxHeartbeats 4000000 in
set_option maxRecDepth 20000 in
theorem cE_X10_oil (l0 : Launch) {Ia Ja : aI1} {Ra : aR1} {Sa : aS1} (hL : LY Ra Sa) (hC : CX Ia) (hF : FRk Ia Ja) (hEK : EK Ia) {a b : Int} (ha0 : -2147483648 ≤ a) (ha1 : a < 2147483648) (hb0 : -2147483648 ≤ b) (hb1 : b < 2147483648)  : CT l0 10 0 0 mX10_oil [kR (some 0), kI a, kI b] Ia Ja Ra Sa (cI (fun x I' J' => ((Kp 0 49 Ia I' ∧ Kp 0 49 Ja J' ∧ CX I' ∧ Fw [2, 18, 33, 48] [(0, 16)] Ia I' ∧ (¬ (0 ≤ a ∧ a < Ia 1 5 ∧ 0 ≤ b ∧ b ≤ 99) → x = -1 ∧ RFc Ia I' (-1)) ∧ ((0 ≤ a ∧ a < Ia 1 5 ∧ 0 ≤ b ∧ b ≤ 99) → x = Ia 2 a.toNat ∧ Fw [2, 18, 33] [(0, 16)] Ia I' ∧ I' 0 16 = 0 ∧ I' 2 = up1 (Ia 2) a.toNat b)) ∧ FRk I' J') ∧ EK I') Ra Sa) := by
  refine ct_in pn_X10 (Nat.le_of_ble_eq_true rfl) (fun X hX hT hIn => ?_)
  have hX : aK l0 X cX10_oil 4 RX10 (some .int) 10 0 0 := hX
  change WW X 0 [some (kR (some 0)), some (kI a), some (kI b), none] [] Ia Ja Ra Sa 0 0
  have hI := hC.1
  have hq := XI_o hI
  refine ww_aload_n hX (pc := 0) dX10_oil_0 rfl ?_
  refine ww_getR hX (pc := 1) fX10_10 (by decide) (xs_0 hL) (xr_0_0 hL) dX10_oil_1 ?_
  refine ww_iload_n hX (pc := 4) dX10_oil_4 rfl ?_
  refine vI1 hX (pc := 5) sX10_120 (xs_1 hL) (c_X1_isLamp l0 hL hC.1 (by omega)) (by decide) (Nat.le_refl 0) (Nat.le_refl 0) (Nat.le_of_ble_eq_true rfl) dX10_oil_5 (fun x_5 I_5 J_5 h_5 => ?_)
  obtain ⟨rfl, rfl, h_5⟩ := h_5
  refine ww_if_eq hX (pc := 8) (tgt := 21) dX10_oil_8 (by decide) (fun h_8 => ?_) (fun h_8 => ?_)
  · simp only [w32_mod] at h_8
    refine ww_aload_n hX (pc := 21) dX10_oil_21 rfl ?_
    refine ww_iconst hX (pc := 22) (x := (-1)) dX10_oil_22 rfl ?_
    refine vI1 hX (pc := 23) sX10_89 (xs_0 hL) (c8_X10_refuse l0 hL hC hF (by omega) (by omega)) (by decide) (Nat.le_refl 0) (Nat.le_refl 0) (Nat.le_of_ble_eq_true rfl) dX10_oil_23 (fun x_23 I_23 J_23 h_23 => ?_)
    obtain ⟨h_23, frI_23⟩ := h_23
    have kI_23 : Kp 0 49 Ia I_23 := Kp_tr (Kp_rf (a := 0) (b := 49)) (Kp_wd h_23.1 (by decide) (by decide))
    have kJ_23 : Kp 0 49 Ja J_23 := Kp_tr (Kp_rf (a := 0) (b := 49)) (Kp_wd h_23.2.1 (by decide) (by decide))
    have cI_23 : CX I_23 := h_23.2.2.1
    have qI_23 := XI_o cI_23.1
    have wI_23 : Fw [2, 18, 33, 48] [(0, 16)] Ia I_23 := Fw_tr Fw_rf (Fw_wd h_23.2.2.2.1 (by decide) (by decide))
    have r5_I_23 : I_23 1 5 = Ia 1 5 := h_23.2.2.2.1 1 5 (by decide) (by decide) (by decide)
    have r6_I_23 : I_23 1 6 = Ia 1 6 := h_23.2.2.2.1 1 6 (by decide) (by decide) (by decide)
    have r7_I_23 : I_23 1 7 = Ia 1 7 := h_23.2.2.2.1 1 7 (by decide) (by decide) (by decide)
    have r8_I_23 : I_23 1 8 = Ia 1 8 := h_23.2.2.2.1 1 8 (by decide) (by decide) (by decide)
    have r9_I_23 : I_23 1 9 = Ia 1 9 := h_23.2.2.2.1 1 9 (by decide) (by decide) (by decide)
    have r10_I_23 : I_23 1 10 = Ia 1 10 := h_23.2.2.2.1 1 10 (by decide) (by decide) (by decide)
    have r11_I_23 : I_23 1 11 = Ia 1 11 := h_23.2.2.2.1 1 11 (by decide) (by decide) (by decide)
    have r81_I_23 : I_23 8 1 = Ia 8 1 := h_23.2.2.2.1 8 1 (by decide) (by decide) (by decide)
    have rf_I_23 : FU (I_23 1 5) = FU (Ia 1 5) := by rw [r5_I_23]
    have y2_I_23 : I_23 2 = Ia 2 := Fw_row h_23.2.2.2.1 2 (by decide) (by decide) (by decide)
    have xv_I_23 := h_23.2.2.2.2
    have ekI_23 : EK I_23 := EK_w hEK h_23.2.2.2.1 (by decide) (by decide)
    refine rI hX (pc := 26) hT (Nat.le_refl 0) (Nat.le_refl 0) dX10_oil_26 ?_
    exact ⟨⟨⟨kI_23, kJ_23, cI_23, (Fw_wd wI_23 (by decide) (by decide)), (fun _ => ⟨xv_I_23.1, h_23.2.2.2.1, xv_I_23.2⟩), (fun h9 => absurd h9 (by omega))⟩, frI_23⟩, ekI_23⟩
  · simp only [w32_mod] at h_8
    have k_5 := h_5.2.mp (by omega)
    clear h_5
    refine ww_iload_n hX (pc := 11) dX10_oil_11 rfl ?_
    refine ww_if_lt hX (pc := 12) (tgt := 21) dX10_oil_12 (by decide) (fun h_12 => ?_) (fun h_12 => ?_)
    · simp only [w32_mod] at h_12
      refine ww_aload_n hX (pc := 21) dX10_oil_21 rfl ?_
      refine ww_iconst hX (pc := 22) (x := (-1)) dX10_oil_22 rfl ?_
      refine vI1 hX (pc := 23) sX10_89 (xs_0 hL) (c8_X10_refuse l0 hL hC hF (by omega) (by omega)) (by decide) (Nat.le_refl 0) (Nat.le_refl 0) (Nat.le_of_ble_eq_true rfl) dX10_oil_23 (fun x_23 I_23 J_23 h_23 => ?_)
      obtain ⟨h_23, frI_23⟩ := h_23
      have kI_23 : Kp 0 49 Ia I_23 := Kp_tr (Kp_rf (a := 0) (b := 49)) (Kp_wd h_23.1 (by decide) (by decide))
      have kJ_23 : Kp 0 49 Ja J_23 := Kp_tr (Kp_rf (a := 0) (b := 49)) (Kp_wd h_23.2.1 (by decide) (by decide))
      have cI_23 : CX I_23 := h_23.2.2.1
      have qI_23 := XI_o cI_23.1
      have wI_23 : Fw [2, 18, 33, 48] [(0, 16)] Ia I_23 := Fw_tr Fw_rf (Fw_wd h_23.2.2.2.1 (by decide) (by decide))
      have r5_I_23 : I_23 1 5 = Ia 1 5 := h_23.2.2.2.1 1 5 (by decide) (by decide) (by decide)
      have r6_I_23 : I_23 1 6 = Ia 1 6 := h_23.2.2.2.1 1 6 (by decide) (by decide) (by decide)
      have r7_I_23 : I_23 1 7 = Ia 1 7 := h_23.2.2.2.1 1 7 (by decide) (by decide) (by decide)
      have r8_I_23 : I_23 1 8 = Ia 1 8 := h_23.2.2.2.1 1 8 (by decide) (by decide) (by decide)
      have r9_I_23 : I_23 1 9 = Ia 1 9 := h_23.2.2.2.1 1 9 (by decide) (by decide) (by decide)
      have r10_I_23 : I_23 1 10 = Ia 1 10 := h_23.2.2.2.1 1 10 (by decide) (by decide) (by decide)
      have r11_I_23 : I_23 1 11 = Ia 1 11 := h_23.2.2.2.1 1 11 (by decide) (by decide) (by decide)
      have r81_I_23 : I_23 8 1 = Ia 8 1 := h_23.2.2.2.1 8 1 (by decide) (by decide) (by decide)
      have rf_I_23 : FU (I_23 1 5) = FU (Ia 1 5) := by rw [r5_I_23]
      have y2_I_23 : I_23 2 = Ia 2 := Fw_row h_23.2.2.2.1 2 (by decide) (by decide) (by decide)
      have xv_I_23 := h_23.2.2.2.2
      have ekI_23 : EK I_23 := EK_w hEK h_23.2.2.2.1 (by decide) (by decide)
      refine rI hX (pc := 26) hT (Nat.le_refl 0) (Nat.le_refl 0) dX10_oil_26 ?_
      exact ⟨⟨⟨kI_23, kJ_23, cI_23, (Fw_wd wI_23 (by decide) (by decide)), (fun _ => ⟨xv_I_23.1, h_23.2.2.2.1, xv_I_23.2⟩), (fun h9 => absurd h9 (by omega))⟩, frI_23⟩, ekI_23⟩
    · simp only [w32_mod] at h_12
      refine ww_iload_n hX (pc := 15) dX10_oil_15 rfl ?_
      refine ww_bipush hX (pc := 16) (x := 99) dX10_oil_16 (by decide) ?_
      refine ww_icmp_le hX (pc := 18) (tgt := 27) dX10_oil_18 (by decide) (fun h_18 => ?_) (fun h_18 => ?_)
      · simp only [w32_mod] at h_18
        refine ww_aload_n hX (pc := 27) dX10_oil_27 rfl ?_
        refine ww_getR hX (pc := 28) fX10_10 (by decide) (xs_0 hL) (xr_0_0 hL) dX10_oil_28 ?_
        refine ww_getR hX (pc := 31) fX10_99 (by decide) (xs_1 hL) (xr_1_0 hL) dX10_oil_31 ?_
        refine ww_iload_n hX (pc := 34) dX10_oil_34 rfl ?_
        refine ww_iald hX (pc := 35) (xs_2 hL) (by decide) (by omega) (by omega) dX10_oil_35 ?_
        refine ww_nmI (fun v_36 hv_36 => ?_)
        refine ww_istore_n hX (pc := 36) (lv' := [some (kR (some 0)), some (kI a), some (kI b), some (kI v_36)]) dX10_oil_36 (by decide) rfl rfl ?_
        refine ww_aload_n hX (pc := 37) dX10_oil_37 rfl ?_
        refine ww_getR hX (pc := 38) fX10_10 (by decide) (xs_0 hL) (xr_0_0 hL) dX10_oil_38 ?_
        refine ww_getR hX (pc := 41) fX10_99 (by decide) (xs_1 hL) (xr_1_0 hL) dX10_oil_41 ?_
        refine ww_iload_n hX (pc := 44) dX10_oil_44 rfl ?_
        refine ww_iload_n hX (pc := 45) dX10_oil_45 rfl ?_
        refine ww_iast hX (pc := 46) (xs_2 hL) (by decide) (by omega) (by omega) dX10_oil_46 ?_
        refine ww_nmH (fun I_46 eI_46 => ?_)
        have kI_46 : Kp 0 49 Ia I_46 := by rw [eI_46]; exact Kp_up (Kp_rf (a := 0) (b := 49)) _ _ (by decide)
        have cI_46 : CX I_46 := by rw [eI_46]; exact CX_up hC (by decide)
        have qI_46 := XI_o cI_46.1
        have r5_I_46 : I_46 1 5 = Ia 1 5 := by rw [eI_46, up2_off _ _ _ (by decide)]
        have r6_I_46 : I_46 1 6 = Ia 1 6 := by rw [eI_46, up2_off _ _ _ (by decide)]
        have r8_I_46 : I_46 1 8 = Ia 1 8 := by rw [eI_46, up2_off _ _ _ (by decide)]
        have r9_I_46 : I_46 1 9 = Ia 1 9 := by rw [eI_46, up2_off _ _ _ (by decide)]
        have r10_I_46 : I_46 1 10 = Ia 1 10 := by rw [eI_46, up2_off _ _ _ (by decide)]
        have r11_I_46 : I_46 1 11 = Ia 1 11 := by rw [eI_46, up2_off _ _ _ (by decide)]
        have rf_I_46 : FU (I_46 1 5) = FU (Ia 1 5) := by rw [r5_I_46]
        have wI_46 : Fw [2, 18, 33] [(0, 16)] Ia I_46 := by rw [eI_46]; exact Fw_up Fw_rf (Or.inl (by decide))
        have r7_I_46 : I_46 1 7 = Ia 1 7 := by rw [eI_46, up2_n _ _ (Or.inl (by decide))]
        refine ww_aload_n hX (pc := 47) dX10_oil_47 rfl ?_
        refine ww_getR hX (pc := 48) fX10_48 (by decide) (xs_0 hL) (xr_0_5 hL) dX10_oil_48 ?_
        refine ww_iconst hX (pc := 51) (x := 0) dX10_oil_51 rfl ?_
        refine ww_putZ hX (pc := 52) (fun h9 => absurd h9 (by decide)) gX10_124 rfl (by decide) (xs_18 hL) dX10_oil_52 ?_
        refine ww_nmH (fun I_52 eI_52 => ?_)
        have kI_52 : Kp 0 49 Ia I_52 := by rw [eI_52]; exact Kp_up kI_46 _ _ (by decide)
        have cI_52 : CX I_52 := by rw [eI_52]; exact CX_up cI_46 (by decide)
        have qI_52 := XI_o cI_52.1
        have r5_I_52 : I_52 1 5 = I_46 1 5 := by rw [eI_52, up2_off _ _ _ (by decide)]
        have r6_I_52 : I_52 1 6 = I_46 1 6 := by rw [eI_52, up2_off _ _ _ (by decide)]
        have r8_I_52 : I_52 1 8 = I_46 1 8 := by rw [eI_52, up2_off _ _ _ (by decide)]
        have r9_I_52 : I_52 1 9 = I_46 1 9 := by rw [eI_52, up2_off _ _ _ (by decide)]
        have r10_I_52 : I_52 1 10 = I_46 1 10 := by rw [eI_52, up2_off _ _ _ (by decide)]
        have r11_I_52 : I_52 1 11 = I_46 1 11 := by rw [eI_52, up2_off _ _ _ (by decide)]
        have rf_I_52 : FU (I_52 1 5) = FU (I_46 1 5) := by rw [r5_I_52]
        have wI_52 : Fw [2, 18, 33] [(0, 16)] Ia I_52 := by rw [eI_52]; exact Fw_up wI_46 (Or.inl (by decide))
        have r7_I_52 : I_52 1 7 = I_46 1 7 := by rw [eI_52, up2_n _ _ (Or.inl (by decide))]
        have y2_I_52 : I_52 2 = I_46 2 := by rw [eI_52, up2_off _ _ _ (by decide)]
        have frI_52 : FRk I_52 Ja := FRk_oil hF eI_46 eI_52
        refine ww_aload_n hX (pc := 55) dX10_oil_55 rfl ?_
        refine ww_getR hX (pc := 56) fX10_64 (by decide) (xs_0 hL) (xr_0_7 hL) dX10_oil_56 ?_
        refine ww_iconst hX (pc := 59) (x := 0) dX10_oil_59 rfl ?_
        refine ww_putZ hX (pc := 60) (fun h9 => absurd h9 (by decide)) gX10_128 rfl (by decide) (xs_33 hL) dX10_oil_60 ?_
        refine ww_nmH (fun I_60 eI_60 => ?_)
        have kI_60 : Kp 0 49 Ia I_60 := by rw [eI_60]; exact Kp_up kI_52 _ _ (by decide)
        have cI_60 : CX I_60 := by rw [eI_60]; exact CX_up cI_52 (by decide)
        have qI_60 := XI_o cI_60.1
        have r5_I_60 : I_60 1 5 = I_52 1 5 := by rw [eI_60, up2_off _ _ _ (by decide)]
        have r6_I_60 : I_60 1 6 = I_52 1 6 := by rw [eI_60, up2_off _ _ _ (by decide)]
        have r8_I_60 : I_60 1 8 = I_52 1 8 := by rw [eI_60, up2_off _ _ _ (by decide)]
        have r9_I_60 : I_60 1 9 = I_52 1 9 := by rw [eI_60, up2_off _ _ _ (by decide)]
        have r10_I_60 : I_60 1 10 = I_52 1 10 := by rw [eI_60, up2_off _ _ _ (by decide)]
        have r11_I_60 : I_60 1 11 = I_52 1 11 := by rw [eI_60, up2_off _ _ _ (by decide)]
        have rf_I_60 : FU (I_60 1 5) = FU (I_52 1 5) := by rw [r5_I_60]
        have wI_60 : Fw [2, 18, 33] [(0, 16)] Ia I_60 := by rw [eI_60]; exact Fw_up wI_52 (Or.inl (by decide))
        have r7_I_60 : I_60 1 7 = I_52 1 7 := by rw [eI_60, up2_n _ _ (Or.inl (by decide))]
        have y2_I_60 : I_60 2 = I_52 2 := by rw [eI_60, up2_off _ _ _ (by decide)]
        have frI_60 : FRk I_60 Ja := by rw [eI_60]; exact FRk_up frI_52 (by decide)
        have ekI_60 : EK I_60 := EK_0 (by rw [eI_60, up2_s])
        refine ww_aload_n hX (pc := 63) dX10_oil_63 rfl ?_
        refine ww_iload_n hX (pc := 64) dX10_oil_64 rfl ?_
        refine vI1 hX (pc := 65) sX10_114 (xs_0 hL) (c8_X10_accept l0 hL cI_60 frI_60) (by decide) (Nat.le_refl 0) (Nat.le_refl 0) (Nat.le_of_ble_eq_true rfl) dX10_oil_65 (fun x_65 I_65 J_65 h_65 => ?_)
        obtain ⟨h_65, frI_65⟩ := h_65
        have kI_65 : Kp 0 49 Ia I_65 := Kp_tr kI_60 (Kp_wd h_65.1 (by decide) (by decide))
        have kJ_65 : Kp 0 49 Ja J_65 := Kp_tr (Kp_rf (a := 0) (b := 49)) (Kp_wd h_65.2.1 (by decide) (by decide))
        have cI_65 : CX I_65 := h_65.2.2.1
        have qI_65 := XI_o cI_65.1
        have wI_65 : Fw [2, 18, 33] [(0, 16)] Ia I_65 := Fw_tr wI_60 (Fw_wd h_65.2.2.2.1 (by decide) (by decide))
        have r5_I_65 : I_65 1 5 = I_60 1 5 := h_65.2.2.2.1 1 5 (by decide) (by decide) (by decide)
        have r6_I_65 : I_65 1 6 = I_60 1 6 := h_65.2.2.2.1 1 6 (by decide) (by decide) (by decide)
        have r7_I_65 : I_65 1 7 = I_60 1 7 := h_65.2.2.2.1 1 7 (by decide) (by decide) (by decide)
        have r8_I_65 : I_65 1 8 = I_60 1 8 := h_65.2.2.2.1 1 8 (by decide) (by decide) (by decide)
        have r9_I_65 : I_65 1 9 = I_60 1 9 := h_65.2.2.2.1 1 9 (by decide) (by decide) (by decide)
        have r10_I_65 : I_65 1 10 = I_60 1 10 := h_65.2.2.2.1 1 10 (by decide) (by decide) (by decide)
        have r11_I_65 : I_65 1 11 = I_60 1 11 := h_65.2.2.2.1 1 11 (by decide) (by decide) (by decide)
        have r81_I_65 : I_65 8 1 = I_60 8 1 := h_65.2.2.2.1 8 1 (by decide) (by decide) (by decide)
        have rf_I_65 : FU (I_65 1 5) = FU (I_60 1 5) := by rw [r5_I_65]
        have y2_I_65 : I_65 2 = I_60 2 := Fw_row h_65.2.2.2.1 2 (by decide) (by decide) (by decide)
        have xv_I_65 := h_65.2.2.2.2
        have ekI_65 : EK I_65 := EK_w ekI_60 h_65.2.2.2.1 (by decide) (by decide)
        refine rI hX (pc := 68) hT (Nat.le_refl 0) (Nat.le_refl 0) dX10_oil_68 ?_
        exact ⟨⟨⟨kI_65, kJ_65, cI_65, (Fw_wd wI_65 (by decide) (by decide)), (fun h9 => absurd (by omega) h9), (fun _ => ⟨by rw [xv_I_65.1, hv_36], wI_65, xv_I_65.2, by rw [y2_I_65, y2_I_60, y2_I_52, eI_46, up2_row]⟩)⟩, frI_65⟩, ekI_65⟩
      · simp only [w32_mod] at h_18
        refine ww_aload_n hX (pc := 21) dX10_oil_21 rfl ?_
        refine ww_iconst hX (pc := 22) (x := (-1)) dX10_oil_22 rfl ?_
        refine vI1 hX (pc := 23) sX10_89 (xs_0 hL) (c8_X10_refuse l0 hL hC hF (by omega) (by omega)) (by decide) (Nat.le_refl 0) (Nat.le_refl 0) (Nat.le_of_ble_eq_true rfl) dX10_oil_23 (fun x_23 I_23 J_23 h_23 => ?_)
        obtain ⟨h_23, frI_23⟩ := h_23
        have kI_23 : Kp 0 49 Ia I_23 := Kp_tr (Kp_rf (a := 0) (b := 49)) (Kp_wd h_23.1 (by decide) (by decide))
        have kJ_23 : Kp 0 49 Ja J_23 := Kp_tr (Kp_rf (a := 0) (b := 49)) (Kp_wd h_23.2.1 (by decide) (by decide))
        have cI_23 : CX I_23 := h_23.2.2.1
        have qI_23 := XI_o cI_23.1
        have wI_23 : Fw [2, 18, 33, 48] [(0, 16)] Ia I_23 := Fw_tr Fw_rf (Fw_wd h_23.2.2.2.1 (by decide) (by decide))
        have r5_I_23 : I_23 1 5 = Ia 1 5 := h_23.2.2.2.1 1 5 (by decide) (by decide) (by decide)
        have r6_I_23 : I_23 1 6 = Ia 1 6 := h_23.2.2.2.1 1 6 (by decide) (by decide) (by decide)
        have r7_I_23 : I_23 1 7 = Ia 1 7 := h_23.2.2.2.1 1 7 (by decide) (by decide) (by decide)
        have r8_I_23 : I_23 1 8 = Ia 1 8 := h_23.2.2.2.1 1 8 (by decide) (by decide) (by decide)
        have r9_I_23 : I_23 1 9 = Ia 1 9 := h_23.2.2.2.1 1 9 (by decide) (by decide) (by decide)
        have r10_I_23 : I_23 1 10 = Ia 1 10 := h_23.2.2.2.1 1 10 (by decide) (by decide) (by decide)
        have r11_I_23 : I_23 1 11 = Ia 1 11 := h_23.2.2.2.1 1 11 (by decide) (by decide) (by decide)
        have r81_I_23 : I_23 8 1 = Ia 8 1 := h_23.2.2.2.1 8 1 (by decide) (by decide) (by decide)
        have rf_I_23 : FU (I_23 1 5) = FU (Ia 1 5) := by rw [r5_I_23]
        have y2_I_23 : I_23 2 = Ia 2 := Fw_row h_23.2.2.2.1 2 (by decide) (by decide) (by decide)
        have xv_I_23 := h_23.2.2.2.2
        have ekI_23 : EK I_23 := EK_w hEK h_23.2.2.2.1 (by decide) (by decide)
        refine rI hX (pc := 26) hT (Nat.le_refl 0) (Nat.le_refl 0) dX10_oil_26 ?_
        exact ⟨⟨⟨kI_23, kJ_23, cI_23, (Fw_wd wI_23 (by decide) (by decide)), (fun _ => ⟨xv_I_23.1, h_23.2.2.2.1, xv_I_23.2⟩), (fun h9 => absurd h9 (by omega))⟩, frI_23⟩, ekI_23⟩
set_option maxHeartbeats 4000000 in
set_option maxRecDepth 20000 in
theorem cE_X10_lamps (l0 : Launch) {Ia Ja : aI1} {Ra : aR1} {Sa : aS1} (hL : LY Ra Sa) (hC : CX Ia) (hF : FRk Ia Ja) (hEK : EK Ia) {a : Int} (ha0 : -2147483648 ≤ a) (ha1 : a < 2147483648)  : CT l0 10 0 0 mX10_lamps [kR (some 0), kI a] Ia Ja Ra Sa (cI (fun x I' J' => ((Kp 0 49 Ia I' ∧ Kp 0 49 Ja J' ∧ CX I' ∧ Fw [2, 3, 18, 19, 20, 21, 22, 23, 24, 25, 26, 27, 28, 29, 30, 33, 48] [(0, 16), (1, 5), (1, 7), (1, 8), (1, 10), (1, 11)] Ia I' ∧ (¬ (1 ≤ a ∧ a ≤ 8) → x = -1 ∧ RFc Ia I' (-1)) ∧ ((1 ≤ a ∧ a ≤ 8) → x = Ia 1 5 ∧ Fw [2, 3, 18, 19, 20, 21, 22, 23, 24, 25, 26, 27, 28, 29, 30, 33] [(0, 16), (1, 5), (1, 7), (1, 8), (1, 10), (1, 11)] Ia I' ∧ I' 1 5 = a ∧ I' 1 7 = 0 ∧ (∀ j, j < 8 → I' 2 j = 1) ∧ I' 0 16 = 0 ∧ I' 1 8 = 0 ∧ I' 1 10 = 0 ∧ I' 1 11 = 0 ∧ (∀ s, s < 256 → I' 3 s = -1))) ∧ FRk I' J') ∧ EK I') Ra Sa) := by
  refine ct_in pn_X10 (Nat.le_of_ble_eq_true rfl) (fun X hX hT hIn => ?_)
  have hX : aK l0 X cX10_lamps 3 RX10 (some .int) 10 0 0 := hX
  change WW X 0 [some (kR (some 0)), some (kI a), none] [] Ia Ja Ra Sa 0 0
  have hI := hC.1
  have hq := XI_o hI
  refine ww_iload_n hX (pc := 0) dX10_lamps_0 rfl ?_
  refine ww_iconst hX (pc := 1) (x := 1) dX10_lamps_1 rfl ?_
  refine ww_icmp_lt hX (pc := 2) (tgt := 11) dX10_lamps_2 (by decide) (fun h_2 => ?_) (fun h_2 => ?_)
  · simp only [w32_mod] at h_2
    refine ww_aload_n hX (pc := 11) dX10_lamps_11 rfl ?_
    refine ww_iconst hX (pc := 12) (x := (-1)) dX10_lamps_12 rfl ?_
    refine vI1 hX (pc := 13) sX10_89 (xs_0 hL) (c8_X10_refuse l0 hL hC hF (by omega) (by omega)) (by decide) (Nat.le_refl 0) (Nat.le_refl 0) (Nat.le_of_ble_eq_true rfl) dX10_lamps_13 (fun x_13 I_13 J_13 h_13 => ?_)
    obtain ⟨h_13, frI_13⟩ := h_13
    have kI_13 : Kp 0 49 Ia I_13 := Kp_tr (Kp_rf (a := 0) (b := 49)) (Kp_wd h_13.1 (by decide) (by decide))
    have kJ_13 : Kp 0 49 Ja J_13 := Kp_tr (Kp_rf (a := 0) (b := 49)) (Kp_wd h_13.2.1 (by decide) (by decide))
    have cI_13 : CX I_13 := h_13.2.2.1
    have qI_13 := XI_o cI_13.1
    have wI_13 : Fw [2, 3, 18, 19, 20, 21, 22, 23, 24, 25, 26, 27, 28, 29, 30, 33, 48] [(0, 16), (1, 5), (1, 7), (1, 8), (1, 10), (1, 11)] Ia I_13 := Fw_tr Fw_rf (Fw_wd h_13.2.2.2.1 (by decide) (by decide))
    have r5_I_13 : I_13 1 5 = Ia 1 5 := h_13.2.2.2.1 1 5 (by decide) (by decide) (by decide)
    have r6_I_13 : I_13 1 6 = Ia 1 6 := h_13.2.2.2.1 1 6 (by decide) (by decide) (by decide)
    have r7_I_13 : I_13 1 7 = Ia 1 7 := h_13.2.2.2.1 1 7 (by decide) (by decide) (by decide)
    have r8_I_13 : I_13 1 8 = Ia 1 8 := h_13.2.2.2.1 1 8 (by decide) (by decide) (by decide)
    have r9_I_13 : I_13 1 9 = Ia 1 9 := h_13.2.2.2.1 1 9 (by decide) (by decide) (by decide)
    have r10_I_13 : I_13 1 10 = Ia 1 10 := h_13.2.2.2.1 1 10 (by decide) (by decide) (by decide)
    have r11_I_13 : I_13 1 11 = Ia 1 11 := h_13.2.2.2.1 1 11 (by decide) (by decide) (by decide)
    have r81_I_13 : I_13 8 1 = Ia 8 1 := h_13.2.2.2.1 8 1 (by decide) (by decide) (by decide)
    have rf_I_13 : FU (I_13 1 5) = FU (Ia 1 5) := by rw [r5_I_13]
    have y2_I_13 : I_13 2 = Ia 2 := Fw_row h_13.2.2.2.1 2 (by decide) (by decide) (by decide)
    have y3_I_13 : I_13 3 = Ia 3 := Fw_row h_13.2.2.2.1 3 (by decide) (by decide) (by decide)
    have xv_I_13 := h_13.2.2.2.2
    have ekI_13 : EK I_13 := EK_w hEK h_13.2.2.2.1 (by decide) (by decide)
    refine rI hX (pc := 16) hT (Nat.le_refl 0) (Nat.le_refl 0) dX10_lamps_16 ?_
    exact ⟨⟨⟨kI_13, kJ_13, cI_13, (Fw_wd wI_13 (by decide) (by decide)), (fun _ => ⟨xv_I_13.1, h_13.2.2.2.1, xv_I_13.2⟩), (fun h9 => absurd h9 (by omega))⟩, frI_13⟩, ekI_13⟩
  · simp only [w32_mod] at h_2
    refine ww_iload_n hX (pc := 5) dX10_lamps_5 rfl ?_
    refine ww_bipush hX (pc := 6) (x := 8) dX10_lamps_6 (by decide) ?_
    refine ww_icmp_le hX (pc := 8) (tgt := 17) dX10_lamps_8 (by decide) (fun h_8 => ?_) (fun h_8 => ?_)
    · simp only [w32_mod] at h_8
      refine ww_aload_n hX (pc := 17) dX10_lamps_17 rfl ?_
      refine ww_getR hX (pc := 18) fX10_10 (by decide) (xs_0 hL) (xr_0_0 hL) dX10_lamps_18 ?_
      refine ww_getI hX (pc := 21) fX10_93 (by decide) (xs_1 hL) dX10_lamps_21 ?_
      refine ww_nmI (fun v_24 hv_24 => ?_)
      refine ww_istore_n hX (pc := 24) (lv' := [some (kR (some 0)), some (kI a), some (kI v_24)]) dX10_lamps_24 (by decide) rfl rfl ?_
      refine ww_aload_n hX (pc := 25) dX10_lamps_25 rfl ?_
      refine ww_getR hX (pc := 26) fX10_10 (by decide) (xs_0 hL) (xr_0_0 hL) dX10_lamps_26 ?_
      refine ww_iload_n hX (pc := 29) dX10_lamps_29 rfl ?_
      refine ww_putI hX (pc := 30) (fun h9 => absurd h9 (by decide)) gX10_93 rfl (xs_1 hL) dX10_lamps_30 ?_
      refine ww_nmH (fun I_30 eI_30 => ?_)
      have kI_30 : Kp 0 49 Ia I_30 := by rw [eI_30]; exact Kp_up (Kp_rf (a := 0) (b := 49)) _ _ (by decide)
      have wI_30 : Fw [2, 3, 18, 19, 20, 21, 22, 23, 24, 25, 26, 27, 28, 29, 30, 33] [(0, 16), (1, 5), (1, 7), (1, 8), (1, 10), (1, 11)] Ia I_30 := by rw [eI_30]; exact Fw_up Fw_rf (Or.inr (by decide))
      have r7_I_30 : I_30 1 7 = Ia 1 7 := by rw [eI_30, up2_n _ _ (Or.inr (by decide))]
      have y2_I_30 : I_30 2 = Ia 2 := by rw [eI_30, up2_off _ _ _ (by decide)]
      have y3_I_30 : I_30 3 = Ia 3 := by rw [eI_30, up2_off _ _ _ (by decide)]
      refine ww_aload_n hX (pc := 33) dX10_lamps_33 rfl ?_
      refine ww_getR hX (pc := 34) fX10_10 (by decide) (xs_0 hL) (xr_0_0 hL) dX10_lamps_34 ?_
      refine ww_iconst hX (pc := 37) (x := 0) dX10_lamps_37 rfl ?_
      refine ww_putI hX (pc := 38) (fun h9 => absurd h9 (by decide)) gX10_96 rfl (xs_1 hL) dX10_lamps_38 ?_
      refine ww_nmH (fun I_38 eI_38 => ?_)
      have kI_38 : Kp 0 49 Ia I_38 := by rw [eI_38]; exact Kp_up kI_30 _ _ (by decide)
      have wI_38 : Fw [2, 3, 18, 19, 20, 21, 22, 23, 24, 25, 26, 27, 28, 29, 30, 33] [(0, 16), (1, 5), (1, 7), (1, 8), (1, 10), (1, 11)] Ia I_38 := by rw [eI_38]; exact Fw_up wI_30 (Or.inr (by decide))
      have y2_I_38 : I_38 2 = I_30 2 := by rw [eI_38, up2_off _ _ _ (by decide)]
      have y3_I_38 : I_38 3 = I_30 3 := by rw [eI_38, up2_off _ _ _ (by decide)]
      refine ww_aload_n hX (pc := 41) dX10_lamps_41 rfl ?_
      refine ww_getR hX (pc := 42) fX10_10 (by decide) (xs_0 hL) (xr_0_0 hL) dX10_lamps_42 ?_
      refine ww_getR hX (pc := 45) fX10_99 (by decide) (xs_1 hL) (xr_1_0 hL) dX10_lamps_45 ?_
      refine ww_iconst hX (pc := 48) (x := 1) dX10_lamps_48 rfl ?_
      refine sV2 hX (pc := 49) sX10_102 (c_J7_fill_53178 l0 (xs_2 hL) (by decide)) (by decide) (Nat.le_refl 0) (Nat.le_refl 0) (Nat.le_of_ble_eq_true rfl) dX10_lamps_49 (fun I_49 J_49 h_49 => ?_)
      obtain ⟨rfl, eI_49⟩ := h_49
      have kI_49 : Kp 0 49 Ia I_49 := by rw [eI_49]; exact Kp_upR kI_38 _ (by decide)
      have wI_49 : Fw [2, 3, 18, 19, 20, 21, 22, 23, 24, 25, 26, 27, 28, 29, 30, 33] [(0, 16), (1, 5), (1, 7), (1, 8), (1, 10), (1, 11)] Ia I_49 := by rw [eI_49]; exact Fw_upR wI_38 (by decide)
      have r7_I_49 : I_49 1 7 = I_38 1 7 := by rw [eI_49, upR_n _ _ (by decide)]
      have y3_I_49 : I_49 3 = I_38 3 := by rw [eI_49, upR_n _ _ (by decide)]
      refine ww_aload_n hX (pc := 52) dX10_lamps_52 rfl ?_
      refine ww_getR hX (pc := 53) fX10_10 (by decide) (xs_0 hL) (xr_0_0 hL) dX10_lamps_53 ?_
      refine vV0 hX (pc := 56) sX10_108 (xs_1 hL) (c_X1_forget l0 hL) (by decide) (Nat.le_refl 0) (Nat.le_refl 0) (Nat.le_of_ble_eq_true rfl) dX10_lamps_56 (fun I_56 J_56 h_56 => ?_)
      obtain ⟨rfl, eI_56⟩ := h_56
      have kI_56 : Kp 0 49 Ia I_56 := by rw [eI_56]; exact Kp_up (Kp_up (Kp_up (Kp_upR kI_49 _ (by decide)) _ _ (by decide)) _ _ (by decide)) _ _ (by decide)
      have cI_56 : CX I_56 := by
        refine CX_forget hC (fun a h1 h2 h3 => ?_) ?_ ?_ ?_ ?_ ?_ ?_ (fun s hs => ?_)
        · rw [eI_56, up2_off _ _ _ h1, up2_off _ _ _ h1, up2_off _ _ _ h1, upR_n _ _ h3, eI_49, upR_n _ _ h2, eI_38, up2_off _ _ _ h1, eI_30, up2_off _ _ _ h1]
        · rw [eI_56, up2_n _ _ (Or.inr (by decide)), up2_n _ _ (Or.inr (by decide)), up2_n _ _ (Or.inr (by decide)), upR_n _ _ (by decide), eI_49, upR_n _ _ (by decide), eI_38, up2_n _ _ (Or.inr (by decide)), eI_30, up2_s]; omega
        · rw [eI_56, up2_n _ _ (Or.inr (by decide)), up2_n _ _ (Or.inr (by decide)), up2_n _ _ (Or.inr (by decide)), upR_n _ _ (by decide), eI_49, upR_n _ _ (by decide), eI_38, up2_n _ _ (Or.inr (by decide)), eI_30, up2_n _ _ (Or.inr (by decide))]; omega
        · rw [eI_56, up2_n _ _ (Or.inr (by decide)), up2_n _ _ (Or.inr (by decide)), up2_s]
        · rw [eI_56, up2_n _ _ (Or.inr (by decide)), up2_n _ _ (Or.inr (by decide)), up2_n _ _ (Or.inr (by decide)), upR_n _ _ (by decide), eI_49, upR_n _ _ (by decide), eI_38, up2_n _ _ (Or.inr (by decide)), eI_30, up2_n _ _ (Or.inr (by decide))]
        · rw [eI_56, up2_n _ _ (Or.inr (by decide)), up2_s]
        · rw [eI_56, up2_s]
        · rw [eI_56, up2_off _ _ _ (by decide), up2_off _ _ _ (by decide), up2_off _ _ _ (by decide), upR_s, if_pos hs]
      have wI_56 : Fw [2, 3, 18, 19, 20, 21, 22, 23, 24, 25, 26, 27, 28, 29, 30, 33] [(0, 16), (1, 5), (1, 7), (1, 8), (1, 10), (1, 11)] Ia I_56 := by rw [eI_56]; exact Fw_up (Fw_up (Fw_up (Fw_upR wI_49 (by decide)) (Or.inr (by decide))) (Or.inr (by decide))) (Or.inr (by decide))
      have v8_I_56 : I_56 1 8 = 0 := by rw [eI_56, up2_n _ _ (Or.inr (by decide)), up2_n _ _ (Or.inr (by decide)), up2_s]
      have v10_I_56 : I_56 1 10 = 0 := by rw [eI_56, up2_n _ _ (Or.inr (by decide)), up2_s]
      have v11_I_56 : I_56 1 11 = 0 := by rw [eI_56, up2_s]
      have v3_I_56 : ∀ s, s < 256 → I_56 3 s = -1 := fun s hs => by rw [eI_56, up2_off _ _ _ (by decide), up2_off _ _ _ (by decide), up2_off _ _ _ (by decide), upR_s, if_pos hs]
      have v5_I_56 : I_56 1 5 = a := by rw [eI_56, up2_n _ _ (Or.inr (by decide)), up2_n _ _ (Or.inr (by decide)), up2_n _ _ (Or.inr (by decide)), upR_n _ _ (by decide), eI_49, upR_n _ _ (by decide), eI_38, up2_n _ _ (Or.inr (by decide)), eI_30, up2_s]
      have v7_I_56 : I_56 1 7 = 0 := by rw [eI_56, up2_n _ _ (Or.inr (by decide)), up2_n _ _ (Or.inr (by decide)), up2_n _ _ (Or.inr (by decide)), upR_n _ _ (by decide), eI_49, upR_n _ _ (by decide), eI_38, up2_s]
      have v2_I_56 : ∀ j, j < 8 → I_56 2 j = 1 := fun j hj => by rw [eI_56, up2_off _ _ _ (by decide), up2_off _ _ _ (by decide), up2_off _ _ _ (by decide), upR_n _ _ (by decide), eI_49, upR_s, if_pos hj]
      refine ww_aload_n hX (pc := 59) dX10_lamps_59 rfl ?_
      refine vV0 hX (pc := 60) sX10_111 (xs_0 hL) (cE_X10_codeChanged l0 hL cI_56) (by decide) (Nat.le_refl 0) (Nat.le_refl 0) (Nat.le_of_ble_eq_true rfl) dX10_lamps_60 (fun I_60 J_60 h_60 => ?_)
      obtain ⟨h_60, ekI_60⟩ := h_60
      obtain ⟨h_60, frI_60⟩ := h_60
      have kI_60 : Kp 0 49 Ia I_60 := Kp_tr kI_56 (Kp_wd h_60.1 (by decide) (by decide))
      have kJ_60 : Kp 0 49 Ja J_60 := Kp_tr (Kp_rf (a := 0) (b := 49)) (Kp_wd h_60.2.1 (by decide) (by decide))
      have cI_60 : CX I_60 := h_60.2.2.1
      have qI_60 := XI_o cI_60.1
      have wI_60 : Fw [2, 3, 18, 19, 20, 21, 22, 23, 24, 25, 26, 27, 28, 29, 30, 33] [(0, 16), (1, 5), (1, 7), (1, 8), (1, 10), (1, 11)] Ia I_60 := Fw_tr wI_56 (Fw_wd h_60.2.2.2.1 (by decide) (by decide))
      have r5_I_60 : I_60 1 5 = I_56 1 5 := h_60.2.2.2.1 1 5 (by decide) (by decide) (by decide)
      have r6_I_60 : I_60 1 6 = I_56 1 6 := h_60.2.2.2.1 1 6 (by decide) (by decide) (by decide)
      have r7_I_60 : I_60 1 7 = I_56 1 7 := h_60.2.2.2.1 1 7 (by decide) (by decide) (by decide)
      have r8_I_60 : I_60 1 8 = I_56 1 8 := h_60.2.2.2.1 1 8 (by decide) (by decide) (by decide)
      have r9_I_60 : I_60 1 9 = I_56 1 9 := h_60.2.2.2.1 1 9 (by decide) (by decide) (by decide)
      have r10_I_60 : I_60 1 10 = I_56 1 10 := h_60.2.2.2.1 1 10 (by decide) (by decide) (by decide)
      have r11_I_60 : I_60 1 11 = I_56 1 11 := h_60.2.2.2.1 1 11 (by decide) (by decide) (by decide)
      have r81_I_60 : I_60 8 1 = I_56 8 1 := h_60.2.2.2.1 8 1 (by decide) (by decide) (by decide)
      have rf_I_60 : FU (I_60 1 5) = FU (I_56 1 5) := by rw [r5_I_60]
      have y2_I_60 : I_60 2 = I_56 2 := Fw_row h_60.2.2.2.1 2 (by decide) (by decide) (by decide)
      have y3_I_60 : I_60 3 = I_56 3 := Fw_row h_60.2.2.2.1 3 (by decide) (by decide) (by decide)
      refine ww_aload_n hX (pc := 63) dX10_lamps_63 rfl ?_
      refine ww_iload_n hX (pc := 64) dX10_lamps_64 rfl ?_
      refine vI1 hX (pc := 65) sX10_114 (xs_0 hL) (c8_X10_accept l0 hL cI_60 frI_60) (by decide) (Nat.le_refl 0) (Nat.le_refl 0) (Nat.le_of_ble_eq_true rfl) dX10_lamps_65 (fun x_65 I_65 J_65 h_65 => ?_)
      obtain ⟨h_65, frI_65⟩ := h_65
      have kI_65 : Kp 0 49 Ia I_65 := Kp_tr kI_60 (Kp_wd h_65.1 (by decide) (by decide))
      have kJ_65 : Kp 0 49 Ja J_65 := Kp_tr kJ_60 (Kp_wd h_65.2.1 (by decide) (by decide))
      have cI_65 : CX I_65 := h_65.2.2.1
      have qI_65 := XI_o cI_65.1
      have wI_65 : Fw [2, 3, 18, 19, 20, 21, 22, 23, 24, 25, 26, 27, 28, 29, 30, 33] [(0, 16), (1, 5), (1, 7), (1, 8), (1, 10), (1, 11)] Ia I_65 := Fw_tr wI_60 (Fw_wd h_65.2.2.2.1 (by decide) (by decide))
      have r5_I_65 : I_65 1 5 = I_60 1 5 := h_65.2.2.2.1 1 5 (by decide) (by decide) (by decide)
      have r6_I_65 : I_65 1 6 = I_60 1 6 := h_65.2.2.2.1 1 6 (by decide) (by decide) (by decide)
      have r7_I_65 : I_65 1 7 = I_60 1 7 := h_65.2.2.2.1 1 7 (by decide) (by decide) (by decide)
      have r8_I_65 : I_65 1 8 = I_60 1 8 := h_65.2.2.2.1 1 8 (by decide) (by decide) (by decide)
      have r9_I_65 : I_65 1 9 = I_60 1 9 := h_65.2.2.2.1 1 9 (by decide) (by decide) (by decide)
      have r10_I_65 : I_65 1 10 = I_60 1 10 := h_65.2.2.2.1 1 10 (by decide) (by decide) (by decide)
      have r11_I_65 : I_65 1 11 = I_60 1 11 := h_65.2.2.2.1 1 11 (by decide) (by decide) (by decide)
      have r81_I_65 : I_65 8 1 = I_60 8 1 := h_65.2.2.2.1 8 1 (by decide) (by decide) (by decide)
      have rf_I_65 : FU (I_65 1 5) = FU (I_60 1 5) := by rw [r5_I_65]
      have y2_I_65 : I_65 2 = I_60 2 := Fw_row h_65.2.2.2.1 2 (by decide) (by decide) (by decide)
      have y3_I_65 : I_65 3 = I_60 3 := Fw_row h_65.2.2.2.1 3 (by decide) (by decide) (by decide)
      have xv_I_65 := h_65.2.2.2.2
      have ekI_65 : EK I_65 := EK_w ekI_60 h_65.2.2.2.1 (by decide) (by decide)
      refine rI hX (pc := 68) hT (Nat.le_refl 0) (Nat.le_refl 0) dX10_lamps_68 ?_
      exact ⟨⟨⟨kI_65, kJ_65, cI_65, (Fw_wd wI_65 (by decide) (by decide)), (fun h9 => absurd (by omega) h9), (fun _ => ⟨by rw [xv_I_65.1, hv_24], wI_65, by omega, by omega, (fun j hj => by rw [y2_I_65, y2_I_60]; exact v2_I_56 j hj), xv_I_65.2, by omega, by omega, by omega, (fun s hs => by rw [y3_I_65, y3_I_60]; exact v3_I_56 s hs)⟩)⟩, frI_65⟩, ekI_65⟩
    · simp only [w32_mod] at h_8
      refine ww_aload_n hX (pc := 11) dX10_lamps_11 rfl ?_
      refine ww_iconst hX (pc := 12) (x := (-1)) dX10_lamps_12 rfl ?_
      refine vI1 hX (pc := 13) sX10_89 (xs_0 hL) (c8_X10_refuse l0 hL hC hF (by omega) (by omega)) (by decide) (Nat.le_refl 0) (Nat.le_refl 0) (Nat.le_of_ble_eq_true rfl) dX10_lamps_13 (fun x_13 I_13 J_13 h_13 => ?_)
      obtain ⟨h_13, frI_13⟩ := h_13
      have kI_13 : Kp 0 49 Ia I_13 := Kp_tr (Kp_rf (a := 0) (b := 49)) (Kp_wd h_13.1 (by decide) (by decide))
      have kJ_13 : Kp 0 49 Ja J_13 := Kp_tr (Kp_rf (a := 0) (b := 49)) (Kp_wd h_13.2.1 (by decide) (by decide))
      have cI_13 : CX I_13 := h_13.2.2.1
      have qI_13 := XI_o cI_13.1
      have wI_13 : Fw [2, 3, 18, 19, 20, 21, 22, 23, 24, 25, 26, 27, 28, 29, 30, 33, 48] [(0, 16), (1, 5), (1, 7), (1, 8), (1, 10), (1, 11)] Ia I_13 := Fw_tr Fw_rf (Fw_wd h_13.2.2.2.1 (by decide) (by decide))
      have r5_I_13 : I_13 1 5 = Ia 1 5 := h_13.2.2.2.1 1 5 (by decide) (by decide) (by decide)
      have r6_I_13 : I_13 1 6 = Ia 1 6 := h_13.2.2.2.1 1 6 (by decide) (by decide) (by decide)
      have r7_I_13 : I_13 1 7 = Ia 1 7 := h_13.2.2.2.1 1 7 (by decide) (by decide) (by decide)
      have r8_I_13 : I_13 1 8 = Ia 1 8 := h_13.2.2.2.1 1 8 (by decide) (by decide) (by decide)
      have r9_I_13 : I_13 1 9 = Ia 1 9 := h_13.2.2.2.1 1 9 (by decide) (by decide) (by decide)
      have r10_I_13 : I_13 1 10 = Ia 1 10 := h_13.2.2.2.1 1 10 (by decide) (by decide) (by decide)
      have r11_I_13 : I_13 1 11 = Ia 1 11 := h_13.2.2.2.1 1 11 (by decide) (by decide) (by decide)
      have r81_I_13 : I_13 8 1 = Ia 8 1 := h_13.2.2.2.1 8 1 (by decide) (by decide) (by decide)
      have rf_I_13 : FU (I_13 1 5) = FU (Ia 1 5) := by rw [r5_I_13]
      have y2_I_13 : I_13 2 = Ia 2 := Fw_row h_13.2.2.2.1 2 (by decide) (by decide) (by decide)
      have y3_I_13 : I_13 3 = Ia 3 := Fw_row h_13.2.2.2.1 3 (by decide) (by decide) (by decide)
      have xv_I_13 := h_13.2.2.2.2
      have ekI_13 : EK I_13 := EK_w hEK h_13.2.2.2.1 (by decide) (by decide)
      refine rI hX (pc := 16) hT (Nat.le_refl 0) (Nat.le_refl 0) dX10_lamps_16 ?_
      exact ⟨⟨⟨kI_13, kJ_13, cI_13, (Fw_wd wI_13 (by decide) (by decide)), (fun _ => ⟨xv_I_13.1, h_13.2.2.2.1, xv_I_13.2⟩), (fun h9 => absurd h9 (by omega))⟩, frI_13⟩, ekI_13⟩
set_option maxHeartbeats 4000000 in
set_option maxRecDepth 20000 in
theorem cE_X10_news (l0 : Launch) {Ia Ja : aI1} {Ra : aR1} {Sa : aS1} (hL : LY Ra Sa) (hC : CX Ia) (hF : FRk Ia Ja) (hEK : EK Ia) {a : Int} (ha0 : -2147483648 ≤ a) (ha1 : a < 2147483648)  : CT l0 10 0 0 mX10_news [kR (some 0), kI a] Ia Ja Ra Sa (cI (fun x I' J' => ((Kp 0 49 Ia I' ∧ Kp 0 49 Ja J' ∧ CX I' ∧ Fw [3, 18, 19, 20, 21, 22, 23, 24, 25, 26, 27, 28, 29, 30, 33, 48] [(0, 16), (1, 6), (1, 8), (1, 10), (1, 11)] Ia I' ∧ (¬ (2 ≤ a ∧ a ≤ 8) → x = -1 ∧ RFc Ia I' (-1)) ∧ ((2 ≤ a ∧ a ≤ 8) → x = Ia 1 6 ∧ Fw [3, 18, 19, 20, 21, 22, 23, 24, 25, 26, 27, 28, 29, 30, 33] [(0, 16), (1, 6), (1, 8), (1, 10), (1, 11)] Ia I' ∧ I' 1 6 = a ∧ I' 0 16 = 0 ∧ I' 1 8 = 0 ∧ I' 1 10 = 0 ∧ I' 1 11 = 0 ∧ (∀ s, s < 256 → I' 3 s = -1))) ∧ FRk I' J') ∧ EK I') Ra Sa) := by
  refine ct_in pn_X10 (Nat.le_of_ble_eq_true rfl) (fun X hX hT hIn => ?_)
  have hX : aK l0 X cX10_news 3 RX10 (some .int) 10 0 0 := hX
  change WW X 0 [some (kR (some 0)), some (kI a), none] [] Ia Ja Ra Sa 0 0
  have hI := hC.1
  have hq := XI_o hI
  refine ww_iload_n hX (pc := 0) dX10_news_0 rfl ?_
  refine ww_iconst hX (pc := 1) (x := 2) dX10_news_1 rfl ?_
  refine ww_icmp_lt hX (pc := 2) (tgt := 11) dX10_news_2 (by decide) (fun h_2 => ?_) (fun h_2 => ?_)
  · simp only [w32_mod] at h_2
    refine ww_aload_n hX (pc := 11) dX10_news_11 rfl ?_
    refine ww_iconst hX (pc := 12) (x := (-1)) dX10_news_12 rfl ?_
    refine vI1 hX (pc := 13) sX10_89 (xs_0 hL) (c8_X10_refuse l0 hL hC hF (by omega) (by omega)) (by decide) (Nat.le_refl 0) (Nat.le_refl 0) (Nat.le_of_ble_eq_true rfl) dX10_news_13 (fun x_13 I_13 J_13 h_13 => ?_)
    obtain ⟨h_13, frI_13⟩ := h_13
    have kI_13 : Kp 0 49 Ia I_13 := Kp_tr (Kp_rf (a := 0) (b := 49)) (Kp_wd h_13.1 (by decide) (by decide))
    have kJ_13 : Kp 0 49 Ja J_13 := Kp_tr (Kp_rf (a := 0) (b := 49)) (Kp_wd h_13.2.1 (by decide) (by decide))
    have cI_13 : CX I_13 := h_13.2.2.1
    have qI_13 := XI_o cI_13.1
    have wI_13 : Fw [3, 18, 19, 20, 21, 22, 23, 24, 25, 26, 27, 28, 29, 30, 33, 48] [(0, 16), (1, 6), (1, 8), (1, 10), (1, 11)] Ia I_13 := Fw_tr Fw_rf (Fw_wd h_13.2.2.2.1 (by decide) (by decide))
    have r5_I_13 : I_13 1 5 = Ia 1 5 := h_13.2.2.2.1 1 5 (by decide) (by decide) (by decide)
    have r6_I_13 : I_13 1 6 = Ia 1 6 := h_13.2.2.2.1 1 6 (by decide) (by decide) (by decide)
    have r7_I_13 : I_13 1 7 = Ia 1 7 := h_13.2.2.2.1 1 7 (by decide) (by decide) (by decide)
    have r8_I_13 : I_13 1 8 = Ia 1 8 := h_13.2.2.2.1 1 8 (by decide) (by decide) (by decide)
    have r9_I_13 : I_13 1 9 = Ia 1 9 := h_13.2.2.2.1 1 9 (by decide) (by decide) (by decide)
    have r10_I_13 : I_13 1 10 = Ia 1 10 := h_13.2.2.2.1 1 10 (by decide) (by decide) (by decide)
    have r11_I_13 : I_13 1 11 = Ia 1 11 := h_13.2.2.2.1 1 11 (by decide) (by decide) (by decide)
    have r81_I_13 : I_13 8 1 = Ia 8 1 := h_13.2.2.2.1 8 1 (by decide) (by decide) (by decide)
    have rf_I_13 : FU (I_13 1 5) = FU (Ia 1 5) := by rw [r5_I_13]
    have y3_I_13 : I_13 3 = Ia 3 := Fw_row h_13.2.2.2.1 3 (by decide) (by decide) (by decide)
    have xv_I_13 := h_13.2.2.2.2
    have ekI_13 : EK I_13 := EK_w hEK h_13.2.2.2.1 (by decide) (by decide)
    refine rI hX (pc := 16) hT (Nat.le_refl 0) (Nat.le_refl 0) dX10_news_16 ?_
    exact ⟨⟨⟨kI_13, kJ_13, cI_13, (Fw_wd wI_13 (by decide) (by decide)), (fun _ => ⟨xv_I_13.1, h_13.2.2.2.1, xv_I_13.2⟩), (fun h9 => absurd h9 (by omega))⟩, frI_13⟩, ekI_13⟩
  · simp only [w32_mod] at h_2
    refine ww_iload_n hX (pc := 5) dX10_news_5 rfl ?_
    refine ww_bipush hX (pc := 6) (x := 8) dX10_news_6 (by decide) ?_
    refine ww_icmp_le hX (pc := 8) (tgt := 17) dX10_news_8 (by decide) (fun h_8 => ?_) (fun h_8 => ?_)
    · simp only [w32_mod] at h_8
      refine ww_aload_n hX (pc := 17) dX10_news_17 rfl ?_
      refine ww_getR hX (pc := 18) fX10_10 (by decide) (xs_0 hL) (xr_0_0 hL) dX10_news_18 ?_
      refine ww_getI hX (pc := 21) fX10_117 (by decide) (xs_1 hL) dX10_news_21 ?_
      refine ww_nmI (fun v_24 hv_24 => ?_)
      refine ww_istore_n hX (pc := 24) (lv' := [some (kR (some 0)), some (kI a), some (kI v_24)]) dX10_news_24 (by decide) rfl rfl ?_
      refine ww_aload_n hX (pc := 25) dX10_news_25 rfl ?_
      refine ww_getR hX (pc := 26) fX10_10 (by decide) (xs_0 hL) (xr_0_0 hL) dX10_news_26 ?_
      refine ww_iload_n hX (pc := 29) dX10_news_29 rfl ?_
      refine ww_putI hX (pc := 30) (fun h9 => absurd h9 (by decide)) gX10_117 rfl (xs_1 hL) dX10_news_30 ?_
      refine ww_nmH (fun I_30 eI_30 => ?_)
      have kI_30 : Kp 0 49 Ia I_30 := by rw [eI_30]; exact Kp_up (Kp_rf (a := 0) (b := 49)) _ _ (by decide)
      have cI_30 : CX I_30 := by rw [eI_30]; exact CX_x hC (XI_1_6 hC.1 (by omega) (by omega)) (by decide)
      have qI_30 := XI_o cI_30.1
      have r5_I_30 : I_30 1 5 = Ia 1 5 := by rw [eI_30, up2_n _ _ (Or.inr (by decide))]
      skip
      have r8_I_30 : I_30 1 8 = Ia 1 8 := by rw [eI_30, up2_n _ _ (Or.inr (by decide))]
      have r9_I_30 : I_30 1 9 = Ia 1 9 := by rw [eI_30, up2_n _ _ (Or.inr (by decide))]
      have r10_I_30 : I_30 1 10 = Ia 1 10 := by rw [eI_30, up2_n _ _ (Or.inr (by decide))]
      have r11_I_30 : I_30 1 11 = Ia 1 11 := by rw [eI_30, up2_n _ _ (Or.inr (by decide))]
      have rf_I_30 : FU (I_30 1 5) = FU (Ia 1 5) := by rw [r5_I_30]
      have wI_30 : Fw [3, 18, 19, 20, 21, 22, 23, 24, 25, 26, 27, 28, 29, 30, 33] [(0, 16), (1, 6), (1, 8), (1, 10), (1, 11)] Ia I_30 := by rw [eI_30]; exact Fw_up Fw_rf (Or.inr (by decide))
      have r7_I_30 : I_30 1 7 = Ia 1 7 := by rw [eI_30, up2_n _ _ (Or.inr (by decide))]
      have y3_I_30 : I_30 3 = Ia 3 := by rw [eI_30, up2_off _ _ _ (by decide)]
      have ekI_30 : EK I_30 := by rw [eI_30]; exact EK_u1 hEK (by decide)
      refine ww_aload_n hX (pc := 33) dX10_news_33 rfl ?_
      refine ww_getR hX (pc := 34) fX10_10 (by decide) (xs_0 hL) (xr_0_0 hL) dX10_news_34 ?_
      refine vV0 hX (pc := 37) sX10_108 (xs_1 hL) (c_X1_forget l0 hL) (by decide) (Nat.le_refl 0) (Nat.le_refl 0) (Nat.le_of_ble_eq_true rfl) dX10_news_37 (fun I_37 J_37 h_37 => ?_)
      obtain ⟨rfl, eI_37⟩ := h_37
      have kI_37 : Kp 0 49 Ia I_37 := by rw [eI_37]; exact Kp_up (Kp_up (Kp_up (Kp_upR kI_30 _ (by decide)) _ _ (by decide)) _ _ (by decide)) _ _ (by decide)
      have cI_37 : CX I_37 := by
        refine CX_forget cI_30 (fun a h1 h2 h3 => ?_) ?_ ?_ ?_ ?_ ?_ ?_ (fun s hs => ?_)
        · rw [eI_37, up2_off _ _ _ h1, up2_off _ _ _ h1, up2_off _ _ _ h1, upR_n _ _ h3]
        · rw [eI_37, up2_n _ _ (Or.inr (by decide)), up2_n _ _ (Or.inr (by decide)), up2_n _ _ (Or.inr (by decide)), upR_n _ _ (by decide)]; omega
        · rw [eI_37, up2_n _ _ (Or.inr (by decide)), up2_n _ _ (Or.inr (by decide)), up2_n _ _ (Or.inr (by decide)), upR_n _ _ (by decide)]; omega
        · rw [eI_37, up2_n _ _ (Or.inr (by decide)), up2_n _ _ (Or.inr (by decide)), up2_s]
        · rw [eI_37, up2_n _ _ (Or.inr (by decide)), up2_n _ _ (Or.inr (by decide)), up2_n _ _ (Or.inr (by decide)), upR_n _ _ (by decide)]
        · rw [eI_37, up2_n _ _ (Or.inr (by decide)), up2_s]
        · rw [eI_37, up2_s]
        · rw [eI_37, up2_off _ _ _ (by decide), up2_off _ _ _ (by decide), up2_off _ _ _ (by decide), upR_s, if_pos hs]
      have wI_37 : Fw [3, 18, 19, 20, 21, 22, 23, 24, 25, 26, 27, 28, 29, 30, 33] [(0, 16), (1, 6), (1, 8), (1, 10), (1, 11)] Ia I_37 := by rw [eI_37]; exact Fw_up (Fw_up (Fw_up (Fw_upR wI_30 (by decide)) (Or.inr (by decide))) (Or.inr (by decide))) (Or.inr (by decide))
      have v8_I_37 : I_37 1 8 = 0 := by rw [eI_37, up2_n _ _ (Or.inr (by decide)), up2_n _ _ (Or.inr (by decide)), up2_s]
      have v10_I_37 : I_37 1 10 = 0 := by rw [eI_37, up2_n _ _ (Or.inr (by decide)), up2_s]
      have v11_I_37 : I_37 1 11 = 0 := by rw [eI_37, up2_s]
      have v3_I_37 : ∀ s, s < 256 → I_37 3 s = -1 := fun s hs => by rw [eI_37, up2_off _ _ _ (by decide), up2_off _ _ _ (by decide), up2_off _ _ _ (by decide), upR_s, if_pos hs]
      have v6_I_37 : I_37 1 6 = a := by rw [eI_37, up2_n _ _ (Or.inr (by decide)), up2_n _ _ (Or.inr (by decide)), up2_n _ _ (Or.inr (by decide)), upR_n _ _ (by decide), eI_30, up2_s]
      refine ww_aload_n hX (pc := 40) dX10_news_40 rfl ?_
      refine vV0 hX (pc := 41) sX10_111 (xs_0 hL) (cE_X10_codeChanged l0 hL cI_37) (by decide) (Nat.le_refl 0) (Nat.le_refl 0) (Nat.le_of_ble_eq_true rfl) dX10_news_41 (fun I_41 J_41 h_41 => ?_)
      obtain ⟨h_41, ekI_41⟩ := h_41
      obtain ⟨h_41, frI_41⟩ := h_41
      have kI_41 : Kp 0 49 Ia I_41 := Kp_tr kI_37 (Kp_wd h_41.1 (by decide) (by decide))
      have kJ_41 : Kp 0 49 Ja J_41 := Kp_tr (Kp_rf (a := 0) (b := 49)) (Kp_wd h_41.2.1 (by decide) (by decide))
      have cI_41 : CX I_41 := h_41.2.2.1
      have qI_41 := XI_o cI_41.1
      have wI_41 : Fw [3, 18, 19, 20, 21, 22, 23, 24, 25, 26, 27, 28, 29, 30, 33] [(0, 16), (1, 6), (1, 8), (1, 10), (1, 11)] Ia I_41 := Fw_tr wI_37 (Fw_wd h_41.2.2.2.1 (by decide) (by decide))
      have r5_I_41 : I_41 1 5 = I_37 1 5 := h_41.2.2.2.1 1 5 (by decide) (by decide) (by decide)
      have r6_I_41 : I_41 1 6 = I_37 1 6 := h_41.2.2.2.1 1 6 (by decide) (by decide) (by decide)
      have r7_I_41 : I_41 1 7 = I_37 1 7 := h_41.2.2.2.1 1 7 (by decide) (by decide) (by decide)
      have r8_I_41 : I_41 1 8 = I_37 1 8 := h_41.2.2.2.1 1 8 (by decide) (by decide) (by decide)
      have r9_I_41 : I_41 1 9 = I_37 1 9 := h_41.2.2.2.1 1 9 (by decide) (by decide) (by decide)
      have r10_I_41 : I_41 1 10 = I_37 1 10 := h_41.2.2.2.1 1 10 (by decide) (by decide) (by decide)
      have r11_I_41 : I_41 1 11 = I_37 1 11 := h_41.2.2.2.1 1 11 (by decide) (by decide) (by decide)
      have r81_I_41 : I_41 8 1 = I_37 8 1 := h_41.2.2.2.1 8 1 (by decide) (by decide) (by decide)
      have rf_I_41 : FU (I_41 1 5) = FU (I_37 1 5) := by rw [r5_I_41]
      have y3_I_41 : I_41 3 = I_37 3 := Fw_row h_41.2.2.2.1 3 (by decide) (by decide) (by decide)
      refine ww_aload_n hX (pc := 44) dX10_news_44 rfl ?_
      refine ww_iload_n hX (pc := 45) dX10_news_45 rfl ?_
      refine vI1 hX (pc := 46) sX10_114 (xs_0 hL) (c8_X10_accept l0 hL cI_41 frI_41) (by decide) (Nat.le_refl 0) (Nat.le_refl 0) (Nat.le_of_ble_eq_true rfl) dX10_news_46 (fun x_46 I_46 J_46 h_46 => ?_)
      obtain ⟨h_46, frI_46⟩ := h_46
      have kI_46 : Kp 0 49 Ia I_46 := Kp_tr kI_41 (Kp_wd h_46.1 (by decide) (by decide))
      have kJ_46 : Kp 0 49 Ja J_46 := Kp_tr kJ_41 (Kp_wd h_46.2.1 (by decide) (by decide))
      have cI_46 : CX I_46 := h_46.2.2.1
      have qI_46 := XI_o cI_46.1
      have wI_46 : Fw [3, 18, 19, 20, 21, 22, 23, 24, 25, 26, 27, 28, 29, 30, 33] [(0, 16), (1, 6), (1, 8), (1, 10), (1, 11)] Ia I_46 := Fw_tr wI_41 (Fw_wd h_46.2.2.2.1 (by decide) (by decide))
      have r5_I_46 : I_46 1 5 = I_41 1 5 := h_46.2.2.2.1 1 5 (by decide) (by decide) (by decide)
      have r6_I_46 : I_46 1 6 = I_41 1 6 := h_46.2.2.2.1 1 6 (by decide) (by decide) (by decide)
      have r7_I_46 : I_46 1 7 = I_41 1 7 := h_46.2.2.2.1 1 7 (by decide) (by decide) (by decide)
      have r8_I_46 : I_46 1 8 = I_41 1 8 := h_46.2.2.2.1 1 8 (by decide) (by decide) (by decide)
      have r9_I_46 : I_46 1 9 = I_41 1 9 := h_46.2.2.2.1 1 9 (by decide) (by decide) (by decide)
      have r10_I_46 : I_46 1 10 = I_41 1 10 := h_46.2.2.2.1 1 10 (by decide) (by decide) (by decide)
      have r11_I_46 : I_46 1 11 = I_41 1 11 := h_46.2.2.2.1 1 11 (by decide) (by decide) (by decide)
      have r81_I_46 : I_46 8 1 = I_41 8 1 := h_46.2.2.2.1 8 1 (by decide) (by decide) (by decide)
      have rf_I_46 : FU (I_46 1 5) = FU (I_41 1 5) := by rw [r5_I_46]
      have y3_I_46 : I_46 3 = I_41 3 := Fw_row h_46.2.2.2.1 3 (by decide) (by decide) (by decide)
      have xv_I_46 := h_46.2.2.2.2
      have ekI_46 : EK I_46 := EK_w ekI_41 h_46.2.2.2.1 (by decide) (by decide)
      refine rI hX (pc := 49) hT (Nat.le_refl 0) (Nat.le_refl 0) dX10_news_49 ?_
      exact ⟨⟨⟨kI_46, kJ_46, cI_46, (Fw_wd wI_46 (by decide) (by decide)), (fun h9 => absurd (by omega) h9), (fun _ => ⟨by rw [xv_I_46.1, hv_24], wI_46, by omega, xv_I_46.2, by omega, by omega, by omega, (fun s hs => by rw [y3_I_46, y3_I_41]; exact v3_I_37 s hs)⟩)⟩, frI_46⟩, ekI_46⟩
    · simp only [w32_mod] at h_8
      refine ww_aload_n hX (pc := 11) dX10_news_11 rfl ?_
      refine ww_iconst hX (pc := 12) (x := (-1)) dX10_news_12 rfl ?_
      refine vI1 hX (pc := 13) sX10_89 (xs_0 hL) (c8_X10_refuse l0 hL hC hF (by omega) (by omega)) (by decide) (Nat.le_refl 0) (Nat.le_refl 0) (Nat.le_of_ble_eq_true rfl) dX10_news_13 (fun x_13 I_13 J_13 h_13 => ?_)
      obtain ⟨h_13, frI_13⟩ := h_13
      have kI_13 : Kp 0 49 Ia I_13 := Kp_tr (Kp_rf (a := 0) (b := 49)) (Kp_wd h_13.1 (by decide) (by decide))
      have kJ_13 : Kp 0 49 Ja J_13 := Kp_tr (Kp_rf (a := 0) (b := 49)) (Kp_wd h_13.2.1 (by decide) (by decide))
      have cI_13 : CX I_13 := h_13.2.2.1
      have qI_13 := XI_o cI_13.1
      have wI_13 : Fw [3, 18, 19, 20, 21, 22, 23, 24, 25, 26, 27, 28, 29, 30, 33, 48] [(0, 16), (1, 6), (1, 8), (1, 10), (1, 11)] Ia I_13 := Fw_tr Fw_rf (Fw_wd h_13.2.2.2.1 (by decide) (by decide))
      have r5_I_13 : I_13 1 5 = Ia 1 5 := h_13.2.2.2.1 1 5 (by decide) (by decide) (by decide)
      have r6_I_13 : I_13 1 6 = Ia 1 6 := h_13.2.2.2.1 1 6 (by decide) (by decide) (by decide)
      have r7_I_13 : I_13 1 7 = Ia 1 7 := h_13.2.2.2.1 1 7 (by decide) (by decide) (by decide)
      have r8_I_13 : I_13 1 8 = Ia 1 8 := h_13.2.2.2.1 1 8 (by decide) (by decide) (by decide)
      have r9_I_13 : I_13 1 9 = Ia 1 9 := h_13.2.2.2.1 1 9 (by decide) (by decide) (by decide)
      have r10_I_13 : I_13 1 10 = Ia 1 10 := h_13.2.2.2.1 1 10 (by decide) (by decide) (by decide)
      have r11_I_13 : I_13 1 11 = Ia 1 11 := h_13.2.2.2.1 1 11 (by decide) (by decide) (by decide)
      have r81_I_13 : I_13 8 1 = Ia 8 1 := h_13.2.2.2.1 8 1 (by decide) (by decide) (by decide)
      have rf_I_13 : FU (I_13 1 5) = FU (Ia 1 5) := by rw [r5_I_13]
      have y3_I_13 : I_13 3 = Ia 3 := Fw_row h_13.2.2.2.1 3 (by decide) (by decide) (by decide)
      have xv_I_13 := h_13.2.2.2.2
      have ekI_13 : EK I_13 := EK_w hEK h_13.2.2.2.1 (by decide) (by decide)
      refine rI hX (pc := 16) hT (Nat.le_refl 0) (Nat.le_refl 0) dX10_news_16 ?_
      exact ⟨⟨⟨kI_13, kJ_13, cI_13, (Fw_wd wI_13 (by decide) (by decide)), (fun _ => ⟨xv_I_13.1, h_13.2.2.2.1, xv_I_13.2⟩), (fun h9 => absurd h9 (by omega))⟩, frI_13⟩, ekI_13⟩
set_option maxHeartbeats 4000000 in
set_option maxRecDepth 20000 in
theorem cE_X10_broken (l0 : Launch) {Ia Ja : aI1} {Ra : aR1} {Sa : aS1} (hL : LY Ra Sa) (hC : CX Ia) (hF : FRk Ia Ja) (hEK : EK Ia) {a b : Int} (ha0 : -2147483648 ≤ a) (ha1 : a < 2147483648) (hb0 : -2147483648 ≤ b) (hb1 : b < 2147483648)  : CT l0 10 0 0 mX10_broken [kR (some 0), kI a, kI b] Ia Ja Ra Sa (cI (fun x I' J' => ((Kp 0 49 Ia I' ∧ Kp 0 49 Ja J' ∧ CX I' ∧ Fw [18, 19, 20, 21, 22, 23, 24, 25, 26, 27, 28, 29, 30, 33, 48] [(0, 16), (1, 7)] Ia I' ∧ (¬ (0 ≤ a ∧ a < Ia 1 5 ∧ 0 ≤ b ∧ b ≤ 1) → x = -1 ∧ RFc Ia I' (-1)) ∧ ((0 ≤ a ∧ a < Ia 1 5 ∧ 0 ≤ b ∧ b ≤ 1) → x = i_and (i_shr (Ia 1 7) a) 1 ∧ Fw [18, 19, 20, 21, 22, 23, 24, 25, 26, 27, 28, 29, 30, 33] [(0, 16), (1, 7)] Ia I' ∧ I' 0 16 = 0 ∧ I' 1 7 = i_or (i_and (Ia 1 7) (i_xor (i_shl 1 a) (-1))) (i_shl b a))) ∧ FRk I' J') ∧ EK I') Ra Sa) := by
  refine ct_in pn_X10 (Nat.le_of_ble_eq_true rfl) (fun X hX hT hIn => ?_)
  have hX : aK l0 X cX10_broken 4 RX10 (some .int) 10 0 0 := hX
  change WW X 0 [some (kR (some 0)), some (kI a), some (kI b), none] [] Ia Ja Ra Sa 0 0
  have hI := hC.1
  have hq := XI_o hI
  refine ww_aload_n hX (pc := 0) dX10_broken_0 rfl ?_
  refine ww_getR hX (pc := 1) fX10_10 (by decide) (xs_0 hL) (xr_0_0 hL) dX10_broken_1 ?_
  refine ww_iload_n hX (pc := 4) dX10_broken_4 rfl ?_
  refine vI1 hX (pc := 5) sX10_120 (xs_1 hL) (c_X1_isLamp l0 hL hC.1 (by omega)) (by decide) (Nat.le_refl 0) (Nat.le_refl 0) (Nat.le_of_ble_eq_true rfl) dX10_broken_5 (fun x_5 I_5 J_5 h_5 => ?_)
  obtain ⟨rfl, rfl, h_5⟩ := h_5
  refine ww_if_eq hX (pc := 8) (tgt := 20) dX10_broken_8 (by decide) (fun h_8 => ?_) (fun h_8 => ?_)
  · simp only [w32_mod] at h_8
    refine ww_aload_n hX (pc := 20) dX10_broken_20 rfl ?_
    refine ww_iconst hX (pc := 21) (x := (-1)) dX10_broken_21 rfl ?_
    refine vI1 hX (pc := 22) sX10_89 (xs_0 hL) (c8_X10_refuse l0 hL hC hF (by omega) (by omega)) (by decide) (Nat.le_refl 0) (Nat.le_refl 0) (Nat.le_of_ble_eq_true rfl) dX10_broken_22 (fun x_22 I_22 J_22 h_22 => ?_)
    obtain ⟨h_22, frI_22⟩ := h_22
    have kI_22 : Kp 0 49 Ia I_22 := Kp_tr (Kp_rf (a := 0) (b := 49)) (Kp_wd h_22.1 (by decide) (by decide))
    have kJ_22 : Kp 0 49 Ja J_22 := Kp_tr (Kp_rf (a := 0) (b := 49)) (Kp_wd h_22.2.1 (by decide) (by decide))
    have cI_22 : CX I_22 := h_22.2.2.1
    have qI_22 := XI_o cI_22.1
    have wI_22 : Fw [18, 19, 20, 21, 22, 23, 24, 25, 26, 27, 28, 29, 30, 33, 48] [(0, 16), (1, 7)] Ia I_22 := Fw_tr Fw_rf (Fw_wd h_22.2.2.2.1 (by decide) (by decide))
    have r5_I_22 : I_22 1 5 = Ia 1 5 := h_22.2.2.2.1 1 5 (by decide) (by decide) (by decide)
    have r6_I_22 : I_22 1 6 = Ia 1 6 := h_22.2.2.2.1 1 6 (by decide) (by decide) (by decide)
    have r7_I_22 : I_22 1 7 = Ia 1 7 := h_22.2.2.2.1 1 7 (by decide) (by decide) (by decide)
    have r8_I_22 : I_22 1 8 = Ia 1 8 := h_22.2.2.2.1 1 8 (by decide) (by decide) (by decide)
    have r9_I_22 : I_22 1 9 = Ia 1 9 := h_22.2.2.2.1 1 9 (by decide) (by decide) (by decide)
    have r10_I_22 : I_22 1 10 = Ia 1 10 := h_22.2.2.2.1 1 10 (by decide) (by decide) (by decide)
    have r11_I_22 : I_22 1 11 = Ia 1 11 := h_22.2.2.2.1 1 11 (by decide) (by decide) (by decide)
    have r81_I_22 : I_22 8 1 = Ia 8 1 := h_22.2.2.2.1 8 1 (by decide) (by decide) (by decide)
    have rf_I_22 : FU (I_22 1 5) = FU (Ia 1 5) := by rw [r5_I_22]
    have xv_I_22 := h_22.2.2.2.2
    have ekI_22 : EK I_22 := EK_w hEK h_22.2.2.2.1 (by decide) (by decide)
    refine rI hX (pc := 25) hT (Nat.le_refl 0) (Nat.le_refl 0) dX10_broken_25 ?_
    exact ⟨⟨⟨kI_22, kJ_22, cI_22, (Fw_wd wI_22 (by decide) (by decide)), (fun _ => ⟨xv_I_22.1, h_22.2.2.2.1, xv_I_22.2⟩), (fun h9 => absurd h9 (by omega))⟩, frI_22⟩, ekI_22⟩
  · simp only [w32_mod] at h_8
    have k_5 := h_5.2.mp (by omega)
    clear h_5
    refine ww_iload_n hX (pc := 11) dX10_broken_11 rfl ?_
    refine ww_if_lt hX (pc := 12) (tgt := 20) dX10_broken_12 (by decide) (fun h_12 => ?_) (fun h_12 => ?_)
    · simp only [w32_mod] at h_12
      refine ww_aload_n hX (pc := 20) dX10_broken_20 rfl ?_
      refine ww_iconst hX (pc := 21) (x := (-1)) dX10_broken_21 rfl ?_
      refine vI1 hX (pc := 22) sX10_89 (xs_0 hL) (c8_X10_refuse l0 hL hC hF (by omega) (by omega)) (by decide) (Nat.le_refl 0) (Nat.le_refl 0) (Nat.le_of_ble_eq_true rfl) dX10_broken_22 (fun x_22 I_22 J_22 h_22 => ?_)
      obtain ⟨h_22, frI_22⟩ := h_22
      have kI_22 : Kp 0 49 Ia I_22 := Kp_tr (Kp_rf (a := 0) (b := 49)) (Kp_wd h_22.1 (by decide) (by decide))
      have kJ_22 : Kp 0 49 Ja J_22 := Kp_tr (Kp_rf (a := 0) (b := 49)) (Kp_wd h_22.2.1 (by decide) (by decide))
      have cI_22 : CX I_22 := h_22.2.2.1
      have qI_22 := XI_o cI_22.1
      have wI_22 : Fw [18, 19, 20, 21, 22, 23, 24, 25, 26, 27, 28, 29, 30, 33, 48] [(0, 16), (1, 7)] Ia I_22 := Fw_tr Fw_rf (Fw_wd h_22.2.2.2.1 (by decide) (by decide))
      have r5_I_22 : I_22 1 5 = Ia 1 5 := h_22.2.2.2.1 1 5 (by decide) (by decide) (by decide)
      have r6_I_22 : I_22 1 6 = Ia 1 6 := h_22.2.2.2.1 1 6 (by decide) (by decide) (by decide)
      have r7_I_22 : I_22 1 7 = Ia 1 7 := h_22.2.2.2.1 1 7 (by decide) (by decide) (by decide)
      have r8_I_22 : I_22 1 8 = Ia 1 8 := h_22.2.2.2.1 1 8 (by decide) (by decide) (by decide)
      have r9_I_22 : I_22 1 9 = Ia 1 9 := h_22.2.2.2.1 1 9 (by decide) (by decide) (by decide)
      have r10_I_22 : I_22 1 10 = Ia 1 10 := h_22.2.2.2.1 1 10 (by decide) (by decide) (by decide)
      have r11_I_22 : I_22 1 11 = Ia 1 11 := h_22.2.2.2.1 1 11 (by decide) (by decide) (by decide)
      have r81_I_22 : I_22 8 1 = Ia 8 1 := h_22.2.2.2.1 8 1 (by decide) (by decide) (by decide)
      have rf_I_22 : FU (I_22 1 5) = FU (Ia 1 5) := by rw [r5_I_22]
      have xv_I_22 := h_22.2.2.2.2
      have ekI_22 : EK I_22 := EK_w hEK h_22.2.2.2.1 (by decide) (by decide)
      refine rI hX (pc := 25) hT (Nat.le_refl 0) (Nat.le_refl 0) dX10_broken_25 ?_
      exact ⟨⟨⟨kI_22, kJ_22, cI_22, (Fw_wd wI_22 (by decide) (by decide)), (fun _ => ⟨xv_I_22.1, h_22.2.2.2.1, xv_I_22.2⟩), (fun h9 => absurd h9 (by omega))⟩, frI_22⟩, ekI_22⟩
    · simp only [w32_mod] at h_12
      refine ww_iload_n hX (pc := 15) dX10_broken_15 rfl ?_
      refine ww_iconst hX (pc := 16) (x := 1) dX10_broken_16 rfl ?_
      refine ww_icmp_le hX (pc := 17) (tgt := 26) dX10_broken_17 (by decide) (fun h_17 => ?_) (fun h_17 => ?_)
      · simp only [w32_mod] at h_17
        refine ww_aload_n hX (pc := 26) dX10_broken_26 rfl ?_
        refine ww_getR hX (pc := 27) fX10_10 (by decide) (xs_0 hL) (xr_0_0 hL) dX10_broken_27 ?_
        refine ww_getI hX (pc := 30) fX10_96 (by decide) (xs_1 hL) dX10_broken_30 ?_
        refine ww_iload_n hX (pc := 33) dX10_broken_33 rfl ?_
        refine ww_ishr hX (pc := 34) dX10_broken_34 ?_
        refine ww_iconst hX (pc := 35) (x := 1) dX10_broken_35 rfl ?_
        refine ww_iand hX (pc := 36) dX10_broken_36 ?_
        refine ww_nmI (fun v_37 hv_37 => ?_)
        refine ww_istore_n hX (pc := 37) (lv' := [some (kR (some 0)), some (kI a), some (kI b), some (kI v_37)]) dX10_broken_37 (by decide) rfl rfl ?_
        refine ww_aload_n hX (pc := 38) dX10_broken_38 rfl ?_
        refine ww_getR hX (pc := 39) fX10_10 (by decide) (xs_0 hL) (xr_0_0 hL) dX10_broken_39 ?_
        refine ww_aload_n hX (pc := 42) dX10_broken_42 rfl ?_
        refine ww_getR hX (pc := 43) fX10_10 (by decide) (xs_0 hL) (xr_0_0 hL) dX10_broken_43 ?_
        refine ww_getI hX (pc := 46) fX10_96 (by decide) (xs_1 hL) dX10_broken_46 ?_
        refine ww_iconst hX (pc := 49) (x := 1) dX10_broken_49 rfl ?_
        refine ww_iload_n hX (pc := 50) dX10_broken_50 rfl ?_
        refine ww_ishl hX (pc := 51) dX10_broken_51 ?_
        refine ww_iconst hX (pc := 52) (x := (-1)) dX10_broken_52 rfl ?_
        refine ww_ixor hX (pc := 53) dX10_broken_53 ?_
        refine ww_iand hX (pc := 54) dX10_broken_54 ?_
        refine ww_iload_n hX (pc := 55) dX10_broken_55 rfl ?_
        refine ww_iload_n hX (pc := 56) dX10_broken_56 rfl ?_
        refine ww_ishl hX (pc := 57) dX10_broken_57 ?_
        refine ww_ior hX (pc := 58) dX10_broken_58 ?_
        refine ww_putI hX (pc := 59) (fun h9 => absurd h9 (by decide)) gX10_96 rfl (xs_1 hL) dX10_broken_59 ?_
        refine ww_nmH (fun I_59 eI_59 => ?_)
        have kI_59 : Kp 0 49 Ia I_59 := by rw [eI_59]; exact Kp_up (Kp_rf (a := 0) (b := 49)) _ _ (by decide)
        have cI_59 : CX I_59 := by rw [eI_59]; exact CX_x hC (XI_1_7 hC.1) (by decide)
        have qI_59 := XI_o cI_59.1
        have r5_I_59 : I_59 1 5 = Ia 1 5 := by rw [eI_59, up2_n _ _ (Or.inr (by decide))]
        have r6_I_59 : I_59 1 6 = Ia 1 6 := by rw [eI_59, up2_n _ _ (Or.inr (by decide))]
        have r8_I_59 : I_59 1 8 = Ia 1 8 := by rw [eI_59, up2_n _ _ (Or.inr (by decide))]
        have r9_I_59 : I_59 1 9 = Ia 1 9 := by rw [eI_59, up2_n _ _ (Or.inr (by decide))]
        have r10_I_59 : I_59 1 10 = Ia 1 10 := by rw [eI_59, up2_n _ _ (Or.inr (by decide))]
        have r11_I_59 : I_59 1 11 = Ia 1 11 := by rw [eI_59, up2_n _ _ (Or.inr (by decide))]
        have rf_I_59 : FU (I_59 1 5) = FU (Ia 1 5) := by rw [r5_I_59]
        have wI_59 : Fw [18, 19, 20, 21, 22, 23, 24, 25, 26, 27, 28, 29, 30, 33] [(0, 16), (1, 7)] Ia I_59 := by rw [eI_59]; exact Fw_up Fw_rf (Or.inr (by decide))
        have z7 := (congrFun (congrFun eI_59 1) 7).trans (up2_s _ _ _ _)
        refine ww_aload_n hX (pc := 62) dX10_broken_62 rfl ?_
        refine vV0 hX (pc := 63) sX10_111 (xs_0 hL) (cE_X10_codeChanged l0 hL cI_59) (by decide) (Nat.le_refl 0) (Nat.le_refl 0) (Nat.le_of_ble_eq_true rfl) dX10_broken_63 (fun I_63 J_63 h_63 => ?_)
        obtain ⟨h_63, ekI_63⟩ := h_63
        obtain ⟨h_63, frI_63⟩ := h_63
        have kI_63 : Kp 0 49 Ia I_63 := Kp_tr kI_59 (Kp_wd h_63.1 (by decide) (by decide))
        have kJ_63 : Kp 0 49 Ja J_63 := Kp_tr (Kp_rf (a := 0) (b := 49)) (Kp_wd h_63.2.1 (by decide) (by decide))
        have cI_63 : CX I_63 := h_63.2.2.1
        have qI_63 := XI_o cI_63.1
        have wI_63 : Fw [18, 19, 20, 21, 22, 23, 24, 25, 26, 27, 28, 29, 30, 33] [(0, 16), (1, 7)] Ia I_63 := Fw_tr wI_59 (Fw_wd h_63.2.2.2.1 (by decide) (by decide))
        have r5_I_63 : I_63 1 5 = I_59 1 5 := h_63.2.2.2.1 1 5 (by decide) (by decide) (by decide)
        have r6_I_63 : I_63 1 6 = I_59 1 6 := h_63.2.2.2.1 1 6 (by decide) (by decide) (by decide)
        have r7_I_63 : I_63 1 7 = I_59 1 7 := h_63.2.2.2.1 1 7 (by decide) (by decide) (by decide)
        have r8_I_63 : I_63 1 8 = I_59 1 8 := h_63.2.2.2.1 1 8 (by decide) (by decide) (by decide)
        have r9_I_63 : I_63 1 9 = I_59 1 9 := h_63.2.2.2.1 1 9 (by decide) (by decide) (by decide)
        have r10_I_63 : I_63 1 10 = I_59 1 10 := h_63.2.2.2.1 1 10 (by decide) (by decide) (by decide)
        have r11_I_63 : I_63 1 11 = I_59 1 11 := h_63.2.2.2.1 1 11 (by decide) (by decide) (by decide)
        have r81_I_63 : I_63 8 1 = I_59 8 1 := h_63.2.2.2.1 8 1 (by decide) (by decide) (by decide)
        have rf_I_63 : FU (I_63 1 5) = FU (I_59 1 5) := by rw [r5_I_63]
        refine ww_aload_n hX (pc := 66) dX10_broken_66 rfl ?_
        refine ww_iload_n hX (pc := 67) dX10_broken_67 rfl ?_
        refine vI1 hX (pc := 68) sX10_114 (xs_0 hL) (c8_X10_accept l0 hL cI_63 frI_63) (by decide) (Nat.le_refl 0) (Nat.le_refl 0) (Nat.le_of_ble_eq_true rfl) dX10_broken_68 (fun x_68 I_68 J_68 h_68 => ?_)
        obtain ⟨h_68, frI_68⟩ := h_68
        have kI_68 : Kp 0 49 Ia I_68 := Kp_tr kI_63 (Kp_wd h_68.1 (by decide) (by decide))
        have kJ_68 : Kp 0 49 Ja J_68 := Kp_tr kJ_63 (Kp_wd h_68.2.1 (by decide) (by decide))
        have cI_68 : CX I_68 := h_68.2.2.1
        have qI_68 := XI_o cI_68.1
        have wI_68 : Fw [18, 19, 20, 21, 22, 23, 24, 25, 26, 27, 28, 29, 30, 33] [(0, 16), (1, 7)] Ia I_68 := Fw_tr wI_63 (Fw_wd h_68.2.2.2.1 (by decide) (by decide))
        have r5_I_68 : I_68 1 5 = I_63 1 5 := h_68.2.2.2.1 1 5 (by decide) (by decide) (by decide)
        have r6_I_68 : I_68 1 6 = I_63 1 6 := h_68.2.2.2.1 1 6 (by decide) (by decide) (by decide)
        have r7_I_68 : I_68 1 7 = I_63 1 7 := h_68.2.2.2.1 1 7 (by decide) (by decide) (by decide)
        have r8_I_68 : I_68 1 8 = I_63 1 8 := h_68.2.2.2.1 1 8 (by decide) (by decide) (by decide)
        have r9_I_68 : I_68 1 9 = I_63 1 9 := h_68.2.2.2.1 1 9 (by decide) (by decide) (by decide)
        have r10_I_68 : I_68 1 10 = I_63 1 10 := h_68.2.2.2.1 1 10 (by decide) (by decide) (by decide)
        have r11_I_68 : I_68 1 11 = I_63 1 11 := h_68.2.2.2.1 1 11 (by decide) (by decide) (by decide)
        have r81_I_68 : I_68 8 1 = I_63 8 1 := h_68.2.2.2.1 8 1 (by decide) (by decide) (by decide)
        have rf_I_68 : FU (I_68 1 5) = FU (I_63 1 5) := by rw [r5_I_68]
        have xv_I_68 := h_68.2.2.2.2
        have ekI_68 : EK I_68 := EK_w ekI_63 h_68.2.2.2.1 (by decide) (by decide)
        refine rI hX (pc := 71) hT (Nat.le_refl 0) (Nat.le_refl 0) dX10_broken_71 ?_
        exact ⟨⟨⟨kI_68, kJ_68, cI_68, (Fw_wd wI_68 (by decide) (by decide)), (fun h9 => absurd (by omega) h9), (fun _ => ⟨by rw [xv_I_68.1, hv_37], wI_68, xv_I_68.2, by rw [r7_I_68, r7_I_63]; exact z7⟩)⟩, frI_68⟩, ekI_68⟩
      · simp only [w32_mod] at h_17
        refine ww_aload_n hX (pc := 20) dX10_broken_20 rfl ?_
        refine ww_iconst hX (pc := 21) (x := (-1)) dX10_broken_21 rfl ?_
        refine vI1 hX (pc := 22) sX10_89 (xs_0 hL) (c8_X10_refuse l0 hL hC hF (by omega) (by omega)) (by decide) (Nat.le_refl 0) (Nat.le_refl 0) (Nat.le_of_ble_eq_true rfl) dX10_broken_22 (fun x_22 I_22 J_22 h_22 => ?_)
        obtain ⟨h_22, frI_22⟩ := h_22
        have kI_22 : Kp 0 49 Ia I_22 := Kp_tr (Kp_rf (a := 0) (b := 49)) (Kp_wd h_22.1 (by decide) (by decide))
        have kJ_22 : Kp 0 49 Ja J_22 := Kp_tr (Kp_rf (a := 0) (b := 49)) (Kp_wd h_22.2.1 (by decide) (by decide))
        have cI_22 : CX I_22 := h_22.2.2.1
        have qI_22 := XI_o cI_22.1
        have wI_22 : Fw [18, 19, 20, 21, 22, 23, 24, 25, 26, 27, 28, 29, 30, 33, 48] [(0, 16), (1, 7)] Ia I_22 := Fw_tr Fw_rf (Fw_wd h_22.2.2.2.1 (by decide) (by decide))
        have r5_I_22 : I_22 1 5 = Ia 1 5 := h_22.2.2.2.1 1 5 (by decide) (by decide) (by decide)
        have r6_I_22 : I_22 1 6 = Ia 1 6 := h_22.2.2.2.1 1 6 (by decide) (by decide) (by decide)
        have r7_I_22 : I_22 1 7 = Ia 1 7 := h_22.2.2.2.1 1 7 (by decide) (by decide) (by decide)
        have r8_I_22 : I_22 1 8 = Ia 1 8 := h_22.2.2.2.1 1 8 (by decide) (by decide) (by decide)
        have r9_I_22 : I_22 1 9 = Ia 1 9 := h_22.2.2.2.1 1 9 (by decide) (by decide) (by decide)
        have r10_I_22 : I_22 1 10 = Ia 1 10 := h_22.2.2.2.1 1 10 (by decide) (by decide) (by decide)
        have r11_I_22 : I_22 1 11 = Ia 1 11 := h_22.2.2.2.1 1 11 (by decide) (by decide) (by decide)
        have r81_I_22 : I_22 8 1 = Ia 8 1 := h_22.2.2.2.1 8 1 (by decide) (by decide) (by decide)
        have rf_I_22 : FU (I_22 1 5) = FU (Ia 1 5) := by rw [r5_I_22]
        have xv_I_22 := h_22.2.2.2.2
        have ekI_22 : EK I_22 := EK_w hEK h_22.2.2.2.1 (by decide) (by decide)
        refine rI hX (pc := 25) hT (Nat.le_refl 0) (Nat.le_refl 0) dX10_broken_25 ?_
        exact ⟨⟨⟨kI_22, kJ_22, cI_22, (Fw_wd wI_22 (by decide) (by decide)), (fun _ => ⟨xv_I_22.1, h_22.2.2.2.1, xv_I_22.2⟩), (fun h9 => absurd h9 (by omega))⟩, frI_22⟩, ekI_22⟩
set_option maxHeartbeats 4000000 in
set_option maxRecDepth 20000 in
theorem cE_X10_read (l0 : Launch) {Ia Ja : aI1} {Ra : aR1} {Sa : aS1} (hL : LY Ra Sa) (hC : CX Ia) (hF : FRk Ia Ja) (hEK : EK Ia) {a b : Int} (ha0 : -2147483648 ≤ a) (ha1 : a < 2147483648) (hb0 : -2147483648 ≤ b) (hb1 : b < 2147483648)  : CT l0 10 0 0 mX10_read [kR (some 0), kI a, kI b] Ia Ja Ra Sa (cI (fun x I' J' => ((Kp 0 49 Ia I' ∧ Kp 0 49 Ja J' ∧ CX I' ∧ Fw [3, 18, 19, 20, 21, 22, 23, 24, 25, 26, 27, 28, 29, 30, 33, 48] [(0, 16)] Ia I' ∧ (¬ (0 ≤ a ∧ a ≤ FU (Ia 1 5) ∧ (b = -1 ∨ (0 ≤ b ∧ b < Ia 1 6))) → x = -1 ∧ RFc Ia I' (-1)) ∧ ((0 ≤ a ∧ a ≤ FU (Ia 1 5) ∧ (b = -1 ∨ (0 ≤ b ∧ b < Ia 1 6))) → x = Ia 3 a.toNat ∧ Fw [3, 18, 19, 20, 21, 22, 23, 24, 25, 26, 27, 28, 29, 30, 33] [(0, 16)] Ia I' ∧ I' 0 16 = 0 ∧ I' 3 = up1 (Ia 3) a.toNat b)) ∧ FRk I' J') ∧ EK I') Ra Sa) := by
  refine ct_in pn_X10 (Nat.le_of_ble_eq_true rfl) (fun X hX hT hIn => ?_)
  have hX : aK l0 X cX10_read 4 RX10 (some .int) 10 0 0 := hX
  change WW X 0 [some (kR (some 0)), some (kI a), some (kI b), none] [] Ia Ja Ra Sa 0 0
  have hI := hC.1
  have hq := XI_o hI
  refine ww_aload_n hX (pc := 0) dX10_read_0 rfl ?_
  refine ww_getR hX (pc := 1) fX10_10 (by decide) (xs_0 hL) (xr_0_0 hL) dX10_read_1 ?_
  refine ww_iload_n hX (pc := 4) dX10_read_4 rfl ?_
  refine vI1 hX (pc := 5) sX10_131 (xs_1 hL) (c_X1_isState l0 hL hC.1 (by omega)) (by decide) (Nat.le_refl 0) (Nat.le_refl 0) (Nat.le_of_ble_eq_true rfl) dX10_read_5 (fun x_5 I_5 J_5 h_5 => ?_)
  obtain ⟨rfl, rfl, h_5⟩ := h_5
  refine ww_if_eq hX (pc := 8) (tgt := 27) dX10_read_8 (by decide) (fun h_8 => ?_) (fun h_8 => ?_)
  · simp only [w32_mod] at h_8
    refine ww_aload_n hX (pc := 27) dX10_read_27 rfl ?_
    refine ww_iconst hX (pc := 28) (x := (-1)) dX10_read_28 rfl ?_
    refine vI1 hX (pc := 29) sX10_89 (xs_0 hL) (c8_X10_refuse l0 hL hC hF (by omega) (by omega)) (by decide) (Nat.le_refl 0) (Nat.le_refl 0) (Nat.le_of_ble_eq_true rfl) dX10_read_29 (fun x_29 I_29 J_29 h_29 => ?_)
    obtain ⟨h_29, frI_29⟩ := h_29
    have kI_29 : Kp 0 49 Ia I_29 := Kp_tr (Kp_rf (a := 0) (b := 49)) (Kp_wd h_29.1 (by decide) (by decide))
    have kJ_29 : Kp 0 49 Ja J_29 := Kp_tr (Kp_rf (a := 0) (b := 49)) (Kp_wd h_29.2.1 (by decide) (by decide))
    have cI_29 : CX I_29 := h_29.2.2.1
    have qI_29 := XI_o cI_29.1
    have wI_29 : Fw [3, 18, 19, 20, 21, 22, 23, 24, 25, 26, 27, 28, 29, 30, 33, 48] [(0, 16)] Ia I_29 := Fw_tr Fw_rf (Fw_wd h_29.2.2.2.1 (by decide) (by decide))
    have r5_I_29 : I_29 1 5 = Ia 1 5 := h_29.2.2.2.1 1 5 (by decide) (by decide) (by decide)
    have r6_I_29 : I_29 1 6 = Ia 1 6 := h_29.2.2.2.1 1 6 (by decide) (by decide) (by decide)
    have r7_I_29 : I_29 1 7 = Ia 1 7 := h_29.2.2.2.1 1 7 (by decide) (by decide) (by decide)
    have r8_I_29 : I_29 1 8 = Ia 1 8 := h_29.2.2.2.1 1 8 (by decide) (by decide) (by decide)
    have r9_I_29 : I_29 1 9 = Ia 1 9 := h_29.2.2.2.1 1 9 (by decide) (by decide) (by decide)
    have r10_I_29 : I_29 1 10 = Ia 1 10 := h_29.2.2.2.1 1 10 (by decide) (by decide) (by decide)
    have r11_I_29 : I_29 1 11 = Ia 1 11 := h_29.2.2.2.1 1 11 (by decide) (by decide) (by decide)
    have r81_I_29 : I_29 8 1 = Ia 8 1 := h_29.2.2.2.1 8 1 (by decide) (by decide) (by decide)
    have rf_I_29 : FU (I_29 1 5) = FU (Ia 1 5) := by rw [r5_I_29]
    have y3_I_29 : I_29 3 = Ia 3 := Fw_row h_29.2.2.2.1 3 (by decide) (by decide) (by decide)
    have xv_I_29 := h_29.2.2.2.2
    have ekI_29 : EK I_29 := EK_w hEK h_29.2.2.2.1 (by decide) (by decide)
    refine rI hX (pc := 32) hT (Nat.le_refl 0) (Nat.le_refl 0) dX10_read_32 ?_
    exact ⟨⟨⟨kI_29, kJ_29, cI_29, (Fw_wd wI_29 (by decide) (by decide)), (fun _ => ⟨xv_I_29.1, h_29.2.2.2.1, xv_I_29.2⟩), (fun h9 => absurd h9 (by omega))⟩, frI_29⟩, ekI_29⟩
  · simp only [w32_mod] at h_8
    have k_5 := h_5.2.mp (by omega)
    clear h_5
    refine ww_iload_n hX (pc := 11) dX10_read_11 rfl ?_
    refine ww_iconst hX (pc := 12) (x := (-1)) dX10_read_12 rfl ?_
    refine ww_icmp_eq hX (pc := 13) (tgt := 33) dX10_read_13 (by decide) (fun h_13 => ?_) (fun h_13 => ?_)
    · simp only [w32_mod] at h_13
      refine ww_aload_n hX (pc := 33) dX10_read_33 rfl ?_
      refine ww_getR hX (pc := 34) fX10_10 (by decide) (xs_0 hL) (xr_0_0 hL) dX10_read_34 ?_
      refine ww_getR hX (pc := 37) fX10_137 (by decide) (xs_1 hL) (xr_1_1 hL) dX10_read_37 ?_
      refine ww_iload_n hX (pc := 40) dX10_read_40 rfl ?_
      refine ww_iald hX (pc := 41) (xs_3 hL) (by decide) (by omega) (by omega) dX10_read_41 ?_
      refine ww_nmI (fun v_42 hv_42 => ?_)
      refine ww_istore_n hX (pc := 42) (lv' := [some (kR (some 0)), some (kI a), some (kI b), some (kI v_42)]) dX10_read_42 (by decide) rfl rfl ?_
      refine ww_aload_n hX (pc := 43) dX10_read_43 rfl ?_
      refine ww_getR hX (pc := 44) fX10_10 (by decide) (xs_0 hL) (xr_0_0 hL) dX10_read_44 ?_
      refine ww_getR hX (pc := 47) fX10_137 (by decide) (xs_1 hL) (xr_1_1 hL) dX10_read_47 ?_
      refine ww_iload_n hX (pc := 50) dX10_read_50 rfl ?_
      refine ww_iload_n hX (pc := 51) dX10_read_51 rfl ?_
      refine ww_iast hX (pc := 52) (xs_3 hL) (by decide) (by omega) (by omega) dX10_read_52 ?_
      refine ww_nmH (fun I_52 eI_52 => ?_)
      have kI_52 : Kp 0 49 Ia I_52 := by rw [eI_52]; exact Kp_up (Kp_rf (a := 0) (b := 49)) _ _ (by decide)
      have cI_52 : CX I_52 := by rw [eI_52]; exact CX_x hC (XI_3 hC.1 (by omega) (by omega)) (by decide)
      have qI_52 := XI_o cI_52.1
      have r5_I_52 : I_52 1 5 = Ia 1 5 := by rw [eI_52, up2_off _ _ _ (by decide)]
      have r6_I_52 : I_52 1 6 = Ia 1 6 := by rw [eI_52, up2_off _ _ _ (by decide)]
      have r8_I_52 : I_52 1 8 = Ia 1 8 := by rw [eI_52, up2_off _ _ _ (by decide)]
      have r9_I_52 : I_52 1 9 = Ia 1 9 := by rw [eI_52, up2_off _ _ _ (by decide)]
      have r10_I_52 : I_52 1 10 = Ia 1 10 := by rw [eI_52, up2_off _ _ _ (by decide)]
      have r11_I_52 : I_52 1 11 = Ia 1 11 := by rw [eI_52, up2_off _ _ _ (by decide)]
      have rf_I_52 : FU (I_52 1 5) = FU (Ia 1 5) := by rw [r5_I_52]
      have wI_52 : Fw [3, 18, 19, 20, 21, 22, 23, 24, 25, 26, 27, 28, 29, 30, 33] [(0, 16)] Ia I_52 := by rw [eI_52]; exact Fw_up Fw_rf (Or.inl (by decide))
      have r7_I_52 : I_52 1 7 = Ia 1 7 := by rw [eI_52, up2_n _ _ (Or.inl (by decide))]
      refine ww_aload_n hX (pc := 53) dX10_read_53 rfl ?_
      refine vV0 hX (pc := 54) sX10_111 (xs_0 hL) (cE_X10_codeChanged l0 hL cI_52) (by decide) (Nat.le_refl 0) (Nat.le_refl 0) (Nat.le_of_ble_eq_true rfl) dX10_read_54 (fun I_54 J_54 h_54 => ?_)
      obtain ⟨h_54, ekI_54⟩ := h_54
      obtain ⟨h_54, frI_54⟩ := h_54
      have kI_54 : Kp 0 49 Ia I_54 := Kp_tr kI_52 (Kp_wd h_54.1 (by decide) (by decide))
      have kJ_54 : Kp 0 49 Ja J_54 := Kp_tr (Kp_rf (a := 0) (b := 49)) (Kp_wd h_54.2.1 (by decide) (by decide))
      have cI_54 : CX I_54 := h_54.2.2.1
      have qI_54 := XI_o cI_54.1
      have wI_54 : Fw [3, 18, 19, 20, 21, 22, 23, 24, 25, 26, 27, 28, 29, 30, 33] [(0, 16)] Ia I_54 := Fw_tr wI_52 (Fw_wd h_54.2.2.2.1 (by decide) (by decide))
      have r5_I_54 : I_54 1 5 = I_52 1 5 := h_54.2.2.2.1 1 5 (by decide) (by decide) (by decide)
      have r6_I_54 : I_54 1 6 = I_52 1 6 := h_54.2.2.2.1 1 6 (by decide) (by decide) (by decide)
      have r7_I_54 : I_54 1 7 = I_52 1 7 := h_54.2.2.2.1 1 7 (by decide) (by decide) (by decide)
      have r8_I_54 : I_54 1 8 = I_52 1 8 := h_54.2.2.2.1 1 8 (by decide) (by decide) (by decide)
      have r9_I_54 : I_54 1 9 = I_52 1 9 := h_54.2.2.2.1 1 9 (by decide) (by decide) (by decide)
      have r10_I_54 : I_54 1 10 = I_52 1 10 := h_54.2.2.2.1 1 10 (by decide) (by decide) (by decide)
      have r11_I_54 : I_54 1 11 = I_52 1 11 := h_54.2.2.2.1 1 11 (by decide) (by decide) (by decide)
      have r81_I_54 : I_54 8 1 = I_52 8 1 := h_54.2.2.2.1 8 1 (by decide) (by decide) (by decide)
      have rf_I_54 : FU (I_54 1 5) = FU (I_52 1 5) := by rw [r5_I_54]
      have y3_I_54 : I_54 3 = I_52 3 := Fw_row h_54.2.2.2.1 3 (by decide) (by decide) (by decide)
      refine ww_aload_n hX (pc := 57) dX10_read_57 rfl ?_
      refine ww_iload_n hX (pc := 58) dX10_read_58 rfl ?_
      refine vI1 hX (pc := 59) sX10_114 (xs_0 hL) (c8_X10_accept l0 hL cI_54 frI_54) (by decide) (Nat.le_refl 0) (Nat.le_refl 0) (Nat.le_of_ble_eq_true rfl) dX10_read_59 (fun x_59 I_59 J_59 h_59 => ?_)
      obtain ⟨h_59, frI_59⟩ := h_59
      have kI_59 : Kp 0 49 Ia I_59 := Kp_tr kI_54 (Kp_wd h_59.1 (by decide) (by decide))
      have kJ_59 : Kp 0 49 Ja J_59 := Kp_tr kJ_54 (Kp_wd h_59.2.1 (by decide) (by decide))
      have cI_59 : CX I_59 := h_59.2.2.1
      have qI_59 := XI_o cI_59.1
      have wI_59 : Fw [3, 18, 19, 20, 21, 22, 23, 24, 25, 26, 27, 28, 29, 30, 33] [(0, 16)] Ia I_59 := Fw_tr wI_54 (Fw_wd h_59.2.2.2.1 (by decide) (by decide))
      have r5_I_59 : I_59 1 5 = I_54 1 5 := h_59.2.2.2.1 1 5 (by decide) (by decide) (by decide)
      have r6_I_59 : I_59 1 6 = I_54 1 6 := h_59.2.2.2.1 1 6 (by decide) (by decide) (by decide)
      have r7_I_59 : I_59 1 7 = I_54 1 7 := h_59.2.2.2.1 1 7 (by decide) (by decide) (by decide)
      have r8_I_59 : I_59 1 8 = I_54 1 8 := h_59.2.2.2.1 1 8 (by decide) (by decide) (by decide)
      have r9_I_59 : I_59 1 9 = I_54 1 9 := h_59.2.2.2.1 1 9 (by decide) (by decide) (by decide)
      have r10_I_59 : I_59 1 10 = I_54 1 10 := h_59.2.2.2.1 1 10 (by decide) (by decide) (by decide)
      have r11_I_59 : I_59 1 11 = I_54 1 11 := h_59.2.2.2.1 1 11 (by decide) (by decide) (by decide)
      have r81_I_59 : I_59 8 1 = I_54 8 1 := h_59.2.2.2.1 8 1 (by decide) (by decide) (by decide)
      have rf_I_59 : FU (I_59 1 5) = FU (I_54 1 5) := by rw [r5_I_59]
      have y3_I_59 : I_59 3 = I_54 3 := Fw_row h_59.2.2.2.1 3 (by decide) (by decide) (by decide)
      have xv_I_59 := h_59.2.2.2.2
      have ekI_59 : EK I_59 := EK_w ekI_54 h_59.2.2.2.1 (by decide) (by decide)
      refine rI hX (pc := 62) hT (Nat.le_refl 0) (Nat.le_refl 0) dX10_read_62 ?_
      exact ⟨⟨⟨kI_59, kJ_59, cI_59, (Fw_wd wI_59 (by decide) (by decide)), (fun h9 => absurd (by omega) h9), (fun _ => ⟨by rw [xv_I_59.1, hv_42], wI_59, xv_I_59.2, by rw [y3_I_59, y3_I_54, eI_52, up2_row]⟩)⟩, frI_59⟩, ekI_59⟩
    · simp only [w32_mod] at h_13
      refine ww_aload_n hX (pc := 16) dX10_read_16 rfl ?_
      refine ww_getR hX (pc := 17) fX10_10 (by decide) (xs_0 hL) (xr_0_0 hL) dX10_read_17 ?_
      refine ww_iload_n hX (pc := 20) dX10_read_20 rfl ?_
      refine vI1 hX (pc := 21) sX10_134 (xs_1 hL) (c_X1_isNews l0 hL hC.1 (by omega)) (by decide) (Nat.le_refl 0) (Nat.le_refl 0) (Nat.le_of_ble_eq_true rfl) dX10_read_21 (fun x_21 I_21 J_21 h_21 => ?_)
      obtain ⟨rfl, rfl, h_21⟩ := h_21
      refine ww_if_ne hX (pc := 24) (tgt := 33) dX10_read_24 (by decide) (fun h_24 => ?_) (fun h_24 => ?_)
      · simp only [w32_mod] at h_24
        have k_21 := h_21.2.mp (by omega)
        clear h_21
        refine ww_aload_n hX (pc := 33) dX10_read_33 rfl ?_
        refine ww_getR hX (pc := 34) fX10_10 (by decide) (xs_0 hL) (xr_0_0 hL) dX10_read_34 ?_
        refine ww_getR hX (pc := 37) fX10_137 (by decide) (xs_1 hL) (xr_1_1 hL) dX10_read_37 ?_
        refine ww_iload_n hX (pc := 40) dX10_read_40 rfl ?_
        refine ww_iald hX (pc := 41) (xs_3 hL) (by decide) (by omega) (by omega) dX10_read_41 ?_
        refine ww_nmI (fun v_42 hv_42 => ?_)
        refine ww_istore_n hX (pc := 42) (lv' := [some (kR (some 0)), some (kI a), some (kI b), some (kI v_42)]) dX10_read_42 (by decide) rfl rfl ?_
        refine ww_aload_n hX (pc := 43) dX10_read_43 rfl ?_
        refine ww_getR hX (pc := 44) fX10_10 (by decide) (xs_0 hL) (xr_0_0 hL) dX10_read_44 ?_
        refine ww_getR hX (pc := 47) fX10_137 (by decide) (xs_1 hL) (xr_1_1 hL) dX10_read_47 ?_
        refine ww_iload_n hX (pc := 50) dX10_read_50 rfl ?_
        refine ww_iload_n hX (pc := 51) dX10_read_51 rfl ?_
        refine ww_iast hX (pc := 52) (xs_3 hL) (by decide) (by omega) (by omega) dX10_read_52 ?_
        refine ww_nmH (fun I_52 eI_52 => ?_)
        have kI_52 : Kp 0 49 Ia I_52 := by rw [eI_52]; exact Kp_up (Kp_rf (a := 0) (b := 49)) _ _ (by decide)
        have cI_52 : CX I_52 := by rw [eI_52]; exact CX_x hC (XI_3 hC.1 (by omega) (by omega)) (by decide)
        have qI_52 := XI_o cI_52.1
        have r5_I_52 : I_52 1 5 = Ia 1 5 := by rw [eI_52, up2_off _ _ _ (by decide)]
        have r6_I_52 : I_52 1 6 = Ia 1 6 := by rw [eI_52, up2_off _ _ _ (by decide)]
        have r8_I_52 : I_52 1 8 = Ia 1 8 := by rw [eI_52, up2_off _ _ _ (by decide)]
        have r9_I_52 : I_52 1 9 = Ia 1 9 := by rw [eI_52, up2_off _ _ _ (by decide)]
        have r10_I_52 : I_52 1 10 = Ia 1 10 := by rw [eI_52, up2_off _ _ _ (by decide)]
        have r11_I_52 : I_52 1 11 = Ia 1 11 := by rw [eI_52, up2_off _ _ _ (by decide)]
        have rf_I_52 : FU (I_52 1 5) = FU (Ia 1 5) := by rw [r5_I_52]
        have wI_52 : Fw [3, 18, 19, 20, 21, 22, 23, 24, 25, 26, 27, 28, 29, 30, 33] [(0, 16)] Ia I_52 := by rw [eI_52]; exact Fw_up Fw_rf (Or.inl (by decide))
        have r7_I_52 : I_52 1 7 = Ia 1 7 := by rw [eI_52, up2_n _ _ (Or.inl (by decide))]
        refine ww_aload_n hX (pc := 53) dX10_read_53 rfl ?_
        refine vV0 hX (pc := 54) sX10_111 (xs_0 hL) (cE_X10_codeChanged l0 hL cI_52) (by decide) (Nat.le_refl 0) (Nat.le_refl 0) (Nat.le_of_ble_eq_true rfl) dX10_read_54 (fun I_54 J_54 h_54 => ?_)
        obtain ⟨h_54, ekI_54⟩ := h_54
        obtain ⟨h_54, frI_54⟩ := h_54
        have kI_54 : Kp 0 49 Ia I_54 := Kp_tr kI_52 (Kp_wd h_54.1 (by decide) (by decide))
        have kJ_54 : Kp 0 49 Ja J_54 := Kp_tr (Kp_rf (a := 0) (b := 49)) (Kp_wd h_54.2.1 (by decide) (by decide))
        have cI_54 : CX I_54 := h_54.2.2.1
        have qI_54 := XI_o cI_54.1
        have wI_54 : Fw [3, 18, 19, 20, 21, 22, 23, 24, 25, 26, 27, 28, 29, 30, 33] [(0, 16)] Ia I_54 := Fw_tr wI_52 (Fw_wd h_54.2.2.2.1 (by decide) (by decide))
        have r5_I_54 : I_54 1 5 = I_52 1 5 := h_54.2.2.2.1 1 5 (by decide) (by decide) (by decide)
        have r6_I_54 : I_54 1 6 = I_52 1 6 := h_54.2.2.2.1 1 6 (by decide) (by decide) (by decide)
        have r7_I_54 : I_54 1 7 = I_52 1 7 := h_54.2.2.2.1 1 7 (by decide) (by decide) (by decide)
        have r8_I_54 : I_54 1 8 = I_52 1 8 := h_54.2.2.2.1 1 8 (by decide) (by decide) (by decide)
        have r9_I_54 : I_54 1 9 = I_52 1 9 := h_54.2.2.2.1 1 9 (by decide) (by decide) (by decide)
        have r10_I_54 : I_54 1 10 = I_52 1 10 := h_54.2.2.2.1 1 10 (by decide) (by decide) (by decide)
        have r11_I_54 : I_54 1 11 = I_52 1 11 := h_54.2.2.2.1 1 11 (by decide) (by decide) (by decide)
        have r81_I_54 : I_54 8 1 = I_52 8 1 := h_54.2.2.2.1 8 1 (by decide) (by decide) (by decide)
        have rf_I_54 : FU (I_54 1 5) = FU (I_52 1 5) := by rw [r5_I_54]
        have y3_I_54 : I_54 3 = I_52 3 := Fw_row h_54.2.2.2.1 3 (by decide) (by decide) (by decide)
        refine ww_aload_n hX (pc := 57) dX10_read_57 rfl ?_
        refine ww_iload_n hX (pc := 58) dX10_read_58 rfl ?_
        refine vI1 hX (pc := 59) sX10_114 (xs_0 hL) (c8_X10_accept l0 hL cI_54 frI_54) (by decide) (Nat.le_refl 0) (Nat.le_refl 0) (Nat.le_of_ble_eq_true rfl) dX10_read_59 (fun x_59 I_59 J_59 h_59 => ?_)
        obtain ⟨h_59, frI_59⟩ := h_59
        have kI_59 : Kp 0 49 Ia I_59 := Kp_tr kI_54 (Kp_wd h_59.1 (by decide) (by decide))
        have kJ_59 : Kp 0 49 Ja J_59 := Kp_tr kJ_54 (Kp_wd h_59.2.1 (by decide) (by decide))
        have cI_59 : CX I_59 := h_59.2.2.1
        have qI_59 := XI_o cI_59.1
        have wI_59 : Fw [3, 18, 19, 20, 21, 22, 23, 24, 25, 26, 27, 28, 29, 30, 33] [(0, 16)] Ia I_59 := Fw_tr wI_54 (Fw_wd h_59.2.2.2.1 (by decide) (by decide))
        have r5_I_59 : I_59 1 5 = I_54 1 5 := h_59.2.2.2.1 1 5 (by decide) (by decide) (by decide)
        have r6_I_59 : I_59 1 6 = I_54 1 6 := h_59.2.2.2.1 1 6 (by decide) (by decide) (by decide)
        have r7_I_59 : I_59 1 7 = I_54 1 7 := h_59.2.2.2.1 1 7 (by decide) (by decide) (by decide)
        have r8_I_59 : I_59 1 8 = I_54 1 8 := h_59.2.2.2.1 1 8 (by decide) (by decide) (by decide)
        have r9_I_59 : I_59 1 9 = I_54 1 9 := h_59.2.2.2.1 1 9 (by decide) (by decide) (by decide)
        have r10_I_59 : I_59 1 10 = I_54 1 10 := h_59.2.2.2.1 1 10 (by decide) (by decide) (by decide)
        have r11_I_59 : I_59 1 11 = I_54 1 11 := h_59.2.2.2.1 1 11 (by decide) (by decide) (by decide)
        have r81_I_59 : I_59 8 1 = I_54 8 1 := h_59.2.2.2.1 8 1 (by decide) (by decide) (by decide)
        have rf_I_59 : FU (I_59 1 5) = FU (I_54 1 5) := by rw [r5_I_59]
        have y3_I_59 : I_59 3 = I_54 3 := Fw_row h_59.2.2.2.1 3 (by decide) (by decide) (by decide)
        have xv_I_59 := h_59.2.2.2.2
        have ekI_59 : EK I_59 := EK_w ekI_54 h_59.2.2.2.1 (by decide) (by decide)
        refine rI hX (pc := 62) hT (Nat.le_refl 0) (Nat.le_refl 0) dX10_read_62 ?_
        exact ⟨⟨⟨kI_59, kJ_59, cI_59, (Fw_wd wI_59 (by decide) (by decide)), (fun h9 => absurd (by omega) h9), (fun _ => ⟨by rw [xv_I_59.1, hv_42], wI_59, xv_I_59.2, by rw [y3_I_59, y3_I_54, eI_52, up2_row]⟩)⟩, frI_59⟩, ekI_59⟩
      · simp only [w32_mod] at h_24
        refine ww_aload_n hX (pc := 27) dX10_read_27 rfl ?_
        refine ww_iconst hX (pc := 28) (x := (-1)) dX10_read_28 rfl ?_
        refine vI1 hX (pc := 29) sX10_89 (xs_0 hL) (c8_X10_refuse l0 hL hC hF (by omega) (by omega)) (by decide) (Nat.le_refl 0) (Nat.le_refl 0) (Nat.le_of_ble_eq_true rfl) dX10_read_29 (fun x_29 I_29 J_29 h_29 => ?_)
        obtain ⟨h_29, frI_29⟩ := h_29
        have kI_29 : Kp 0 49 Ia I_29 := Kp_tr (Kp_rf (a := 0) (b := 49)) (Kp_wd h_29.1 (by decide) (by decide))
        have kJ_29 : Kp 0 49 Ja J_29 := Kp_tr (Kp_rf (a := 0) (b := 49)) (Kp_wd h_29.2.1 (by decide) (by decide))
        have cI_29 : CX I_29 := h_29.2.2.1
        have qI_29 := XI_o cI_29.1
        have wI_29 : Fw [3, 18, 19, 20, 21, 22, 23, 24, 25, 26, 27, 28, 29, 30, 33, 48] [(0, 16)] Ia I_29 := Fw_tr Fw_rf (Fw_wd h_29.2.2.2.1 (by decide) (by decide))
        have r5_I_29 : I_29 1 5 = Ia 1 5 := h_29.2.2.2.1 1 5 (by decide) (by decide) (by decide)
        have r6_I_29 : I_29 1 6 = Ia 1 6 := h_29.2.2.2.1 1 6 (by decide) (by decide) (by decide)
        have r7_I_29 : I_29 1 7 = Ia 1 7 := h_29.2.2.2.1 1 7 (by decide) (by decide) (by decide)
        have r8_I_29 : I_29 1 8 = Ia 1 8 := h_29.2.2.2.1 1 8 (by decide) (by decide) (by decide)
        have r9_I_29 : I_29 1 9 = Ia 1 9 := h_29.2.2.2.1 1 9 (by decide) (by decide) (by decide)
        have r10_I_29 : I_29 1 10 = Ia 1 10 := h_29.2.2.2.1 1 10 (by decide) (by decide) (by decide)
        have r11_I_29 : I_29 1 11 = Ia 1 11 := h_29.2.2.2.1 1 11 (by decide) (by decide) (by decide)
        have r81_I_29 : I_29 8 1 = Ia 8 1 := h_29.2.2.2.1 8 1 (by decide) (by decide) (by decide)
        have rf_I_29 : FU (I_29 1 5) = FU (Ia 1 5) := by rw [r5_I_29]
        have y3_I_29 : I_29 3 = Ia 3 := Fw_row h_29.2.2.2.1 3 (by decide) (by decide) (by decide)
        have xv_I_29 := h_29.2.2.2.2
        have ekI_29 : EK I_29 := EK_w hEK h_29.2.2.2.1 (by decide) (by decide)
        refine rI hX (pc := 32) hT (Nat.le_refl 0) (Nat.le_refl 0) dX10_read_32 ?_
        exact ⟨⟨⟨kI_29, kJ_29, cI_29, (Fw_wd wI_29 (by decide) (by decide)), (fun _ => ⟨xv_I_29.1, h_29.2.2.2.1, xv_I_29.2⟩), (fun h9 => absurd h9 (by omega))⟩, frI_29⟩, ekI_29⟩
set_option maxHeartbeats 4000000 in
set_option maxRecDepth 20000 in
theorem cE_X10_row (l0 : Launch) {Ia Ja : aI1} {Ra : aR1} {Sa : aS1} (hL : LY Ra Sa) (hC : CX Ia) (hF : FRk Ia Ja) (hEK : EK Ia)  : CT l0 10 0 0 mX10_row [kR (some 0)] Ia Ja Ra Sa (cI (fun x I' J' => ((Kp 0 49 Ia I' ∧ Kp 0 49 Ja J' ∧ CX I' ∧ Fw [3, 18, 19, 20, 21, 22, 23, 24, 25, 26, 27, 28, 29, 30, 33, 48] [(0, 15), (0, 16), (8, 1)] Ia I' ∧ (Ia 8 1 = 0 → x = -6 ∧ RFc Ia I' (-6)) ∧ (¬ Ia 8 1 = 0 → Fw [3, 18, 19, 20, 21, 22, 23, 24, 25, 26, 27, 28, 29, 30, 33] [(0, 15), (0, 16), (8, 1)] Ia I' ∧ I' 0 16 = 0 ∧ I' 8 1 = 0 ∧ I' 0 15 = max 0 (Ia 8 1 - (FU (Ia 1 5) + 1)) ∧ (∀ j : Nat, I' 3 j = if (j : Int) < FU (Ia 1 5) + 1 then RWv (Ia 9) (Ia 8 1) (Ia 1 6) j else Ia 3 j) ∧ x = cnR (I' 3) (FU (Ia 1 5) + 1).toNat)) ∧ FRk I' J') ∧ EK I') Ra Sa) := by
  refine ct_in pn_X10 (Nat.le_of_ble_eq_true rfl) (fun X hX hT hIn => ?_)
  have hX : aK l0 X cX10_row 4 RX10 (some .int) 10 0 0 := hX
  change WW X 0 [some (kR (some 0)), none, none, none] [] Ia Ja Ra Sa 0 0
  have hI := hC.1
  have hq := XI_o hI
  refine ww_aload_n hX (pc := 0) dX10_row_0 rfl ?_
  refine ww_getR hX (pc := 1) fX10_23 (by decide) (xs_0 hL) (xr_0_2 hL) dX10_row_1 ?_
  refine ww_getI hX (pc := 4) fX10_148 (by decide) (xs_8 hL) dX10_row_4 ?_
  refine ww_if_ne hX (pc := 7) (tgt := 17) dX10_row_7 (by decide) (fun h_7 => ?_) (fun h_7 => ?_)
  · simp only [w32_mod] at h_7
    refine ww_aload_n hX (pc := 17) dX10_row_17 rfl ?_
    refine ww_getR hX (pc := 18) fX10_10 (by decide) (xs_0 hL) (xr_0_0 hL) dX10_row_18 ?_
    refine vI0 hX (pc := 21) sX10_151 (xs_1 hL) (c_X1_full l0 hL hC.1) (by decide) (Nat.le_refl 0) (Nat.le_refl 0) (Nat.le_of_ble_eq_true rfl) dX10_row_21 (fun x_21 I_21 J_21 h_21 => ?_)
    obtain ⟨rfl, rfl, h_21⟩ := h_21
    refine ww_istore_n hX (pc := 24) (lv' := [some (kR (some 0)), some (kI x_21), none, none]) dX10_row_24 (by decide) rfl rfl ?_
    refine ww_iconst hX (pc := 25) (x := 0) dX10_row_25 rfl ?_
    refine ww_istore_n hX (pc := 26) (lv' := [some (kR (some 0)), some (kI x_21), some (kI 0), none]) dX10_row_26 (by decide) rfl rfl ?_
    have hl_27 : ∀ (n_27 : Nat) (i : Int) (I2 : aI1) (J2 : aI1), (256 - i).toNat = n_27 → (Kp 0 49 Ia I2 ∧ Kp 0 49 Ja J2 ∧ CX I2 ∧ Fw [3, 18, 19, 20, 21, 22, 23, 24, 25, 26, 27, 28, 29, 30, 33] [(0, 15), (0, 16), (8, 1)] Ia I2 ∧ (I2 1 5 = Ia 1 5 ∧ I2 1 6 = Ia 1 6) ∧ ((0 ≤ i ∧ i ≤ FU (Ia 1 5) + 1 ∧ I2 8 1 = Ia 8 1) ∧ I2 9 = Ia 9 ∧ (∀ j : Nat, I2 3 j = if (j : Int) < i then RWv (Ia 9) (Ia 8 1) (Ia 1 6) j else Ia 3 j))) → WW X 27 [some (kR (some 0)), some (kI x_21), some (kI i), none] [] I2 J2 Ra Sa 0 0 := by
      intro n_27
      induction n_27 using Nat.strongRecOn with
      | ind n_27 ih_27 =>
        intro i I2 J2 hm_27 hv_27
        have hq_27 := Sh0_i hm_27
        clear hm_27
        obtain ⟨kI2, kJ2, cI2, wI2, hI20, ⟨hi, i2_9, h3⟩⟩ := hv_27
        have qI2 := XI_o cI2.1
        have rfI2 := congrArg FU hI20.1
        refine ww_iload_n hX (pc := 27) dX10_row_27 rfl ?_
        refine ww_iload_n hX (pc := 28) dX10_row_28 rfl ?_
        refine ww_icmp_gt hX (pc := 29) (tgt := 72) dX10_row_29 (by decide) (fun h_29 => ?_) (fun h_29 => ?_)
        · simp only [w32_mod] at h_29
          refine ww_aload_n hX (pc := 72) dX10_row_72 rfl ?_
          refine ww_iconst hX (pc := 73) (x := 0) dX10_row_73 rfl ?_
          refine ww_aload_n hX (pc := 74) dX10_row_74 rfl ?_
          refine ww_getR hX (pc := 75) fX10_23 (by decide) (xs_0 hL) (xr_0_2 hL) dX10_row_75 ?_
          refine ww_getI hX (pc := 78) fX10_148 (by decide) (xs_8 hL) dX10_row_78 ?_
          refine ww_iload_n hX (pc := 81) dX10_row_81 rfl ?_
          refine ww_isub hX (pc := 82) dX10_row_82 ?_
          refine ww_iconst hX (pc := 83) (x := 1) dX10_row_83 rfl ?_
          refine ww_isub hX (pc := 84) dX10_row_84 ?_
          refine ww_mmax hX (pc := 85) tb_459 tb_460 tb_13 tb_461 (by decide) (Nat.le_refl 0) (Nat.le_refl 0) (Nat.le_of_ble_eq_true rfl) dX10_row_85 ?_
          refine ww_toI (i_max_r (by omega) (by omega) (by omega) (by omega)) ?_
          refine ww_putI hX (pc := 88) (fun h9 => absurd h9 (by decide)) gX10_164 rfl (xs_0 hL) dX10_row_88 ?_
          refine ww_nmH (fun I_88 eI_88 => ?_)
          have kI_88 : Kp 0 49 Ia I_88 := by rw [eI_88]; exact Kp_up kI2 _ _ (by decide)
          have cI_88 : CX I_88 := by rw [eI_88]; exact CX_x cI2 (XI_0 cI2.1 (by decide)) (by decide)
          have qI_88 := XI_o cI_88.1
          have r5_I_88 : I_88 1 5 = I2 1 5 := by rw [eI_88, up2_off _ _ _ (by decide)]
          have r6_I_88 : I_88 1 6 = I2 1 6 := by rw [eI_88, up2_off _ _ _ (by decide)]
          have r8_I_88 : I_88 1 8 = I2 1 8 := by rw [eI_88, up2_off _ _ _ (by decide)]
          have r9_I_88 : I_88 1 9 = I2 1 9 := by rw [eI_88, up2_off _ _ _ (by decide)]
          have r10_I_88 : I_88 1 10 = I2 1 10 := by rw [eI_88, up2_off _ _ _ (by decide)]
          have r11_I_88 : I_88 1 11 = I2 1 11 := by rw [eI_88, up2_off _ _ _ (by decide)]
          have rf_I_88 : FU (I_88 1 5) = FU (I2 1 5) := by rw [r5_I_88]
          have wI_88 : Fw [3, 18, 19, 20, 21, 22, 23, 24, 25, 26, 27, 28, 29, 30, 33] [(0, 15), (0, 16), (8, 1)] Ia I_88 := by rw [eI_88]; exact Fw_up wI2 (Or.inr (by decide))
          have r7_I_88 : I_88 1 7 = I2 1 7 := by rw [eI_88, up2_n _ _ (Or.inl (by decide))]
          have y3_I_88 : I_88 3 = I2 3 := by rw [eI_88, up2_off _ _ _ (by decide)]
          have y9_I_88 : I_88 9 = I2 9 := by rw [eI_88, up2_off _ _ _ (by decide)]
          have z15 : I_88 0 15 = _ := (congrFun (congrFun eI_88 0) 15).trans (up2_s _ _ _ _)
          have q81b : I_88 8 1 = I2 8 1 := by rw [eI_88, up2_off _ _ _ (by decide)]
          refine ww_aload_n hX (pc := 91) dX10_row_91 rfl ?_
          refine ww_getR hX (pc := 92) fX10_23 (by decide) (xs_0 hL) (xr_0_2 hL) dX10_row_92 ?_
          refine ww_iconst hX (pc := 95) (x := 0) dX10_row_95 rfl ?_
          refine ww_putI hX (pc := 96) (fun h9 => absurd h9 (by decide)) gX10_148 rfl (xs_8 hL) dX10_row_96 ?_
          refine ww_nmH (fun I_96 eI_96 => ?_)
          have kI_96 : Kp 0 49 Ia I_96 := by rw [eI_96]; exact Kp_up kI_88 _ _ (by decide)
          have cI_96 : CX I_96 := by rw [eI_96]; exact CX_x cI_88 (XI_8_1 cI_88.1 (by omega) (by omega)) (by decide)
          have qI_96 := XI_o cI_96.1
          have r5_I_96 : I_96 1 5 = I_88 1 5 := by rw [eI_96, up2_off _ _ _ (by decide)]
          have r6_I_96 : I_96 1 6 = I_88 1 6 := by rw [eI_96, up2_off _ _ _ (by decide)]
          have r8_I_96 : I_96 1 8 = I_88 1 8 := by rw [eI_96, up2_off _ _ _ (by decide)]
          have r9_I_96 : I_96 1 9 = I_88 1 9 := by rw [eI_96, up2_off _ _ _ (by decide)]
          have r10_I_96 : I_96 1 10 = I_88 1 10 := by rw [eI_96, up2_off _ _ _ (by decide)]
          have r11_I_96 : I_96 1 11 = I_88 1 11 := by rw [eI_96, up2_off _ _ _ (by decide)]
          have rf_I_96 : FU (I_96 1 5) = FU (I_88 1 5) := by rw [r5_I_96]
          have wI_96 : Fw [3, 18, 19, 20, 21, 22, 23, 24, 25, 26, 27, 28, 29, 30, 33] [(0, 15), (0, 16), (8, 1)] Ia I_96 := by rw [eI_96]; exact Fw_up wI_88 (Or.inr (by decide))
          have r7_I_96 : I_96 1 7 = I_88 1 7 := by rw [eI_96, up2_n _ _ (Or.inl (by decide))]
          have y3_I_96 : I_96 3 = I_88 3 := by rw [eI_96, up2_off _ _ _ (by decide)]
          have y9_I_96 : I_96 9 = I_88 9 := by rw [eI_96, up2_off _ _ _ (by decide)]
          have z81 : I_96 8 1 = 0 := by rw [eI_96, up2_s]
          have z15_ : I_96 0 15 = I_88 0 15 := by rw [eI_96, up2_off _ _ _ (by decide)]
          refine ww_aload_n hX (pc := 99) dX10_row_99 rfl ?_
          refine vV0 hX (pc := 100) sX10_111 (xs_0 hL) (cE_X10_codeChanged l0 hL cI_96) (by decide) (Nat.le_refl 0) (Nat.le_refl 0) (Nat.le_of_ble_eq_true rfl) dX10_row_100 (fun I_100 J_100 h_100 => ?_)
          obtain ⟨h_100, ekI_100⟩ := h_100
          obtain ⟨h_100, frI_100⟩ := h_100
          have kI_100 : Kp 0 49 Ia I_100 := Kp_tr kI_96 (Kp_wd h_100.1 (by decide) (by decide))
          have kJ_100 : Kp 0 49 Ja J_100 := Kp_tr kJ2 (Kp_wd h_100.2.1 (by decide) (by decide))
          have cI_100 : CX I_100 := h_100.2.2.1
          have qI_100 := XI_o cI_100.1
          have wI_100 : Fw [3, 18, 19, 20, 21, 22, 23, 24, 25, 26, 27, 28, 29, 30, 33] [(0, 15), (0, 16), (8, 1)] Ia I_100 := Fw_tr wI_96 (Fw_wd h_100.2.2.2.1 (by decide) (by decide))
          have r5_I_100 : I_100 1 5 = I_96 1 5 := h_100.2.2.2.1 1 5 (by decide) (by decide) (by decide)
          have r6_I_100 : I_100 1 6 = I_96 1 6 := h_100.2.2.2.1 1 6 (by decide) (by decide) (by decide)
          have r7_I_100 : I_100 1 7 = I_96 1 7 := h_100.2.2.2.1 1 7 (by decide) (by decide) (by decide)
          have r8_I_100 : I_100 1 8 = I_96 1 8 := h_100.2.2.2.1 1 8 (by decide) (by decide) (by decide)
          have r9_I_100 : I_100 1 9 = I_96 1 9 := h_100.2.2.2.1 1 9 (by decide) (by decide) (by decide)
          have r10_I_100 : I_100 1 10 = I_96 1 10 := h_100.2.2.2.1 1 10 (by decide) (by decide) (by decide)
          have r11_I_100 : I_100 1 11 = I_96 1 11 := h_100.2.2.2.1 1 11 (by decide) (by decide) (by decide)
          have r81_I_100 : I_100 8 1 = I_96 8 1 := h_100.2.2.2.1 8 1 (by decide) (by decide) (by decide)
          have rf_I_100 : FU (I_100 1 5) = FU (I_96 1 5) := by rw [r5_I_100]
          have y3_I_100 : I_100 3 = I_96 3 := Fw_row h_100.2.2.2.1 3 (by decide) (by decide) (by decide)
          have y9_I_100 : I_100 9 = I_96 9 := Fw_row h_100.2.2.2.1 9 (by decide) (by decide) (by decide)
          refine ww_aload_n hX (pc := 103) dX10_row_103 rfl ?_
          refine ww_aload_n hX (pc := 104) dX10_row_104 rfl ?_
          refine ww_getR hX (pc := 105) fX10_10 (by decide) (xs_0 hL) (xr_0_0 hL) dX10_row_105 ?_
          refine vI0 hX (pc := 108) sX10_167 (xs_1 hL) (c5_X1_readCount l0 hL cI_100.1) (by decide) (Nat.le_refl 0) (Nat.le_refl 0) (Nat.le_of_ble_eq_true rfl) dX10_row_108 (fun x_108 I_108 J_108 h_108 => ?_)
          obtain ⟨rfl, rfl, h_108⟩ := h_108
          refine vI1 hX (pc := 111) sX10_114 (xs_0 hL) (c8_X10_accept l0 hL cI_100 frI_100) (by decide) (Nat.le_refl 0) (Nat.le_refl 0) (Nat.le_of_ble_eq_true rfl) dX10_row_111 (fun x_111 I_111 J_111 h_111 => ?_)
          obtain ⟨h_111, frI_111⟩ := h_111
          have kI_111 : Kp 0 49 Ia I_111 := Kp_tr kI_100 (Kp_wd h_111.1 (by decide) (by decide))
          have kJ_111 : Kp 0 49 Ja J_111 := Kp_tr kJ_100 (Kp_wd h_111.2.1 (by decide) (by decide))
          have cI_111 : CX I_111 := h_111.2.2.1
          have qI_111 := XI_o cI_111.1
          have wI_111 : Fw [3, 18, 19, 20, 21, 22, 23, 24, 25, 26, 27, 28, 29, 30, 33] [(0, 15), (0, 16), (8, 1)] Ia I_111 := Fw_tr wI_100 (Fw_wd h_111.2.2.2.1 (by decide) (by decide))
          have r5_I_111 : I_111 1 5 = I_100 1 5 := h_111.2.2.2.1 1 5 (by decide) (by decide) (by decide)
          have r6_I_111 : I_111 1 6 = I_100 1 6 := h_111.2.2.2.1 1 6 (by decide) (by decide) (by decide)
          have r7_I_111 : I_111 1 7 = I_100 1 7 := h_111.2.2.2.1 1 7 (by decide) (by decide) (by decide)
          have r8_I_111 : I_111 1 8 = I_100 1 8 := h_111.2.2.2.1 1 8 (by decide) (by decide) (by decide)
          have r9_I_111 : I_111 1 9 = I_100 1 9 := h_111.2.2.2.1 1 9 (by decide) (by decide) (by decide)
          have r10_I_111 : I_111 1 10 = I_100 1 10 := h_111.2.2.2.1 1 10 (by decide) (by decide) (by decide)
          have r11_I_111 : I_111 1 11 = I_100 1 11 := h_111.2.2.2.1 1 11 (by decide) (by decide) (by decide)
          have r81_I_111 : I_111 8 1 = I_100 8 1 := h_111.2.2.2.1 8 1 (by decide) (by decide) (by decide)
          have rf_I_111 : FU (I_111 1 5) = FU (I_100 1 5) := by rw [r5_I_111]
          have y3_I_111 : I_111 3 = I_100 3 := Fw_row h_111.2.2.2.1 3 (by decide) (by decide) (by decide)
          have y9_I_111 : I_111 9 = I_100 9 := Fw_row h_111.2.2.2.1 9 (by decide) (by decide) (by decide)
          have xv_I_111 := h_111.2.2.2.2
          have ekI_111 : EK I_111 := EK_w ekI_100 h_111.2.2.2.1 (by decide) (by decide)
          refine rI hX (pc := 114) hT (Nat.le_refl 0) (Nat.le_refl 0) dX10_row_114 ?_
          exact ⟨⟨⟨kI_111, kJ_111, cI_111, (Fw_wd wI_111 (by decide) (by decide)), (fun h9 => absurd h9 (by omega)), (fun _ => ⟨wI_111, xv_I_111.2, by omega, by rw [h_111.2.2.2.1 0 15 (by decide) (by decide) (by decide), h_100.2.2.2.1 0 15 (by decide) (by decide) (by decide)]; omega, (fun j => by rw [y3_I_111, y3_I_100, y3_I_96, y3_I_88, h3 j, show i = FU (Ia 1 5) + 1 by omega]), by rw [xv_I_111.1, h_108, y3_I_111, rf_I_100]; exact congrArg (fun z : Int => cnR (I_100 3) (z + 1).toNat) (by omega)⟩)⟩, frI_111⟩, ekI_111⟩
        · simp only [w32_mod] at h_29
          refine ww_aload_n hX (pc := 32) dX10_row_32 rfl ?_
          refine ww_getR hX (pc := 33) fX10_23 (by decide) (xs_0 hL) (xr_0_2 hL) dX10_row_33 ?_
          refine ww_iload_n hX (pc := 36) dX10_row_36 rfl ?_
          refine vI1 hX (pc := 37) sX10_155 (xs_8 hL) (c_X9_byteAt l0 hL cI2.1 (by omega) (by omega)) (by decide) (Nat.le_refl 0) (Nat.le_refl 0) (Nat.le_of_ble_eq_true rfl) dX10_row_37 (fun x_37 I_37 J_37 h_37 => ?_)
          obtain ⟨rfl, rfl, h_37⟩ := h_37
          refine ww_istore_n hX (pc := 40) (lv' := [some (kR (some 0)), some (kI x_21), some (kI i), some (kI x_37)]) dX10_row_40 (by decide) rfl rfl ?_
          refine ww_aload_n hX (pc := 41) dX10_row_41 rfl ?_
          refine ww_getR hX (pc := 42) fX10_10 (by decide) (xs_0 hL) (xr_0_0 hL) dX10_row_42 ?_
          refine ww_getR hX (pc := 45) fX10_137 (by decide) (xs_1 hL) (xr_1_1 hL) dX10_row_45 ?_
          refine ww_iload_n hX (pc := 48) dX10_row_48 rfl ?_
          refine ww_aload_n hX (pc := 49) dX10_row_49 rfl ?_
          refine ww_getR hX (pc := 50) fX10_10 (by decide) (xs_0 hL) (xr_0_0 hL) dX10_row_50 ?_
          refine ww_iload_n hX (pc := 53) dX10_row_53 rfl ?_
          refine vI1 hX (pc := 54) sX10_134 (xs_1 hL) (c_X1_isNews l0 hL cI2.1 (by omega)) (by decide) (Nat.le_refl 0) (Nat.le_refl 0) (Nat.le_of_ble_eq_true rfl) dX10_row_54 (fun x_54 I_54 J_54 h_54 => ?_)
          obtain ⟨rfl, rfl, h_54⟩ := h_54
          refine ww_if_eq hX (pc := 57) (tgt := 64) dX10_row_57 (by decide) (fun h_57 => ?_) (fun h_57 => ?_)
          · simp only [w32_mod] at h_57
            refine ww_iconst hX (pc := 64) (x := (-1)) dX10_row_64 rfl ?_
            refine ww_iast hX (pc := 65) (xs_3 hL) (by decide) (by omega) (by omega) dX10_row_65 ?_
            refine ww_nmH (fun I_65 eI_65 => ?_)
            have kI_65 : Kp 0 49 Ia I_65 := by rw [eI_65]; exact Kp_up kI2 _ _ (by decide)
            have cI_65 : CX I_65 := by rw [eI_65]; exact CX_x cI2 (XI_3 cI2.1 (by omega) (by omega)) (by decide)
            have qI_65 := XI_o cI_65.1
            have r5_I_65 : I_65 1 5 = I2 1 5 := by rw [eI_65, up2_off _ _ _ (by decide)]
            have r6_I_65 : I_65 1 6 = I2 1 6 := by rw [eI_65, up2_off _ _ _ (by decide)]
            have r8_I_65 : I_65 1 8 = I2 1 8 := by rw [eI_65, up2_off _ _ _ (by decide)]
            have r9_I_65 : I_65 1 9 = I2 1 9 := by rw [eI_65, up2_off _ _ _ (by decide)]
            have r10_I_65 : I_65 1 10 = I2 1 10 := by rw [eI_65, up2_off _ _ _ (by decide)]
            have r11_I_65 : I_65 1 11 = I2 1 11 := by rw [eI_65, up2_off _ _ _ (by decide)]
            have rf_I_65 : FU (I_65 1 5) = FU (I2 1 5) := by rw [r5_I_65]
            have wI_65 : Fw [3, 18, 19, 20, 21, 22, 23, 24, 25, 26, 27, 28, 29, 30, 33] [(0, 15), (0, 16), (8, 1)] Ia I_65 := by rw [eI_65]; exact Fw_up wI2 (Or.inl (by decide))
            have r7_I_65 : I_65 1 7 = I2 1 7 := by rw [eI_65, up2_n _ _ (Or.inl (by decide))]
            have y9_I_65 : I_65 9 = I2 9 := by rw [eI_65, up2_off _ _ _ (by decide)]
            have q81_ : I_65 8 1 = I2 8 1 := by rw [eI_65, up2_off _ _ _ (by decide)]
            have t3 : ∀ j : Nat, I_65 3 j = if (j : Int) < i + 1 then RWv (Ia 9) (Ia 8 1) (Ia 1 6) j else Ia 3 j := fun j => by
              rw [eI_65, up2_row]
              by_cases e9 : j = i.toNat
              · rw [e9, up1_s, if_pos (by omega)]
                unfold RWv
                by_cases e7 : (i.toNat : Int) < Ia 8 1
                · have e6 := h_37.2.1 (by omega)
                  rw [i2_9] at e6
                  first | (rw [if_pos ⟨e7, by omega, by omega⟩]; exact e6) | (rw [if_neg (by omega)])
                · have e6 := h_37.2.2 (by omega)
                  first | (rw [if_neg (by omega)]; done) | (exfalso; omega)
              · rw [up1_n _ _ e9, h3 j]
                by_cases e8 : (j : Int) < i
                · rw [if_pos e8, if_pos (by omega)]
                · rw [if_neg e8, if_neg (by omega)]
            refine ww_iinc hX (pc := 66) (lv' := [some (kR (some 0)), some (kI x_21), some (kI (i + 1)), some (kI x_37)]) dX10_row_66 rfl (by decide) rfl rfl ?_
            refine ww_goto hX (pc := 69) (tgt := 27) dX10_row_69 (by decide) ?_
            refine ww_sub [some (kR (some 0)), some (kI x_21), some (kI (i + 1)), none] (aLe_s (aLe_s (aLe_s (aLe_n aLe_0)))) ?_
            exact ih_27 _ (by have hm9 := Sh0_e hq_27; omega) (i + 1) I_65 J2 rfl ⟨kI_65, kJ2, cI_65, wI_65, ⟨by omega, by omega⟩, ⟨by omega, by rw [y9_I_65]; exact i2_9, t3⟩⟩
          · simp only [w32_mod] at h_57
            have k_54 := h_54.2.mp (by omega)
            clear h_54
            refine ww_iload_n hX (pc := 60) dX10_row_60 rfl ?_
            refine ww_goto hX (pc := 61) (tgt := 65) dX10_row_61 (by decide) ?_
            refine ww_iast hX (pc := 65) (xs_3 hL) (by decide) (by omega) (by omega) dX10_row_65 ?_
            refine ww_nmH (fun I_65 eI_65 => ?_)
            have kI_65 : Kp 0 49 Ia I_65 := by rw [eI_65]; exact Kp_up kI2 _ _ (by decide)
            have cI_65 : CX I_65 := by rw [eI_65]; exact CX_x cI2 (XI_3 cI2.1 (by omega) (by omega)) (by decide)
            have qI_65 := XI_o cI_65.1
            have r5_I_65 : I_65 1 5 = I2 1 5 := by rw [eI_65, up2_off _ _ _ (by decide)]
            have r6_I_65 : I_65 1 6 = I2 1 6 := by rw [eI_65, up2_off _ _ _ (by decide)]
            have r8_I_65 : I_65 1 8 = I2 1 8 := by rw [eI_65, up2_off _ _ _ (by decide)]
            have r9_I_65 : I_65 1 9 = I2 1 9 := by rw [eI_65, up2_off _ _ _ (by decide)]
            have r10_I_65 : I_65 1 10 = I2 1 10 := by rw [eI_65, up2_off _ _ _ (by decide)]
            have r11_I_65 : I_65 1 11 = I2 1 11 := by rw [eI_65, up2_off _ _ _ (by decide)]
            have rf_I_65 : FU (I_65 1 5) = FU (I2 1 5) := by rw [r5_I_65]
            have wI_65 : Fw [3, 18, 19, 20, 21, 22, 23, 24, 25, 26, 27, 28, 29, 30, 33] [(0, 15), (0, 16), (8, 1)] Ia I_65 := by rw [eI_65]; exact Fw_up wI2 (Or.inl (by decide))
            have r7_I_65 : I_65 1 7 = I2 1 7 := by rw [eI_65, up2_n _ _ (Or.inl (by decide))]
            have y9_I_65 : I_65 9 = I2 9 := by rw [eI_65, up2_off _ _ _ (by decide)]
            have q81_ : I_65 8 1 = I2 8 1 := by rw [eI_65, up2_off _ _ _ (by decide)]
            have t3 : ∀ j : Nat, I_65 3 j = if (j : Int) < i + 1 then RWv (Ia 9) (Ia 8 1) (Ia 1 6) j else Ia 3 j := fun j => by
              rw [eI_65, up2_row]
              by_cases e9 : j = i.toNat
              · rw [e9, up1_s, if_pos (by omega)]
                unfold RWv
                by_cases e7 : (i.toNat : Int) < Ia 8 1
                · have e6 := h_37.2.1 (by omega)
                  rw [i2_9] at e6
                  first | (rw [if_pos ⟨e7, by omega, by omega⟩]; exact e6) | (rw [if_neg (by omega)])
                · have e6 := h_37.2.2 (by omega)
                  first | (rw [if_neg (by omega)]; done) | (exfalso; omega)
              · rw [up1_n _ _ e9, h3 j]
                by_cases e8 : (j : Int) < i
                · rw [if_pos e8, if_pos (by omega)]
                · rw [if_neg e8, if_neg (by omega)]
            refine ww_iinc hX (pc := 66) (lv' := [some (kR (some 0)), some (kI x_21), some (kI (i + 1)), some (kI x_37)]) dX10_row_66 rfl (by decide) rfl rfl ?_
            refine ww_goto hX (pc := 69) (tgt := 27) dX10_row_69 (by decide) ?_
            refine ww_sub [some (kR (some 0)), some (kI x_21), some (kI (i + 1)), none] (aLe_s (aLe_s (aLe_s (aLe_n aLe_0)))) ?_
            exact ih_27 _ (by have hm9 := Sh0_e hq_27; omega) (i + 1) I_65 J2 rfl ⟨kI_65, kJ2, cI_65, wI_65, ⟨by omega, by omega⟩, ⟨by omega, by rw [y9_I_65]; exact i2_9, t3⟩⟩
    exact hl_27 _ 0 Ia Ja rfl ⟨(Kp_rf (a := 0) (b := 49)), (Kp_rf (a := 0) (b := 49)), hC, Fw_rf, ⟨by omega, by omega⟩, ⟨by omega, rfl, fun j => by rw [if_neg (by omega)]⟩⟩
  · simp only [w32_mod] at h_7
    refine ww_aload_n hX (pc := 10) dX10_row_10 rfl ?_
    refine ww_bipush hX (pc := 11) (x := (-6)) dX10_row_11 (by decide) ?_
    refine vI1 hX (pc := 13) sX10_89 (xs_0 hL) (c8_X10_refuse l0 hL hC hF (by omega) (by omega)) (by decide) (Nat.le_refl 0) (Nat.le_refl 0) (Nat.le_of_ble_eq_true rfl) dX10_row_13 (fun x_13 I_13 J_13 h_13 => ?_)
    obtain ⟨h_13, frI_13⟩ := h_13
    have kI_13 : Kp 0 49 Ia I_13 := Kp_tr (Kp_rf (a := 0) (b := 49)) (Kp_wd h_13.1 (by decide) (by decide))
    have kJ_13 : Kp 0 49 Ja J_13 := Kp_tr (Kp_rf (a := 0) (b := 49)) (Kp_wd h_13.2.1 (by decide) (by decide))
    have cI_13 : CX I_13 := h_13.2.2.1
    have qI_13 := XI_o cI_13.1
    have wI_13 : Fw [3, 18, 19, 20, 21, 22, 23, 24, 25, 26, 27, 28, 29, 30, 33, 48] [(0, 15), (0, 16), (8, 1)] Ia I_13 := Fw_tr Fw_rf (Fw_wd h_13.2.2.2.1 (by decide) (by decide))
    have r5_I_13 : I_13 1 5 = Ia 1 5 := h_13.2.2.2.1 1 5 (by decide) (by decide) (by decide)
    have r6_I_13 : I_13 1 6 = Ia 1 6 := h_13.2.2.2.1 1 6 (by decide) (by decide) (by decide)
    have r7_I_13 : I_13 1 7 = Ia 1 7 := h_13.2.2.2.1 1 7 (by decide) (by decide) (by decide)
    have r8_I_13 : I_13 1 8 = Ia 1 8 := h_13.2.2.2.1 1 8 (by decide) (by decide) (by decide)
    have r9_I_13 : I_13 1 9 = Ia 1 9 := h_13.2.2.2.1 1 9 (by decide) (by decide) (by decide)
    have r10_I_13 : I_13 1 10 = Ia 1 10 := h_13.2.2.2.1 1 10 (by decide) (by decide) (by decide)
    have r11_I_13 : I_13 1 11 = Ia 1 11 := h_13.2.2.2.1 1 11 (by decide) (by decide) (by decide)
    have r81_I_13 : I_13 8 1 = Ia 8 1 := h_13.2.2.2.1 8 1 (by decide) (by decide) (by decide)
    have rf_I_13 : FU (I_13 1 5) = FU (Ia 1 5) := by rw [r5_I_13]
    have y3_I_13 : I_13 3 = Ia 3 := Fw_row h_13.2.2.2.1 3 (by decide) (by decide) (by decide)
    have y9_I_13 : I_13 9 = Ia 9 := Fw_row h_13.2.2.2.1 9 (by decide) (by decide) (by decide)
    have xv_I_13 := h_13.2.2.2.2
    have ekI_13 : EK I_13 := EK_w hEK h_13.2.2.2.1 (by decide) (by decide)
    refine rI hX (pc := 16) hT (Nat.le_refl 0) (Nat.le_refl 0) dX10_row_16 ?_
    exact ⟨⟨⟨kI_13, kJ_13, cI_13, (Fw_wd wI_13 (by decide) (by decide)), (fun _ => ⟨xv_I_13.1, h_13.2.2.2.1, xv_I_13.2⟩), (fun h9 => absurd (by omega) h9)⟩, frI_13⟩, ekI_13⟩
set_option maxHeartbeats 4000000 in
set_option maxRecDepth 20000 in
theorem cE_X10_learn (l0 : Launch) {Ia Ja : aI1} {Ra : aR1} {Sa : aS1} (hL : LY Ra Sa) (hC : CX Ia) (hF : FRk Ia Ja) (hEK : EK Ia) {a : Int} (ha0 : -2147483648 ≤ a) (ha1 : a < 2147483648) (hW : ∀ i, i < 6 → ∀ w, Ra 4 i = some w → LawOK Ia Ra Sa w) {qsf : Nat → List zQ} (hqf : ∀ t : Nat, (t : Int) < Ia 1 9 → ∃ w, Ra 4 t = some w ∧ zLR Ia Sa w (qsf t))  : CT l0 10 0 0 mX10_learn [kR (some 0), kI a] Ia Ja Ra Sa (cI (fun x I' J' => ((Kp 0 49 Ia I' ∧ Kp 0 49 Ja J' ∧ CX I' ∧ Fw [3, 15, 16, 17, 18, 19, 20, 21, 22, 23, 24, 25, 26, 27, 28, 29, 30, 33, 48] [(0, 16)] Ia I' ∧ (¬ (0 ≤ a ∧ a < Ia 1 9) → x = -2 ∧ RFc Ia I' (-2)) ∧ ((0 ≤ a ∧ a < Ia 1 9) → Fw [3, 15, 16, 17, 18, 19, 20, 21, 22, 23, 24, 25, 26, 27, 28, 29, 30, 33] [(0, 16)] Ia I' ∧ I' 0 16 = 0 ∧ (∀ j : Nat, I' 3 j = if (j : Int) ≤ FU (Ia 1 5) then zLd (qsf a.toNat) (Ia 1 5) (Ia 1 6) j else Ia 3 j) ∧ x = cnR (I' 3) (FU (Ia 1 5) + 1).toNat)) ∧ FRk I' J') ∧ EK I') Ra Sa) := by
  refine ct_in pn_X10 (Nat.le_of_ble_eq_true rfl) (fun X hX hT hIn => ?_)
  have hX : aK l0 X cX10_learn 5 RX10 (some .int) 10 0 0 := hX
  change WW X 0 [some (kR (some 0)), some (kI a), none, none, none] [] Ia Ja Ra Sa 0 0
  have hI := hC.1
  have hq := XI_o hI
  refine ww_iload_n hX (pc := 0) dX10_learn_0 rfl ?_
  refine ww_if_lt hX (pc := 1) (tgt := 15) dX10_learn_1 (by decide) (fun h_1 => ?_) (fun h_1 => ?_)
  · simp only [w32_mod] at h_1
    refine ww_aload_n hX (pc := 15) dX10_learn_15 rfl ?_
    refine ww_bipush hX (pc := 16) (x := (-2)) dX10_learn_16 (by decide) ?_
    refine vI1 hX (pc := 18) sX10_89 (xs_0 hL) (c8_X10_refuse l0 hL hC hF (by omega) (by omega)) (by decide) (Nat.le_refl 0) (Nat.le_refl 0) (Nat.le_of_ble_eq_true rfl) dX10_learn_18 (fun x_18 I_18 J_18 h_18 => ?_)
    obtain ⟨h_18, frI_18⟩ := h_18
    have kI_18 : Kp 0 49 Ia I_18 := Kp_tr (Kp_rf (a := 0) (b := 49)) (Kp_wd h_18.1 (by decide) (by decide))
    have kJ_18 : Kp 0 49 Ja J_18 := Kp_tr (Kp_rf (a := 0) (b := 49)) (Kp_wd h_18.2.1 (by decide) (by decide))
    have cI_18 : CX I_18 := h_18.2.2.1
    have qI_18 := XI_o cI_18.1
    have wI_18 : Fw [3, 15, 16, 17, 18, 19, 20, 21, 22, 23, 24, 25, 26, 27, 28, 29, 30, 33, 48] [(0, 16)] Ia I_18 := Fw_tr Fw_rf (Fw_wd h_18.2.2.2.1 (by decide) (by decide))
    have r5_I_18 : I_18 1 5 = Ia 1 5 := h_18.2.2.2.1 1 5 (by decide) (by decide) (by decide)
    have r6_I_18 : I_18 1 6 = Ia 1 6 := h_18.2.2.2.1 1 6 (by decide) (by decide) (by decide)
    have r7_I_18 : I_18 1 7 = Ia 1 7 := h_18.2.2.2.1 1 7 (by decide) (by decide) (by decide)
    have r8_I_18 : I_18 1 8 = Ia 1 8 := h_18.2.2.2.1 1 8 (by decide) (by decide) (by decide)
    have r9_I_18 : I_18 1 9 = Ia 1 9 := h_18.2.2.2.1 1 9 (by decide) (by decide) (by decide)
    have r10_I_18 : I_18 1 10 = Ia 1 10 := h_18.2.2.2.1 1 10 (by decide) (by decide) (by decide)
    have r11_I_18 : I_18 1 11 = Ia 1 11 := h_18.2.2.2.1 1 11 (by decide) (by decide) (by decide)
    have r81_I_18 : I_18 8 1 = Ia 8 1 := h_18.2.2.2.1 8 1 (by decide) (by decide) (by decide)
    have rf_I_18 : FU (I_18 1 5) = FU (Ia 1 5) := by rw [r5_I_18]
    have y3_I_18 : I_18 3 = Ia 3 := Fw_row h_18.2.2.2.1 3 (by decide) (by decide) (by decide)
    have xv_I_18 := h_18.2.2.2.2
    have ekI_18 : EK I_18 := EK_w hEK h_18.2.2.2.1 (by decide) (by decide)
    refine rI hX (pc := 21) hT (Nat.le_refl 0) (Nat.le_refl 0) dX10_learn_21 ?_
    exact ⟨⟨⟨kI_18, kJ_18, cI_18, (Fw_wd wI_18 (by decide) (by decide)), (fun _ => ⟨xv_I_18.1, h_18.2.2.2.1, xv_I_18.2⟩), (fun h9 => absurd h9 (by omega))⟩, frI_18⟩, ekI_18⟩
  · simp only [w32_mod] at h_1
    refine ww_iload_n hX (pc := 4) dX10_learn_4 rfl ?_
    refine ww_aload_n hX (pc := 5) dX10_learn_5 rfl ?_
    refine ww_getR hX (pc := 6) fX10_10 (by decide) (xs_0 hL) (xr_0_0 hL) dX10_learn_6 ?_
    refine ww_getI hX (pc := 9) fX10_170 (by decide) (xs_1 hL) dX10_learn_9 ?_
    refine ww_icmp_lt hX (pc := 12) (tgt := 22) dX10_learn_12 (by decide) (fun h_12 => ?_) (fun h_12 => ?_)
    · simp only [w32_mod] at h_12
      refine ww_aload_n hX (pc := 22) dX10_learn_22 rfl ?_
      refine ww_getR hX (pc := 23) fX10_10 (by decide) (xs_0 hL) (xr_0_0 hL) dX10_learn_23 ?_
      refine ww_getR hX (pc := 26) fX10_177 (by decide) (xs_1 hL) (xr_1_2 hL) dX10_learn_26 ?_
      refine ww_iload_n hX (pc := 29) dX10_learn_29 rfl ?_
      refine ww_aald hX (pc := 30) (Or.inl rfl) (xs_4 hL) (by decide) (by omega) (by omega) dX10_learn_30 ?_
      cases hlw : Ra 4 a.toNat with
      | none =>
        refine ww_astore_nN hX (pc := 31) (lv' := [some (kR (some 0)), some (kI a), some (kR none), none, none]) dX10_learn_31 (by decide) rfl rfl ?_
        refine ww_aload_nN hX (pc := 32) dX10_learn_32 rfl ?_
        refine ww_ifnonnullN hX (pc := 33) dX10_learn_33 ?_
        refine ww_aload_n hX (pc := 36) dX10_learn_36 rfl ?_
        refine ww_bipush hX (pc := 37) (x := (-2)) dX10_learn_37 (by decide) ?_
        refine vI1 hX (pc := 39) sX10_89 (xs_0 hL) (c8_X10_refuse l0 hL hC hF (by omega) (by omega)) (by decide) (Nat.le_refl 0) (Nat.le_refl 0) (Nat.le_of_ble_eq_true rfl) dX10_learn_39 (fun x_39 I_39 J_39 h_39 => ?_)
        obtain ⟨h_39, frI_39⟩ := h_39
        have kI_39 : Kp 0 49 Ia I_39 := Kp_tr (Kp_rf (a := 0) (b := 49)) (Kp_wd h_39.1 (by decide) (by decide))
        have kJ_39 : Kp 0 49 Ja J_39 := Kp_tr (Kp_rf (a := 0) (b := 49)) (Kp_wd h_39.2.1 (by decide) (by decide))
        have cI_39 : CX I_39 := h_39.2.2.1
        have qI_39 := XI_o cI_39.1
        have wI_39 : Fw [3, 15, 16, 17, 18, 19, 20, 21, 22, 23, 24, 25, 26, 27, 28, 29, 30, 33, 48] [(0, 16)] Ia I_39 := Fw_tr Fw_rf (Fw_wd h_39.2.2.2.1 (by decide) (by decide))
        have r5_I_39 : I_39 1 5 = Ia 1 5 := h_39.2.2.2.1 1 5 (by decide) (by decide) (by decide)
        have r6_I_39 : I_39 1 6 = Ia 1 6 := h_39.2.2.2.1 1 6 (by decide) (by decide) (by decide)
        have r7_I_39 : I_39 1 7 = Ia 1 7 := h_39.2.2.2.1 1 7 (by decide) (by decide) (by decide)
        have r8_I_39 : I_39 1 8 = Ia 1 8 := h_39.2.2.2.1 1 8 (by decide) (by decide) (by decide)
        have r9_I_39 : I_39 1 9 = Ia 1 9 := h_39.2.2.2.1 1 9 (by decide) (by decide) (by decide)
        have r10_I_39 : I_39 1 10 = Ia 1 10 := h_39.2.2.2.1 1 10 (by decide) (by decide) (by decide)
        have r11_I_39 : I_39 1 11 = Ia 1 11 := h_39.2.2.2.1 1 11 (by decide) (by decide) (by decide)
        have r81_I_39 : I_39 8 1 = Ia 8 1 := h_39.2.2.2.1 8 1 (by decide) (by decide) (by decide)
        have rf_I_39 : FU (I_39 1 5) = FU (Ia 1 5) := by rw [r5_I_39]
        have y3_I_39 : I_39 3 = Ia 3 := Fw_row h_39.2.2.2.1 3 (by decide) (by decide) (by decide)
        have xv_I_39 := h_39.2.2.2.2
        have ekI_39 : EK I_39 := EK_w hEK h_39.2.2.2.1 (by decide) (by decide)
        refine rI hX (pc := 42) hT (Nat.le_refl 0) (Nat.le_refl 0) dX10_learn_42 ?_
        exact ⟨⟨⟨kI_39, kJ_39, cI_39, (Fw_wd wI_39 (by decide) (by decide)), (fun _ => (by
              obtain ⟨w9, hw9, -⟩ := hqf a.toNat (by omega)
              rw [hlw] at hw9
              cases hw9)), (fun _ => (by
              obtain ⟨w9, hw9, -⟩ := hqf a.toNat (by omega)
              rw [hlw] at hw9
              cases hw9))⟩, frI_39⟩, ekI_39⟩
      | some w =>
        obtain ⟨hw73, hws, hwr0, hwr1, hwc, ⟨n1, hn1, hs1, hst1⟩, ⟨n2, hn2, hs2, hst2⟩⟩ := hW a.toNat (by omega) w hlw
        refine ww_astore_n hX (pc := 31) (lv' := [some (kR (some 0)), some (kI a), some (kR (some w)), none, none]) dX10_learn_31 (by decide) rfl rfl ?_
        refine ww_aload_n hX (pc := 32) dX10_learn_32 rfl ?_
        refine ww_ifnonnullS hX (pc := 33) (tgt := 43) dX10_learn_33 (by decide) ?_
        obtain ⟨w9, hw9, hlr⟩ := hqf a.toNat (by omega)
        have hw90 : w9 = w := by
          rw [hlw] at hw9
          cases hw9
          rfl
        rw [hw90] at hlr
        obtain ⟨hz2, hz12, hzc, n9, hzs1, hn9, hzm, hzs2⟩ := hlr
        have hzn1 : n9 = n1 := by
          rw [hs1] at hzs1
          cases hzs1
          rfl
        have hzn : n2 = 2 * (qsf a.toNat).length + 1 := by
          rw [hs2] at hzs2
          cases hzs2
          rfl
        refine ww_aload_n hX (pc := 43) dX10_learn_43 rfl ?_
        refine ww_getR hX (pc := 44) fX10_10 (by decide) (xs_0 hL) (xr_0_0 hL) dX10_learn_44 ?_
        refine vI0 hX (pc := 47) sX10_151 (xs_1 hL) (c_X1_full l0 hL hC.1) (by decide) (Nat.le_refl 0) (Nat.le_refl 0) (Nat.le_of_ble_eq_true rfl) dX10_learn_47 (fun x_47 I_47 J_47 h_47 => ?_)
        obtain ⟨rfl, rfl, h_47⟩ := h_47
        refine ww_istore_n hX (pc := 50) (lv' := [some (kR (some 0)), some (kI a), some (kR (some w)), some (kI x_47), none]) dX10_learn_50 (by decide) rfl rfl ?_
        refine ww_iconst hX (pc := 51) (x := 0) dX10_learn_51 rfl ?_
        refine ww_istore hX (pc := 52) (lv' := [some (kR (some 0)), some (kI a), some (kR (some w)), some (kI x_47), some (kI 0)]) dX10_learn_52 (by decide) rfl rfl ?_
        have hl_54 : ∀ (n_54 : Nat) (i : Int) (I2 : aI1) (J2 : aI1), (256 - i).toNat = n_54 → (Kp 0 49 Ia I2 ∧ Kp 0 49 Ja J2 ∧ CX I2 ∧ Fw [3, 15, 16, 17, 18, 19, 20, 21, 22, 23, 24, 25, 26, 27, 28, 29, 30, 33] [(0, 16)] Ia I2 ∧ (I2 1 5 = Ia 1 5 ∧ I2 1 6 = Ia 1 6) ∧ ((0 ≤ i ∧ i ≤ FU (Ia 1 5) + 1) ∧ (∀ j : Nat, I2 3 j = if (j : Int) < i then zLd (qsf a.toNat) (Ia 1 5) (Ia 1 6) j else Ia 3 j))) → WW X 54 [some (kR (some 0)), some (kI a), some (kR (some w)), some (kI x_47), some (kI i)] [] I2 J2 Ra Sa 0 0 := by
          intro n_54
          induction n_54 using Nat.strongRecOn with
          | ind n_54 ih_54 =>
            intro i I2 J2 hm_54 hv_54
            have hq_54 := Sh0_i hm_54
            clear hm_54
            obtain ⟨kI2, kJ2, cI2, wI2, hI20, hi, h3⟩ := hv_54
            have qI2 := XI_o cI2.1
            have rfI2 := congrArg FU hI20.1
            refine ww_iload hX (pc := 54) dX10_learn_54 rfl ?_
            refine ww_iload_n hX (pc := 56) dX10_learn_56 rfl ?_
            refine ww_icmp_gt hX (pc := 57) (tgt := 90) dX10_learn_57 (by decide) (fun h_57 => ?_) (fun h_57 => ?_)
            · simp only [w32_mod] at h_57
              refine ww_aload_n hX (pc := 90) dX10_learn_90 rfl ?_
              refine vV0 hX (pc := 91) sX10_111 (xs_0 hL) (cE_X10_codeChanged l0 hL cI2) (by decide) (Nat.le_refl 0) (Nat.le_refl 0) (Nat.le_of_ble_eq_true rfl) dX10_learn_91 (fun I_91 J_91 h_91 => ?_)
              obtain ⟨h_91, ekI_91⟩ := h_91
              obtain ⟨h_91, frI_91⟩ := h_91
              have kI_91 : Kp 0 49 Ia I_91 := Kp_tr kI2 (Kp_wd h_91.1 (by decide) (by decide))
              have kJ_91 : Kp 0 49 Ja J_91 := Kp_tr kJ2 (Kp_wd h_91.2.1 (by decide) (by decide))
              have cI_91 : CX I_91 := h_91.2.2.1
              have qI_91 := XI_o cI_91.1
              have wI_91 : Fw [3, 15, 16, 17, 18, 19, 20, 21, 22, 23, 24, 25, 26, 27, 28, 29, 30, 33] [(0, 16)] Ia I_91 := Fw_tr wI2 (Fw_wd h_91.2.2.2.1 (by decide) (by decide))
              have r5_I_91 : I_91 1 5 = I2 1 5 := h_91.2.2.2.1 1 5 (by decide) (by decide) (by decide)
              have r6_I_91 : I_91 1 6 = I2 1 6 := h_91.2.2.2.1 1 6 (by decide) (by decide) (by decide)
              have r7_I_91 : I_91 1 7 = I2 1 7 := h_91.2.2.2.1 1 7 (by decide) (by decide) (by decide)
              have r8_I_91 : I_91 1 8 = I2 1 8 := h_91.2.2.2.1 1 8 (by decide) (by decide) (by decide)
              have r9_I_91 : I_91 1 9 = I2 1 9 := h_91.2.2.2.1 1 9 (by decide) (by decide) (by decide)
              have r10_I_91 : I_91 1 10 = I2 1 10 := h_91.2.2.2.1 1 10 (by decide) (by decide) (by decide)
              have r11_I_91 : I_91 1 11 = I2 1 11 := h_91.2.2.2.1 1 11 (by decide) (by decide) (by decide)
              have r81_I_91 : I_91 8 1 = I2 8 1 := h_91.2.2.2.1 8 1 (by decide) (by decide) (by decide)
              have rf_I_91 : FU (I_91 1 5) = FU (I2 1 5) := by rw [r5_I_91]
              have y3_I_91 : I_91 3 = I2 3 := Fw_row h_91.2.2.2.1 3 (by decide) (by decide) (by decide)
              refine ww_aload_n hX (pc := 94) dX10_learn_94 rfl ?_
              refine ww_aload_n hX (pc := 95) dX10_learn_95 rfl ?_
              refine ww_getR hX (pc := 96) fX10_10 (by decide) (xs_0 hL) (xr_0_0 hL) dX10_learn_96 ?_
              refine vI0 hX (pc := 99) sX10_167 (xs_1 hL) (c5_X1_readCount l0 hL cI_91.1) (by decide) (Nat.le_refl 0) (Nat.le_refl 0) (Nat.le_of_ble_eq_true rfl) dX10_learn_99 (fun x_99 I_99 J_99 h_99 => ?_)
              obtain ⟨rfl, rfl, h_99⟩ := h_99
              refine vI1 hX (pc := 102) sX10_114 (xs_0 hL) (c8_X10_accept l0 hL cI_91 frI_91) (by decide) (Nat.le_refl 0) (Nat.le_refl 0) (Nat.le_of_ble_eq_true rfl) dX10_learn_102 (fun x_102 I_102 J_102 h_102 => ?_)
              obtain ⟨h_102, frI_102⟩ := h_102
              have kI_102 : Kp 0 49 Ia I_102 := Kp_tr kI_91 (Kp_wd h_102.1 (by decide) (by decide))
              have kJ_102 : Kp 0 49 Ja J_102 := Kp_tr kJ_91 (Kp_wd h_102.2.1 (by decide) (by decide))
              have cI_102 : CX I_102 := h_102.2.2.1
              have qI_102 := XI_o cI_102.1
              have wI_102 : Fw [3, 15, 16, 17, 18, 19, 20, 21, 22, 23, 24, 25, 26, 27, 28, 29, 30, 33] [(0, 16)] Ia I_102 := Fw_tr wI_91 (Fw_wd h_102.2.2.2.1 (by decide) (by decide))
              have r5_I_102 : I_102 1 5 = I_91 1 5 := h_102.2.2.2.1 1 5 (by decide) (by decide) (by decide)
              have r6_I_102 : I_102 1 6 = I_91 1 6 := h_102.2.2.2.1 1 6 (by decide) (by decide) (by decide)
              have r7_I_102 : I_102 1 7 = I_91 1 7 := h_102.2.2.2.1 1 7 (by decide) (by decide) (by decide)
              have r8_I_102 : I_102 1 8 = I_91 1 8 := h_102.2.2.2.1 1 8 (by decide) (by decide) (by decide)
              have r9_I_102 : I_102 1 9 = I_91 1 9 := h_102.2.2.2.1 1 9 (by decide) (by decide) (by decide)
              have r10_I_102 : I_102 1 10 = I_91 1 10 := h_102.2.2.2.1 1 10 (by decide) (by decide) (by decide)
              have r11_I_102 : I_102 1 11 = I_91 1 11 := h_102.2.2.2.1 1 11 (by decide) (by decide) (by decide)
              have r81_I_102 : I_102 8 1 = I_91 8 1 := h_102.2.2.2.1 8 1 (by decide) (by decide) (by decide)
              have rf_I_102 : FU (I_102 1 5) = FU (I_91 1 5) := by rw [r5_I_102]
              have y3_I_102 : I_102 3 = I_91 3 := Fw_row h_102.2.2.2.1 3 (by decide) (by decide) (by decide)
              have xv_I_102 := h_102.2.2.2.2
              have ekI_102 : EK I_102 := EK_w ekI_91 h_102.2.2.2.1 (by decide) (by decide)
              refine rI hX (pc := 105) hT (Nat.le_refl 0) (Nat.le_refl 0) dX10_learn_105 ?_
              exact ⟨⟨⟨kI_102, kJ_102, cI_102, (Fw_wd wI_102 (by decide) (by decide)), (fun h9 => absurd (by omega) h9), (fun _ => ⟨wI_102, xv_I_102.2, (fun j => by
                    rw [y3_I_102, y3_I_91, h3 j]
                    by_cases g : (j : Int) < i
                    · rw [if_pos g, if_pos (by omega)]
                    · rw [if_neg g, if_neg (by omega)]), by rw [xv_I_102.1, h_99, y3_I_102, rf_I_91]; exact congrArg (fun z : Int => cnR (I_91 3) (z + 1).toNat) (by omega)⟩)⟩, frI_102⟩, ekI_102⟩
            · simp only [w32_mod] at h_57
              refine ww_aload_n hX (pc := 60) dX10_learn_60 rfl ?_
              refine ww_getR hX (pc := 61) fX10_10 (by decide) (xs_0 hL) (xr_0_0 hL) dX10_learn_61 ?_
              refine ww_getR hX (pc := 64) fX10_137 (by decide) (xs_1 hL) (xr_1_1 hL) dX10_learn_64 ?_
              refine ww_iload hX (pc := 67) dX10_learn_67 rfl ?_
              refine ww_aload_n hX (pc := 69) dX10_learn_69 rfl ?_
              refine ww_getR hX (pc := 70) fX10_39 (by decide) (xs_0 hL) (xr_0_4 hL) dX10_learn_70 ?_
              refine ww_aload_n hX (pc := 73) dX10_learn_73 rfl ?_
              refine ww_aload_n hX (pc := 74) dX10_learn_74 rfl ?_
              refine ww_getR hX (pc := 75) fX10_10 (by decide) (xs_0 hL) (xr_0_0 hL) dX10_learn_75 ?_
              refine ww_iload hX (pc := 78) dX10_learn_78 rfl ?_
              refine vI3 hX (pc := 80) sX10_184 (xs_15 hL) (c6_X0_ask l0 hL cI2.1 hws hwr0 hwr1 hs1 hs2 (by omega) (by omega) (by omega) (by omega) (by omega) (fun j hj => by rw [kI2 (w + 1) (by omega)]; exact hst1 j hj) (fun j hj => by rw [kI2 (w + 2) (by omega)]; exact hst2 j hj) (qs := qsf a.toNat) (by rw [kI2 w (by omega)]; exact hz2) hz12 (by rw [kI2 (w + 1) (by omega), kI2 (w + 2) (by omega)]; exact hzc) (fun j g1 g2 => by rw [kI2 (w + 2) (by omega)]; have h9 := hzm j g1 g2; omega) hzn (by omega) (by omega)) (by decide) (Nat.le_refl 0) (Nat.le_refl 0) (Nat.le_of_ble_eq_true rfl) dX10_learn_80 (fun x_80 I_80 J_80 h_80 => ?_)
              have kI_80 : Kp 0 49 Ia I_80 := Kp_tr kI2 (Kp_wd h_80.1 (by decide) (by decide))
              have kJ_80 : Kp 0 49 Ja J_80 := Kp_tr kJ2 (Kp_wd h_80.2.1 (by decide) (by decide))
              have cI_80 : CX I_80 := CX_kp cI2 h_80.1 (by decide) (by decide)
              have qI_80 := XI_o cI_80.1
              have r5_I_80 : I_80 1 5 = I2 1 5 := by rw [h_80.1 1 (by decide)]
              have r6_I_80 : I_80 1 6 = I2 1 6 := by rw [h_80.1 1 (by decide)]
              have r8_I_80 : I_80 1 8 = I2 1 8 := by rw [h_80.1 1 (by decide)]
              have r9_I_80 : I_80 1 9 = I2 1 9 := by rw [h_80.1 1 (by decide)]
              have r10_I_80 : I_80 1 10 = I2 1 10 := by rw [h_80.1 1 (by decide)]
              have r11_I_80 : I_80 1 11 = I2 1 11 := by rw [h_80.1 1 (by decide)]
              have rf_I_80 : FU (I_80 1 5) = FU (I2 1 5) := by rw [r5_I_80]
              have wI_80 : Fw [3, 15, 16, 17, 18, 19, 20, 21, 22, 23, 24, 25, 26, 27, 28, 29, 30, 33] [(0, 16)] Ia I_80 := Fw_kp wI2 h_80.1 (by decide)
              have r7_I_80 : I_80 1 7 = I2 1 7 := by rw [h_80.1 1 (by decide)]
              have y3_I_80 : I_80 3 = I2 3 := h_80.1 3 (by decide)
              have hgb := zGv_b (K := I2 1 6) (r := zTl (qsf a.toNat) (zEn i (I2 1 5) (I2 1 6))) (by omega) (by omega)
              have hgx := h_80.2.2
              refine ww_iast hX (pc := 83) (xs_3 hL) (by decide) (by omega) (by omega) dX10_learn_83 ?_
              refine ww_nmH (fun I_83 eI_83 => ?_)
              have kI_83 : Kp 0 49 Ia I_83 := by rw [eI_83]; exact Kp_up kI_80 _ _ (by decide)
              have cI_83 : CX I_83 := by rw [eI_83]; exact CX_x cI_80 (XI_3 cI_80.1 (by omega) (by omega)) (by decide)
              have qI_83 := XI_o cI_83.1
              have r5_I_83 : I_83 1 5 = I_80 1 5 := by rw [eI_83, up2_off _ _ _ (by decide)]
              have r6_I_83 : I_83 1 6 = I_80 1 6 := by rw [eI_83, up2_off _ _ _ (by decide)]
              have r8_I_83 : I_83 1 8 = I_80 1 8 := by rw [eI_83, up2_off _ _ _ (by decide)]
              have r9_I_83 : I_83 1 9 = I_80 1 9 := by rw [eI_83, up2_off _ _ _ (by decide)]
              have r10_I_83 : I_83 1 10 = I_80 1 10 := by rw [eI_83, up2_off _ _ _ (by decide)]
              have r11_I_83 : I_83 1 11 = I_80 1 11 := by rw [eI_83, up2_off _ _ _ (by decide)]
              have rf_I_83 : FU (I_83 1 5) = FU (I_80 1 5) := by rw [r5_I_83]
              have wI_83 : Fw [3, 15, 16, 17, 18, 19, 20, 21, 22, 23, 24, 25, 26, 27, 28, 29, 30, 33] [(0, 16)] Ia I_83 := by rw [eI_83]; exact Fw_up wI_80 (Or.inl (by decide))
              have r7_I_83 : I_83 1 7 = I_80 1 7 := by rw [eI_83, up2_n _ _ (Or.inl (by decide))]
              have t3 : ∀ j : Nat, I_83 3 j = if (j : Int) < i + 1 then zLd (qsf a.toNat) (Ia 1 5) (Ia 1 6) j else Ia 3 j := fun j => by
                rw [eI_83, up2_row]
                by_cases e9 : j = i.toNat
                · rw [e9, up1_s, if_pos (by omega), show ((i.toNat : Nat) : Int) = i by omega, h_80.2.2, hI20.1, hI20.2]
                  rfl
                · rw [up1_n _ _ e9, y3_I_80, h3 j]
                  by_cases e8 : (j : Int) < i
                  · rw [if_pos e8, if_pos (by omega)]
                  · rw [if_neg e8, if_neg (by omega)]
              refine ww_iinc hX (pc := 84) (lv' := [some (kR (some 0)), some (kI a), some (kR (some w)), some (kI x_47), some (kI (i + 1))]) dX10_learn_84 rfl (by decide) rfl rfl ?_
              refine ww_goto hX (pc := 87) (tgt := 54) dX10_learn_87 (by decide) ?_
              exact ih_54 _ (by have hm9 := Sh0_e hq_54; omega) (i + 1) I_83 J_80 rfl ⟨kI_83, kJ_80, cI_83, wI_83, ⟨by omega, by omega⟩, by omega, t3⟩
        exact hl_54 _ 0 Ia Ja rfl ⟨(Kp_rf (a := 0) (b := 49)), (Kp_rf (a := 0) (b := 49)), hC, Fw_rf, ⟨by omega, by omega⟩, by omega, (fun j => by rw [if_neg (by omega)])⟩
    · simp only [w32_mod] at h_12
      refine ww_aload_n hX (pc := 15) dX10_learn_15 rfl ?_
      refine ww_bipush hX (pc := 16) (x := (-2)) dX10_learn_16 (by decide) ?_
      refine vI1 hX (pc := 18) sX10_89 (xs_0 hL) (c8_X10_refuse l0 hL hC hF (by omega) (by omega)) (by decide) (Nat.le_refl 0) (Nat.le_refl 0) (Nat.le_of_ble_eq_true rfl) dX10_learn_18 (fun x_18 I_18 J_18 h_18 => ?_)
      obtain ⟨h_18, frI_18⟩ := h_18
      have kI_18 : Kp 0 49 Ia I_18 := Kp_tr (Kp_rf (a := 0) (b := 49)) (Kp_wd h_18.1 (by decide) (by decide))
      have kJ_18 : Kp 0 49 Ja J_18 := Kp_tr (Kp_rf (a := 0) (b := 49)) (Kp_wd h_18.2.1 (by decide) (by decide))
      have cI_18 : CX I_18 := h_18.2.2.1
      have qI_18 := XI_o cI_18.1
      have wI_18 : Fw [3, 15, 16, 17, 18, 19, 20, 21, 22, 23, 24, 25, 26, 27, 28, 29, 30, 33, 48] [(0, 16)] Ia I_18 := Fw_tr Fw_rf (Fw_wd h_18.2.2.2.1 (by decide) (by decide))
      have r5_I_18 : I_18 1 5 = Ia 1 5 := h_18.2.2.2.1 1 5 (by decide) (by decide) (by decide)
      have r6_I_18 : I_18 1 6 = Ia 1 6 := h_18.2.2.2.1 1 6 (by decide) (by decide) (by decide)
      have r7_I_18 : I_18 1 7 = Ia 1 7 := h_18.2.2.2.1 1 7 (by decide) (by decide) (by decide)
      have r8_I_18 : I_18 1 8 = Ia 1 8 := h_18.2.2.2.1 1 8 (by decide) (by decide) (by decide)
      have r9_I_18 : I_18 1 9 = Ia 1 9 := h_18.2.2.2.1 1 9 (by decide) (by decide) (by decide)
      have r10_I_18 : I_18 1 10 = Ia 1 10 := h_18.2.2.2.1 1 10 (by decide) (by decide) (by decide)
      have r11_I_18 : I_18 1 11 = Ia 1 11 := h_18.2.2.2.1 1 11 (by decide) (by decide) (by decide)
      have r81_I_18 : I_18 8 1 = Ia 8 1 := h_18.2.2.2.1 8 1 (by decide) (by decide) (by decide)
      have rf_I_18 : FU (I_18 1 5) = FU (Ia 1 5) := by rw [r5_I_18]
      have y3_I_18 : I_18 3 = Ia 3 := Fw_row h_18.2.2.2.1 3 (by decide) (by decide) (by decide)
      have xv_I_18 := h_18.2.2.2.2
      have ekI_18 : EK I_18 := EK_w hEK h_18.2.2.2.1 (by decide) (by decide)
      refine rI hX (pc := 21) hT (Nat.le_refl 0) (Nat.le_refl 0) dX10_learn_21 ?_
      exact ⟨⟨⟨kI_18, kJ_18, cI_18, (Fw_wd wI_18 (by decide) (by decide)), (fun _ => ⟨xv_I_18.1, h_18.2.2.2.1, xv_I_18.2⟩), (fun h9 => absurd h9 (by omega))⟩, frI_18⟩, ekI_18⟩
set_option maxHeartbeats 4000000 in
set_option maxRecDepth 20000 in
theorem cE_X10_make (l0 : Launch) {Ia Ja : aI1} {Ra : aR1} {Sa : aS1} (hL : LY Ra Sa) (hC : CX Ia) (hF : FRk Ia Ja) (hEK : EK Ia) {a b c : Int} (ha0 : -2147483648 ≤ a) (ha1 : a < 2147483648) (hb0 : -2147483648 ≤ b) (hb1 : b < 2147483648) (hc0 : -2147483648 ≤ c) (hc1 : c < 2147483648) (hS : SR Ia) (hG : SRF Ia)  : CT l0 10 0 0 mX10_make [kR (some 0), kI a, kI b, kI c] Ia Ja Ra Sa (cI (fun x I' J' => ((Kp 0 49 Ia I' ∧ Kp 0 49 Ja J' ∧ CX I' ∧ Fw [3, 18, 19, 20, 21, 22, 23, 24, 25, 26, 27, 28, 29, 30, 33, 37, 38, 39, 40, 41, 42, 43, 44, 45, 48] [(0, 16)] Ia I' ∧ SR I' ∧ SRF I' ∧ (¬ (1 ≤ a ∧ a ≤ 3 ∧ 2 ≤ b ∧ b ≤ 4 ∧ 0 ≤ c ∧ c ≤ 8) → x = -1 ∧ I' 3 = Ia 3) ∧ ((1 ≤ a ∧ a ≤ 3 ∧ 2 ≤ b ∧ b ≤ 4 ∧ 0 ≤ c ∧ c ≤ 8) → ¬ (a = Ia 1 5 ∧ b = Ia 1 6 ∧ ¬ TBX a b c = 0) → x = -3 ∧ I' 3 = Ia 3) ∧ ((1 ≤ a ∧ a ≤ 3 ∧ 2 ≤ b ∧ b ≤ 4 ∧ 0 ≤ c ∧ c ≤ 8) → (a = Ia 1 5 ∧ b = Ia 1 6 ∧ ¬ TBX a b c = 0) → x = 0 ∧ ∀ j : Nat, I' 3 j = if j < 2 ^ a.toNat then ((gd (S0 b.toNat (2 ^ a.toNat) c.toNat) j : Nat) : Int) else Ia 3 j) ∧ LSt x Ia I') ∧ FRk I' J') ∧ EK I') Ra Sa) := by
  refine ct_in pn_X10 (Nat.le_of_ble_eq_true rfl) (fun X hX hT hIn => ?_)
  have hX : aK l0 X cX10_make 4 RX10 (some .int) 10 0 0 := hX
  change WW X 0 [some (kR (some 0)), some (kI a), some (kI b), some (kI c)] [] Ia Ja Ra Sa 0 0
  have hI := hC.1
  have hq := XI_o hI
  refine ww_iload_n hX (pc := 0) dX10_make_0 rfl ?_
  refine ww_iload_n hX (pc := 1) dX10_make_1 rfl ?_
  refine ww_iload_n hX (pc := 2) dX10_make_2 rfl ?_
  refine sI3 hX (pc := 3) sX10_225 (c_X2_isSearched l0 (by omega) (by omega) (by omega) (by omega) (by omega) (by omega)) (by decide) (Nat.le_refl 0) (Nat.le_refl 0) (Nat.le_of_ble_eq_true rfl) dX10_make_3 (fun x_3 I_3 J_3 h_3 => ?_)
  obtain ⟨rfl, rfl, h_3⟩ := h_3
  refine ww_if_ne hX (pc := 6) (tgt := 15) dX10_make_6 (by decide) (fun h_6 => ?_) (fun h_6 => ?_)
  · simp only [w32_mod] at h_6
    have k_3 := h_3.2.mp (by omega)
    clear h_3
    refine ww_iload_n hX (pc := 15) dX10_make_15 rfl ?_
    refine ww_aload_n hX (pc := 16) dX10_make_16 rfl ?_
    refine ww_getR hX (pc := 17) fX10_10 (by decide) (xs_0 hL) (xr_0_0 hL) dX10_make_17 ?_
    refine ww_getI hX (pc := 20) fX10_93 (by decide) (xs_1 hL) dX10_make_20 ?_
    refine ww_icmp_ne hX (pc := 23) (tgt := 50) dX10_make_23 (by decide) (fun h_23 => ?_) (fun h_23 => ?_)
    · simp only [w32_mod] at h_23
      refine ww_aload_n hX (pc := 50) dX10_make_50 rfl ?_
      refine ww_bipush hX (pc := 51) (x := (-3)) dX10_make_51 (by decide) ?_
      refine vI1 hX (pc := 53) sX10_89 (xs_0 hL) (c8_X10_refuse l0 hL hC hF (by omega) (by omega)) (by decide) (Nat.le_refl 0) (Nat.le_refl 0) (Nat.le_of_ble_eq_true rfl) dX10_make_53 (fun x_53 I_53 J_53 h_53 => ?_)
      obtain ⟨h_53, frI_53⟩ := h_53
      have kI_53 : Kp 0 49 Ia I_53 := Kp_tr (Kp_rf (a := 0) (b := 49)) (Kp_wd h_53.1 (by decide) (by decide))
      have kJ_53 : Kp 0 49 Ja J_53 := Kp_tr (Kp_rf (a := 0) (b := 49)) (Kp_wd h_53.2.1 (by decide) (by decide))
      have cI_53 : CX I_53 := h_53.2.2.1
      have qI_53 := XI_o cI_53.1
      have wI_53 : Fw [3, 18, 19, 20, 21, 22, 23, 24, 25, 26, 27, 28, 29, 30, 33, 37, 38, 39, 40, 41, 42, 43, 44, 45, 48] [(0, 16)] Ia I_53 := Fw_tr Fw_rf (Fw_wd h_53.2.2.2.1 (by decide) (by decide))
      have r5_I_53 : I_53 1 5 = Ia 1 5 := h_53.2.2.2.1 1 5 (by decide) (by decide) (by decide)
      have r6_I_53 : I_53 1 6 = Ia 1 6 := h_53.2.2.2.1 1 6 (by decide) (by decide) (by decide)
      have r7_I_53 : I_53 1 7 = Ia 1 7 := h_53.2.2.2.1 1 7 (by decide) (by decide) (by decide)
      have r8_I_53 : I_53 1 8 = Ia 1 8 := h_53.2.2.2.1 1 8 (by decide) (by decide) (by decide)
      have r9_I_53 : I_53 1 9 = Ia 1 9 := h_53.2.2.2.1 1 9 (by decide) (by decide) (by decide)
      have r10_I_53 : I_53 1 10 = Ia 1 10 := h_53.2.2.2.1 1 10 (by decide) (by decide) (by decide)
      have r11_I_53 : I_53 1 11 = Ia 1 11 := h_53.2.2.2.1 1 11 (by decide) (by decide) (by decide)
      have r81_I_53 : I_53 8 1 = Ia 8 1 := h_53.2.2.2.1 8 1 (by decide) (by decide) (by decide)
      have rf_I_53 : FU (I_53 1 5) = FU (Ia 1 5) := by rw [r5_I_53]
      have y3_I_53 : I_53 3 = Ia 3 := Fw_row h_53.2.2.2.1 3 (by decide) (by decide) (by decide)
      have xv_I_53 := h_53.2.2.2.2
      have srI_53 : SR I_53 := SR_of hS (Fw_row h_53.2.2.2.1 43 (by decide) (by decide) (by decide)) (Fw_row h_53.2.2.2.1 45 (by decide) (by decide) (by decide))
      have ekI_53 : EK I_53 := EK_w hEK h_53.2.2.2.1 (by decide) (by decide)
      refine rI hX (pc := 56) hT (Nat.le_refl 0) (Nat.le_refl 0) dX10_make_56 ?_
      exact ⟨⟨⟨kI_53, kJ_53, cI_53, (Fw_wd wI_53 (by decide) (by decide)), srI_53, (SRF_of hG (Fw_row h_53.2.2.2.1 43 (by decide) (by decide) (by decide)) (Fw_row h_53.2.2.2.1 44 (by decide) (by decide) (by decide)) (Fw_row h_53.2.2.2.1 45 (by decide) (by decide) (by decide))), (fun h9 => absurd (by omega) h9), (fun _ _ => ⟨by omega, y3_I_53⟩), (fun _ h8 => absurd h8 (by omega)), LSt_r xv_I_53 rfl (by decide)⟩, frI_53⟩, ekI_53⟩
    · simp only [w32_mod] at h_23
      refine ww_iload_n hX (pc := 26) dX10_make_26 rfl ?_
      refine ww_aload_n hX (pc := 27) dX10_make_27 rfl ?_
      refine ww_getR hX (pc := 28) fX10_10 (by decide) (xs_0 hL) (xr_0_0 hL) dX10_make_28 ?_
      refine ww_getI hX (pc := 31) fX10_117 (by decide) (xs_1 hL) dX10_make_31 ?_
      refine ww_icmp_ne hX (pc := 34) (tgt := 50) dX10_make_34 (by decide) (fun h_34 => ?_) (fun h_34 => ?_)
      · simp only [w32_mod] at h_34
        refine ww_aload_n hX (pc := 50) dX10_make_50 rfl ?_
        refine ww_bipush hX (pc := 51) (x := (-3)) dX10_make_51 (by decide) ?_
        refine vI1 hX (pc := 53) sX10_89 (xs_0 hL) (c8_X10_refuse l0 hL hC hF (by omega) (by omega)) (by decide) (Nat.le_refl 0) (Nat.le_refl 0) (Nat.le_of_ble_eq_true rfl) dX10_make_53 (fun x_53 I_53 J_53 h_53 => ?_)
        obtain ⟨h_53, frI_53⟩ := h_53
        have kI_53 : Kp 0 49 Ia I_53 := Kp_tr (Kp_rf (a := 0) (b := 49)) (Kp_wd h_53.1 (by decide) (by decide))
        have kJ_53 : Kp 0 49 Ja J_53 := Kp_tr (Kp_rf (a := 0) (b := 49)) (Kp_wd h_53.2.1 (by decide) (by decide))
        have cI_53 : CX I_53 := h_53.2.2.1
        have qI_53 := XI_o cI_53.1
        have wI_53 : Fw [3, 18, 19, 20, 21, 22, 23, 24, 25, 26, 27, 28, 29, 30, 33, 37, 38, 39, 40, 41, 42, 43, 44, 45, 48] [(0, 16)] Ia I_53 := Fw_tr Fw_rf (Fw_wd h_53.2.2.2.1 (by decide) (by decide))
        have r5_I_53 : I_53 1 5 = Ia 1 5 := h_53.2.2.2.1 1 5 (by decide) (by decide) (by decide)
        have r6_I_53 : I_53 1 6 = Ia 1 6 := h_53.2.2.2.1 1 6 (by decide) (by decide) (by decide)
        have r7_I_53 : I_53 1 7 = Ia 1 7 := h_53.2.2.2.1 1 7 (by decide) (by decide) (by decide)
        have r8_I_53 : I_53 1 8 = Ia 1 8 := h_53.2.2.2.1 1 8 (by decide) (by decide) (by decide)
        have r9_I_53 : I_53 1 9 = Ia 1 9 := h_53.2.2.2.1 1 9 (by decide) (by decide) (by decide)
        have r10_I_53 : I_53 1 10 = Ia 1 10 := h_53.2.2.2.1 1 10 (by decide) (by decide) (by decide)
        have r11_I_53 : I_53 1 11 = Ia 1 11 := h_53.2.2.2.1 1 11 (by decide) (by decide) (by decide)
        have r81_I_53 : I_53 8 1 = Ia 8 1 := h_53.2.2.2.1 8 1 (by decide) (by decide) (by decide)
        have rf_I_53 : FU (I_53 1 5) = FU (Ia 1 5) := by rw [r5_I_53]
        have y3_I_53 : I_53 3 = Ia 3 := Fw_row h_53.2.2.2.1 3 (by decide) (by decide) (by decide)
        have xv_I_53 := h_53.2.2.2.2
        have srI_53 : SR I_53 := SR_of hS (Fw_row h_53.2.2.2.1 43 (by decide) (by decide) (by decide)) (Fw_row h_53.2.2.2.1 45 (by decide) (by decide) (by decide))
        have ekI_53 : EK I_53 := EK_w hEK h_53.2.2.2.1 (by decide) (by decide)
        refine rI hX (pc := 56) hT (Nat.le_refl 0) (Nat.le_refl 0) dX10_make_56 ?_
        exact ⟨⟨⟨kI_53, kJ_53, cI_53, (Fw_wd wI_53 (by decide) (by decide)), srI_53, (SRF_of hG (Fw_row h_53.2.2.2.1 43 (by decide) (by decide) (by decide)) (Fw_row h_53.2.2.2.1 44 (by decide) (by decide) (by decide)) (Fw_row h_53.2.2.2.1 45 (by decide) (by decide) (by decide))), (fun h9 => absurd (by omega) h9), (fun _ _ => ⟨by omega, y3_I_53⟩), (fun _ h8 => absurd h8 (by omega)), LSt_r xv_I_53 rfl (by decide)⟩, frI_53⟩, ekI_53⟩
      · simp only [w32_mod] at h_34
        refine ww_aload_n hX (pc := 37) dX10_make_37 rfl ?_
        refine ww_getR hX (pc := 38) fX10_71 (by decide) (xs_0 hL) (xr_0_8 hL) dX10_make_38 ?_
        refine ww_iload_n hX (pc := 41) dX10_make_41 rfl ?_
        refine ww_iload_n hX (pc := 42) dX10_make_42 rfl ?_
        refine ww_iload_n hX (pc := 43) dX10_make_43 rfl ?_
        refine vI3 hX (pc := 44) sX10_229 (xs_37 hL) (c6_X2_countCodes l0 hL (by omega) (by omega) (by omega) (by omega) (by omega) (by omega) hC.2.2 hS hG) (by decide) (Nat.le_refl 0) (Nat.le_refl 0) (Nat.le_of_ble_eq_true rfl) dX10_make_44 (fun x_44 I_44 J_44 h_44 => ?_)
        have kI_44 : Kp 0 49 Ia I_44 := Kp_tr (Kp_rf (a := 0) (b := 49)) (Kp_wd h_44.1 (by decide) (by decide))
        have kJ_44 : Kp 0 49 Ja J_44 := Kp_tr (Kp_rf (a := 0) (b := 49)) (Kp_wd h_44.2.1 (by decide) (by decide))
        have ht44 : x_44 = TBX a b c := by
          unfold TBX
          by_cases h8 : c ≤ 3
          · rw [if_pos h8]; exact h_44.2.2.2.2.2.2.2 h8
          · rw [if_neg h8]; exact h_44.2.2.2.2.2.1 (by omega)
        have hr44 := TBX_r a b c
        have cI_44 : CX I_44 := CX_cs hC h_44.1 h_44.2.2.1
        have qI_44 := XI_o cI_44.1
        have r5_I_44 : I_44 1 5 = Ia 1 5 := by rw [h_44.1 1 (by decide)]
        have r6_I_44 : I_44 1 6 = Ia 1 6 := by rw [h_44.1 1 (by decide)]
        have r8_I_44 : I_44 1 8 = Ia 1 8 := by rw [h_44.1 1 (by decide)]
        have r9_I_44 : I_44 1 9 = Ia 1 9 := by rw [h_44.1 1 (by decide)]
        have r10_I_44 : I_44 1 10 = Ia 1 10 := by rw [h_44.1 1 (by decide)]
        have r11_I_44 : I_44 1 11 = Ia 1 11 := by rw [h_44.1 1 (by decide)]
        have rf_I_44 : FU (I_44 1 5) = FU (Ia 1 5) := by rw [r5_I_44]
        have wI_44 : Fw [3, 18, 19, 20, 21, 22, 23, 24, 25, 26, 27, 28, 29, 30, 33, 37, 38, 39, 40, 41, 42, 43, 44, 45] [(0, 16)] Ia I_44 := Fw_kp Fw_rf h_44.1 (by decide)
        have r7_I_44 : I_44 1 7 = Ia 1 7 := by rw [h_44.1 1 (by decide)]
        have y3_I_44 : I_44 3 = Ia 3 := h_44.1 3 (by decide)
        have frI_44 : FRk I_44 J_44 := FRk_kp hF h_44.1 h_44.2.1 (by decide)
        have ekI_44 : EK I_44 := EK_kp hEK h_44.1 (by decide)
        refine ww_if_ne hX (pc := 47) (tgt := 57) dX10_make_47 (by decide) (fun h_47 => ?_) (fun h_47 => ?_)
        · simp only [w32_mod] at h_47
          refine ww_aload_n hX (pc := 57) dX10_make_57 rfl ?_
          refine ww_getR hX (pc := 58) fX10_71 (by decide) (xs_0 hL) (xr_0_8 hL) dX10_make_58 ?_
          refine ww_iload_n hX (pc := 61) dX10_make_61 rfl ?_
          refine ww_iload_n hX (pc := 62) dX10_make_62 rfl ?_
          refine ww_iload_n hX (pc := 63) dX10_make_63 rfl ?_
          refine ww_aload_n hX (pc := 64) dX10_make_64 rfl ?_
          refine ww_getR hX (pc := 65) fX10_10 (by decide) (xs_0 hL) (xr_0_0 hL) dX10_make_65 ?_
          refine ww_getR hX (pc := 68) fX10_137 (by decide) (xs_1 hL) (xr_1_1 hL) dX10_make_68 ?_
          refine vV4 hX (pc := 71) sX10_232 (xs_37 hL) (c6_X2_copyFirst l0 hL (by omega) (by omega) (by omega) (by omega) (by omega) (by omega) cI_44.2.2 h_44.2.2.2.1 h_44.2.2.2.2.1 cI_44.1.2.2.2.2.2.2.2.2.2.1) (by decide) (Nat.le_refl 0) (Nat.le_refl 0) (Nat.le_of_ble_eq_true rfl) dX10_make_71 (fun I_71 J_71 h_71 => ?_)
          have kI_71 : Kp 0 49 Ia I_71 := fun q hq => (h_71.1 q (by omega) (by omega)).trans (kI_44 q hq)
          have kJ_71 : Kp 0 49 Ja J_71 := Kp_tr kJ_44 (Kp_wd h_71.2.1 (by decide) (by decide))
          have cI_71 : CX I_71 := CX_code cI_44 h_71.1 h_71.2.2.1 h_71.2.2.2.1
          have wI_71 : Fw [3, 18, 19, 20, 21, 22, 23, 24, 25, 26, 27, 28, 29, 30, 33, 37, 38, 39, 40, 41, 42, 43, 44, 45] [(0, 16)] Ia I_71 := Fw_of wI_44 (fun k h1 h2 => h_71.1 k (fun e9 => h2 (by rw [e9]; decide)) (Decidable.byContradiction (fun e9 => h2 (mem_37 (by omega) (by omega) (by decide)))))
          have r5_I_71 : I_71 1 5 = I_44 1 5 ∧ I_71 1 6 = I_44 1 6 := by rw [h_71.1 1 (by decide) (by decide)]; exact ⟨rfl, rfl⟩
          refine ww_aload_n hX (pc := 74) dX10_make_74 rfl ?_
          refine vV0 hX (pc := 75) sX10_111 (xs_0 hL) (cE_X10_codeChanged l0 hL cI_71) (by decide) (Nat.le_refl 0) (Nat.le_refl 0) (Nat.le_of_ble_eq_true rfl) dX10_make_75 (fun I_75 J_75 h_75 => ?_)
          obtain ⟨h_75, ekI_75⟩ := h_75
          obtain ⟨h_75, frI_75⟩ := h_75
          have kI_75 : Kp 0 49 Ia I_75 := Kp_tr kI_71 (Kp_wd h_75.1 (by decide) (by decide))
          have kJ_75 : Kp 0 49 Ja J_75 := Kp_tr kJ_71 (Kp_wd h_75.2.1 (by decide) (by decide))
          have cI_75 : CX I_75 := h_75.2.2.1
          have qI_75 := XI_o cI_75.1
          have wI_75 : Fw [3, 18, 19, 20, 21, 22, 23, 24, 25, 26, 27, 28, 29, 30, 33, 37, 38, 39, 40, 41, 42, 43, 44, 45] [(0, 16)] Ia I_75 := Fw_tr wI_71 (Fw_wd h_75.2.2.2.1 (by decide) (by decide))
          have r5_I_75 : I_75 1 5 = I_71 1 5 := h_75.2.2.2.1 1 5 (by decide) (by decide) (by decide)
          have r6_I_75 : I_75 1 6 = I_71 1 6 := h_75.2.2.2.1 1 6 (by decide) (by decide) (by decide)
          have r7_I_75 : I_75 1 7 = I_71 1 7 := h_75.2.2.2.1 1 7 (by decide) (by decide) (by decide)
          have r8_I_75 : I_75 1 8 = I_71 1 8 := h_75.2.2.2.1 1 8 (by decide) (by decide) (by decide)
          have r9_I_75 : I_75 1 9 = I_71 1 9 := h_75.2.2.2.1 1 9 (by decide) (by decide) (by decide)
          have r10_I_75 : I_75 1 10 = I_71 1 10 := h_75.2.2.2.1 1 10 (by decide) (by decide) (by decide)
          have r11_I_75 : I_75 1 11 = I_71 1 11 := h_75.2.2.2.1 1 11 (by decide) (by decide) (by decide)
          have r81_I_75 : I_75 8 1 = I_71 8 1 := h_75.2.2.2.1 8 1 (by decide) (by decide) (by decide)
          have rf_I_75 : FU (I_75 1 5) = FU (I_71 1 5) := by rw [r5_I_75]
          have y3_I_75 : I_75 3 = I_71 3 := Fw_row h_75.2.2.2.1 3 (by decide) (by decide) (by decide)
          have srI_75 : SR I_75 := SR_of h_71.2.2.2.2.1 (Fw_row h_75.2.2.2.1 43 (by decide) (by decide) (by decide)) (Fw_row h_75.2.2.2.1 45 (by decide) (by decide) (by decide))
          refine ww_aload_n hX (pc := 78) dX10_make_78 rfl ?_
          refine ww_iconst hX (pc := 79) (x := 0) dX10_make_79 rfl ?_
          refine vI1 hX (pc := 80) sX10_114 (xs_0 hL) (c8_X10_accept l0 hL cI_75 frI_75) (by decide) (Nat.le_refl 0) (Nat.le_refl 0) (Nat.le_of_ble_eq_true rfl) dX10_make_80 (fun x_80 I_80 J_80 h_80 => ?_)
          obtain ⟨h_80, frI_80⟩ := h_80
          have kI_80 : Kp 0 49 Ia I_80 := Kp_tr kI_75 (Kp_wd h_80.1 (by decide) (by decide))
          have kJ_80 : Kp 0 49 Ja J_80 := Kp_tr kJ_75 (Kp_wd h_80.2.1 (by decide) (by decide))
          have cI_80 : CX I_80 := h_80.2.2.1
          have qI_80 := XI_o cI_80.1
          have wI_80 : Fw [3, 18, 19, 20, 21, 22, 23, 24, 25, 26, 27, 28, 29, 30, 33, 37, 38, 39, 40, 41, 42, 43, 44, 45] [(0, 16)] Ia I_80 := Fw_tr wI_75 (Fw_wd h_80.2.2.2.1 (by decide) (by decide))
          have r5_I_80 : I_80 1 5 = I_75 1 5 := h_80.2.2.2.1 1 5 (by decide) (by decide) (by decide)
          have r6_I_80 : I_80 1 6 = I_75 1 6 := h_80.2.2.2.1 1 6 (by decide) (by decide) (by decide)
          have r7_I_80 : I_80 1 7 = I_75 1 7 := h_80.2.2.2.1 1 7 (by decide) (by decide) (by decide)
          have r8_I_80 : I_80 1 8 = I_75 1 8 := h_80.2.2.2.1 1 8 (by decide) (by decide) (by decide)
          have r9_I_80 : I_80 1 9 = I_75 1 9 := h_80.2.2.2.1 1 9 (by decide) (by decide) (by decide)
          have r10_I_80 : I_80 1 10 = I_75 1 10 := h_80.2.2.2.1 1 10 (by decide) (by decide) (by decide)
          have r11_I_80 : I_80 1 11 = I_75 1 11 := h_80.2.2.2.1 1 11 (by decide) (by decide) (by decide)
          have r81_I_80 : I_80 8 1 = I_75 8 1 := h_80.2.2.2.1 8 1 (by decide) (by decide) (by decide)
          have rf_I_80 : FU (I_80 1 5) = FU (I_75 1 5) := by rw [r5_I_80]
          have y3_I_80 : I_80 3 = I_75 3 := Fw_row h_80.2.2.2.1 3 (by decide) (by decide) (by decide)
          have xv_I_80 := h_80.2.2.2.2
          have srI_80 : SR I_80 := SR_of srI_75 (Fw_row h_80.2.2.2.1 43 (by decide) (by decide) (by decide)) (Fw_row h_80.2.2.2.1 45 (by decide) (by decide) (by decide))
          have ekI_80 : EK I_80 := EK_w ekI_75 h_80.2.2.2.1 (by decide) (by decide)
          refine rI hX (pc := 83) hT (Nat.le_refl 0) (Nat.le_refl 0) dX10_make_83 ?_
          exact ⟨⟨⟨kI_80, kJ_80, cI_80, (Fw_wd wI_80 (by decide) (by decide)), srI_80, (SRF_of (SRF_of h_71.2.2.2.2.2.1 (Fw_row h_75.2.2.2.1 43 (by decide) (by decide) (by decide)) (Fw_row h_75.2.2.2.1 44 (by decide) (by decide) (by decide)) (Fw_row h_75.2.2.2.1 45 (by decide) (by decide) (by decide))) (Fw_row h_80.2.2.2.1 43 (by decide) (by decide) (by decide)) (Fw_row h_80.2.2.2.1 44 (by decide) (by decide) (by decide)) (Fw_row h_80.2.2.2.1 45 (by decide) (by decide) (by decide))), (fun h9 => absurd (by omega) h9), (fun _ h8 => absurd (by omega) h8), (fun _ _ => ⟨by omega, (fun j => by
                have hb6 := TBt_r6 b.toNat (2 ^ a.toNat) c.toNat
                have hpos : c ≤ 3 ∧ 0 < TBt b.toNat (2 ^ a.toNat) c.toNat := by
                  by_cases h3 : c ≤ 3
                  · have h4 := h_44.2.2.2.2.2.2.2 h3
                    omega
                  · have h4 := h_44.2.2.2.2.2.1 (by omega)
                    omega
                rw [y3_I_80, y3_I_75, h_71.2.2.2.2.2.2.1 hpos j, y3_I_44])⟩), LSt_a xv_I_80 (Fw_row wI_80 48 (by decide) (by decide) (by decide)) (by decide)⟩, frI_80⟩, ekI_80⟩
        · simp only [w32_mod] at h_47
          refine ww_aload_n hX (pc := 50) dX10_make_50 rfl ?_
          refine ww_bipush hX (pc := 51) (x := (-3)) dX10_make_51 (by decide) ?_
          refine vI1 hX (pc := 53) sX10_89 (xs_0 hL) (c8_X10_refuse l0 hL cI_44 frI_44 (by omega) (by omega)) (by decide) (Nat.le_refl 0) (Nat.le_refl 0) (Nat.le_of_ble_eq_true rfl) dX10_make_53 (fun x_53 I_53 J_53 h_53 => ?_)
          obtain ⟨h_53, frI_53⟩ := h_53
          have kI_53 : Kp 0 49 Ia I_53 := Kp_tr kI_44 (Kp_wd h_53.1 (by decide) (by decide))
          have kJ_53 : Kp 0 49 Ja J_53 := Kp_tr kJ_44 (Kp_wd h_53.2.1 (by decide) (by decide))
          have cI_53 : CX I_53 := h_53.2.2.1
          have qI_53 := XI_o cI_53.1
          have wI_53 : Fw [3, 18, 19, 20, 21, 22, 23, 24, 25, 26, 27, 28, 29, 30, 33, 37, 38, 39, 40, 41, 42, 43, 44, 45, 48] [(0, 16)] Ia I_53 := Fw_tr (Fw_wd wI_44 (by decide) (by decide)) (Fw_wd h_53.2.2.2.1 (by decide) (by decide))
          have r5_I_53 : I_53 1 5 = I_44 1 5 := h_53.2.2.2.1 1 5 (by decide) (by decide) (by decide)
          have r6_I_53 : I_53 1 6 = I_44 1 6 := h_53.2.2.2.1 1 6 (by decide) (by decide) (by decide)
          have r7_I_53 : I_53 1 7 = I_44 1 7 := h_53.2.2.2.1 1 7 (by decide) (by decide) (by decide)
          have r8_I_53 : I_53 1 8 = I_44 1 8 := h_53.2.2.2.1 1 8 (by decide) (by decide) (by decide)
          have r9_I_53 : I_53 1 9 = I_44 1 9 := h_53.2.2.2.1 1 9 (by decide) (by decide) (by decide)
          have r10_I_53 : I_53 1 10 = I_44 1 10 := h_53.2.2.2.1 1 10 (by decide) (by decide) (by decide)
          have r11_I_53 : I_53 1 11 = I_44 1 11 := h_53.2.2.2.1 1 11 (by decide) (by decide) (by decide)
          have r81_I_53 : I_53 8 1 = I_44 8 1 := h_53.2.2.2.1 8 1 (by decide) (by decide) (by decide)
          have rf_I_53 : FU (I_53 1 5) = FU (I_44 1 5) := by rw [r5_I_53]
          have y3_I_53 : I_53 3 = I_44 3 := Fw_row h_53.2.2.2.1 3 (by decide) (by decide) (by decide)
          have xv_I_53 := h_53.2.2.2.2
          have srI_53 : SR I_53 := SR_of h_44.2.2.2.1 (Fw_row h_53.2.2.2.1 43 (by decide) (by decide) (by decide)) (Fw_row h_53.2.2.2.1 45 (by decide) (by decide) (by decide))
          have ekI_53 : EK I_53 := EK_w ekI_44 h_53.2.2.2.1 (by decide) (by decide)
          refine rI hX (pc := 56) hT (Nat.le_refl 0) (Nat.le_refl 0) dX10_make_56 ?_
          exact ⟨⟨⟨kI_53, kJ_53, cI_53, (Fw_wd wI_53 (by decide) (by decide)), srI_53, (SRF_of h_44.2.2.2.2.1 (Fw_row h_53.2.2.2.1 43 (by decide) (by decide) (by decide)) (Fw_row h_53.2.2.2.1 44 (by decide) (by decide) (by decide)) (Fw_row h_53.2.2.2.1 45 (by decide) (by decide) (by decide))), (fun h9 => absurd (by omega) h9), (fun _ _ => ⟨by omega, (y3_I_53.trans y3_I_44)⟩), (fun _ h8 => absurd h8 (by omega)), LSt_r xv_I_53 (Fw_row wI_44 48 (by decide) (by decide) (by decide)) (by decide)⟩, frI_53⟩, ekI_53⟩
  · simp only [w32_mod] at h_6
    refine ww_aload_n hX (pc := 9) dX10_make_9 rfl ?_
    refine ww_iconst hX (pc := 10) (x := (-1)) dX10_make_10 rfl ?_
    refine vI1 hX (pc := 11) sX10_89 (xs_0 hL) (c8_X10_refuse l0 hL hC hF (by omega) (by omega)) (by decide) (Nat.le_refl 0) (Nat.le_refl 0) (Nat.le_of_ble_eq_true rfl) dX10_make_11 (fun x_11 I_11 J_11 h_11 => ?_)
    obtain ⟨h_11, frI_11⟩ := h_11
    have kI_11 : Kp 0 49 Ia I_11 := Kp_tr (Kp_rf (a := 0) (b := 49)) (Kp_wd h_11.1 (by decide) (by decide))
    have kJ_11 : Kp 0 49 Ja J_11 := Kp_tr (Kp_rf (a := 0) (b := 49)) (Kp_wd h_11.2.1 (by decide) (by decide))
    have cI_11 : CX I_11 := h_11.2.2.1
    have qI_11 := XI_o cI_11.1
    have wI_11 : Fw [3, 18, 19, 20, 21, 22, 23, 24, 25, 26, 27, 28, 29, 30, 33, 37, 38, 39, 40, 41, 42, 43, 44, 45, 48] [(0, 16)] Ia I_11 := Fw_tr Fw_rf (Fw_wd h_11.2.2.2.1 (by decide) (by decide))
    have r5_I_11 : I_11 1 5 = Ia 1 5 := h_11.2.2.2.1 1 5 (by decide) (by decide) (by decide)
    have r6_I_11 : I_11 1 6 = Ia 1 6 := h_11.2.2.2.1 1 6 (by decide) (by decide) (by decide)
    have r7_I_11 : I_11 1 7 = Ia 1 7 := h_11.2.2.2.1 1 7 (by decide) (by decide) (by decide)
    have r8_I_11 : I_11 1 8 = Ia 1 8 := h_11.2.2.2.1 1 8 (by decide) (by decide) (by decide)
    have r9_I_11 : I_11 1 9 = Ia 1 9 := h_11.2.2.2.1 1 9 (by decide) (by decide) (by decide)
    have r10_I_11 : I_11 1 10 = Ia 1 10 := h_11.2.2.2.1 1 10 (by decide) (by decide) (by decide)
    have r11_I_11 : I_11 1 11 = Ia 1 11 := h_11.2.2.2.1 1 11 (by decide) (by decide) (by decide)
    have r81_I_11 : I_11 8 1 = Ia 8 1 := h_11.2.2.2.1 8 1 (by decide) (by decide) (by decide)
    have rf_I_11 : FU (I_11 1 5) = FU (Ia 1 5) := by rw [r5_I_11]
    have y3_I_11 : I_11 3 = Ia 3 := Fw_row h_11.2.2.2.1 3 (by decide) (by decide) (by decide)
    have xv_I_11 := h_11.2.2.2.2
    have srI_11 : SR I_11 := SR_of hS (Fw_row h_11.2.2.2.1 43 (by decide) (by decide) (by decide)) (Fw_row h_11.2.2.2.1 45 (by decide) (by decide) (by decide))
    have ekI_11 : EK I_11 := EK_w hEK h_11.2.2.2.1 (by decide) (by decide)
    refine rI hX (pc := 14) hT (Nat.le_refl 0) (Nat.le_refl 0) dX10_make_14 ?_
    exact ⟨⟨⟨kI_11, kJ_11, cI_11, (Fw_wd wI_11 (by decide) (by decide)), srI_11, (SRF_of hG (Fw_row h_11.2.2.2.1 43 (by decide) (by decide) (by decide)) (Fw_row h_11.2.2.2.1 44 (by decide) (by decide) (by decide)) (Fw_row h_11.2.2.2.1 45 (by decide) (by decide) (by decide))), (fun _ => ⟨by omega, y3_I_11⟩), (fun h9 => absurd h9 (by omega)), (fun h9 => absurd h9 (by omega)), LSt_r xv_I_11 rfl (by decide)⟩, frI_11⟩, ekI_11⟩
set_option maxHeartbeats 4000000 in
set_option maxRecDepth 20000 in
theorem cE_X10_back (l0 : Launch) {Ia Ja : aI1} {Ra : aR1} {Sa : aS1} (hCI : CI Ia Ra Sa) (hF : FRk Ia Ja) (hEK : EK Ia) {a : Int} (ha0 : -2147483648 ≤ a) (ha1 : a < 2147483648)  : CT l0 12 0 0 mX10_back [kR (some 0), kI a] Ia Ja Ra Sa (dI (fun x I' J' R' S' => ((CI I' R' S' ∧ (∀ k, 49 ≤ k → k < 73 → I' k = Ia k ∧ J' k = Ja k ∧ R' k = Ra k) ∧ Fw [1, 2, 3, 5, 6, 18, 19, 20, 21, 22, 23, 24, 25, 26, 27, 28, 29, 30, 31, 32, 33, 34, 35, 36, 48] [(0, 16)] Ia I' ∧ (¬ (0 ≤ a ∧ a < 2) → x = -1 ∧ RFc Ia I' (-1)) ∧ (¬ (0 ≤ a ∧ a < 2) → R' 7 = Ra 7 ∧ R' 4 = Ra 4 ∧ (∀ k, 73 ≤ k → I' k = Ia k ∧ R' k = Ra k)) ∧ ((0 ≤ a ∧ a < 2) → Ra 7 a.toNat = none → x = -2 ∧ RFc Ia I' (-2) ∧ R' 7 = Ra 7 ∧ R' 4 = Ra 4 ∧ (∀ k, 73 ≤ k → I' k = Ia k ∧ R' k = Ra k)) ∧ ((0 ≤ a ∧ a < 2) → ∀ c, Ra 7 a.toNat = some c → x = 0 ∧ Fw [1, 2, 3, 5, 6, 18, 19, 20, 21, 22, 23, 24, 25, 26, 27, 28, 29, 30, 31, 32, 33, 34, 35, 36] [(0, 16)] Ia I' ∧ I' 0 16 = 0 ∧ BkC Ia I' Ra R' c ∧ R' 7 = Ra 7 ∧ (∀ k, 73 ≤ k → I' k = Ia k ∧ R' k = Ra k)) ∧ Sa = S') ∧ FRk I' J') ∧ EK I')) := by
  refine ct_in pn_X10 (Nat.le_of_ble_eq_true rfl) (fun X hX hT hIn => ?_)
  have hX : aK l0 X cX10_back 3 RX10 (some .int) 12 0 0 := hX
  change WW X 0 [some (kR (some 0)), some (kI a), none] [] Ia Ja Ra Sa 0 0
  have hL := hCI.1
  have hC := hCI.2.1
  have hI := hC.1
  have hq := XI_o hI
  refine ww_iload_n hX (pc := 0) dX10_back_0 rfl ?_
  refine ww_if_lt hX (pc := 1) (tgt := 9) dX10_back_1 (by decide) (fun h_1 => ?_) (fun h_1 => ?_)
  · simp only [w32_mod] at h_1
    refine ww_aload_n hX (pc := 9) dX10_back_9 rfl ?_
    refine ww_iconst hX (pc := 10) (x := (-1)) dX10_back_10 rfl ?_
    refine vI1 hX (pc := 11) sX10_89 (xs_0 hL) (c8_X10_refuse l0 hL hC hF (by omega) (by omega)) (by decide) (by omega) (by omega) (Nat.le_of_ble_eq_true rfl) dX10_back_11 (fun x_11 I_11 J_11 h_11 => ?_)
    obtain ⟨h_11, fr_11⟩ := h_11
    have kI_11 : Kp 0 49 Ia I_11 := Kp_tr (Kp_rf (a := 0) (b := 49)) (Kp_wd h_11.1 (by decide) (by decide))
    have kJ_11 : Kp 0 49 Ja J_11 := Kp_tr (Kp_rf (a := 0) (b := 49)) (Kp_wd h_11.2.1 (by decide) (by decide))
    have cI_11 : CX I_11 := h_11.2.2.1
    have qI_11 := XI_o cI_11.1
    have wI_11 : Fw [1, 2, 3, 5, 6, 18, 19, 20, 21, 22, 23, 24, 25, 26, 27, 28, 29, 30, 31, 32, 33, 34, 35, 36, 48] [(0, 16)] Ia I_11 := Fw_tr Fw_rf (Fw_wd h_11.2.2.2.1 (by decide) (by decide))
    have r5_I_11 : I_11 1 5 = Ia 1 5 := h_11.2.2.2.1 1 5 (by decide) (by decide) (by decide)
    have r6_I_11 : I_11 1 6 = Ia 1 6 := h_11.2.2.2.1 1 6 (by decide) (by decide) (by decide)
    have r7_I_11 : I_11 1 7 = Ia 1 7 := h_11.2.2.2.1 1 7 (by decide) (by decide) (by decide)
    have r8_I_11 : I_11 1 8 = Ia 1 8 := h_11.2.2.2.1 1 8 (by decide) (by decide) (by decide)
    have r9_I_11 : I_11 1 9 = Ia 1 9 := h_11.2.2.2.1 1 9 (by decide) (by decide) (by decide)
    have r10_I_11 : I_11 1 10 = Ia 1 10 := h_11.2.2.2.1 1 10 (by decide) (by decide) (by decide)
    have r11_I_11 : I_11 1 11 = Ia 1 11 := h_11.2.2.2.1 1 11 (by decide) (by decide) (by decide)
    have r81_I_11 : I_11 8 1 = Ia 8 1 := h_11.2.2.2.1 8 1 (by decide) (by decide) (by decide)
    have rf_I_11 : FU (I_11 1 5) = FU (Ia 1 5) := by rw [r5_I_11]
    have xv_I_11 := h_11.2.2.2.2
    exact ww_iret hX (pc := 14) hT (by omega) (by omega) dX10_back_14 ⟨_, rfl, ⟨⟨CI_low hCI kI_11 cI_11, fun k h1 h2 => ⟨kI_11 k (by omega), kJ_11 k (by omega), rfl⟩, (Fw_wd wI_11 (by decide) (by decide)), (fun _ => ⟨xv_I_11.1, h_11.2.2.2.1, xv_I_11.2⟩), (fun _ => ⟨rfl, rfl, fun k hk => ⟨kI_11 k (by omega), rfl⟩⟩), (fun h9 => absurd h9 (by omega)), (fun h9 => absurd h9 (by omega)), rfl⟩, fr_11⟩, EK_w hEK h_11.2.2.2.1 (by decide) (by decide)⟩
  · simp only [w32_mod] at h_1
    refine ww_iload_n hX (pc := 4) dX10_back_4 rfl ?_
    refine ww_iconst hX (pc := 5) (x := 2) dX10_back_5 rfl ?_
    refine ww_icmp_lt hX (pc := 6) (tgt := 15) dX10_back_6 (by decide) (fun h_6 => ?_) (fun h_6 => ?_)
    · simp only [w32_mod] at h_6
      refine ww_aload_n hX (pc := 15) dX10_back_15 rfl ?_
      refine ww_getR hX (pc := 16) fX10_16 (by decide) (xs_0 hL) (xr_0_1 hL) dX10_back_16 ?_
      refine ww_iload_n hX (pc := 19) dX10_back_19 rfl ?_
      refine ww_aald hX (pc := 20) (Or.inr rfl) (xs_7 hL) (by decide) (by omega) (by omega) dX10_back_20 ?_
      cases hlw : Ra 7 a.toNat with
      | none =>
        refine ww_astore_nN hX (pc := 21) (lv' := [some (kR (some 0)), some (kI a), some (kR none)]) dX10_back_21 (by decide) rfl rfl ?_
        refine ww_aload_nN hX (pc := 22) dX10_back_22 rfl ?_
        refine ww_ifnonnullN hX (pc := 23) dX10_back_23 ?_
        refine ww_aload_n hX (pc := 26) dX10_back_26 rfl ?_
        refine ww_bipush hX (pc := 27) (x := (-2)) dX10_back_27 (by decide) ?_
        refine vI1 hX (pc := 29) sX10_89 (xs_0 hL) (c8_X10_refuse l0 hL hC hF (by omega) (by omega)) (by decide) (by omega) (by omega) (Nat.le_of_ble_eq_true rfl) dX10_back_29 (fun x_29 I_29 J_29 h_29 => ?_)
        obtain ⟨h_29, fr_29⟩ := h_29
        have kI_29 : Kp 0 49 Ia I_29 := Kp_tr (Kp_rf (a := 0) (b := 49)) (Kp_wd h_29.1 (by decide) (by decide))
        have kJ_29 : Kp 0 49 Ja J_29 := Kp_tr (Kp_rf (a := 0) (b := 49)) (Kp_wd h_29.2.1 (by decide) (by decide))
        have cI_29 : CX I_29 := h_29.2.2.1
        have qI_29 := XI_o cI_29.1
        have wI_29 : Fw [1, 2, 3, 5, 6, 18, 19, 20, 21, 22, 23, 24, 25, 26, 27, 28, 29, 30, 31, 32, 33, 34, 35, 36, 48] [(0, 16)] Ia I_29 := Fw_tr Fw_rf (Fw_wd h_29.2.2.2.1 (by decide) (by decide))
        have r5_I_29 : I_29 1 5 = Ia 1 5 := h_29.2.2.2.1 1 5 (by decide) (by decide) (by decide)
        have r6_I_29 : I_29 1 6 = Ia 1 6 := h_29.2.2.2.1 1 6 (by decide) (by decide) (by decide)
        have r7_I_29 : I_29 1 7 = Ia 1 7 := h_29.2.2.2.1 1 7 (by decide) (by decide) (by decide)
        have r8_I_29 : I_29 1 8 = Ia 1 8 := h_29.2.2.2.1 1 8 (by decide) (by decide) (by decide)
        have r9_I_29 : I_29 1 9 = Ia 1 9 := h_29.2.2.2.1 1 9 (by decide) (by decide) (by decide)
        have r10_I_29 : I_29 1 10 = Ia 1 10 := h_29.2.2.2.1 1 10 (by decide) (by decide) (by decide)
        have r11_I_29 : I_29 1 11 = Ia 1 11 := h_29.2.2.2.1 1 11 (by decide) (by decide) (by decide)
        have r81_I_29 : I_29 8 1 = Ia 8 1 := h_29.2.2.2.1 8 1 (by decide) (by decide) (by decide)
        have rf_I_29 : FU (I_29 1 5) = FU (Ia 1 5) := by rw [r5_I_29]
        have xv_I_29 := h_29.2.2.2.2
        exact ww_iret hX (pc := 32) hT (by omega) (by omega) dX10_back_32 ⟨_, rfl, ⟨⟨CI_low hCI kI_29 cI_29, fun k h1 h2 => ⟨kI_29 k (by omega), kJ_29 k (by omega), rfl⟩, (Fw_wd wI_29 (by decide) (by decide)), (fun h9 => absurd (by omega) h9), (fun h9 => absurd (by omega) h9), (fun _ _ => ⟨xv_I_29.1, ⟨h_29.2.2.2.1, xv_I_29.2⟩, rfl, rfl, fun k hk => ⟨kI_29 k (by omega), rfl⟩⟩), (fun _ c9 hc9 => (by rw [hlw] at hc9; cases hc9)), rfl⟩, fr_29⟩, EK_w hEK h_29.2.2.2.1 (by decide) (by decide)⟩
      | some c =>
        obtain ⟨hc73, hcs, hcr, hcl⟩ := hCI.2.2.2 a.toNat (by omega) c hlw
        refine ww_astore_n hX (pc := 21) (lv' := [some (kR (some 0)), some (kI a), some (kR (some c))]) dX10_back_21 (by decide) rfl rfl ?_
        refine ww_aload_n hX (pc := 22) dX10_back_22 rfl ?_
        refine ww_ifnonnullS hX (pc := 23) (tgt := 33) dX10_back_23 (by decide) ?_
        refine ww_aload_n hX (pc := 33) dX10_back_33 rfl ?_
        refine ww_getR hX (pc := 34) fX10_10 (by decide) (xs_0 hL) (xr_0_0 hL) dX10_back_34 ?_
        refine ww_aload_n hX (pc := 37) dX10_back_37 rfl ?_
        refine ww_callV hX (pc := 38) (av := [kR (some c)]) sX10_301 (xs_1 hL) (c_X1_copyFrom l0 (o := 1) (q := c) (CoSh_1 hL) hcs (by omega) (fun i hi w hw => ⟨0, (hcl i hi w hw).2.1⟩)) rfl (by decide) (by omega) (by omega) (Nat.le_of_ble_eq_true rfl) dX10_back_38 (fun r_38 I_38 J_38 R_38 S_38 h_38 => ?_)
        obtain ⟨rfl, rfl, e38, eR38, rfl, he38⟩ := h_38
        change WW X 41 [some (kR (some 0)), some (kI a), some (kR (some c))] [] I_38 Ja R_38 Sa _ _
        have hL38 : LY R_38 Sa := LY_ext hL (fun k h1 h4 h7 => eR38 k h4) SX_rf
        have kI_38 : Kp 0 49 Ia I_38 := fun k hk => e38 k (by omega) (by omega) (by omega) (by omega) (by omega)
        have cI_38 : CX I_38 := CX_copy hC hcr e38 he38
        have CI38 : CI I_38 R_38 Sa := ⟨hL38, cI_38, LawsOK_hi hcl (fun i hi => he38.2.2.1 i hi) (fun k h1 _ => kI_38 k (by omega)) (fun k h1 _ => eR38 k (by omega)) SX_rf, fun i hi c' hc' => CoastOK_hi (hCI.2.2.2 i hi c' (by rw [← eR38 7 (by decide)]; exact hc')) (fun k h1 _ => kI_38 k (by omega)) (fun k h1 _ => eR38 k (by omega)) SX_rf⟩
        have wI_38 : Fw [1, 2, 3, 5, 6, 18, 19, 20, 21, 22, 23, 24, 25, 26, 27, 28, 29, 30, 31, 32, 33, 34, 35, 36] [(0, 16)] Ia I_38 := Fw_of Fw_rf (fun k h1 h2 => e38 k (fun e9 => h2 (by rw [e9]; decide)) (fun e9 => h2 (by rw [e9]; decide)) (fun e9 => h2 (by rw [e9]; decide)) (fun e9 => h2 (by rw [e9]; decide)) (fun e9 => h2 (by rw [e9]; decide)))
        refine ww_aload_n hX (pc := 41) dX10_back_41 rfl ?_
        refine vV0 hX (pc := 42) sX10_111 (xs_0 hL38) (cE_X10_codeChanged l0 hL38 cI_38) (by decide) (by omega) (by omega) (Nat.le_of_ble_eq_true rfl) dX10_back_42 (fun I_42 J_42 h_42 => ?_)
        obtain ⟨⟨h_42, fr_42⟩, ek_42⟩ := h_42
        have kI_42 : Kp 0 49 Ia I_42 := Kp_tr kI_38 (Kp_wd h_42.1 (by decide) (by decide))
        have kJ_42 : Kp 0 49 Ja J_42 := Kp_tr (Kp_rf (a := 0) (b := 49)) (Kp_wd h_42.2.1 (by decide) (by decide))
        have cI_42 : CX I_42 := h_42.2.2.1
        have qI_42 := XI_o cI_42.1
        have wI_42 : Fw [1, 2, 3, 5, 6, 18, 19, 20, 21, 22, 23, 24, 25, 26, 27, 28, 29, 30, 31, 32, 33, 34, 35, 36] [(0, 16)] Ia I_42 := Fw_tr wI_38 (Fw_wd h_42.2.2.2.1 (by decide) (by decide))
        have r5_I_42 : I_42 1 5 = I_38 1 5 := h_42.2.2.2.1 1 5 (by decide) (by decide) (by decide)
        have r6_I_42 : I_42 1 6 = I_38 1 6 := h_42.2.2.2.1 1 6 (by decide) (by decide) (by decide)
        have r7_I_42 : I_42 1 7 = I_38 1 7 := h_42.2.2.2.1 1 7 (by decide) (by decide) (by decide)
        have r8_I_42 : I_42 1 8 = I_38 1 8 := h_42.2.2.2.1 1 8 (by decide) (by decide) (by decide)
        have r9_I_42 : I_42 1 9 = I_38 1 9 := h_42.2.2.2.1 1 9 (by decide) (by decide) (by decide)
        have r10_I_42 : I_42 1 10 = I_38 1 10 := h_42.2.2.2.1 1 10 (by decide) (by decide) (by decide)
        have r11_I_42 : I_42 1 11 = I_38 1 11 := h_42.2.2.2.1 1 11 (by decide) (by decide) (by decide)
        have r81_I_42 : I_42 8 1 = I_38 8 1 := h_42.2.2.2.1 8 1 (by decide) (by decide) (by decide)
        have rf_I_42 : FU (I_42 1 5) = FU (I_38 1 5) := by rw [r5_I_42]
        refine ww_aload_n hX (pc := 45) dX10_back_45 rfl ?_
        refine ww_iconst hX (pc := 46) (x := 0) dX10_back_46 rfl ?_
        refine vI1 hX (pc := 47) sX10_114 (xs_0 hL38) (c8_X10_accept l0 hL38 cI_42 fr_42) (by decide) (by omega) (by omega) (Nat.le_of_ble_eq_true rfl) dX10_back_47 (fun x_47 I_47 J_47 h_47 => ?_)
        obtain ⟨h_47, fr_47⟩ := h_47
        have kI_47 : Kp 0 49 Ia I_47 := Kp_tr kI_42 (Kp_wd h_47.1 (by decide) (by decide))
        have kJ_47 : Kp 0 49 Ja J_47 := Kp_tr kJ_42 (Kp_wd h_47.2.1 (by decide) (by decide))
        have cI_47 : CX I_47 := h_47.2.2.1
        have qI_47 := XI_o cI_47.1
        have wI_47 : Fw [1, 2, 3, 5, 6, 18, 19, 20, 21, 22, 23, 24, 25, 26, 27, 28, 29, 30, 31, 32, 33, 34, 35, 36] [(0, 16)] Ia I_47 := Fw_tr wI_42 (Fw_wd h_47.2.2.2.1 (by decide) (by decide))
        have r5_I_47 : I_47 1 5 = I_42 1 5 := h_47.2.2.2.1 1 5 (by decide) (by decide) (by decide)
        have r6_I_47 : I_47 1 6 = I_42 1 6 := h_47.2.2.2.1 1 6 (by decide) (by decide) (by decide)
        have r7_I_47 : I_47 1 7 = I_42 1 7 := h_47.2.2.2.1 1 7 (by decide) (by decide) (by decide)
        have r8_I_47 : I_47 1 8 = I_42 1 8 := h_47.2.2.2.1 1 8 (by decide) (by decide) (by decide)
        have r9_I_47 : I_47 1 9 = I_42 1 9 := h_47.2.2.2.1 1 9 (by decide) (by decide) (by decide)
        have r10_I_47 : I_47 1 10 = I_42 1 10 := h_47.2.2.2.1 1 10 (by decide) (by decide) (by decide)
        have r11_I_47 : I_47 1 11 = I_42 1 11 := h_47.2.2.2.1 1 11 (by decide) (by decide) (by decide)
        have r81_I_47 : I_47 8 1 = I_42 8 1 := h_47.2.2.2.1 8 1 (by decide) (by decide) (by decide)
        have rf_I_47 : FU (I_47 1 5) = FU (I_42 1 5) := by rw [r5_I_47]
        have xv_I_47 := h_47.2.2.2.2
        exact ww_iret hX (pc := 50) hT (by omega) (by omega) dX10_back_50 ⟨_, rfl, ⟨⟨CI_low CI38 (fun k hk => (kI_47 k hk).trans (kI_38 k hk).symm) cI_47, fun k h1 h2 => ⟨kI_47 k (by omega), kJ_47 k (by omega), (eR38 k (by omega))⟩, (Fw_wd wI_47 (by decide) (by decide)), (fun h9 => absurd (by omega) h9), (fun h9 => absurd (by omega) h9), (fun _ h9 => (by rw [hlw] at h9; cases h9)), (fun _ c9 hc9 => (by
      rw [hlw] at hc9
      cases hc9
      have y1 := (Fw_row h_47.2.2.2.1 1 (by decide) (by decide) (by decide)).trans (Fw_row h_42.2.2.2.1 1 (by decide) (by decide) (by decide))
      have y2 := (Fw_row h_47.2.2.2.1 2 (by decide) (by decide) (by decide)).trans (Fw_row h_42.2.2.2.1 2 (by decide) (by decide) (by decide))
      have y3 := (Fw_row h_47.2.2.2.1 3 (by decide) (by decide) (by decide)).trans (Fw_row h_42.2.2.2.1 3 (by decide) (by decide) (by decide))
      have y5 := (Fw_row h_47.2.2.2.1 5 (by decide) (by decide) (by decide)).trans (Fw_row h_42.2.2.2.1 5 (by decide) (by decide) (by decide))
      have y6 := (Fw_row h_47.2.2.2.1 6 (by decide) (by decide) (by decide)).trans (Fw_row h_42.2.2.2.1 6 (by decide) (by decide) (by decide))
      exact ⟨xv_I_47.1, wI_47, xv_I_47.2, ⟨by rw [y1]; exact he38.2.2.2.2.2, by rw [y2]; exact he38.1, by rw [y3]; exact he38.2.1, by rw [y5]; exact he38.2.2.2.1, by rw [y6]; exact he38.2.2.2.2.1, he38.2.2.1⟩, eR38 7 (by decide), fun k hk => ⟨kI_47 k (by omega), eR38 k (by omega)⟩⟩)), rfl⟩, fr_47⟩, EK_w ek_42 h_47.2.2.2.1 (by decide) (by decide)⟩
    · simp only [w32_mod] at h_6
      refine ww_aload_n hX (pc := 9) dX10_back_9 rfl ?_
      refine ww_iconst hX (pc := 10) (x := (-1)) dX10_back_10 rfl ?_
      refine vI1 hX (pc := 11) sX10_89 (xs_0 hL) (c8_X10_refuse l0 hL hC hF (by omega) (by omega)) (by decide) (by omega) (by omega) (Nat.le_of_ble_eq_true rfl) dX10_back_11 (fun x_11 I_11 J_11 h_11 => ?_)
      obtain ⟨h_11, fr_11⟩ := h_11
      have kI_11 : Kp 0 49 Ia I_11 := Kp_tr (Kp_rf (a := 0) (b := 49)) (Kp_wd h_11.1 (by decide) (by decide))
      have kJ_11 : Kp 0 49 Ja J_11 := Kp_tr (Kp_rf (a := 0) (b := 49)) (Kp_wd h_11.2.1 (by decide) (by decide))
      have cI_11 : CX I_11 := h_11.2.2.1
      have qI_11 := XI_o cI_11.1
      have wI_11 : Fw [1, 2, 3, 5, 6, 18, 19, 20, 21, 22, 23, 24, 25, 26, 27, 28, 29, 30, 31, 32, 33, 34, 35, 36, 48] [(0, 16)] Ia I_11 := Fw_tr Fw_rf (Fw_wd h_11.2.2.2.1 (by decide) (by decide))
      have r5_I_11 : I_11 1 5 = Ia 1 5 := h_11.2.2.2.1 1 5 (by decide) (by decide) (by decide)
      have r6_I_11 : I_11 1 6 = Ia 1 6 := h_11.2.2.2.1 1 6 (by decide) (by decide) (by decide)
      have r7_I_11 : I_11 1 7 = Ia 1 7 := h_11.2.2.2.1 1 7 (by decide) (by decide) (by decide)
      have r8_I_11 : I_11 1 8 = Ia 1 8 := h_11.2.2.2.1 1 8 (by decide) (by decide) (by decide)
      have r9_I_11 : I_11 1 9 = Ia 1 9 := h_11.2.2.2.1 1 9 (by decide) (by decide) (by decide)
      have r10_I_11 : I_11 1 10 = Ia 1 10 := h_11.2.2.2.1 1 10 (by decide) (by decide) (by decide)
      have r11_I_11 : I_11 1 11 = Ia 1 11 := h_11.2.2.2.1 1 11 (by decide) (by decide) (by decide)
      have r81_I_11 : I_11 8 1 = Ia 8 1 := h_11.2.2.2.1 8 1 (by decide) (by decide) (by decide)
      have rf_I_11 : FU (I_11 1 5) = FU (Ia 1 5) := by rw [r5_I_11]
      have xv_I_11 := h_11.2.2.2.2
      exact ww_iret hX (pc := 14) hT (by omega) (by omega) dX10_back_14 ⟨_, rfl, ⟨⟨CI_low hCI kI_11 cI_11, fun k h1 h2 => ⟨kI_11 k (by omega), kJ_11 k (by omega), rfl⟩, (Fw_wd wI_11 (by decide) (by decide)), (fun _ => ⟨xv_I_11.1, h_11.2.2.2.1, xv_I_11.2⟩), (fun _ => ⟨rfl, rfl, fun k hk => ⟨kI_11 k (by omega), rfl⟩⟩), (fun h9 => absurd h9 (by omega)), (fun h9 => absurd h9 (by omega)), rfl⟩, fr_11⟩, EK_w hEK h_11.2.2.2.1 (by decide) (by decide)⟩
