theorem RX_rg {I : aI1} (h : RX I) (j : Int) (h1 : 317 ≤ j) (h2 : j < 2717) : 0 ≤ I 51 j.toNat ∧ I 51 j.toNat ≤ 400 := h.1.2.2.2.2.2.2.1 j.toNat (by omega) (by omega)
theorem RX_lg {I : aI1} (h : RX I) (t : Nat) (ht : (t : Int) < I 51 310) : (0 ≤ I 51 (311 + t) ∧ I 51 (311 + t) ≤ 400) ∧ LawG (cvw (I 51) t) (I 51 (311 + t)).toNat := h.1.2.2.2.2.2.2.2 t ht
/-- the evaluator's state: law t, at place a -/
def EV (I : aI1) (t : Nat) (c : Nat → Int) (a : Nat) : Prop := ((t : Int) < I 51 310 ∧ I 51 310 ≤ 6) ∧ (0 ≤ I 51 (311 + t) ∧ I 51 (311 + t) ≤ 400) ∧ I 49 20 = 400 * t + I 51 (311 + t) ∧ I 49 19 = 400 * t + a ∧ a ≤ 402 ∧ cvw (I 51) t = c
theorem EV_o {I : aI1} {t : Nat} {c : Nat → Int} {a : Nat} (h : EV I t c a) : ((t : Int) < I 51 310 ∧ I 51 310 ≤ 6) ∧ (0 ≤ I 51 (311 + t) ∧ I 51 (311 + t) ≤ 400) ∧ I 49 20 = 400 * t + I 51 (311 + t) ∧ I 49 19 = 400 * t + a ∧ a ≤ 402 ∧ (0 ≤ I 49 20 ∧ I 49 20 ≤ 2400) ∧ (0 ≤ I 49 19 ∧ I 49 19 ≤ 2402) := by
  obtain ⟨h1, h2, h3, h4, h5, -⟩ := h
  exact ⟨h1, h2, h3, h4, h5, by omega, by omega⟩
theorem EV_c {I : aI1} {t : Nat} {c : Nat → Int} {a : Nat} (h : EV I t c a) {x : Int} (hx : (x = I 51 (317 + I 49 19).toNat ∧ I 49 19 < I 49 20) ∨ (x = 0 ∧ ¬ I 49 19 < I 49 20)) : x = c a := by
  have h1 := EV_o h
  rw [← h.2.2.2.2.2]
  unfold cvw
  rcases hx with ⟨e, g⟩ | ⟨e, g⟩
  · rw [if_pos (by omega), e]
    exact congrArg _ (by omega)
  · rw [if_neg (by omega), e]
theorem EV_z {I : aI1} {t : Nat} {c : Nat → Int} {a i : Nat} (h : EV I t c a) (hz : ¬ c i = 0) : (i : Int) < I 51 (311 + t) := by
  have h1 := h.2.2.2.2.2
  rw [← h1] at hz
  unfold cvw at hz
  by_cases g : (i : Int) < I 51 (311 + t)
  · exact g
  · rw [if_neg g] at hz
    exact absurd rfl hz
theorem EV_st {I I' : aI1} {t : Nat} {c : Nat → Int} {a a' : Nat} (h : EV I t c a) (e51 : I' 51 = I 51) (e20 : I' 49 20 = I 49 20) (e19 : I' 49 19 = 400 * t + a') (ha : a' ≤ 402) : EV I' t c a' := by
  unfold EV at h ⊢
  rw [e51, e20, e19]
  exact ⟨h.1, h.2.1, h.2.2.1, rfl, ha, h.2.2.2.2.2⟩
def PS (x : Int) (c : Nat → Int) (a : Nat) (r : Int) : Prop := x = 1 ↔ c a = r
theorem PS_1 {x : Int} {c : Nat → Int} {a : Nat} {r : Int} (h : PS x c a r) (hx : x = 1) : c a = r := h.mp hx
theorem PS_0 {x : Int} {c : Nat → Int} {a : Nat} {r : Int} (h : PS x c a r) (hx : x = 0) : ¬ c a = r := fun g => by have := h.mpr g; omega
theorem EV_to {I : aI1} {t : Nat} {c : Nat → Int} {a a' : Nat} (h : EV I t c a) (e : a = a') : EV I t c a' := e ▸ h
theorem EV_0 {I : aI1} {q : Int} (hQ : RX I) (h0 : 0 ≤ q) (h1 : q < I 51 310) (e19 : I 49 19 = 400 * q) (e20 : I 49 20 = 400 * q + I 51 (311 + q).toNat) : EV I q.toNat (cvw (I 51) q.toNat) 0 := by
  have h2 := hQ.1.2.2.2.2.2.1
  have h3 := RX_lg hQ q.toNat (by omega)
  rw [show (311 + q).toNat = 311 + q.toNat by omega] at e20
  exact ⟨⟨by omega, by omega⟩, h3.1, by omega, by omega, by omega, rfl⟩
set_option maxHeartbeats 4000000 in
set_option maxRecDepth 20000 in
theorem c_X11_codeAt (l0 : Launch) {Ia Ja : aI1} {Ra : aR1} {Sa : aS1} (hL : LY Ra Sa) (hQ : RX Ia) {w : Int} (hw : w = Ia 49 19) {t a : Nat} {c : Nat → Int} (hE : EV Ia t c a)  : CT l0 0 0 0 mX11_codeAt [kR (some 49), kI w] Ia Ja Ra Sa (cI (fun x I' J' => Ia = I' ∧ Ja = J' ∧ x = c a ∧ 0 ≤ x ∧ x ≤ 400) Ra Sa) := by
  refine ct_in pn_X11 (Nat.le_of_ble_eq_true rfl) (fun X hX hT hIn => ?_)
  have hX : aK l0 X cX11_codeAt 2 RX11 (some .int) 0 0 0 := hX
  change WW X 0 [some (kR (some 49)), some (kI w)] [] Ia Ja Ra Sa 0 0
  have qIa := RX_w hQ
  have oIa := EV_o hE
  refine ww_iload_n hX (pc := 0) dX11_codeAt_0 rfl ?_
  refine ww_aload_n hX (pc := 1) dX11_codeAt_1 rfl ?_
  refine ww_getI hX (pc := 2) fX11_212 (by decide) (xs_49 hL) dX11_codeAt_2 ?_
  refine ww_icmp_ge hX (pc := 5) (tgt := 21) dX11_codeAt_5 (by decide) (fun h_5 => ?_) (fun h_5 => ?_)
  · simp only [w32_mod] at h_5
    refine ww_iconst hX (pc := 21) (x := 0) dX11_codeAt_21 rfl ?_
    refine rI hX (pc := 22) hT (Nat.le_refl 0) (Nat.le_refl 0) dX11_codeAt_22 ?_
    exact ⟨rfl, rfl, EV_c hE (Or.inr ⟨rfl, by omega⟩), by omega, by omega⟩
  · simp only [w32_mod] at h_5
    refine ww_aload_n hX (pc := 8) dX11_codeAt_8 rfl ?_
    refine ww_getR hX (pc := 9) fX11_20 (by decide) (xs_49 hL) (xr_49_3 hL) dX11_codeAt_9 ?_
    refine ww_sipush hX (pc := 12) (x := 317) dX11_codeAt_12 (by decide) ?_
    refine ww_iload_n hX (pc := 15) dX11_codeAt_15 rfl ?_
    refine ww_iadd hX (pc := 16) dX11_codeAt_16 ?_
    have hrg := RX_rg hQ (317 + w) (by omega) (by omega)
    refine ww_iald hX (pc := 17) (xs_51 hL) (by decide) (by omega) (by omega) dX11_codeAt_17 ?_
    refine ww_goto hX (pc := 18) (tgt := 22) dX11_codeAt_18 (by decide) ?_
    refine rI hX (pc := 22) hT (Nat.le_refl 0) (Nat.le_refl 0) dX11_codeAt_22 ?_
    exact ⟨rfl, rfl, EV_c hE (Or.inl ⟨by rw [hw], by omega⟩), by omega, by omega⟩
set_option maxHeartbeats 4000000 in
set_option maxRecDepth 20000 in
theorem c_X11_passes0 (l0 : Launch) {Ia Ja : aI1} {Ra : aR1} {Sa : aS1} (hL : LY Ra Sa) (hQ : RX Ia) {r : Int} (hr0 : 1 ≤ r) (hr1 : r ≤ 400) {t a : Nat} {c : Nat → Int} (hE : EV Ia t c a)  : CT l0 1 0 0 mX11_passes0 [kR (some 49), kI r] Ia Ja Ra Sa (cI (fun x I' J' => Ch [] [19] Ia I' ∧ Kp 49 73 Ja J' ∧ RX I' ∧ EV I' t c (a + x.toNat) ∧ (0 ≤ x ∧ x ≤ 1) ∧ PS x c a r) Ra Sa) := by
  refine ct_in pn_X11 (Nat.le_of_ble_eq_true rfl) (fun X hX hT hIn => ?_)
  have hX : aK l0 X cX11_passes0 3 RX11 (some .boolean) 1 0 0 := hX
  change WW X 0 [some (kR (some 49)), some (kI r), none] [] Ia Ja Ra Sa 0 0
  have qIa := RX_w hQ
  have oIa := EV_o hE
  refine ww_aload_n hX (pc := 0) dX11_passes0_0 rfl ?_
  refine ww_aload_n hX (pc := 1) dX11_passes0_1 rfl ?_
  refine ww_getI hX (pc := 2) fX11_215 (by decide) (xs_49 hL) dX11_passes0_2 ?_
  refine vI1 hX (pc := 5) sX11_218 (xs_49 hL) (c_X11_codeAt l0 hL hQ  rfl hE) (by decide) (Nat.le_refl 0) (Nat.le_refl 0) (Nat.le_of_ble_eq_true rfl) dX11_passes0_5 (fun x_5 I_5 J_5 h_5 => ?_)
  obtain ⟨rfl, rfl, h_5⟩ := h_5
  refine ww_iload_n hX (pc := 8) dX11_passes0_8 rfl ?_
  refine ww_icmp_ne hX (pc := 9) (tgt := 16) dX11_passes0_9 (by decide) (fun h_9 => ?_) (fun h_9 => ?_)
  · simp only [w32_mod] at h_9
    refine ww_iconst hX (pc := 16) (x := 0) dX11_passes0_16 rfl ?_
    refine ww_istore_n hX (pc := 17) (lv' := [some (kR (some 49)), some (kI r), some (kI 0)]) dX11_passes0_17 (by decide) rfl rfl ?_
    refine ww_iload_n hX (pc := 18) dX11_passes0_18 rfl ?_
    refine ww_if_eq hX (pc := 19) (tgt := 32) dX11_passes0_19 (by decide) (fun h_19 => ?_) (fun h_19 => ?_)
    · simp only [w32_mod] at h_19
      refine ww_iload_n hX (pc := 32) dX11_passes0_32 rfl ?_
      refine rZ hX (pc := 33) hT (Nat.le_refl 0) (Nat.le_refl 0) dX11_passes0_33 (by decide) ?_
      exact ⟨Ch_rf, (Kp_rf (a := 49) (b := 73)), hQ, EV_to hE (by omega), by omega, (by unfold PS; omega)⟩
    · simp only [w32_mod] at h_19
      exfalso
      omega
  · simp only [w32_mod] at h_9
    refine ww_iconst hX (pc := 12) (x := 1) dX11_passes0_12 rfl ?_
    refine ww_goto hX (pc := 13) (tgt := 17) dX11_passes0_13 (by decide) ?_
    refine ww_istore_n hX (pc := 17) (lv' := [some (kR (some 49)), some (kI r), some (kI 1)]) dX11_passes0_17 (by decide) rfl rfl ?_
    refine ww_iload_n hX (pc := 18) dX11_passes0_18 rfl ?_
    refine ww_if_eq hX (pc := 19) (tgt := 32) dX11_passes0_19 (by decide) (fun h_19 => ?_) (fun h_19 => ?_)
    · simp only [w32_mod] at h_19
      exfalso
      omega
    · simp only [w32_mod] at h_19
      have hz := EV_z (i := a) hE (by omega)
      refine ww_aload_n hX (pc := 22) dX11_passes0_22 rfl ?_
      refine ww_dupR hX (pc := 23) dX11_passes0_23 ?_
      refine ww_getI hX (pc := 24) fX11_215 (by decide) (xs_49 hL) dX11_passes0_24 ?_
      refine ww_iconst hX (pc := 27) (x := 1) dX11_passes0_27 rfl ?_
      refine ww_iadd hX (pc := 28) dX11_passes0_28 ?_
      refine ww_putI hX (pc := 29) (fun h9 => absurd h9 (by decide)) gX11_215 rfl (xs_49 hL) dX11_passes0_29 ?_
      refine ww_nmH (fun I_29 eI_29 => ?_)
      have kI_29 : Ch [] [19] Ia I_29 := by rw [eI_29]; exact Ch_f Ch_rf (by decide)
      have cI_29 : RX I_29 := by rw [eI_29]; exact RX_f hQ (by decide)
      have qI_29 := RX_w cI_29
      have f20_I_29 : I_29 49 20 = Ia 49 20 := by rw [eI_29, up2_n _ _ (Or.inr (by decide))]
      have f21_I_29 : I_29 49 21 = Ia 49 21 := by rw [eI_29, up2_n _ _ (Or.inr (by decide))]
      have vI_29 : EV I_29 t c (a + 1) := EV_st hE (by rw [eI_29, up2_off _ _ _ (by decide)]) (by omega) (by rw [eI_29, up2_s]; omega) (by omega)
      have oI_29 := EV_o vI_29
      refine ww_iload_n hX (pc := 32) dX11_passes0_32 rfl ?_
      refine rZ hX (pc := 33) hT (Nat.le_refl 0) (Nat.le_refl 0) dX11_passes0_33 (by decide) ?_
      exact ⟨kI_29, (Kp_rf (a := 49) (b := 73)), cI_29, EV_to vI_29 (by omega), by omega, (by unfold PS; omega)⟩
