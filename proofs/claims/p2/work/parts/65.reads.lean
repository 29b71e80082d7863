theorem PI_g {I : aI1} {j : Nat} {v : Int} (h : PI I) (hj : j ≠ 15 ∧ j ≠ 16 ∧ j ≠ 18) : PI (up2 I 49 j v) := by
  have e : ∀ q, q ≠ j → up2 I 49 j v 49 q = I 49 q := fun q hq => up2_n _ _ (Or.inr hq)
  unfold PI at h ⊢
  rw [up2_off _ _ _ (show 57 ≠ 49 by decide), up2_off _ _ _ (show 59 ≠ 49 by decide), e 15 (by omega), e 16 (by omega), e 18 (by omega)]
  exact h
theorem KR_up {k : Nat → Int} {q : Nat} {v : Int} (h : KR k) (hq : (311 + k 310 ≤ q ∧ q ≤ 316) ∨ (317 + 400 * k 310 ≤ q ∧ q < 2717 ∧ 0 ≤ v ∧ v ≤ 400) ∨ 2717 ≤ q) : KR (up1 k q v) := by
  unfold KR at h ⊢
  obtain ⟨a4, a5, a7, a8, a9, a10, b1, b2⟩ := h
  have e : ∀ j, j ≠ q → up1 k q v j = k j := fun j hj => up1_n _ _ hj
  rw [e 304 (by omega), e 305 (by omega), e 307 (by omega), e 308 (by omega), e 309 (by omega), e 310 (by omega)]
  refine ⟨a4, a5, a7, a8, a9, a10, fun j g1 g2 => ?_, fun t ht => ?_⟩
  · by_cases hj : j = q
    · rw [hj, up1_s]; omega
    · rw [e j hj]; exact b1 j g1 g2
  · have b3 := b2 t ht
    have hv : cvw (up1 k q v) t = cvw k t := by
      funext i
      unfold cvw
      rw [e (311 + t) (by omega)]
      by_cases hi : (i : Int) < k (311 + t)
      · rw [if_pos hi, if_pos hi, e _ (by omega)]
      · rw [if_neg hi, if_neg hi]
    rw [hv, e _ (by omega)]
    exact b3
theorem RX_up {I : aI1} {q : Nat} {v : Int} (h : RX I) (hq : (311 + I 51 310 ≤ q ∧ q ≤ 316) ∨ (317 + 400 * I 51 310 ≤ q ∧ q < 2717 ∧ 0 ≤ v ∧ v ≤ 400) ∨ 2717 ≤ q) : RX (up2 I 51 q v) :=
  RX_k h (fun a ha => up2_off _ _ _ ha) (by rw [up2_row]; exact KR_up h.1 hq)
theorem KR_tl {k : Nat → Int} {t : Nat} (h : KR k) (ht : k 310 = t) (h5 : t ≤ 5) (hs : 0 ≤ k (311 + t) ∧ k (311 + t) ≤ 400) (hl : LawG (cvw k t) (k (311 + t)).toNat) : KR (up1 k 310 (k 310 + 1)) := by
  unfold KR at h ⊢
  obtain ⟨a4, a5, a7, a8, a9, a10, b1, b2⟩ := h
  have e : ∀ j, j ≠ 310 → up1 k 310 (k 310 + 1) j = k j := fun j hj => up1_n _ _ hj
  rw [e 304 (by omega), e 305 (by omega), e 307 (by omega), e 308 (by omega), e 309 (by omega), up1_s]
  refine ⟨a4, a5, a7, a8, a9, by omega, fun j g1 g2 => by rw [e j (by omega)]; exact b1 j g1 g2, fun t' ht' => ?_⟩
  have hv : cvw (up1 k 310 (k 310 + 1)) t' = cvw k t' := by
    funext i
    unfold cvw
    rw [e _ (by omega), e _ (by omega)]
  rw [hv, e _ (by omega)]
  by_cases e9 : t' = t
  · subst e9
    exact ⟨hs, hl⟩
  · exact b2 t' (by omega)
theorem RX_tl {I : aI1} {v : Int} {t : Nat} (h : RX I) (hv : v = I 51 310 + 1) (ht : I 51 310 = t) (h5 : t ≤ 5) (hs : 0 ≤ I 51 (311 + t) ∧ I 51 (311 + t) ≤ 400) (hl : LawG (cvw (I 51) t) (I 51 (311 + t)).toNat) : RX (up2 I 51 (310 : Int).toNat v) :=
  RX_k h (fun a ha => up2_off _ _ _ ha) (by rw [up2_row, hv]; exact KR_tl h.1 ht h5 hs hl)
theorem cvw_pvw {k : Nat → Int} {I : aI1} {t : Nat} (h1 : k (311 + t) = I 49 15) (h2 : ∀ j : Nat, (j : Int) < I 49 15 → k (317 + 400 * t + j) = I 57 j) : cvw k t = pvw I := by
  funext i
  unfold cvw pvw
  rw [h1]
  by_cases hi : (i : Int) < I 49 15
  · rw [if_pos hi, if_pos hi, h2 i hi]
  · rw [if_neg hi, if_neg hi]
theorem RX_l {I : aI1} (h : RX I) : (0 ≤ I 49 10 ∧ I 49 10 ≤ 400) ∧ (0 ≤ I 51 310 ∧ I 51 310 ≤ 6) := ⟨h.2.2.2.1, h.1.2.2.2.2.2.1⟩
set_option maxHeartbeats 4000000 in
set_option maxRecDepth 20000 in
theorem c_X11_readClause (l0 : Launch) {Ia Ja : aI1} {Ra : aR1} {Sa : aS1} (hL : LY Ra Sa) (hQ : RX Ia) (hP : PI Ia) {c : Nat → Int} (hc : pvw Ia = c)  : CT l0 33 0 0 mX11_readClause [kR (some 49)] Ia Ja Ra Sa (cV (fun I' J' => Ch [] [16, 17, 18] Ia I' ∧ Kp 49 73 Ja J' ∧ RX I' ∧ PI I' ∧ QP (GClause c) Ia I' ∧ Ia 49 16 ≤ I' 49 16) Ra Sa) := by
  refine ct_in pn_X11 (Nat.le_of_ble_eq_true rfl) (fun X hX hT hIn => ?_)
  have hX : aK l0 X cX11_readClause 1 RX11 none 33 0 0 := hX
  change WW X 0 [some (kR (some 49))] [] Ia Ja Ra Sa 0 0
  have qIa := RX_w hQ
  have oIa := PI_o hP
  have tIa := PI_t hP
  have atIa := pvw_at hP hc
  refine ww_aload_n hX (pc := 0) dX11_readClause_0 rfl ?_
  refine ww_iconst hX (pc := 1) (x := 1) dX11_readClause_1 rfl ?_
  refine vV1 hX (pc := 2) sX11_174 (xs_49 hL) (c_X11_must l0 hL hQ  hP hc (by omega) (by omega)) (by decide) (Nat.le_refl 0) (Nat.le_refl 0) (Nat.le_of_ble_eq_true rfl) dX11_readClause_2 (fun I_2 J_2 h_2 => ?_)
  have kJ_2 : Kp 49 73 Ja J_2 := Kp_tr (Kp_rf (a := 49) (b := 73)) h_2.2.1
  have kI_2 : Ch [] [16, 17, 18] Ia I_2 := Ch_tr Ch_rf (Ch_wd h_2.1 (by decide) (by decide))
  have cI_2 : RX I_2 := h_2.2.2.1
  have qI_2 := RX_w cI_2
  have f15_I_2 : I_2 49 15 = Ia 49 15 := h_2.1.2 15 (by decide)
  have f17_I_2 : I_2 49 17 = Ia 49 17 := h_2.1.2 17 (by decide)
  have pI_2 : PI I_2 := h_2.2.2.2.1
  have oI_2 := PI_o pI_2
  have yI_2 := h_2.2.2.2.2
  refine ww_aload_n hX (pc := 5) dX11_readClause_5 rfl ?_
  refine ww_iconst hX (pc := 6) (x := 0) dX11_readClause_6 rfl ?_
  refine vV1 hX (pc := 7) sX11_178 (xs_49 hL) (c_RSum l0 8 (by decide) hL cI_2 pI_2 (pvw_tr kI_2 (by decide) (by decide) hc)) (by decide) (Nat.le_refl 0) (Nat.le_refl 0) (Nat.le_of_ble_eq_true rfl) dX11_readClause_7 (fun I_7 J_7 h_7 => ?_)
  have kJ_7 : Kp 49 73 Ja J_7 := Kp_tr kJ_2 h_7.2.1
  have kI_7 : Ch [] [16, 17, 18] Ia I_7 := Ch_tr kI_2 (Ch_wd h_7.1 (by decide) (by decide))
  have cI_7 : RX I_7 := h_7.2.2.1
  have qI_7 := RX_w cI_7
  have f15_I_7 : I_7 49 15 = I_2 49 15 := h_7.1.2 15 (by decide)
  have pI_7 : PI I_7 := h_7.2.2.2.1
  have oI_7 := PI_o pI_7
  have yI_7 := h_7.2.2.2.2
  refine ww_aload_n hX (pc := 10) dX11_readClause_10 rfl ?_
  refine ww_iconst hX (pc := 11) (x := 2) dX11_readClause_11 rfl ?_
  refine vI1 hX (pc := 12) sX11_165 (xs_49 hL) (c_X11_takes0 l0 hL cI_7  pI_7 (pvw_tr kI_7 (by decide) (by decide) hc) (by omega) (by omega)) (by decide) (Nat.le_refl 0) (Nat.le_refl 0) (Nat.le_of_ble_eq_true rfl) dX11_readClause_12 (fun x_12 I_12 J_12 h_12 => ?_)
  have kJ_12 : Kp 49 73 Ja J_12 := Kp_tr kJ_7 h_12.2.1
  have kI_12 : Ch [] [16, 17, 18] Ia I_12 := Ch_tr kI_7 (Ch_wd h_12.1 (by decide) (by decide))
  have cI_12 : RX I_12 := h_12.2.2.1
  have qI_12 := RX_w cI_12
  have f15_I_12 : I_12 49 15 = I_7 49 15 := h_12.1.2 15 (by decide)
  have f17_I_12 : I_12 49 17 = I_7 49 17 := h_12.1.2 17 (by decide)
  have f18_I_12 : I_12 49 18 = I_7 49 18 := h_12.1.2 18 (by decide)
  have pI_12 : PI I_12 := h_12.2.2.2.1
  have oI_12 := PI_o pI_12
  have yI_12 := h_12.2.2.2.2
  refine ww_if_eq hX (pc := 15) (tgt := 23) dX11_readClause_15 (by decide) (fun h_15 => ?_) (fun h_15 => ?_)
  · simp only [w32_mod] at h_15
    have s12 := TK_0 yI_12.2.2.2 (by omega)
    refine rV hX (pc := 23) hT (Nat.le_refl 0) (Nat.le_refl 0) dX11_readClause_23 ?_
    exact ⟨kI_12, kJ_12, cI_12, pI_12, QP_c2 (by omega) yI_2.2 yI_7.1 (by omega) s12, by omega⟩
  · simp only [w32_mod] at h_15
    have s12 := TK_1 yI_12.2.2.2 (by omega)
    refine ww_aload_n hX (pc := 18) dX11_readClause_18 rfl ?_
    refine ww_iconst hX (pc := 19) (x := 0) dX11_readClause_19 rfl ?_
    refine vV1 hX (pc := 20) sX11_181 (xs_49 hL) (c_RTest l0 8 (by decide) hL cI_12 pI_12 (pvw_tr kI_12 (by decide) (by decide) hc)) (by decide) (Nat.le_refl 0) (Nat.le_refl 0) (Nat.le_of_ble_eq_true rfl) dX11_readClause_20 (fun I_20 J_20 h_20 => ?_)
    have kJ_20 : Kp 49 73 Ja J_20 := Kp_tr kJ_12 h_20.2.1
    have kI_20 : Ch [] [16, 17, 18] Ia I_20 := Ch_tr kI_12 (Ch_wd h_20.1 (by decide) (by decide))
    have cI_20 : RX I_20 := h_20.2.2.1
    have qI_20 := RX_w cI_20
    have f15_I_20 : I_20 49 15 = I_12 49 15 := h_20.1.2 15 (by decide)
    have pI_20 : PI I_20 := h_20.2.2.2.1
    have oI_20 := PI_o pI_20
    have yI_20 := h_20.2.2.2.2
    refine rV hX (pc := 23) hT (Nat.le_refl 0) (Nat.le_refl 0) dX11_readClause_23 ?_
    exact ⟨kI_20, kJ_20, cI_20, pI_20, QP_c1 (by omega) yI_2.2 yI_7.1 (by omega) (by omega) s12 yI_20.1, by omega⟩
