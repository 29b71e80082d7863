set_option maxHeartbeats 4000000 in
set_option maxRecDepth 20000 in
theorem c6_X7_kindOf (l0 : Launch) {Ia Ja : aI1} {Ra : aR1} {Sa : aS1} (hL : LY Ra Sa) (hI : XI Ia) {f : Nat → Int} {N : Nat} (hN : Ia 8 1 = N) (hf : ∀ j, j < N → f j = Ia 9 j) {a b : Int} (ha0 : 0 ≤ a) (hab : a < b) (hb : b ≤ Ia 8 1) (hdg : (48 ≤ Ia 9 a.toNat ∧ Ia 9 a.toNat ≤ 57 → ∀ j : Int, a ≤ j → j < b → 48 ≤ Ia 9 j.toNat ∧ Ia 9 j.toNat ≤ 57))  : CT l0 7 0 0 mX7_kindOf [kR (some 10), kI a, kI b] Ia Ja Ra Sa (cI (fun x I' J' => Ia = I' ∧ Ja = J' ∧ (-8 ≤ x ∧ x ≤ 1301) ∧ zKo f a.toNat b.toNat x) Ra Sa) := by
  refine ct_in pn_X7 (Nat.le_of_ble_eq_true rfl) (fun X hX hT hIn => ?_)
  have hX : aK l0 X cX7_kindOf 4 RX7 (some .int) 7 0 0 := hX
  change WW X 0 [some (kR (some 10)), some (kI a), some (kI b), none] [] Ia Ja Ra Sa 0 0
  obtain ⟨hn1, hn2⟩ := hI.1
  obtain ⟨hk1, hk2⟩ := hI.2.1
  obtain ⟨hf1, hf2⟩ := hI.fu
  obtain ⟨hl1, hl2⟩ := hI.2.2.2.2.2.2.1
  have hba := hI.2.2.2.2.2.2.2.2.2.2 a.toNat (by omega)
  refine ww_aload_n hX (pc := 0) dX7_kindOf_0 rfl ?_
  refine ww_getR hX (pc := 1) fX7_28 (by decide) (xs_10 hL) (xr_10_1 hL) dX7_kindOf_1 ?_
  refine ww_iload_n hX (pc := 4) dX7_kindOf_4 rfl ?_
  refine vI1 hX (pc := 5) sX7_139 (xs_8 hL) (c_X9_byteAt l0 hL hI (by omega) (by omega)) (by decide) (Nat.le_refl 0) (Nat.le_refl 0) (Nat.le_of_ble_eq_true rfl) dX7_kindOf_5 (fun x_5 I_5 J_5 h_5 => ?_)
  obtain ⟨rfl, rfl, h_5⟩ := h_5
  refine ww_istore_n hX (pc := 8) (lv' := [some (kR (some 10)), some (kI a), some (kI b), some (kI x_5)]) dX7_kindOf_8 (by decide) rfl rfl ?_
  refine ww_iload_n hX (pc := 9) dX7_kindOf_9 rfl ?_
  refine sI1 hX (pc := 10) sX7_142 (c_X7_isLetter l0 (by omega) (by omega)) (by decide) (Nat.le_refl 0) (Nat.le_refl 0) (Nat.le_of_ble_eq_true rfl) dX7_kindOf_10 (fun x_10 I_10 J_10 h_10 => ?_)
  obtain ⟨rfl, rfl, h_10⟩ := h_10
  refine ww_if_eq hX (pc := 13) (tgt := 23) dX7_kindOf_13 (by decide) (fun h_13 => ?_) (fun h_13 => ?_)
  · simp only [w32_mod] at h_13
    refine ww_iload_n hX (pc := 23) dX7_kindOf_23 rfl ?_
    refine sI1 hX (pc := 24) sX7_145 (c_X7_isDigit l0 (by omega) (by omega)) (by decide) (Nat.le_refl 0) (Nat.le_refl 0) (Nat.le_of_ble_eq_true rfl) dX7_kindOf_24 (fun x_24 I_24 J_24 h_24 => ?_)
    obtain ⟨rfl, rfl, h_24⟩ := h_24
    refine ww_if_eq hX (pc := 27) (tgt := 43) dX7_kindOf_27 (by decide) (fun h_27 => ?_) (fun h_27 => ?_)
    · simp only [w32_mod] at h_27
      refine ww_iload_n hX (pc := 43) dX7_kindOf_43 rfl ?_
      refine rI hX (pc := 44) hT (Nat.le_refl 0) (Nat.le_refl 0) dX7_kindOf_44 ?_
      exact ⟨rfl, rfl, by omega, zKo_b (by have k1 := zKl_1 (x := f a.toNat); have k2 := zKl_2 (x := f a.toNat); have k3 := zKl_r (f a.toNat); rw [hf _ (by omega)] at *; omega) (by rw [hf _ (by omega)]; exact hba) (by rw [hf _ (by omega)]; omega)⟩
    · simp only [w32_mod] at h_27
      have k_24 := h_24.2.mp (by omega)
      clear h_24
      refine ww_sipush hX (pc := 30) (x := 300) dX7_kindOf_30 (by decide) ?_
      refine ww_aload_n hX (pc := 33) dX7_kindOf_33 rfl ?_
      refine ww_iload_n hX (pc := 34) dX7_kindOf_34 rfl ?_
      refine ww_iload_n hX (pc := 35) dX7_kindOf_35 rfl ?_
      refine vI2 hX (pc := 36) sX7_151 (xs_10 hL) (c6_X7_numberAt l0 hL hI hN hf (by omega) (by omega) (by omega) (hdg (by omega))) (by decide) (Nat.le_refl 0) (Nat.le_refl 0) (Nat.le_of_ble_eq_true rfl) dX7_kindOf_36 (fun x_36 I_36 J_36 h_36 => ?_)
      obtain ⟨rfl, rfl, h_36⟩ := h_36
      refine ww_iadd hX (pc := 39) dX7_kindOf_39 ?_
      refine ww_goto hX (pc := 40) (tgt := 44) dX7_kindOf_40 (by decide) ?_
      refine rI hX (pc := 44) hT (Nat.le_refl 0) (Nat.le_refl 0) dX7_kindOf_44 ?_
      exact ⟨rfl, rfl, by omega, zKo_n ((zKl_2 (x := f a.toNat)).mpr (by rw [hf _ (by omega)]; omega)) (fun i hi => by
          have h9 := hdg (by omega) (a + i) (by omega) (by omega)
          rw [hf _ (by omega), show a.toNat + i = (a + i).toNat by omega]
          exact h9) (by rw [← h_36.2])⟩
  · simp only [w32_mod] at h_13
    have k_10 := h_10.2.mp (by omega)
    clear h_10
    refine ww_aload_n hX (pc := 16) dX7_kindOf_16 rfl ?_
    refine ww_iload_n hX (pc := 17) dX7_kindOf_17 rfl ?_
    refine ww_iload_n hX (pc := 18) dX7_kindOf_18 rfl ?_
    refine vI2 hX (pc := 19) sX7_148 (xs_10 hL) (c6_X7_wordKind l0 hL hI hN hf (by omega) (by omega) (by omega)) (by decide) (Nat.le_refl 0) (Nat.le_refl 0) (Nat.le_of_ble_eq_true rfl) dX7_kindOf_19 (fun x_19 I_19 J_19 h_19 => ?_)
    obtain ⟨rfl, rfl, h_19⟩ := h_19
    refine rI hX (pc := 22) hT (Nat.le_refl 0) (Nat.le_refl 0) dX7_kindOf_22 ?_
    exact ⟨rfl, rfl, by omega, zKo_w ((zKl_1 (x := f a.toNat)).mpr (by rw [hf _ (by omega)]; omega)) h_19.2⟩
