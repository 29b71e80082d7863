theorem zWs_l : ∀ n, n < 13 → (zWs.getD n []).length = strLen.getD n 0 := by
  have : ∀ n : Fin 13, (zWs.getD n.val []).length = strLen.getD n.val 0 := by decide
  exact fun n hn => this ⟨n, hn⟩
theorem chS_w {n : Nat} (hn : n < 13) {i : Nat} (hi : i < strLen.getD n 0) : chS n (i : Int) = (zWs.getD n []).getD i 0 ∧ 0 ≤ chS n (i : Int) ∧ chS n (i : Int) ≤ 255 := by
  have h5 := (strLen_r hn).2
  have : ∀ n : Fin 13, ∀ i : Fin 5, i.val < strLen.getD n.val 0 → chS n.val (i.val : Int) = (zWs.getD n.val []).getD i.val 0 ∧ 0 ≤ chS n.val (i.val : Int) ∧ chS n.val (i.val : Int) ≤ 255 := by decide +kernel
  exact this ⟨n, hn⟩ ⟨i, by omega⟩ hi
set_option maxHeartbeats 4000000 in
set_option maxRecDepth 20000 in
theorem c6_X9_spells (l0 : Launch) {Ia Ja : aI1} {Ra : aR1} {Sa : aS1} (hL : LY Ra Sa) (hI : XI Ia) {f : Nat → Int} {N : Nat} (hN : Ia 8 1 = N) (hf : ∀ j, j < N → f j = Ia 9 j) {n : Nat} {a b : Int} (hn : n < 13) (ha0 : 0 ≤ a) (hab : a ≤ b) (hbl : b ≤ Ia 8 1)  : CT l0 4 0 0 mX9_spells [kR (some 8), kS n, kI a, kI b] Ia Ja Ra Sa (cI (fun x I' J' => Ia = I' ∧ Ja = J' ∧ (x = 0 ∨ x = 1) ∧ (x = 1 ↔ zWm f a.toNat b.toNat (zWs.getD n []))) Ra Sa) := by
  refine ct_in pn_X9 (Nat.le_of_ble_eq_true rfl) (fun X hX hT hIn => ?_)
  have hX : aK l0 X cX9_spells 5 RX9 (some .boolean) 4 0 0 := hX
  change WW X 0 [some (kR (some 8)), some (kS n), some (kI a), some (kI b), none] [] Ia Ja Ra Sa 0 0
  obtain ⟨hn1, hn2⟩ := hI.1
  obtain ⟨hk1, hk2⟩ := hI.2.1
  obtain ⟨hf1, hf2⟩ := hI.fu
  obtain ⟨hl1, hl2⟩ := hI.2.2.2.2.2.2.1
  have hsl := strLen_r hn
  refine ww_iload_n hX (pc := 0) dX9_spells_0 rfl ?_
  refine ww_if_lt hX (pc := 1) (tgt := 22) dX9_spells_1 (by decide) (fun h_1 => ?_) (fun h_1 => ?_)
  · simp only [w32_mod] at h_1
    refine ww_iconst hX (pc := 22) (x := 0) dX9_spells_22 rfl ?_
    refine rZ hX (pc := 23) hT (Nat.le_refl 0) (Nat.le_refl 0) dX9_spells_23 (by decide) ?_
    exact ⟨rfl, rfl, by omega, ⟨fun h9 => absurd h9 (by decide), fun h9 => by have h8 := h9.1; have h7 := zWs_l n hn; omega⟩⟩
  · simp only [w32_mod] at h_1
    refine ww_iload_n hX (pc := 4) dX9_spells_4 rfl ?_
    refine ww_aload_n hX (pc := 5) dX9_spells_5 rfl ?_
    refine ww_getI hX (pc := 6) fX9_15 (by decide) (xs_8 hL) dX9_spells_6 ?_
    refine ww_icmp_gt hX (pc := 9) (tgt := 22) dX9_spells_9 (by decide) (fun h_9 => ?_) (fun h_9 => ?_)
    · simp only [w32_mod] at h_9
      refine ww_iconst hX (pc := 22) (x := 0) dX9_spells_22 rfl ?_
      refine rZ hX (pc := 23) hT (Nat.le_refl 0) (Nat.le_refl 0) dX9_spells_23 (by decide) ?_
      exact ⟨rfl, rfl, by omega, ⟨fun h9 => absurd h9 (by decide), fun h9 => by have h8 := h9.1; have h7 := zWs_l n hn; omega⟩⟩
    · simp only [w32_mod] at h_9
      refine ww_aload_nS hX (pc := 12) dX9_spells_12 rfl ?_
      refine xI0 hX (pc := 13) sX9_19 hn (c_J0_length_8abf5 l0 hn) (by decide) (Nat.le_refl 0) (Nat.le_refl 0) (Nat.le_of_ble_eq_true rfl) dX9_spells_13 (fun x_13 I_13 J_13 h_13 => ?_)
      obtain ⟨rfl, rfl, h_13⟩ := h_13
      refine ww_iload_n hX (pc := 16) dX9_spells_16 rfl ?_
      refine ww_iload_n hX (pc := 17) dX9_spells_17 rfl ?_
      refine ww_isub hX (pc := 18) dX9_spells_18 ?_
      refine ww_icmp_eq hX (pc := 19) (tgt := 24) dX9_spells_19 (by decide) (fun h_19 => ?_) (fun h_19 => ?_)
      · simp only [w32_mod] at h_19
        refine ww_iconst hX (pc := 24) (x := 0) dX9_spells_24 rfl ?_
        refine ww_istore hX (pc := 25) (lv' := [some (kR (some 8)), some (kS n), some (kI a), some (kI b), some (kI 0)]) dX9_spells_25 (by decide) rfl rfl ?_
        have hl_27 : ∀ (n_27 : Nat) (i : Int), (((strLen.getD n 0 : Nat) : Int) - i).toNat = n_27 → ((0 ≤ i ∧ i ≤ (strLen.getD n 0 : Nat)) ∧ ∀ j : Nat, (j : Int) < i → f (a.toNat + j) = (zWs.getD n []).getD j 0) → WW X 27 [some (kR (some 8)), some (kS n), some (kI a), some (kI b), some (kI i)] [] Ia Ja Ra Sa 0 0 := by
          intro n_27
          induction n_27 using Nat.strongRecOn with
          | ind n_27 ih_27 =>
            intro i hm_27 hv_27
            obtain ⟨⟨hi0, hi1⟩, hw9⟩ := hv_27
            refine ww_iload hX (pc := 27) dX9_spells_27 rfl ?_
            refine ww_aload_nS hX (pc := 29) dX9_spells_29 rfl ?_
            refine xI0 hX (pc := 30) sX9_19 hn (c_J0_length_8abf5 l0 hn) (by decide) (Nat.le_refl 0) (Nat.le_refl 0) (Nat.le_of_ble_eq_true rfl) dX9_spells_30 (fun x_30 I_30 J_30 h_30 => ?_)
            obtain ⟨rfl, rfl, h_30⟩ := h_30
            refine ww_icmp_ge hX (pc := 33) (tgt := 62) dX9_spells_33 (by decide) (fun h_33 => ?_) (fun h_33 => ?_)
            · simp only [w32_mod] at h_33
              refine ww_iconst hX (pc := 62) (x := 1) dX9_spells_62 rfl ?_
              refine rZ hX (pc := 63) hT (Nat.le_refl 0) (Nat.le_refl 0) dX9_spells_63 (by decide) ?_
              exact ⟨rfl, rfl, by omega, ⟨fun _ => ⟨by rw [zWs_l n hn]; omega, fun j hj => hw9 j (by rw [zWs_l n hn] at hj; omega)⟩, fun _ => rfl⟩⟩
            · simp only [w32_mod] at h_33
              refine ww_aload_n hX (pc := 36) dX9_spells_36 rfl ?_
              refine ww_getR hX (pc := 37) fX9_9 (by decide) (xs_8 hL) (xr_8_0 hL) dX9_spells_37 ?_
              refine ww_iload_n hX (pc := 40) dX9_spells_40 rfl ?_
              refine ww_iload hX (pc := 41) dX9_spells_41 rfl ?_
              refine ww_iadd hX (pc := 43) dX9_spells_43 ?_
              have hby := hI.2.2.2.2.2.2.2.2.2.2 (a + i).toNat (by omega)
              have hq9 := chS_w hn (i := i.toNat) (by omega)
              rw [show (i.toNat : Int) = i by omega] at hq9
              have hff := hf (a + i).toNat (by omega)
              refine ww_iald hX (pc := 44) (xs_9 hL) (by decide) (by omega) (by omega) dX9_spells_44 ?_
              refine ww_aload_nS hX (pc := 45) dX9_spells_45 rfl ?_
              refine ww_iload hX (pc := 46) dX9_spells_46 rfl ?_
              refine xI1 hX (pc := 48) sX9_24 hn (c_J0_charAt_5068e l0 hn (by omega) (by omega)) (by decide) (Nat.le_refl 0) (Nat.le_refl 0) (Nat.le_of_ble_eq_true rfl) dX9_spells_48 (fun x_48 I_48 J_48 h_48 => ?_)
              obtain ⟨rfl, rfl, h_48⟩ := h_48
              refine ww_icmp_eq hX (pc := 51) (tgt := 56) dX9_spells_51 (by decide) (fun h_51 => ?_) (fun h_51 => ?_)
              · simp only [w32_mod] at h_51
                have heq : f (a + i).toNat = (zWs.getD n []).getD i.toNat 0 := by rw [hff, ← hq9.1]; omega
                refine ww_iinc hX (pc := 56) (lv' := [some (kR (some 8)), some (kS n), some (kI a), some (kI b), some (kI (i + 1))]) dX9_spells_56 rfl (by decide) rfl rfl ?_
                refine ww_goto hX (pc := 59) (tgt := 27) dX9_spells_59 (by decide) ?_
                exact ih_27 _ (by omega) (i + 1) rfl ⟨⟨by omega, by omega⟩, fun j hj => (if h9 : (j : Int) < i then hw9 j h9 else by rw [show a.toNat + j = (a + i).toNat by omega, show j = i.toNat by omega]; exact heq)⟩
              · simp only [w32_mod] at h_51
                have hne : ¬ f (a + i).toNat = (zWs.getD n []).getD i.toNat 0 := by rw [hff, ← hq9.1]; omega
                refine ww_iconst hX (pc := 54) (x := 0) dX9_spells_54 rfl ?_
                refine rZ hX (pc := 55) hT (Nat.le_refl 0) (Nat.le_refl 0) dX9_spells_55 (by decide) ?_
                exact ⟨rfl, rfl, by omega, ⟨fun h9 => absurd h9 (by decide), fun h9 => by
                    have h8 := h9.2 i.toNat (by rw [zWs_l n hn]; omega)
                    rw [show a.toNat + i.toNat = (a + i).toNat by omega] at h8
                    exact absurd h8 hne⟩⟩
        exact hl_27 _ 0 rfl ⟨⟨by omega, by omega⟩, fun j hj => absurd hj (by omega)⟩
      · simp only [w32_mod] at h_19
        refine ww_iconst hX (pc := 22) (x := 0) dX9_spells_22 rfl ?_
        refine rZ hX (pc := 23) hT (Nat.le_refl 0) (Nat.le_refl 0) dX9_spells_23 (by decide) ?_
        exact ⟨rfl, rfl, by omega, ⟨fun h9 => absurd h9 (by decide), fun h9 => by have h8 := h9.1; have h7 := zWs_l n hn; omega⟩⟩
set_option maxHeartbeats 4000000 in
set_option maxRecDepth 20000 in
theorem c6_X7_skipBlanks (l0 : Launch) {Ia Ja : aI1} {Ra : aR1} {Sa : aS1} (hL : LY Ra Sa) (hI : XI Ia) {f : Nat → Int} {N : Nat} (hN : Ia 8 1 = N) (hf : ∀ j, j < N → f j = Ia 9 j) {a : Int} (ha0 : 0 ≤ a) (ha1 : a ≤ Ia 8 1)  : CT l0 1 0 0 mX7_skipBlanks [kR (some 10), kI a] Ia Ja Ra Sa (cI (fun x I' J' => Ia = I' ∧ Ja = J' ∧ (a ≤ x ∧ x ≤ Ia 8 1) ∧ (x < Ia 8 1 → ¬ f x.toNat = 32) ∧ zTk f N x.toNat = zTk f N a.toNat) Ra Sa) := by
  refine ct_in pn_X7 (Nat.le_of_ble_eq_true rfl) (fun X hX hT hIn => ?_)
  have hX : aK l0 X cX7_skipBlanks 3 RX7 (some .int) 1 0 0 := hX
  change WW X 0 [some (kR (some 10)), some (kI a), none] [] Ia Ja Ra Sa 0 0
  obtain ⟨hn1, hn2⟩ := hI.1
  obtain ⟨hk1, hk2⟩ := hI.2.1
  obtain ⟨hf1, hf2⟩ := hI.fu
  obtain ⟨hl1, hl2⟩ := hI.2.2.2.2.2.2.1
  refine ww_iload_n hX (pc := 0) dX7_skipBlanks_0 rfl ?_
  refine ww_istore_n hX (pc := 1) (lv' := [some (kR (some 10)), some (kI a), some (kI a)]) dX7_skipBlanks_1 (by decide) rfl rfl ?_
  have hl_2 : ∀ (n_2 : Nat) (q : Int), (Ia 8 1 - q).toNat = n_2 → ((a ≤ q ∧ q ≤ Ia 8 1) ∧ zTk f N q.toNat = zTk f N a.toNat) → WW X 2 [some (kR (some 10)), some (kI a), some (kI q)] [] Ia Ja Ra Sa 0 0 := by
    intro n_2
    induction n_2 using Nat.strongRecOn with
    | ind n_2 ih_2 =>
      intro q hm_2 hv_2
      obtain ⟨⟨hq0, hq1⟩, hz9⟩ := hv_2
      refine ww_iload_n hX (pc := 2) dX7_skipBlanks_2 rfl ?_
      refine ww_aload_n hX (pc := 3) dX7_skipBlanks_3 rfl ?_
      refine ww_getR hX (pc := 4) fX7_28 (by decide) (xs_10 hL) (xr_10_1 hL) dX7_skipBlanks_4 ?_
      refine ww_getI hX (pc := 7) fX7_128 (by decide) (xs_8 hL) dX7_skipBlanks_7 ?_
      refine ww_icmp_ge hX (pc := 10) (tgt := 32) dX7_skipBlanks_10 (by decide) (fun h_10 => ?_) (fun h_10 => ?_)
      · simp only [w32_mod] at h_10
        refine ww_iload_n hX (pc := 32) dX7_skipBlanks_32 rfl ?_
        refine rI hX (pc := 33) hT (Nat.le_refl 0) (Nat.le_refl 0) dX7_skipBlanks_33 ?_
        exact ⟨rfl, rfl, by omega, fun h9 => absurd h9 (by omega), hz9⟩
      · simp only [w32_mod] at h_10
        refine ww_aload_n hX (pc := 13) dX7_skipBlanks_13 rfl ?_
        refine ww_getR hX (pc := 14) fX7_28 (by decide) (xs_10 hL) (xr_10_1 hL) dX7_skipBlanks_14 ?_
        refine ww_iload_n hX (pc := 17) dX7_skipBlanks_17 rfl ?_
        refine vI1 hX (pc := 18) sX7_139 (xs_8 hL) (c_X9_byteAt l0 hL hI (by omega) (by omega)) (by decide) (Nat.le_refl 0) (Nat.le_refl 0) (Nat.le_of_ble_eq_true rfl) dX7_skipBlanks_18 (fun x_18 I_18 J_18 h_18 => ?_)
        obtain ⟨rfl, rfl, h_18⟩ := h_18
        refine ww_bipush hX (pc := 21) (x := 32) dX7_skipBlanks_21 (by decide) ?_
        refine ww_icmp_ne hX (pc := 23) (tgt := 32) dX7_skipBlanks_23 (by decide) (fun h_23 => ?_) (fun h_23 => ?_)
        · simp only [w32_mod] at h_23
          refine ww_iload_n hX (pc := 32) dX7_skipBlanks_32 rfl ?_
          refine rI hX (pc := 33) hT (Nat.le_refl 0) (Nat.le_refl 0) dX7_skipBlanks_33 ?_
          exact ⟨rfl, rfl, by omega, fun _ => by rw [hf _ (by omega)]; omega, hz9⟩
        · simp only [w32_mod] at h_23
          have hz8 : zTk f N (q + 1).toNat = zTk f N a.toNat := by rw [show (q + 1).toNat = q.toNat + 1 by omega, ← zTk_b (by omega) (by rw [hf _ (by omega)]; omega)]; exact hz9
          refine ww_iinc hX (pc := 26) (lv' := [some (kR (some 10)), some (kI a), some (kI (q + 1))]) dX7_skipBlanks_26 rfl (by decide) rfl rfl ?_
          refine ww_goto hX (pc := 29) (tgt := 2) dX7_skipBlanks_29 (by decide) ?_
          exact ih_2 _ (by omega) (q + 1) rfl ⟨⟨by omega, by omega⟩, hz8⟩
  exact hl_2 _ a rfl ⟨⟨by omega, by omega⟩, rfl⟩
set_option maxHeartbeats 4000000 in
set_option maxRecDepth 20000 in
theorem c6_X7_stopOf (l0 : Launch) {Ia Ja : aI1} {Ra : aR1} {Sa : aS1} (hL : LY Ra Sa) (hI : XI Ia) {f : Nat → Int} {N : Nat} (hN : Ia 8 1 = N) (hf : ∀ j, j < N → f j = Ia 9 j) {a : Int} (ha0 : 0 ≤ a) (ha1 : a < Ia 8 1)  : CT l0 1 0 0 mX7_stopOf [kR (some 10), kI a] Ia Ja Ra Sa (cI (fun x I' J' => Ia = I' ∧ Ja = J' ∧ (a < x ∧ x ≤ Ia 8 1) ∧ (48 ≤ Ia 9 a.toNat ∧ Ia 9 a.toNat ≤ 57 → ∀ j : Int, a ≤ j → j < x → 48 ≤ Ia 9 j.toNat ∧ Ia 9 j.toNat ≤ 57) ∧ x = (zSt f N a.toNat : Nat)) Ra Sa) := by
  refine ct_in pn_X7 (Nat.le_of_ble_eq_true rfl) (fun X hX hT hIn => ?_)
  have hX : aK l0 X cX7_stopOf 5 RX7 (some .int) 1 0 0 := hX
  change WW X 0 [some (kR (some 10)), some (kI a), none, none, none] [] Ia Ja Ra Sa 0 0
  obtain ⟨hn1, hn2⟩ := hI.1
  obtain ⟨hk1, hk2⟩ := hI.2.1
  obtain ⟨hf1, hf2⟩ := hI.fu
  obtain ⟨hl1, hl2⟩ := hI.2.2.2.2.2.2.1
  have hba := hI.2.2.2.2.2.2.2.2.2.2 a.toNat (by omega)
  refine ww_aload_n hX (pc := 0) dX7_stopOf_0 rfl ?_
  refine ww_getR hX (pc := 1) fX7_28 (by decide) (xs_10 hL) (xr_10_1 hL) dX7_stopOf_1 ?_
  refine ww_iload_n hX (pc := 4) dX7_stopOf_4 rfl ?_
  refine vI1 hX (pc := 5) sX7_139 (xs_8 hL) (c_X9_byteAt l0 hL hI (by omega) (by omega)) (by decide) (Nat.le_refl 0) (Nat.le_refl 0) (Nat.le_of_ble_eq_true rfl) dX7_stopOf_5 (fun x_5 I_5 J_5 h_5 => ?_)
  obtain ⟨rfl, rfl, h_5⟩ := h_5
  refine sI1 hX (pc := 8) sX7_142 (c_X7_isLetter l0 (by omega) (by omega)) (by decide) (Nat.le_refl 0) (Nat.le_refl 0) (Nat.le_of_ble_eq_true rfl) dX7_stopOf_8 (fun x_8 I_8 J_8 h_8 => ?_)
  obtain ⟨rfl, rfl, h_8⟩ := h_8
  refine ww_istore_n hX (pc := 11) (lv' := [some (kR (some 10)), some (kI a), some (kI x_8), none, none]) dX7_stopOf_11 (by decide) rfl rfl ?_
  refine ww_aload_n hX (pc := 12) dX7_stopOf_12 rfl ?_
  refine ww_getR hX (pc := 13) fX7_28 (by decide) (xs_10 hL) (xr_10_1 hL) dX7_stopOf_13 ?_
  refine ww_iload_n hX (pc := 16) dX7_stopOf_16 rfl ?_
  refine vI1 hX (pc := 17) sX7_139 (xs_8 hL) (c_X9_byteAt l0 hL hI (by omega) (by omega)) (by decide) (Nat.le_refl 0) (Nat.le_refl 0) (Nat.le_of_ble_eq_true rfl) dX7_stopOf_17 (fun x_17 I_17 J_17 h_17 => ?_)
  obtain ⟨rfl, rfl, h_17⟩ := h_17
  refine sI1 hX (pc := 20) sX7_145 (c_X7_isDigit l0 (by omega) (by omega)) (by decide) (Nat.le_refl 0) (Nat.le_refl 0) (Nat.le_of_ble_eq_true rfl) dX7_stopOf_20 (fun x_20 I_20 J_20 h_20 => ?_)
  obtain ⟨rfl, rfl, h_20⟩ := h_20
  refine ww_istore_n hX (pc := 23) (lv' := [some (kR (some 10)), some (kI a), some (kI x_8), some (kI x_20), none]) dX7_stopOf_23 (by decide) rfl rfl ?_
  refine ww_iload_n hX (pc := 24) dX7_stopOf_24 rfl ?_
  refine ww_iconst hX (pc := 25) (x := 1) dX7_stopOf_25 rfl ?_
  refine ww_iadd hX (pc := 26) dX7_stopOf_26 ?_
  refine ww_nmI (fun v_27 hv_27 => ?_)
  refine ww_istore hX (pc := 27) (lv' := [some (kR (some 10)), some (kI a), some (kI x_8), some (kI x_20), some (kI v_27)]) dX7_stopOf_27 (by decide) rfl rfl ?_
  have hl_29 : ∀ (n_29 : Nat) (q : Int), (Ia 8 1 - q).toNat = n_29 → ((a < q ∧ q ≤ Ia 8 1) ∧ zSW f N a.toNat q.toNat ∧ (48 ≤ Ia 9 a.toNat ∧ Ia 9 a.toNat ≤ 57 → ∀ j : Int, a ≤ j → j < q → 48 ≤ Ia 9 j.toNat ∧ Ia 9 j.toNat ≤ 57)) → WW X 29 [some (kR (some 10)), some (kI a), some (kI x_8), some (kI x_20), some (kI q)] [] Ia Ja Ra Sa 0 0 := by
    intro n_29
    induction n_29 using Nat.strongRecOn with
    | ind n_29 ih_29 =>
      intro q hm_29 hv_29
      obtain ⟨hq0, hsw, hdg⟩ := hv_29
      refine ww_iload hX (pc := 29) dX7_stopOf_29 rfl ?_
      refine ww_aload_n hX (pc := 31) dX7_stopOf_31 rfl ?_
      refine ww_getR hX (pc := 32) fX7_28 (by decide) (xs_10 hL) (xr_10_1 hL) dX7_stopOf_32 ?_
      refine ww_getI hX (pc := 35) fX7_128 (by decide) (xs_8 hL) dX7_stopOf_35 ?_
      refine ww_icmp_ge hX (pc := 38) (tgt := 85) dX7_stopOf_38 (by decide) (fun h_38 => ?_) (fun h_38 => ?_)
      · simp only [w32_mod] at h_38
        refine ww_iload hX (pc := 85) dX7_stopOf_85 rfl ?_
        refine rI hX (pc := 87) hT (Nat.le_refl 0) (Nat.le_refl 0) dX7_stopOf_87 ?_
        exact ⟨rfl, rfl, by omega, hdg, by have h9 := zSW_e hsw (fun h9 => absurd h9.1.1 (by omega)); omega⟩
      · simp only [w32_mod] at h_38
        have hbq := hI.2.2.2.2.2.2.2.2.2.2 q.toNat (by omega)
        refine ww_iload_n hX (pc := 41) dX7_stopOf_41 rfl ?_
        refine ww_if_eq hX (pc := 42) (tgt := 60) dX7_stopOf_42 (by decide) (fun h_42 => ?_) (fun h_42 => ?_)
        · simp only [w32_mod] at h_42
          refine ww_iload_n hX (pc := 60) dX7_stopOf_60 rfl ?_
          refine ww_if_eq hX (pc := 61) (tgt := 85) dX7_stopOf_61 (by decide) (fun h_61 => ?_) (fun h_61 => ?_)
          · simp only [w32_mod] at h_61
            refine ww_iload hX (pc := 85) dX7_stopOf_85 rfl ?_
            refine rI hX (pc := 87) hT (Nat.le_refl 0) (Nat.le_refl 0) dX7_stopOf_87 ?_
            exact ⟨rfl, rfl, by omega, hdg, by have h9 := zSW_e hsw (fun h9 => by have k1 := zKl_1 (x := f a.toNat); have k2 := zKl_2 (x := f a.toNat); have k3 := zKl_1 (x := f q.toNat); have k4 := zKl_2 (x := f q.toNat); have k5 := zKl_r (f a.toNat); have k6 := h9.1.2; have k7 := h9.2; rw [hf _ (by omega)] at k1 k2 k5 k6 k7; rw [hf _ (by omega)] at k3 k4 k6; omega); omega⟩
          · simp only [w32_mod] at h_61
            refine ww_aload_n hX (pc := 64) dX7_stopOf_64 rfl ?_
            refine ww_getR hX (pc := 65) fX7_28 (by decide) (xs_10 hL) (xr_10_1 hL) dX7_stopOf_65 ?_
            refine ww_iload hX (pc := 68) dX7_stopOf_68 rfl ?_
            refine vI1 hX (pc := 70) sX7_139 (xs_8 hL) (c_X9_byteAt l0 hL hI (by omega) (by omega)) (by decide) (Nat.le_refl 0) (Nat.le_refl 0) (Nat.le_of_ble_eq_true rfl) dX7_stopOf_70 (fun x_70 I_70 J_70 h_70 => ?_)
            obtain ⟨rfl, rfl, h_70⟩ := h_70
            refine sI1 hX (pc := 73) sX7_145 (c_X7_isDigit l0 (by omega) (by omega)) (by decide) (Nat.le_refl 0) (Nat.le_refl 0) (Nat.le_of_ble_eq_true rfl) dX7_stopOf_73 (fun x_73 I_73 J_73 h_73 => ?_)
            obtain ⟨rfl, rfl, h_73⟩ := h_73
            refine ww_if_eq hX (pc := 76) (tgt := 85) dX7_stopOf_76 (by decide) (fun h_76 => ?_) (fun h_76 => ?_)
            · simp only [w32_mod] at h_76
              refine ww_iload hX (pc := 85) dX7_stopOf_85 rfl ?_
              refine rI hX (pc := 87) hT (Nat.le_refl 0) (Nat.le_refl 0) dX7_stopOf_87 ?_
              exact ⟨rfl, rfl, by omega, hdg, by have h9 := zSW_e hsw (fun h9 => by have k1 := zKl_1 (x := f a.toNat); have k2 := zKl_2 (x := f a.toNat); have k3 := zKl_1 (x := f q.toNat); have k4 := zKl_2 (x := f q.toNat); have k5 := zKl_r (f a.toNat); have k6 := h9.1.2; have k7 := h9.2; rw [hf _ (by omega)] at k1 k2 k5 k6 k7; rw [hf _ (by omega)] at k3 k4 k6; omega); omega⟩
            · simp only [w32_mod] at h_76
              have k_73 := h_73.2.mp (by omega)
              clear h_73
              have hk0 : ¬ zKl (f a.toNat) = 0 := fun h9 => by have := (zKl_2 (x := f a.toNat)).mpr (by rw [hf _ (by omega)]; omega); omega
              have hk9 : zKl (f q.toNat) = zKl (f a.toNat) := by rw [(zKl_2 (x := f a.toNat)).mpr (by rw [hf _ (by omega)]; omega), (zKl_2 (x := f q.toNat)).mpr (by rw [hf _ (by omega)]; omega)]
              refine ww_iinc hX (pc := 79) (lv' := [some (kR (some 10)), some (kI a), some (kI x_8), some (kI x_20), some (kI (q + 1))]) dX7_stopOf_79 rfl (by decide) rfl rfl ?_
              refine ww_goto hX (pc := 82) (tgt := 29) dX7_stopOf_82 (by decide) ?_
              exact ih_29 _ (by omega) (q + 1) rfl ⟨⟨by omega, by omega⟩, (by rw [show (q + 1).toNat = q.toNat + 1 by omega]; exact zSW_s hsw (by omega) hk9 hk0), fun hd j h1 h2 => (if hj : j < q then hdg hd j h1 hj else (by rw [show j = q by omega]; omega))⟩
        · simp only [w32_mod] at h_42
          refine ww_aload_n hX (pc := 45) dX7_stopOf_45 rfl ?_
          refine ww_getR hX (pc := 46) fX7_28 (by decide) (xs_10 hL) (xr_10_1 hL) dX7_stopOf_46 ?_
          refine ww_iload hX (pc := 49) dX7_stopOf_49 rfl ?_
          refine vI1 hX (pc := 51) sX7_139 (xs_8 hL) (c_X9_byteAt l0 hL hI (by omega) (by omega)) (by decide) (Nat.le_refl 0) (Nat.le_refl 0) (Nat.le_of_ble_eq_true rfl) dX7_stopOf_51 (fun x_51 I_51 J_51 h_51 => ?_)
          obtain ⟨rfl, rfl, h_51⟩ := h_51
          refine sI1 hX (pc := 54) sX7_142 (c_X7_isLetter l0 (by omega) (by omega)) (by decide) (Nat.le_refl 0) (Nat.le_refl 0) (Nat.le_of_ble_eq_true rfl) dX7_stopOf_54 (fun x_54 I_54 J_54 h_54 => ?_)
          obtain ⟨rfl, rfl, h_54⟩ := h_54
          refine ww_if_ne hX (pc := 57) (tgt := 79) dX7_stopOf_57 (by decide) (fun h_57 => ?_) (fun h_57 => ?_)
          · simp only [w32_mod] at h_57
            have k_54 := h_54.2.mp (by omega)
            clear h_54
            have hk0 : ¬ zKl (f a.toNat) = 0 := fun h9 => by have := (zKl_1 (x := f a.toNat)).mpr (by rw [hf _ (by omega)]; omega); omega
            have hk9 : zKl (f q.toNat) = zKl (f a.toNat) := by rw [(zKl_1 (x := f a.toNat)).mpr (by rw [hf _ (by omega)]; omega), (zKl_1 (x := f q.toNat)).mpr (by rw [hf _ (by omega)]; omega)]
            refine ww_iinc hX (pc := 79) (lv' := [some (kR (some 10)), some (kI a), some (kI x_8), some (kI x_20), some (kI (q + 1))]) dX7_stopOf_79 rfl (by decide) rfl rfl ?_
            refine ww_goto hX (pc := 82) (tgt := 29) dX7_stopOf_82 (by decide) ?_
            exact ih_29 _ (by omega) (q + 1) rfl ⟨⟨by omega, by omega⟩, (by rw [show (q + 1).toNat = q.toNat + 1 by omega]; exact zSW_s hsw (by omega) hk9 hk0), fun hd j h1 h2 => (if hj : j < q then hdg hd j h1 hj else (by rw [show j = q by omega]; omega))⟩
          · simp only [w32_mod] at h_57
            refine ww_iload_n hX (pc := 60) dX7_stopOf_60 rfl ?_
            refine ww_if_eq hX (pc := 61) (tgt := 85) dX7_stopOf_61 (by decide) (fun h_61 => ?_) (fun h_61 => ?_)
            · simp only [w32_mod] at h_61
              refine ww_iload hX (pc := 85) dX7_stopOf_85 rfl ?_
              refine rI hX (pc := 87) hT (Nat.le_refl 0) (Nat.le_refl 0) dX7_stopOf_87 ?_
              exact ⟨rfl, rfl, by omega, hdg, by have h9 := zSW_e hsw (fun h9 => by have k1 := zKl_1 (x := f a.toNat); have k2 := zKl_2 (x := f a.toNat); have k3 := zKl_1 (x := f q.toNat); have k4 := zKl_2 (x := f q.toNat); have k5 := zKl_r (f a.toNat); have k6 := h9.1.2; have k7 := h9.2; rw [hf _ (by omega)] at k1 k2 k5 k6 k7; rw [hf _ (by omega)] at k3 k4 k6; omega); omega⟩
            · simp only [w32_mod] at h_61
              refine ww_aload_n hX (pc := 64) dX7_stopOf_64 rfl ?_
              refine ww_getR hX (pc := 65) fX7_28 (by decide) (xs_10 hL) (xr_10_1 hL) dX7_stopOf_65 ?_
              refine ww_iload hX (pc := 68) dX7_stopOf_68 rfl ?_
              refine vI1 hX (pc := 70) sX7_139 (xs_8 hL) (c_X9_byteAt l0 hL hI (by omega) (by omega)) (by decide) (Nat.le_refl 0) (Nat.le_refl 0) (Nat.le_of_ble_eq_true rfl) dX7_stopOf_70 (fun x_70 I_70 J_70 h_70 => ?_)
              obtain ⟨rfl, rfl, h_70⟩ := h_70
              refine sI1 hX (pc := 73) sX7_145 (c_X7_isDigit l0 (by omega) (by omega)) (by decide) (Nat.le_refl 0) (Nat.le_refl 0) (Nat.le_of_ble_eq_true rfl) dX7_stopOf_73 (fun x_73 I_73 J_73 h_73 => ?_)
              obtain ⟨rfl, rfl, h_73⟩ := h_73
              refine ww_if_eq hX (pc := 76) (tgt := 85) dX7_stopOf_76 (by decide) (fun h_76 => ?_) (fun h_76 => ?_)
              · simp only [w32_mod] at h_76
                refine ww_iload hX (pc := 85) dX7_stopOf_85 rfl ?_
                refine rI hX (pc := 87) hT (Nat.le_refl 0) (Nat.le_refl 0) dX7_stopOf_87 ?_
                exact ⟨rfl, rfl, by omega, hdg, by have h9 := zSW_e hsw (fun h9 => by have k1 := zKl_1 (x := f a.toNat); have k2 := zKl_2 (x := f a.toNat); have k3 := zKl_1 (x := f q.toNat); have k4 := zKl_2 (x := f q.toNat); have k5 := zKl_r (f a.toNat); have k6 := h9.1.2; have k7 := h9.2; rw [hf _ (by omega)] at k1 k2 k5 k6 k7; rw [hf _ (by omega)] at k3 k4 k6; omega); omega⟩
              · simp only [w32_mod] at h_76
                have k_73 := h_73.2.mp (by omega)
                clear h_73
                have hk0 : ¬ zKl (f a.toNat) = 0 := fun h9 => by have := (zKl_2 (x := f a.toNat)).mpr (by rw [hf _ (by omega)]; omega); omega
                have hk9 : zKl (f q.toNat) = zKl (f a.toNat) := by rw [(zKl_2 (x := f a.toNat)).mpr (by rw [hf _ (by omega)]; omega), (zKl_2 (x := f q.toNat)).mpr (by rw [hf _ (by omega)]; omega)]
                refine ww_iinc hX (pc := 79) (lv' := [some (kR (some 10)), some (kI a), some (kI x_8), some (kI x_20), some (kI (q + 1))]) dX7_stopOf_79 rfl (by decide) rfl rfl ?_
                refine ww_goto hX (pc := 82) (tgt := 29) dX7_stopOf_82 (by decide) ?_
                exact ih_29 _ (by omega) (q + 1) rfl ⟨⟨by omega, by omega⟩, (by rw [show (q + 1).toNat = q.toNat + 1 by omega]; exact zSW_s hsw (by omega) hk9 hk0), fun hd j h1 h2 => (if hj : j < q then hdg hd j h1 hj else (by rw [show j = q by omega]; omega))⟩
  exact hl_29 _ v_27 rfl ⟨by omega, (by rw [show v_27.toNat = a.toNat + 1 by omega]; exact zSW_0), fun hd j h1 h2 => (by rw [show j = a by omega]; exact hd)⟩
set_option maxHeartbeats 4000000 in
set_option maxRecDepth 20000 in
theorem c6_X7_numberAt (l0 : Launch) {Ia Ja : aI1} {Ra : aR1} {Sa : aS1} (hL : LY Ra Sa) (hI : XI Ia) {f : Nat → Int} {N : Nat} (hN : Ia 8 1 = N) (hf : ∀ j, j < N → f j = Ia 9 j) {a b : Int} (ha0 : 0 ≤ a) (hab : a ≤ b) (hb : b ≤ Ia 8 1) (hdg : ∀ j : Int, a ≤ j → j < b → 48 ≤ Ia 9 j.toNat ∧ Ia 9 j.toNat ≤ 57)  : CT l0 1 0 0 mX7_numberAt [kR (some 10), kI a, kI b] Ia Ja Ra Sa (cI (fun x I' J' => Ia = I' ∧ Ja = J' ∧ (0 ≤ x ∧ x ≤ 1001) ∧ x = min (zNu f a.toNat (b.toNat - a.toNat)) 1001) Ra Sa) := by
  refine ct_in pn_X7 (Nat.le_of_ble_eq_true rfl) (fun X hX hT hIn => ?_)
  have hX : aK l0 X cX7_numberAt 5 RX7 (some .int) 1 0 0 := hX
  change WW X 0 [some (kR (some 10)), some (kI a), some (kI b), none, none] [] Ia Ja Ra Sa 0 0
  obtain ⟨hn1, hn2⟩ := hI.1
  obtain ⟨hk1, hk2⟩ := hI.2.1
  obtain ⟨hf1, hf2⟩ := hI.fu
  obtain ⟨hl1, hl2⟩ := hI.2.2.2.2.2.2.1
  have hd9 : ∀ i : Nat, i < b.toNat - a.toNat → 48 ≤ f (a.toNat + i) ∧ f (a.toNat + i) ≤ 57 := fun i hi => by
    have h9 := hdg (a + i) (by omega) (by omega)
    rw [hf _ (by omega), show a.toNat + i = (a + i).toNat by omega]
    exact h9
  refine ww_iconst hX (pc := 0) (x := 0) dX7_numberAt_0 rfl ?_
  refine ww_istore_n hX (pc := 1) (lv' := [some (kR (some 10)), some (kI a), some (kI b), some (kI 0), none]) dX7_numberAt_1 (by decide) rfl rfl ?_
  refine ww_iload_n hX (pc := 2) dX7_numberAt_2 rfl ?_
  refine ww_istore hX (pc := 3) (lv' := [some (kR (some 10)), some (kI a), some (kI b), some (kI 0), some (kI a)]) dX7_numberAt_3 (by decide) rfl rfl ?_
  have hl_5 : ∀ (n_5 : Nat) (nb : Int) (q : Int), (b - q).toNat = n_5 → ((a ≤ q ∧ q ≤ b) ∧ (0 ≤ nb ∧ nb ≤ 1001) ∧ nb = min (zNu f a.toNat (q.toNat - a.toNat)) 1001) → WW X 5 [some (kR (some 10)), some (kI a), some (kI b), some (kI nb), some (kI q)] [] Ia Ja Ra Sa 0 0 := by
    intro n_5
    induction n_5 using Nat.strongRecOn with
    | ind n_5 ih_5 =>
      intro nb q hm_5 hv_5
      obtain ⟨hq0, hnb, hz9⟩ := hv_5
      refine ww_iload hX (pc := 5) dX7_numberAt_5 rfl ?_
      refine ww_iload_n hX (pc := 7) dX7_numberAt_7 rfl ?_
      refine ww_icmp_ge hX (pc := 8) (tgt := 41) dX7_numberAt_8 (by decide) (fun h_8 => ?_) (fun h_8 => ?_)
      · simp only [w32_mod] at h_8
        refine ww_iload_n hX (pc := 41) dX7_numberAt_41 rfl ?_
        refine rI hX (pc := 42) hT (Nat.le_refl 0) (Nat.le_refl 0) dX7_numberAt_42 ?_
        exact ⟨rfl, rfl, by omega, by rw [hz9, show q = b by omega]⟩
      · simp only [w32_mod] at h_8
        have hd1 := hdg q (by omega) (by omega)
        have hz8 := zNu_m (f := f) (a := a.toNat) (m := q.toNat - a.toNat) (fun i hi => hd9 i (by omega))
        rw [show a.toNat + (q.toNat - a.toNat) = q.toNat by omega, hf q.toNat (by omega), ← hz9] at hz8
        refine ww_iload_n hX (pc := 11) dX7_numberAt_11 rfl ?_
        refine ww_bipush hX (pc := 12) (x := 10) dX7_numberAt_12 (by decide) ?_
        refine ww_imul hX (pc := 14) dX7_numberAt_14 ?_
        refine ww_aload_n hX (pc := 15) dX7_numberAt_15 rfl ?_
        refine ww_getR hX (pc := 16) fX7_28 (by decide) (xs_10 hL) (xr_10_1 hL) dX7_numberAt_16 ?_
        refine ww_iload hX (pc := 19) dX7_numberAt_19 rfl ?_
        refine vI1 hX (pc := 21) sX7_139 (xs_8 hL) (c_X9_byteAt l0 hL hI (by omega) (by omega)) (by decide) (Nat.le_refl 0) (Nat.le_refl 0) (Nat.le_of_ble_eq_true rfl) dX7_numberAt_21 (fun x_21 I_21 J_21 h_21 => ?_)
        obtain ⟨rfl, rfl, h_21⟩ := h_21
        refine ww_iadd hX (pc := 24) dX7_numberAt_24 ?_
        refine ww_bipush hX (pc := 25) (x := 48) dX7_numberAt_25 (by decide) ?_
        refine ww_isub hX (pc := 27) dX7_numberAt_27 ?_
        refine ww_sipush hX (pc := 28) (x := 1001) dX7_numberAt_28 (by decide) ?_
        refine ww_mmin hX (pc := 31) tb_578 tb_579 tb_13 tb_580 (by decide) (Nat.le_refl 0) (Nat.le_refl 0) (Nat.le_of_ble_eq_true rfl) dX7_numberAt_31 ?_
        refine ww_nmI (fun v_34 hv_34 => ?_)
        refine ww_istore_n hX (pc := 34) (lv' := [some (kR (some 10)), some (kI a), some (kI b), some (kI v_34), some (kI q)]) dX7_numberAt_34 (by decide) rfl rfl ?_
        rw [i_min_r (by omega) (by omega) (by omega) (by omega)] at hv_34
        have hz7 : v_34 = min (zNu f a.toNat ((q + 1).toNat - a.toNat)) 1001 := by
          rw [show (q + 1).toNat - a.toNat = q.toNat - a.toNat + 1 by omega, hz8]
          omega
        refine ww_iinc hX (pc := 35) (lv' := [some (kR (some 10)), some (kI a), some (kI b), some (kI v_34), some (kI (q + 1))]) dX7_numberAt_35 rfl (by decide) rfl rfl ?_
        refine ww_goto hX (pc := 38) (tgt := 5) dX7_numberAt_38 (by decide) ?_
        exact ih_5 _ (by omega) v_34 (q + 1) rfl ⟨by omega, by omega, hz7⟩
  exact hl_5 _ 0 a rfl ⟨by omega, by omega, by rw [Nat.sub_self]; rfl⟩
set_option maxHeartbeats 4000000 in
set_option maxRecDepth 20000 in
theorem c6_X7_partKind (l0 : Launch) {Ia Ja : aI1} {Ra : aR1} {Sa : aS1} (hL : LY Ra Sa) (hI : XI Ia) {f : Nat → Int} {N : Nat} (hN : Ia 8 1 = N) (hf : ∀ j, j < N → f j = Ia 9 j) {a b : Int} (ha0 : 0 ≤ a) (hab : a ≤ b) (hb : b ≤ Ia 8 1) (n5 : zWn f a.toNat b.toNat 5)  : CT l0 5 0 0 mX7_partKind [kR (some 10), kI a, kI b] Ia Ja Ra Sa (cI (fun x I' J' => Ia = I' ∧ Ja = J' ∧ (-8 ≤ x ∧ x ≤ 262) ∧ ((zWc f a.toNat b.toNat = 0 ∧ x = 257) ∨ (1 ≤ zWc f a.toNat b.toNat ∧ zWc f a.toNat b.toNat ≤ 5 ∧ x = 257 + zWc f a.toNat b.toNat) ∨ (6 ≤ zWc f a.toNat b.toNat ∧ x = 5 - zWc f a.toNat b.toNat))) Ra Sa) := by
  refine ct_in pn_X7 (Nat.le_of_ble_eq_true rfl) (fun X hX hT hIn => ?_)
  have hX : aK l0 X cX7_partKind 3 RX7 (some .int) 5 0 0 := hX
  change WW X 0 [some (kR (some 10)), some (kI a), some (kI b)] [] Ia Ja Ra Sa 0 0
  obtain ⟨hn1, hn2⟩ := hI.1
  obtain ⟨hk1, hk2⟩ := hI.2.1
  obtain ⟨hf1, hf2⟩ := hI.fu
  obtain ⟨hl1, hl2⟩ := hI.2.2.2.2.2.2.1
  refine ww_aload_n hX (pc := 0) dX7_partKind_0 rfl ?_
  refine ww_getR hX (pc := 1) fX7_28 (by decide) (xs_10 hL) (xr_10_1 hL) dX7_partKind_1 ?_
  refine ww_ldcS hX (pc := 4) (n := 5) (tx := "state") dX7_partKind_4 rfl ?_
  refine ww_iload_n hX (pc := 6) dX7_partKind_6 rfl ?_
  refine ww_iload_n hX (pc := 7) dX7_partKind_7 rfl ?_
  refine vI3 hX (pc := 8) sX7_156 (xs_8 hL) (c6_X9_spells l0 hL hI hN hf (n := 5) (by decide) (by omega) (by omega) (by omega)) (by decide) (Nat.le_refl 0) (Nat.le_refl 0) (Nat.le_of_ble_eq_true rfl) dX7_partKind_8 (fun x_8 I_8 J_8 h_8 => ?_)
  obtain ⟨rfl, rfl, h_8⟩ := h_8
  refine ww_if_eq hX (pc := 11) (tgt := 16) dX7_partKind_11 (by decide) (fun h_11 => ?_) (fun h_11 => ?_)
  · simp only [w32_mod] at h_11
    have n6 := zWn_s n5 (fun h9 => by have := h_8.2.mpr h9; omega)
    refine ww_aload_n hX (pc := 16) dX7_partKind_16 rfl ?_
    refine ww_getR hX (pc := 17) fX7_28 (by decide) (xs_10 hL) (xr_10_1 hL) dX7_partKind_17 ?_
    refine ww_ldcS hX (pc := 20) (n := 6) (tx := "lit") dX7_partKind_20 rfl ?_
    refine ww_iload_n hX (pc := 22) dX7_partKind_22 rfl ?_
    refine ww_iload_n hX (pc := 23) dX7_partKind_23 rfl ?_
    refine vI3 hX (pc := 24) sX7_156 (xs_8 hL) (c6_X9_spells l0 hL hI hN hf (n := 6) (by decide) (by omega) (by omega) (by omega)) (by decide) (Nat.le_refl 0) (Nat.le_refl 0) (Nat.le_of_ble_eq_true rfl) dX7_partKind_24 (fun x_24 I_24 J_24 h_24 => ?_)
    obtain ⟨rfl, rfl, h_24⟩ := h_24
    refine ww_if_eq hX (pc := 27) (tgt := 33) dX7_partKind_27 (by decide) (fun h_27 => ?_) (fun h_27 => ?_)
    · simp only [w32_mod] at h_27
      have n7 := zWn_s n6 (fun h9 => by have := h_24.2.mpr h9; omega)
      refine ww_aload_n hX (pc := 33) dX7_partKind_33 rfl ?_
      refine ww_getR hX (pc := 34) fX7_28 (by decide) (xs_10 hL) (xr_10_1 hL) dX7_partKind_34 ?_
      refine ww_ldcS hX (pc := 37) (n := 7) (tx := "sum") dX7_partKind_37 rfl ?_
      refine ww_iload_n hX (pc := 39) dX7_partKind_39 rfl ?_
      refine ww_iload_n hX (pc := 40) dX7_partKind_40 rfl ?_
      refine vI3 hX (pc := 41) sX7_156 (xs_8 hL) (c6_X9_spells l0 hL hI hN hf (n := 7) (by decide) (by omega) (by omega) (by omega)) (by decide) (Nat.le_refl 0) (Nat.le_refl 0) (Nat.le_of_ble_eq_true rfl) dX7_partKind_41 (fun x_41 I_41 J_41 h_41 => ?_)
      obtain ⟨rfl, rfl, h_41⟩ := h_41
      refine ww_if_eq hX (pc := 44) (tgt := 50) dX7_partKind_44 (by decide) (fun h_44 => ?_) (fun h_44 => ?_)
      · simp only [w32_mod] at h_44
        have n8 := zWn_s n7 (fun h9 => by have := h_41.2.mpr h9; omega)
        refine ww_aload_n hX (pc := 50) dX7_partKind_50 rfl ?_
        refine ww_getR hX (pc := 51) fX7_28 (by decide) (xs_10 hL) (xr_10_1 hL) dX7_partKind_51 ?_
        refine ww_ldcS hX (pc := 54) (n := 8) (tx := "mix") dX7_partKind_54 rfl ?_
        refine ww_iload_n hX (pc := 56) dX7_partKind_56 rfl ?_
        refine ww_iload_n hX (pc := 57) dX7_partKind_57 rfl ?_
        refine vI3 hX (pc := 58) sX7_156 (xs_8 hL) (c6_X9_spells l0 hL hI hN hf (n := 8) (by decide) (by omega) (by omega) (by omega)) (by decide) (Nat.le_refl 0) (Nat.le_refl 0) (Nat.le_of_ble_eq_true rfl) dX7_partKind_58 (fun x_58 I_58 J_58 h_58 => ?_)
        obtain ⟨rfl, rfl, h_58⟩ := h_58
        refine ww_if_eq hX (pc := 61) (tgt := 67) dX7_partKind_61 (by decide) (fun h_61 => ?_) (fun h_61 => ?_)
        · simp only [w32_mod] at h_61
          have n9 := zWn_s n8 (fun h9 => by have := h_58.2.mpr h9; omega)
          refine ww_aload_n hX (pc := 67) dX7_partKind_67 rfl ?_
          refine ww_getR hX (pc := 68) fX7_28 (by decide) (xs_10 hL) (xr_10_1 hL) dX7_partKind_68 ?_
          refine ww_ldcS hX (pc := 71) (n := 9) (tx := "first") dX7_partKind_71 rfl ?_
          refine ww_iload_n hX (pc := 73) dX7_partKind_73 rfl ?_
          refine ww_iload_n hX (pc := 74) dX7_partKind_74 rfl ?_
          refine vI3 hX (pc := 75) sX7_156 (xs_8 hL) (c6_X9_spells l0 hL hI hN hf (n := 9) (by decide) (by omega) (by omega) (by omega)) (by decide) (Nat.le_refl 0) (Nat.le_refl 0) (Nat.le_of_ble_eq_true rfl) dX7_partKind_75 (fun x_75 I_75 J_75 h_75 => ?_)
          obtain ⟨rfl, rfl, h_75⟩ := h_75
          refine ww_if_eq hX (pc := 78) (tgt := 84) dX7_partKind_78 (by decide) (fun h_78 => ?_) (fun h_78 => ?_)
          · simp only [w32_mod] at h_78
            have n10 := zWn_s n9 (fun h9 => by have := h_75.2.mpr h9; omega)
            refine ww_aload_n hX (pc := 84) dX7_partKind_84 rfl ?_
            refine ww_getR hX (pc := 85) fX7_28 (by decide) (xs_10 hL) (xr_10_1 hL) dX7_partKind_85 ?_
            refine ww_ldcS hX (pc := 88) (n := 10) (tx := "last") dX7_partKind_88 rfl ?_
            refine ww_iload_n hX (pc := 90) dX7_partKind_90 rfl ?_
            refine ww_iload_n hX (pc := 91) dX7_partKind_91 rfl ?_
            refine vI3 hX (pc := 92) sX7_156 (xs_8 hL) (c6_X9_spells l0 hL hI hN hf (n := 10) (by decide) (by omega) (by omega) (by omega)) (by decide) (Nat.le_refl 0) (Nat.le_refl 0) (Nat.le_of_ble_eq_true rfl) dX7_partKind_92 (fun x_92 I_92 J_92 h_92 => ?_)
            obtain ⟨rfl, rfl, h_92⟩ := h_92
            refine ww_if_eq hX (pc := 95) (tgt := 101) dX7_partKind_95 (by decide) (fun h_95 => ?_) (fun h_95 => ?_)
            · simp only [w32_mod] at h_95
              have n11 := zWn_s n10 (fun h9 => by have := h_92.2.mpr h9; omega)
              refine ww_aload_n hX (pc := 101) dX7_partKind_101 rfl ?_
              refine ww_getR hX (pc := 102) fX7_28 (by decide) (xs_10 hL) (xr_10_1 hL) dX7_partKind_102 ?_
              refine ww_ldcS hX (pc := 105) (n := 11) (tx := "lamps") dX7_partKind_105 rfl ?_
              refine ww_iload_n hX (pc := 107) dX7_partKind_107 rfl ?_
              refine ww_iload_n hX (pc := 108) dX7_partKind_108 rfl ?_
              refine vI3 hX (pc := 109) sX7_156 (xs_8 hL) (c6_X9_spells l0 hL hI hN hf (n := 11) (by decide) (by omega) (by omega) (by omega)) (by decide) (Nat.le_refl 0) (Nat.le_refl 0) (Nat.le_of_ble_eq_true rfl) dX7_partKind_109 (fun x_109 I_109 J_109 h_109 => ?_)
              obtain ⟨rfl, rfl, h_109⟩ := h_109
              refine ww_if_eq hX (pc := 112) (tgt := 118) dX7_partKind_112 (by decide) (fun h_112 => ?_) (fun h_112 => ?_)
              · simp only [w32_mod] at h_112
                have n12 := zWn_s n11 (fun h9 => by have := h_109.2.mpr h9; omega)
                refine ww_aload_n hX (pc := 118) dX7_partKind_118 rfl ?_
                refine ww_getR hX (pc := 119) fX7_28 (by decide) (xs_10 hL) (xr_10_1 hL) dX7_partKind_119 ?_
                refine ww_ldcS hX (pc := 122) (n := 12) (tx := "news") dX7_partKind_122 rfl ?_
                refine ww_iload_n hX (pc := 124) dX7_partKind_124 rfl ?_
                refine ww_iload_n hX (pc := 125) dX7_partKind_125 rfl ?_
                refine vI3 hX (pc := 126) sX7_156 (xs_8 hL) (c6_X9_spells l0 hL hI hN hf (n := 12) (by decide) (by omega) (by omega) (by omega)) (by decide) (Nat.le_refl 0) (Nat.le_refl 0) (Nat.le_of_ble_eq_true rfl) dX7_partKind_126 (fun x_126 I_126 J_126 h_126 => ?_)
                obtain ⟨rfl, rfl, h_126⟩ := h_126
                refine ww_if_eq hX (pc := 129) (tgt := 135) dX7_partKind_129 (by decide) (fun h_129 => ?_) (fun h_129 => ?_)
                · simp only [w32_mod] at h_129
                  have n13 := zWn_s n12 (fun h9 => by have := h_126.2.mpr h9; omega)
                  refine ww_sipush hX (pc := 135) (x := 257) dX7_partKind_135 (by decide) ?_
                  refine rI hX (pc := 138) hT (Nat.le_refl 0) (Nat.le_refl 0) dX7_partKind_138 ?_
                  exact ⟨rfl, rfl, by omega, by have w9 := zWc_no n13; omega⟩
                · simp only [w32_mod] at h_129
                  have w9 := zWc_at n12 (by decide) (h_126.2.mp (by omega))
                  refine ww_bipush hX (pc := 132) (x := (-8)) dX7_partKind_132 (by decide) ?_
                  refine rI hX (pc := 134) hT (Nat.le_refl 0) (Nat.le_refl 0) dX7_partKind_134 ?_
                  exact ⟨rfl, rfl, by omega, by omega⟩
              · simp only [w32_mod] at h_112
                have w9 := zWc_at n11 (by decide) (h_109.2.mp (by omega))
                refine ww_bipush hX (pc := 115) (x := (-7)) dX7_partKind_115 (by decide) ?_
                refine rI hX (pc := 117) hT (Nat.le_refl 0) (Nat.le_refl 0) dX7_partKind_117 ?_
                exact ⟨rfl, rfl, by omega, by omega⟩
            · simp only [w32_mod] at h_95
              have w9 := zWc_at n10 (by decide) (h_92.2.mp (by omega))
              refine ww_bipush hX (pc := 98) (x := (-6)) dX7_partKind_98 (by decide) ?_
              refine rI hX (pc := 100) hT (Nat.le_refl 0) (Nat.le_refl 0) dX7_partKind_100 ?_
              exact ⟨rfl, rfl, by omega, by omega⟩
          · simp only [w32_mod] at h_78
            have w9 := zWc_at n9 (by decide) (h_75.2.mp (by omega))
            refine ww_bipush hX (pc := 81) (x := (-5)) dX7_partKind_81 (by decide) ?_
            refine rI hX (pc := 83) hT (Nat.le_refl 0) (Nat.le_refl 0) dX7_partKind_83 ?_
            exact ⟨rfl, rfl, by omega, by omega⟩
        · simp only [w32_mod] at h_61
          have w9 := zWc_at n8 (by decide) (h_58.2.mp (by omega))
          refine ww_bipush hX (pc := 64) (x := (-4)) dX7_partKind_64 (by decide) ?_
          refine rI hX (pc := 66) hT (Nat.le_refl 0) (Nat.le_refl 0) dX7_partKind_66 ?_
          exact ⟨rfl, rfl, by omega, by omega⟩
      · simp only [w32_mod] at h_44
        have w9 := zWc_at n7 (by decide) (h_41.2.mp (by omega))
        refine ww_bipush hX (pc := 47) (x := (-3)) dX7_partKind_47 (by decide) ?_
        refine rI hX (pc := 49) hT (Nat.le_refl 0) (Nat.le_refl 0) dX7_partKind_49 ?_
        exact ⟨rfl, rfl, by omega, by omega⟩
    · simp only [w32_mod] at h_27
      have w9 := zWc_at n6 (by decide) (h_24.2.mp (by omega))
      refine ww_bipush hX (pc := 30) (x := (-2)) dX7_partKind_30 (by decide) ?_
      refine rI hX (pc := 32) hT (Nat.le_refl 0) (Nat.le_refl 0) dX7_partKind_32 ?_
      exact ⟨rfl, rfl, by omega, by omega⟩
  · simp only [w32_mod] at h_11
    have w9 := zWc_at n5 (by decide) (h_8.2.mp (by omega))
    refine ww_iconst hX (pc := 14) (x := (-1)) dX7_partKind_14 rfl ?_
    refine rI hX (pc := 15) hT (Nat.le_refl 0) (Nat.le_refl 0) dX7_partKind_15 ?_
    exact ⟨rfl, rfl, by omega, by omega⟩
set_option maxHeartbeats 4000000 in
set_option maxRecDepth 20000 in
theorem c6_X7_wordKind (l0 : Launch) {Ia Ja : aI1} {Ra : aR1} {Sa : aS1} (hL : LY Ra Sa) (hI : XI Ia) {f : Nat → Int} {N : Nat} (hN : Ia 8 1 = N) (hf : ∀ j, j < N → f j = Ia 9 j) {a b : Int} (ha0 : 0 ≤ a) (hab : a ≤ b) (hb : b ≤ Ia 8 1)  : CT l0 6 0 0 mX7_wordKind [kR (some 10), kI a, kI b] Ia Ja Ra Sa (cI (fun x I' J' => Ia = I' ∧ Ja = J' ∧ (-8 ≤ x ∧ x ≤ 262) ∧ ((zWc f a.toNat b.toNat = 0 ∧ x = 257) ∨ (1 ≤ zWc f a.toNat b.toNat ∧ zWc f a.toNat b.toNat ≤ 5 ∧ x = 257 + zWc f a.toNat b.toNat) ∨ (6 ≤ zWc f a.toNat b.toNat ∧ x = 5 - zWc f a.toNat b.toNat))) Ra Sa) := by
  refine ct_in pn_X7 (Nat.le_of_ble_eq_true rfl) (fun X hX hT hIn => ?_)
  have hX : aK l0 X cX7_wordKind 3 RX7 (some .int) 6 0 0 := hX
  change WW X 0 [some (kR (some 10)), some (kI a), some (kI b)] [] Ia Ja Ra Sa 0 0
  obtain ⟨hn1, hn2⟩ := hI.1
  obtain ⟨hk1, hk2⟩ := hI.2.1
  obtain ⟨hf1, hf2⟩ := hI.fu
  obtain ⟨hl1, hl2⟩ := hI.2.2.2.2.2.2.1
  have n0 : zWn f a.toNat b.toNat 0 := zWn_0
  refine ww_aload_n hX (pc := 0) dX7_wordKind_0 rfl ?_
  refine ww_getR hX (pc := 1) fX7_28 (by decide) (xs_10 hL) (xr_10_1 hL) dX7_wordKind_1 ?_
  refine ww_ldcS hX (pc := 4) (n := 0) (tx := "reads") dX7_wordKind_4 rfl ?_
  refine ww_iload_n hX (pc := 6) dX7_wordKind_6 rfl ?_
  refine ww_iload_n hX (pc := 7) dX7_wordKind_7 rfl ?_
  refine vI3 hX (pc := 8) sX7_156 (xs_8 hL) (c6_X9_spells l0 hL hI hN hf (n := 0) (by decide) (by omega) (by omega) (by omega)) (by decide) (Nat.le_refl 0) (Nat.le_refl 0) (Nat.le_of_ble_eq_true rfl) dX7_wordKind_8 (fun x_8 I_8 J_8 h_8 => ?_)
  obtain ⟨rfl, rfl, h_8⟩ := h_8
  refine ww_if_eq hX (pc := 11) (tgt := 18) dX7_wordKind_11 (by decide) (fun h_11 => ?_) (fun h_11 => ?_)
  · simp only [w32_mod] at h_11
    have n1 := zWn_s n0 (fun h9 => by have := h_8.2.mpr h9; omega)
    refine ww_aload_n hX (pc := 18) dX7_wordKind_18 rfl ?_
    refine ww_getR hX (pc := 19) fX7_28 (by decide) (xs_10 hL) (xr_10_1 hL) dX7_wordKind_19 ?_
    refine ww_ldcS hX (pc := 22) (n := 1) (tx := "if") dX7_wordKind_22 rfl ?_
    refine ww_iload_n hX (pc := 24) dX7_wordKind_24 rfl ?_
    refine ww_iload_n hX (pc := 25) dX7_wordKind_25 rfl ?_
    refine vI3 hX (pc := 26) sX7_156 (xs_8 hL) (c6_X9_spells l0 hL hI hN hf (n := 1) (by decide) (by omega) (by omega) (by omega)) (by decide) (Nat.le_refl 0) (Nat.le_refl 0) (Nat.le_of_ble_eq_true rfl) dX7_wordKind_26 (fun x_26 I_26 J_26 h_26 => ?_)
    obtain ⟨rfl, rfl, h_26⟩ := h_26
    refine ww_if_eq hX (pc := 29) (tgt := 36) dX7_wordKind_29 (by decide) (fun h_29 => ?_) (fun h_29 => ?_)
    · simp only [w32_mod] at h_29
      have n2 := zWn_s n1 (fun h9 => by have := h_26.2.mpr h9; omega)
      refine ww_aload_n hX (pc := 36) dX7_wordKind_36 rfl ?_
      refine ww_getR hX (pc := 37) fX7_28 (by decide) (xs_10 hL) (xr_10_1 hL) dX7_wordKind_37 ?_
      refine ww_ldcS hX (pc := 40) (n := 2) (tx := "or") dX7_wordKind_40 rfl ?_
      refine ww_iload_n hX (pc := 42) dX7_wordKind_42 rfl ?_
      refine ww_iload_n hX (pc := 43) dX7_wordKind_43 rfl ?_
      refine vI3 hX (pc := 44) sX7_156 (xs_8 hL) (c6_X9_spells l0 hL hI hN hf (n := 2) (by decide) (by omega) (by omega) (by omega)) (by decide) (Nat.le_refl 0) (Nat.le_refl 0) (Nat.le_of_ble_eq_true rfl) dX7_wordKind_44 (fun x_44 I_44 J_44 h_44 => ?_)
      obtain ⟨rfl, rfl, h_44⟩ := h_44
      refine ww_if_eq hX (pc := 47) (tgt := 54) dX7_wordKind_47 (by decide) (fun h_47 => ?_) (fun h_47 => ?_)
      · simp only [w32_mod] at h_47
        have n3 := zWn_s n2 (fun h9 => by have := h_44.2.mpr h9; omega)
        refine ww_aload_n hX (pc := 54) dX7_wordKind_54 rfl ?_
        refine ww_getR hX (pc := 55) fX7_28 (by decide) (xs_10 hL) (xr_10_1 hL) dX7_wordKind_55 ?_
        refine ww_ldcS hX (pc := 58) (n := 3) (tx := "and") dX7_wordKind_58 rfl ?_
        refine ww_iload_n hX (pc := 60) dX7_wordKind_60 rfl ?_
        refine ww_iload_n hX (pc := 61) dX7_wordKind_61 rfl ?_
        refine vI3 hX (pc := 62) sX7_156 (xs_8 hL) (c6_X9_spells l0 hL hI hN hf (n := 3) (by decide) (by omega) (by omega) (by omega)) (by decide) (Nat.le_refl 0) (Nat.le_refl 0) (Nat.le_of_ble_eq_true rfl) dX7_wordKind_62 (fun x_62 I_62 J_62 h_62 => ?_)
        obtain ⟨rfl, rfl, h_62⟩ := h_62
        refine ww_if_eq hX (pc := 65) (tgt := 72) dX7_wordKind_65 (by decide) (fun h_65 => ?_) (fun h_65 => ?_)
        · simp only [w32_mod] at h_65
          have n4 := zWn_s n3 (fun h9 => by have := h_62.2.mpr h9; omega)
          refine ww_aload_n hX (pc := 72) dX7_wordKind_72 rfl ?_
          refine ww_getR hX (pc := 73) fX7_28 (by decide) (xs_10 hL) (xr_10_1 hL) dX7_wordKind_73 ?_
          refine ww_ldcS hX (pc := 76) (n := 4) (tx := "not") dX7_wordKind_76 rfl ?_
          refine ww_iload_n hX (pc := 78) dX7_wordKind_78 rfl ?_
          refine ww_iload_n hX (pc := 79) dX7_wordKind_79 rfl ?_
          refine vI3 hX (pc := 80) sX7_156 (xs_8 hL) (c6_X9_spells l0 hL hI hN hf (n := 4) (by decide) (by omega) (by omega) (by omega)) (by decide) (Nat.le_refl 0) (Nat.le_refl 0) (Nat.le_of_ble_eq_true rfl) dX7_wordKind_80 (fun x_80 I_80 J_80 h_80 => ?_)
          obtain ⟨rfl, rfl, h_80⟩ := h_80
          refine ww_if_eq hX (pc := 83) (tgt := 90) dX7_wordKind_83 (by decide) (fun h_83 => ?_) (fun h_83 => ?_)
          · simp only [w32_mod] at h_83
            have n5 := zWn_s n4 (fun h9 => by have := h_80.2.mpr h9; omega)
            refine ww_aload_n hX (pc := 90) dX7_wordKind_90 rfl ?_
            refine ww_iload_n hX (pc := 91) dX7_wordKind_91 rfl ?_
            refine ww_iload_n hX (pc := 92) dX7_wordKind_92 rfl ?_
            refine vI2 hX (pc := 93) sX7_168 (xs_10 hL) (c6_X7_partKind l0 hL hI hN hf (by omega) (by omega) (by omega) n5) (by decide) (Nat.le_refl 0) (Nat.le_refl 0) (Nat.le_of_ble_eq_true rfl) dX7_wordKind_93 (fun x_93 I_93 J_93 h_93 => ?_)
            obtain ⟨rfl, rfl, h_93⟩ := h_93
            refine rI hX (pc := 96) hT (Nat.le_refl 0) (Nat.le_refl 0) dX7_wordKind_96 ?_
            exact ⟨rfl, rfl, by omega, h_93.2⟩
          · simp only [w32_mod] at h_83
            have w9 := zWc_at n4 (by decide) (h_80.2.mp (by omega))
            refine ww_sipush hX (pc := 86) (x := 262) dX7_wordKind_86 (by decide) ?_
            refine rI hX (pc := 89) hT (Nat.le_refl 0) (Nat.le_refl 0) dX7_wordKind_89 ?_
            exact ⟨rfl, rfl, by omega, by omega⟩
        · simp only [w32_mod] at h_65
          have w9 := zWc_at n3 (by decide) (h_62.2.mp (by omega))
          refine ww_sipush hX (pc := 68) (x := 261) dX7_wordKind_68 (by decide) ?_
          refine rI hX (pc := 71) hT (Nat.le_refl 0) (Nat.le_refl 0) dX7_wordKind_71 ?_
          exact ⟨rfl, rfl, by omega, by omega⟩
      · simp only [w32_mod] at h_47
        have w9 := zWc_at n2 (by decide) (h_44.2.mp (by omega))
        refine ww_sipush hX (pc := 50) (x := 260) dX7_wordKind_50 (by decide) ?_
        refine rI hX (pc := 53) hT (Nat.le_refl 0) (Nat.le_refl 0) dX7_wordKind_53 ?_
        exact ⟨rfl, rfl, by omega, by omega⟩
    · simp only [w32_mod] at h_29
      have w9 := zWc_at n1 (by decide) (h_26.2.mp (by omega))
      refine ww_sipush hX (pc := 32) (x := 259) dX7_wordKind_32 (by decide) ?_
      refine rI hX (pc := 35) hT (Nat.le_refl 0) (Nat.le_refl 0) dX7_wordKind_35 ?_
      exact ⟨rfl, rfl, by omega, by omega⟩
  · simp only [w32_mod] at h_11
    have w9 := zWc_at n0 (by decide) (h_8.2.mp (by omega))
    refine ww_sipush hX (pc := 14) (x := 258) dX7_wordKind_14 (by decide) ?_
    refine rI hX (pc := 17) hT (Nat.le_refl 0) (Nat.le_refl 0) dX7_wordKind_17 ?_
    exact ⟨rfl, rfl, by omega, by omega⟩
set_option maxHeartbeats 4000000 in
set_option maxRecDepth 20000 in
theorem c6_X7_kindOf (l0 : Launch) {Ia Ja : aI1} {Ra : aR1} {Sa : aS1} (hL : LY Ra Sa) (hI : XI Ia) {f : Nat → Int} {N : Nat} (hN : Ia 8 1 = N) (hf : ∀ j, j < N → f j = Ia 9 j) {a b : Int} (ha0 : 0 ≤ a) (hab : a < b) (hb : b ≤ Ia 8 1) (hdg : (48 ≤ Ia 9 a.toNat ∧ Ia 9 a.toNat ≤ 57 → ∀ j : Int, a ≤ j → j < b → 48 ≤ Ia 9 j.toNat ∧ Ia 9 j.toNat ≤ 57))  : CT l0 7 0 0 mX7_kindOf [kR (some 10), kI a, kI b] Ia Ja Ra Sa (cI (fun x I' J' => Ia = I' ∧ Ja = J' ∧ (-8 ≤ x ∧ x ≤ 1301) ∧ zKo f a.toNat b.toNat x) Ra Sa) := by
  refine ct_in pn_X7 (Nat.le_of_ble_eq_true rfl) (fun X hX hT hIn => ?_)
  have hX : aK l0 X cX7_kindOf 4 RX7 (some .int) 7 0 0 := hX
  change WW X 0 [some (kR (some 10)), some (kI a), some (kI b), none] [] Ia Ja Ra Sa 0 0
  obtain ⟨hn1, hn2⟩ := hI.1
  obtain ⟨hk1, hk2⟩ := hI.2.1
  obtain ⟨hf1, hf2⟩ := hI.fu
  obtain ⟨hl1, hl2⟩ := hI.2.2.2.2.2.2.1
  have hba := hI.2.2.2.2.2.2.2.2.2.2 a.toNat (by omega)
  refine ww_aload_n hX (pc := 0) dX7_kindOf_0 rfl ?_
  refine ww_getR hX (pc := 1) fX7_28 (by decide) (xs_10 hL) (xr_10_1 hL) dX7_kindOf_1 ?_
  refine ww_iload_n hX (pc := 4) dX7_kindOf_4 rfl ?_
  refine vI1 hX (pc := 5) sX7_139 (xs_8 hL) (c_X9_byteAt l0 hL hI (by omega) (by omega)) (by decide) (Nat.le_refl 0) (Nat.le_refl 0) (Nat.le_of_ble_eq_true rfl) dX7_kindOf_5 (fun x_5 I_5 J_5 h_5 => ?_)
  obtain ⟨rfl, rfl, h_5⟩ := h_5
  refine ww_istore_n hX (pc := 8) (lv' := [some (kR (some 10)), some (kI a), some (kI b), some (kI x_5)]) dX7_kindOf_8 (by decide) rfl rfl ?_
  refine ww_iload_n hX (pc := 9) dX7_kindOf_9 rfl ?_
  refine sI1 hX (pc := 10) sX7_142 (c_X7_isLetter l0 (by omega) (by omega)) (by decide) (Nat.le_refl 0) (Nat.le_refl 0) (Nat.le_of_ble_eq_true rfl) dX7_kindOf_10 (fun x_10 I_10 J_10 h_10 => ?_)
  obtain ⟨rfl, rfl, h_10⟩ := h_10
  refine ww_if_eq hX (pc := 13) (tgt := 23) dX7_kindOf_13 (by decide) (fun h_13 => ?_) (fun h_13 => ?_)
  · simp only [w32_mod] at h_13
    refine ww_iload_n hX (pc := 23) dX7_kindOf_23 rfl ?_
    refine sI1 hX (pc := 24) sX7_145 (c_X7_isDigit l0 (by omega) (by omega)) (by decide) (Nat.le_refl 0) (Nat.le_refl 0) (Nat.le_of_ble_eq_true rfl) dX7_kindOf_24 (fun x_24 I_24 J_24 h_24 => ?_)
    obtain ⟨rfl, rfl, h_24⟩ := h_24
    refine ww_if_eq hX (pc := 27) (tgt := 43) dX7_kindOf_27 (by decide) (fun h_27 => ?_) (fun h_27 => ?_)
    · simp only [w32_mod] at h_27
      refine ww_iload_n hX (pc := 43) dX7_kindOf_43 rfl ?_
      refine rI hX (pc := 44) hT (Nat.le_refl 0) (Nat.le_refl 0) dX7_kindOf_44 ?_
      exact ⟨rfl, rfl, by omega, zKo_b (by have k1 := zKl_1 (x := f a.toNat); have k2 := zKl_2 (x := f a.toNat); have k3 := zKl_r (f a.toNat); rw [hf _ (by omega)] at *; omega) (by rw [hf _ (by omega)]; exact hba) (by rw [hf _ (by omega)]; omega)⟩
    · simp only [w32_mod] at h_27
      have k_24 := h_24.2.mp (by omega)
      clear h_24
      refine ww_sipush hX (pc := 30) (x := 300) dX7_kindOf_30 (by decide) ?_
      refine ww_aload_n hX (pc := 33) dX7_kindOf_33 rfl ?_
      refine ww_iload_n hX (pc := 34) dX7_kindOf_34 rfl ?_
      refine ww_iload_n hX (pc := 35) dX7_kindOf_35 rfl ?_
      refine vI2 hX (pc := 36) sX7_151 (xs_10 hL) (c6_X7_numberAt l0 hL hI hN hf (by omega) (by omega) (by omega) (hdg (by omega))) (by decide) (Nat.le_refl 0) (Nat.le_refl 0) (Nat.le_of_ble_eq_true rfl) dX7_kindOf_36 (fun x_36 I_36 J_36 h_36 => ?_)
      obtain ⟨rfl, rfl, h_36⟩ := h_36
      refine ww_iadd hX (pc := 39) dX7_kindOf_39 ?_
      refine ww_goto hX (pc := 40) (tgt := 44) dX7_kindOf_40 (by decide) ?_
      refine rI hX (pc := 44) hT (Nat.le_refl 0) (Nat.le_refl 0) dX7_kindOf_44 ?_
      exact ⟨rfl, rfl, by omega, zKo_n ((zKl_2 (x := f a.toNat)).mpr (by rw [hf _ (by omega)]; omega)) (fun i hi => by
          have h9 := hdg (by omega) (a + i) (by omega) (by omega)
          rw [hf _ (by omega), show a.toNat + i = (a + i).toNat by omega]
          exact h9) (by rw [← h_36.2])⟩
  · simp only [w32_mod] at h_13
    have k_10 := h_10.2.mp (by omega)
    clear h_10
    refine ww_aload_n hX (pc := 16) dX7_kindOf_16 rfl ?_
    refine ww_iload_n hX (pc := 17) dX7_kindOf_17 rfl ?_
    refine ww_iload_n hX (pc := 18) dX7_kindOf_18 rfl ?_
    refine vI2 hX (pc := 19) sX7_148 (xs_10 hL) (c6_X7_wordKind l0 hL hI hN hf (by omega) (by omega) (by omega)) (by decide) (Nat.le_refl 0) (Nat.le_refl 0) (Nat.le_of_ble_eq_true rfl) dX7_kindOf_19 (fun x_19 I_19 J_19 h_19 => ?_)
    obtain ⟨rfl, rfl, h_19⟩ := h_19
    refine rI hX (pc := 22) hT (Nat.le_refl 0) (Nat.le_refl 0) dX7_kindOf_22 ?_
    exact ⟨rfl, rfl, by omega, zKo_w ((zKl_1 (x := f a.toNat)).mpr (by rw [hf _ (by omega)]; omega)) h_19.2⟩
