set_option maxHeartbeats 4000000 in
set_option maxRecDepth 20000 in
theorem c_X3_goesOn (l0 : Launch) {Ia Ja : aI1} {Ra : aR1} {Sa : aS1} (hL : LY Ra Sa) (hI : XI Ia) {a b : Int} (ha0 : 0 ≤ a) (ha1 : a ≤ 255) (hb0 : 0 ≤ b) (hb1 : b < 16)  : CT l0 0 0 0 mX3_goesOn [kR (some 33), kI a, kI b] Ia Ja Ra Sa (cI (fun x I' J' => Ia = I' ∧ Ja = J' ∧ (x = 0 ∨ x = 1)) Ra Sa) := by
  refine ct_in pn_X3 (Nat.le_of_ble_eq_true rfl) (fun X hX hT hIn => ?_)
  have hX : aK l0 X cX3_goesOn 3 RX3 (some .boolean) 0 0 0 := hX
  change WW X 0 [some (kR (some 33)), some (kI a), some (kI b)] [] Ia Ja Ra Sa 0 0
  obtain ⟨hn1, hn2⟩ := hI.1
  obtain ⟨hk1, hk2⟩ := hI.2.1
  obtain ⟨hf1, hf2⟩ := hI.fu
  refine ww_aload_n hX (pc := 0) dX3_goesOn_0 rfl ?_
  refine ww_getR hX (pc := 1) fX3_32 (by decide) (xs_33 hL) (xr_33_5 hL) dX3_goesOn_1 ?_
  refine ww_getR hX (pc := 4) fX3_78 (by decide) (xs_1 hL) (xr_1_1 hL) dX3_goesOn_4 ?_
  refine ww_iload_n hX (pc := 7) dX3_goesOn_7 rfl ?_
  refine ww_iald hX (pc := 8) (xs_3 hL) (by decide) (by omega) (by omega) dX3_goesOn_8 ?_
  refine ww_aload_n hX (pc := 9) dX3_goesOn_9 rfl ?_
  refine ww_getR hX (pc := 10) fX3_32 (by decide) (xs_33 hL) (xr_33_5 hL) dX3_goesOn_10 ?_
  refine ww_getR hX (pc := 13) fX3_81 (by decide) (xs_1 hL) (xr_1_4 hL) dX3_goesOn_13 ?_
  refine ww_iload_n hX (pc := 16) dX3_goesOn_16 rfl ?_
  refine ww_iald hX (pc := 17) (xs_6 hL) (by decide) (by omega) (by omega) dX3_goesOn_17 ?_
  refine ww_icmp_ne hX (pc := 18) (tgt := 41) dX3_goesOn_18 (by decide) (fun h_18 => ?_) (fun h_18 => ?_)
  · simp only [w32_mod] at h_18
    refine ww_iconst hX (pc := 41) (x := 0) dX3_goesOn_41 rfl ?_
    refine rZ hX (pc := 42) hT (Nat.le_refl 0) (Nat.le_refl 0) dX3_goesOn_42 (by decide) ?_
    exact ⟨rfl, rfl, by omega⟩
  · simp only [w32_mod] at h_18
    refine ww_aload_n hX (pc := 21) dX3_goesOn_21 rfl ?_
    refine ww_getR hX (pc := 22) fX3_19 (by decide) (xs_33 hL) (xr_33_7 hL) dX3_goesOn_22 ?_
    refine ww_iload_n hX (pc := 25) dX3_goesOn_25 rfl ?_
    refine ww_iald hX (pc := 26) (xs_36 hL) (by decide) (by omega) (by omega) dX3_goesOn_26 ?_
    refine ww_iload_n hX (pc := 27) dX3_goesOn_27 rfl ?_
    refine ww_iconst hX (pc := 28) (x := 1) dX3_goesOn_28 rfl ?_
    refine ww_iadd hX (pc := 29) dX3_goesOn_29 ?_
    refine ww_ishr hX (pc := 30) dX3_goesOn_30 ?_
    refine ww_iconst hX (pc := 31) (x := 1) dX3_goesOn_31 rfl ?_
    refine ww_iand hX (pc := 32) dX3_goesOn_32 ?_
    refine ww_iconst hX (pc := 33) (x := 1) dX3_goesOn_33 rfl ?_
    refine ww_icmp_ne hX (pc := 34) (tgt := 41) dX3_goesOn_34 (by decide) (fun h_34 => ?_) (fun h_34 => ?_)
    · simp only [w32_mod] at h_34
      refine ww_iconst hX (pc := 41) (x := 0) dX3_goesOn_41 rfl ?_
      refine rZ hX (pc := 42) hT (Nat.le_refl 0) (Nat.le_refl 0) dX3_goesOn_42 (by decide) ?_
      exact ⟨rfl, rfl, by omega⟩
    · simp only [w32_mod] at h_34
      refine ww_iconst hX (pc := 37) (x := 1) dX3_goesOn_37 rfl ?_
      refine ww_goto hX (pc := 38) (tgt := 42) dX3_goesOn_38 (by decide) ?_
      refine rZ hX (pc := 42) hT (Nat.le_refl 0) (Nat.le_refl 0) dX3_goesOn_42 (by decide) ?_
      exact ⟨rfl, rfl, by omega⟩
set_option maxHeartbeats 4000000 in
set_option maxRecDepth 20000 in
theorem c_X2_isSearched (l0 : Launch) {Ia Ja : aI1} {Ra : aR1} {Sa : aS1} {a b c : Int} (ha0 : -2147483648 ≤ a) (ha1 : a < 2147483648) (hb0 : -2147483648 ≤ b) (hb1 : b < 2147483648) (hc0 : -2147483648 ≤ c) (hc1 : c < 2147483648)  : CT l0 0 0 0 mX2_isSearched [kI a, kI b, kI c] Ia Ja Ra Sa (cI (fun x I' J' => Ia = I' ∧ Ja = J' ∧ (x = 0 ∨ x = 1) ∧ (x = 1 ↔ (1 ≤ a ∧ a ≤ 3 ∧ 2 ≤ b ∧ b ≤ 4 ∧ 0 ≤ c ∧ c ≤ 8))) Ra Sa) := by
  refine ct_in pn_X2 (Nat.le_of_ble_eq_true rfl) (fun X hX hT hIn => ?_)
  have hX : aK l0 X cX2_isSearched 3 RX2 (some .boolean) 0 0 0 := hX
  change WW X 0 [some (kI a), some (kI b), some (kI c)] [] Ia Ja Ra Sa 0 0
  refine ww_iload_n hX (pc := 0) dX2_isSearched_0 rfl ?_
  refine ww_iconst hX (pc := 1) (x := 1) dX2_isSearched_1 rfl ?_
  refine ww_icmp_lt hX (pc := 2) (tgt := 34) dX2_isSearched_2 (by decide) (fun h_2 => ?_) (fun h_2 => ?_)
  · simp only [w32_mod] at h_2
    refine ww_iconst hX (pc := 34) (x := 0) dX2_isSearched_34 rfl ?_
    refine rZ hX (pc := 35) hT (Nat.le_refl 0) (Nat.le_refl 0) dX2_isSearched_35 (by decide) ?_
    exact ⟨rfl, rfl, by omega, by omega⟩
  · simp only [w32_mod] at h_2
    refine ww_iload_n hX (pc := 5) dX2_isSearched_5 rfl ?_
    refine ww_iconst hX (pc := 6) (x := 3) dX2_isSearched_6 rfl ?_
    refine ww_icmp_gt hX (pc := 7) (tgt := 34) dX2_isSearched_7 (by decide) (fun h_7 => ?_) (fun h_7 => ?_)
    · simp only [w32_mod] at h_7
      refine ww_iconst hX (pc := 34) (x := 0) dX2_isSearched_34 rfl ?_
      refine rZ hX (pc := 35) hT (Nat.le_refl 0) (Nat.le_refl 0) dX2_isSearched_35 (by decide) ?_
      exact ⟨rfl, rfl, by omega, by omega⟩
    · simp only [w32_mod] at h_7
      refine ww_iload_n hX (pc := 10) dX2_isSearched_10 rfl ?_
      refine ww_iconst hX (pc := 11) (x := 2) dX2_isSearched_11 rfl ?_
      refine ww_icmp_lt hX (pc := 12) (tgt := 34) dX2_isSearched_12 (by decide) (fun h_12 => ?_) (fun h_12 => ?_)
      · simp only [w32_mod] at h_12
        refine ww_iconst hX (pc := 34) (x := 0) dX2_isSearched_34 rfl ?_
        refine rZ hX (pc := 35) hT (Nat.le_refl 0) (Nat.le_refl 0) dX2_isSearched_35 (by decide) ?_
        exact ⟨rfl, rfl, by omega, by omega⟩
      · simp only [w32_mod] at h_12
        refine ww_iload_n hX (pc := 15) dX2_isSearched_15 rfl ?_
        refine ww_iconst hX (pc := 16) (x := 4) dX2_isSearched_16 rfl ?_
        refine ww_icmp_gt hX (pc := 17) (tgt := 34) dX2_isSearched_17 (by decide) (fun h_17 => ?_) (fun h_17 => ?_)
        · simp only [w32_mod] at h_17
          refine ww_iconst hX (pc := 34) (x := 0) dX2_isSearched_34 rfl ?_
          refine rZ hX (pc := 35) hT (Nat.le_refl 0) (Nat.le_refl 0) dX2_isSearched_35 (by decide) ?_
          exact ⟨rfl, rfl, by omega, by omega⟩
        · simp only [w32_mod] at h_17
          refine ww_iload_n hX (pc := 20) dX2_isSearched_20 rfl ?_
          refine ww_if_lt hX (pc := 21) (tgt := 34) dX2_isSearched_21 (by decide) (fun h_21 => ?_) (fun h_21 => ?_)
          · simp only [w32_mod] at h_21
            refine ww_iconst hX (pc := 34) (x := 0) dX2_isSearched_34 rfl ?_
            refine rZ hX (pc := 35) hT (Nat.le_refl 0) (Nat.le_refl 0) dX2_isSearched_35 (by decide) ?_
            exact ⟨rfl, rfl, by omega, by omega⟩
          · simp only [w32_mod] at h_21
            refine ww_iload_n hX (pc := 24) dX2_isSearched_24 rfl ?_
            refine ww_bipush hX (pc := 25) (x := 8) dX2_isSearched_25 (by decide) ?_
            refine ww_icmp_gt hX (pc := 27) (tgt := 34) dX2_isSearched_27 (by decide) (fun h_27 => ?_) (fun h_27 => ?_)
            · simp only [w32_mod] at h_27
              refine ww_iconst hX (pc := 34) (x := 0) dX2_isSearched_34 rfl ?_
              refine rZ hX (pc := 35) hT (Nat.le_refl 0) (Nat.le_refl 0) dX2_isSearched_35 (by decide) ?_
              exact ⟨rfl, rfl, by omega, by omega⟩
            · simp only [w32_mod] at h_27
              refine ww_iconst hX (pc := 30) (x := 1) dX2_isSearched_30 rfl ?_
              refine ww_goto hX (pc := 31) (tgt := 35) dX2_isSearched_31 (by decide) ?_
              refine rZ hX (pc := 35) hT (Nat.le_refl 0) (Nat.le_refl 0) dX2_isSearched_35 (by decide) ?_
              exact ⟨rfl, rfl, by omega, by omega⟩
set_option maxHeartbeats 4000000 in
set_option maxRecDepth 20000 in
theorem c_X2_pairOf (l0 : Launch) {Ia Ja : aI1} {Ra : aR1} {Sa : aS1} {a b : Int}  : CT l0 0 0 0 mX2_pairOf [kI a, kI b] Ia Ja Ra Sa (cI (fun x I' J' => Ia = I' ∧ Ja = J' ∧ x = (a - 1) * 3 + b - 2) Ra Sa) := by
  refine ct_in pn_X2 (Nat.le_of_ble_eq_true rfl) (fun X hX hT hIn => ?_)
  have hX : aK l0 X cX2_pairOf 2 RX2 (some .int) 0 0 0 := hX
  change WW X 0 [some (kI a), some (kI b)] [] Ia Ja Ra Sa 0 0
  refine ww_iload_n hX (pc := 0) dX2_pairOf_0 rfl ?_
  refine ww_iconst hX (pc := 1) (x := 1) dX2_pairOf_1 rfl ?_
  refine ww_isub hX (pc := 2) dX2_pairOf_2 ?_
  refine ww_iconst hX (pc := 3) (x := 3) dX2_pairOf_3 rfl ?_
  refine ww_imul hX (pc := 4) dX2_pairOf_4 ?_
  refine ww_iload_n hX (pc := 5) dX2_pairOf_5 rfl ?_
  refine ww_iadd hX (pc := 6) dX2_pairOf_6 ?_
  refine ww_iconst hX (pc := 7) (x := 2) dX2_pairOf_7 rfl ?_
  refine ww_isub hX (pc := 8) dX2_pairOf_8 ?_
  refine rI hX (pc := 9) hT (Nat.le_refl 0) (Nat.le_refl 0) dX2_pairOf_9 ?_
  exact ⟨rfl, rfl, rfl⟩
