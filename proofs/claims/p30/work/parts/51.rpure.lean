set_option maxHeartbeats 4000000 in
set_option maxRecDepth 20000 in
theorem c_X11_lies (l0 : Launch) {Ia Ja : aI1} {Ra : aR1} {Sa : aS1} {a b c : Int} (ha0 : -2147483648 ≤ a) (ha1 : a < 2147483648) (hb0 : -2147483648 ≤ b) (hb1 : b < 2147483648) (hc0 : -2147483648 ≤ c) (hc1 : c < 2147483648)  : CT l0 0 0 0 mX11_lies [kI a, kI b, kI c] Ia Ja Ra Sa (cI (fun x I' J' => Ia = I' ∧ Ja = J' ∧ (x = 0 ∨ x = 1) ∧ (x = 1 ↔ b ≤ a ∧ a ≤ c)) Ra Sa) := by
  refine ct_in pn_X11 (Nat.le_of_ble_eq_true rfl) (fun X hX hT hIn => ?_)
  have hX : aK l0 X cX11_lies 3 RX11 (some .boolean) 0 0 0 := hX
  change WW X 0 [some (kI a), some (kI b), some (kI c)] [] Ia Ja Ra Sa 0 0
  refine ww_iload_n hX (pc := 0) dX11_lies_0 rfl ?_
  refine ww_iload_n hX (pc := 1) dX11_lies_1 rfl ?_
  refine ww_icmp_lt hX (pc := 2) (tgt := 14) dX11_lies_2 (by decide) (fun h_2 => ?_) (fun h_2 => ?_)
  · simp only [w32_mod] at h_2
    refine ww_iconst hX (pc := 14) (x := 0) dX11_lies_14 rfl ?_
    refine rZ hX (pc := 15) hT (Nat.le_refl 0) (Nat.le_refl 0) dX11_lies_15 (by decide) ?_
    exact ⟨rfl, rfl, by omega, by omega⟩
  · simp only [w32_mod] at h_2
    refine ww_iload_n hX (pc := 5) dX11_lies_5 rfl ?_
    refine ww_iload_n hX (pc := 6) dX11_lies_6 rfl ?_
    refine ww_icmp_gt hX (pc := 7) (tgt := 14) dX11_lies_7 (by decide) (fun h_7 => ?_) (fun h_7 => ?_)
    · simp only [w32_mod] at h_7
      refine ww_iconst hX (pc := 14) (x := 0) dX11_lies_14 rfl ?_
      refine rZ hX (pc := 15) hT (Nat.le_refl 0) (Nat.le_refl 0) dX11_lies_15 (by decide) ?_
      exact ⟨rfl, rfl, by omega, by omega⟩
    · simp only [w32_mod] at h_7
      refine ww_iconst hX (pc := 10) (x := 1) dX11_lies_10 rfl ?_
      refine ww_goto hX (pc := 11) (tgt := 15) dX11_lies_11 (by decide) ?_
      refine rZ hX (pc := 15) hT (Nat.le_refl 0) (Nat.le_refl 0) dX11_lies_15 (by decide) ?_
      exact ⟨rfl, rfl, by omega, by omega⟩
set_option maxHeartbeats 4000000 in
set_option maxRecDepth 20000 in
theorem c_X11_isManner (l0 : Launch) {Ia Ja : aI1} {Ra : aR1} {Sa : aS1} {a : Int} (ha0 : -2147483648 ≤ a) (ha1 : a < 2147483648)  : CT l0 1 0 0 mX11_isManner [kI a] Ia Ja Ra Sa (cI (fun x I' J' => Ia = I' ∧ Ja = J' ∧ (x = 0 ∨ x = 1) ∧ (x = 1 ↔ 0 ≤ a ∧ a ≤ 3)) Ra Sa) := by
  refine ct_in pn_X11 (Nat.le_of_ble_eq_true rfl) (fun X hX hT hIn => ?_)
  have hX : aK l0 X cX11_isManner 1 RX11 (some .boolean) 1 0 0 := hX
  change WW X 0 [some (kI a)] [] Ia Ja Ra Sa 0 0
  refine ww_iload_n hX (pc := 0) dX11_isManner_0 rfl ?_
  refine ww_iconst hX (pc := 1) (x := 0) dX11_isManner_1 rfl ?_
  refine ww_iconst hX (pc := 2) (x := 3) dX11_isManner_2 rfl ?_
  refine sI3 hX (pc := 3) sX11_101 (c_X11_lies l0 (by omega) (by omega) (by omega) (by omega) (by omega) (by omega)) (by decide) (Nat.le_refl 0) (Nat.le_refl 0) (Nat.le_of_ble_eq_true rfl) dX11_isManner_3 (fun x_3 I_3 J_3 h_3 => ?_)
  obtain ⟨rfl, rfl, h_3⟩ := h_3
  refine rZ hX (pc := 6) hT (Nat.le_refl 0) (Nat.le_refl 0) dX11_isManner_6 (by omega) ?_
  exact ⟨rfl, rfl, by omega, by omega⟩
set_option maxHeartbeats 4000000 in
set_option maxRecDepth 20000 in
theorem c_X11_areCodes (l0 : Launch) {Ia Ja : aI1} {Ra : aR1} {Sa : aS1} {a b c : Int} (ha0 : -2147483648 ≤ a) (ha1 : a < 2147483648) (hb0 : -2147483648 ≤ b) (hb1 : b < 2147483648) (hc0 : -2147483648 ≤ c) (hc1 : c < 2147483648)  : CT l0 1 0 0 mX11_areCodes [kI a, kI b, kI c] Ia Ja Ra Sa (cI (fun x I' J' => Ia = I' ∧ Ja = J' ∧ (x = 0 ∨ x = 1) ∧ (x = 1 ↔ 1 ≤ a ∧ a ≤ 3 ∧ 2 ≤ b ∧ b ≤ 4 ∧ 0 ≤ c ∧ c ≤ 8)) Ra Sa) := by
  refine ct_in pn_X11 (Nat.le_of_ble_eq_true rfl) (fun X hX hT hIn => ?_)
  have hX : aK l0 X cX11_areCodes 3 RX11 (some .boolean) 1 0 0 := hX
  change WW X 0 [some (kI a), some (kI b), some (kI c)] [] Ia Ja Ra Sa 0 0
  refine ww_iload_n hX (pc := 0) dX11_areCodes_0 rfl ?_
  refine ww_iconst hX (pc := 1) (x := 1) dX11_areCodes_1 rfl ?_
  refine ww_iconst hX (pc := 2) (x := 3) dX11_areCodes_2 rfl ?_
  refine sI3 hX (pc := 3) sX11_101 (c_X11_lies l0 (by omega) (by omega) (by omega) (by omega) (by omega) (by omega)) (by decide) (Nat.le_refl 0) (Nat.le_refl 0) (Nat.le_of_ble_eq_true rfl) dX11_areCodes_3 (fun x_3 I_3 J_3 h_3 => ?_)
  obtain ⟨rfl, rfl, h_3⟩ := h_3
  refine ww_if_eq hX (pc := 6) (tgt := 32) dX11_areCodes_6 (by decide) (fun h_6 => ?_) (fun h_6 => ?_)
  · simp only [w32_mod] at h_6
    refine ww_iconst hX (pc := 32) (x := 0) dX11_areCodes_32 rfl ?_
    refine rZ hX (pc := 33) hT (Nat.le_refl 0) (Nat.le_refl 0) dX11_areCodes_33 (by decide) ?_
    exact ⟨rfl, rfl, by omega, by omega⟩
  · simp only [w32_mod] at h_6
    have k_3 := h_3.2.mp (by omega)
    clear h_3
    refine ww_iload_n hX (pc := 9) dX11_areCodes_9 rfl ?_
    refine ww_iconst hX (pc := 10) (x := 2) dX11_areCodes_10 rfl ?_
    refine ww_iconst hX (pc := 11) (x := 4) dX11_areCodes_11 rfl ?_
    refine sI3 hX (pc := 12) sX11_101 (c_X11_lies l0 (by omega) (by omega) (by omega) (by omega) (by omega) (by omega)) (by decide) (Nat.le_refl 0) (Nat.le_refl 0) (Nat.le_of_ble_eq_true rfl) dX11_areCodes_12 (fun x_12 I_12 J_12 h_12 => ?_)
    obtain ⟨rfl, rfl, h_12⟩ := h_12
    refine ww_if_eq hX (pc := 15) (tgt := 32) dX11_areCodes_15 (by decide) (fun h_15 => ?_) (fun h_15 => ?_)
    · simp only [w32_mod] at h_15
      refine ww_iconst hX (pc := 32) (x := 0) dX11_areCodes_32 rfl ?_
      refine rZ hX (pc := 33) hT (Nat.le_refl 0) (Nat.le_refl 0) dX11_areCodes_33 (by decide) ?_
      exact ⟨rfl, rfl, by omega, by omega⟩
    · simp only [w32_mod] at h_15
      have k_12 := h_12.2.mp (by omega)
      clear h_12
      refine ww_iload_n hX (pc := 18) dX11_areCodes_18 rfl ?_
      refine ww_iconst hX (pc := 19) (x := 0) dX11_areCodes_19 rfl ?_
      refine ww_bipush hX (pc := 20) (x := 8) dX11_areCodes_20 (by decide) ?_
      refine sI3 hX (pc := 22) sX11_101 (c_X11_lies l0 (by omega) (by omega) (by omega) (by omega) (by omega) (by omega)) (by decide) (Nat.le_refl 0) (Nat.le_refl 0) (Nat.le_of_ble_eq_true rfl) dX11_areCodes_22 (fun x_22 I_22 J_22 h_22 => ?_)
      obtain ⟨rfl, rfl, h_22⟩ := h_22
      refine ww_if_eq hX (pc := 25) (tgt := 32) dX11_areCodes_25 (by decide) (fun h_25 => ?_) (fun h_25 => ?_)
      · simp only [w32_mod] at h_25
        refine ww_iconst hX (pc := 32) (x := 0) dX11_areCodes_32 rfl ?_
        refine rZ hX (pc := 33) hT (Nat.le_refl 0) (Nat.le_refl 0) dX11_areCodes_33 (by decide) ?_
        exact ⟨rfl, rfl, by omega, by omega⟩
      · simp only [w32_mod] at h_25
        have k_22 := h_22.2.mp (by omega)
        clear h_22
        refine ww_iconst hX (pc := 28) (x := 1) dX11_areCodes_28 rfl ?_
        refine ww_goto hX (pc := 29) (tgt := 33) dX11_areCodes_29 (by decide) ?_
        refine rZ hX (pc := 33) hT (Nat.le_refl 0) (Nat.le_refl 0) dX11_areCodes_33 (by decide) ?_
        exact ⟨rfl, rfl, by omega, by omega⟩
set_option maxHeartbeats 4000000 in
set_option maxRecDepth 20000 in
theorem c_X11_greater (l0 : Launch) {Ia Ja : aI1} {Ra : aR1} {Sa : aS1} {a b : Int} (ha0 : -2147483648 ≤ a) (ha1 : a < 2147483648) (hb0 : -2147483648 ≤ b) (hb1 : b < 2147483648)  : CT l0 0 0 0 mX11_greater [kI a, kI b] Ia Ja Ra Sa (cI (fun x I' J' => Ia = I' ∧ Ja = J' ∧ x = max a b) Ra Sa) := by
  refine ct_in pn_X11 (Nat.le_of_ble_eq_true rfl) (fun X hX hT hIn => ?_)
  have hX : aK l0 X cX11_greater 2 RX11 (some .int) 0 0 0 := hX
  change WW X 0 [some (kI a), some (kI b)] [] Ia Ja Ra Sa 0 0
  refine ww_iload_n hX (pc := 0) dX11_greater_0 rfl ?_
  refine ww_iload_n hX (pc := 1) dX11_greater_1 rfl ?_
  refine ww_icmp_le hX (pc := 2) (tgt := 9) dX11_greater_2 (by decide) (fun h_2 => ?_) (fun h_2 => ?_)
  · simp only [w32_mod] at h_2
    refine ww_iload_n hX (pc := 9) dX11_greater_9 rfl ?_
    refine rI hX (pc := 10) hT (Nat.le_refl 0) (Nat.le_refl 0) dX11_greater_10 ?_
    exact ⟨rfl, rfl, by omega⟩
  · simp only [w32_mod] at h_2
    refine ww_iload_n hX (pc := 5) dX11_greater_5 rfl ?_
    refine ww_goto hX (pc := 6) (tgt := 10) dX11_greater_6 (by decide) ?_
    refine rI hX (pc := 10) hT (Nat.le_refl 0) (Nat.le_refl 0) dX11_greater_10 ?_
    exact ⟨rfl, rfl, by omega⟩
set_option maxHeartbeats 4000000 in
set_option maxRecDepth 20000 in
theorem c_X11_isSmall (l0 : Launch) {Ia Ja : aI1} {Ra : aR1} {Sa : aS1} {a : Int} (ha0 : -2147483648 ≤ a) (ha1 : a < 2147483648)  : CT l0 0 0 0 mX11_isSmall [kI a] Ia Ja Ra Sa (cI (fun x I' J' => Ia = I' ∧ Ja = J' ∧ (x = 0 ∨ x = 1) ∧ (x = 1 ↔ 97 ≤ a ∧ a ≤ 122)) Ra Sa) := by
  refine ct_in pn_X11 (Nat.le_of_ble_eq_true rfl) (fun X hX hT hIn => ?_)
  have hX : aK l0 X cX11_isSmall 1 RX11 (some .boolean) 0 0 0 := hX
  change WW X 0 [some (kI a)] [] Ia Ja Ra Sa 0 0
  refine ww_iload_n hX (pc := 0) dX11_isSmall_0 rfl ?_
  refine ww_bipush hX (pc := 1) (x := 97) dX11_isSmall_1 (by decide) ?_
  refine ww_icmp_lt hX (pc := 3) (tgt := 16) dX11_isSmall_3 (by decide) (fun h_3 => ?_) (fun h_3 => ?_)
  · simp only [w32_mod] at h_3
    refine ww_iconst hX (pc := 16) (x := 0) dX11_isSmall_16 rfl ?_
    refine rZ hX (pc := 17) hT (Nat.le_refl 0) (Nat.le_refl 0) dX11_isSmall_17 (by decide) ?_
    exact ⟨rfl, rfl, by omega, by omega⟩
  · simp only [w32_mod] at h_3
    refine ww_iload_n hX (pc := 6) dX11_isSmall_6 rfl ?_
    refine ww_bipush hX (pc := 7) (x := 122) dX11_isSmall_7 (by decide) ?_
    refine ww_icmp_gt hX (pc := 9) (tgt := 16) dX11_isSmall_9 (by decide) (fun h_9 => ?_) (fun h_9 => ?_)
    · simp only [w32_mod] at h_9
      refine ww_iconst hX (pc := 16) (x := 0) dX11_isSmall_16 rfl ?_
      refine rZ hX (pc := 17) hT (Nat.le_refl 0) (Nat.le_refl 0) dX11_isSmall_17 (by decide) ?_
      exact ⟨rfl, rfl, by omega, by omega⟩
    · simp only [w32_mod] at h_9
      refine ww_iconst hX (pc := 12) (x := 1) dX11_isSmall_12 rfl ?_
      refine ww_goto hX (pc := 13) (tgt := 17) dX11_isSmall_13 (by decide) ?_
      refine rZ hX (pc := 17) hT (Nat.le_refl 0) (Nat.le_refl 0) dX11_isSmall_17 (by decide) ?_
      exact ⟨rfl, rfl, by omega, by omega⟩
set_option maxHeartbeats 4000000 in
set_option maxRecDepth 20000 in
theorem c_X11_isDigit (l0 : Launch) {Ia Ja : aI1} {Ra : aR1} {Sa : aS1} {a : Int} (ha0 : -2147483648 ≤ a) (ha1 : a < 2147483648)  : CT l0 0 0 0 mX11_isDigit [kI a] Ia Ja Ra Sa (cI (fun x I' J' => Ia = I' ∧ Ja = J' ∧ (x = 0 ∨ x = 1) ∧ (x = 1 ↔ 48 ≤ a ∧ a ≤ 57)) Ra Sa) := by
  refine ct_in pn_X11 (Nat.le_of_ble_eq_true rfl) (fun X hX hT hIn => ?_)
  have hX : aK l0 X cX11_isDigit 1 RX11 (some .boolean) 0 0 0 := hX
  change WW X 0 [some (kI a)] [] Ia Ja Ra Sa 0 0
  refine ww_iload_n hX (pc := 0) dX11_isDigit_0 rfl ?_
  refine ww_bipush hX (pc := 1) (x := 48) dX11_isDigit_1 (by decide) ?_
  refine ww_icmp_lt hX (pc := 3) (tgt := 16) dX11_isDigit_3 (by decide) (fun h_3 => ?_) (fun h_3 => ?_)
  · simp only [w32_mod] at h_3
    refine ww_iconst hX (pc := 16) (x := 0) dX11_isDigit_16 rfl ?_
    refine rZ hX (pc := 17) hT (Nat.le_refl 0) (Nat.le_refl 0) dX11_isDigit_17 (by decide) ?_
    exact ⟨rfl, rfl, by omega, by omega⟩
  · simp only [w32_mod] at h_3
    refine ww_iload_n hX (pc := 6) dX11_isDigit_6 rfl ?_
    refine ww_bipush hX (pc := 7) (x := 57) dX11_isDigit_7 (by decide) ?_
    refine ww_icmp_gt hX (pc := 9) (tgt := 16) dX11_isDigit_9 (by decide) (fun h_9 => ?_) (fun h_9 => ?_)
    · simp only [w32_mod] at h_9
      refine ww_iconst hX (pc := 16) (x := 0) dX11_isDigit_16 rfl ?_
      refine rZ hX (pc := 17) hT (Nat.le_refl 0) (Nat.le_refl 0) dX11_isDigit_17 (by decide) ?_
      exact ⟨rfl, rfl, by omega, by omega⟩
    · simp only [w32_mod] at h_9
      refine ww_iconst hX (pc := 12) (x := 1) dX11_isDigit_12 rfl ?_
      refine ww_goto hX (pc := 13) (tgt := 17) dX11_isDigit_13 (by decide) ?_
      refine rZ hX (pc := 17) hT (Nat.le_refl 0) (Nat.le_refl 0) dX11_isDigit_17 (by decide) ?_
      exact ⟨rfl, rfl, by omega, by omega⟩
set_option maxHeartbeats 4000000 in
set_option maxRecDepth 20000 in
theorem c_X11_sign (l0 : Launch) {Ia Ja : aI1} {Ra : aR1} {Sa : aS1} {a : Int}  : CT l0 0 0 0 mX11_sign [kI a] Ia Ja Ra Sa (cI (fun x I' J' => Ia = I' ∧ Ja = J' ∧ x = 100 + a) Ra Sa) := by
  refine ct_in pn_X11 (Nat.le_of_ble_eq_true rfl) (fun X hX hT hIn => ?_)
  have hX : aK l0 X cX11_sign 1 RX11 (some .int) 0 0 0 := hX
  change WW X 0 [some (kI a)] [] Ia Ja Ra Sa 0 0
  refine ww_bipush hX (pc := 0) (x := 100) dX11_sign_0 (by decide) ?_
  refine ww_iload_n hX (pc := 2) dX11_sign_2 rfl ?_
  refine ww_iadd hX (pc := 3) dX11_sign_3 ?_
  refine rI hX (pc := 4) hT (Nat.le_refl 0) (Nat.le_refl 0) dX11_sign_4 ?_
  exact ⟨rfl, rfl, rfl⟩
set_option maxHeartbeats 4000000 in
set_option maxRecDepth 20000 in
theorem c_X11_states (l0 : Launch) {Ia Ja : aI1} {Ra : aR1} {Sa : aS1} (hL : LY Ra Sa) (hQ : RX Ia)  : CT l0 0 0 0 mX11_states [kR (some 49)] Ia Ja Ra Sa (cI (fun x I' J' => Ia = I' ∧ Ja = J' ∧ x = FU (Ia 51 304) + 1) Ra Sa) := by
  refine ct_in pn_X11 (Nat.le_of_ble_eq_true rfl) (fun X hX hT hIn => ?_)
  have hX : aK l0 X cX11_states 1 RX11 (some .int) 0 0 0 := hX
  change WW X 0 [some (kR (some 49))] [] Ia Ja Ra Sa 0 0
  have qIa := RX_o hQ
  refine ww_iconst hX (pc := 0) (x := 1) dX11_states_0 rfl ?_
  refine ww_aload_n hX (pc := 1) dX11_states_1 rfl ?_
  refine ww_getR hX (pc := 2) fX11_20 (by decide) (xs_49 hL) (xr_49_3 hL) dX11_states_2 ?_
  refine ww_sipush hX (pc := 5) (x := 304) dX11_states_5 (by decide) ?_
  refine ww_iald hX (pc := 8) (xs_51 hL) (by decide) (by omega) (by omega) dX11_states_8 ?_
  refine ww_toI (b := Ia 51 304) rfl ?_
  refine ww_ishl hX (pc := 9) dX11_states_9 ?_
  refine rI hX (pc := 10) hT (Nat.le_refl 0) (Nat.le_refl 0) dX11_states_10 ?_
  exact ⟨rfl, rfl, by rw [i_shl1 (by omega) (by omega)]; exact (FU_r (by omega) (by omega)).2.2.symm⟩
set_option maxHeartbeats 4000000 in
set_option maxRecDepth 20000 in
theorem c_X11_isState (l0 : Launch) {Ia Ja : aI1} {Ra : aR1} {Sa : aS1} (hL : LY Ra Sa) (hQ : RX Ia) {a : Int} (ha0 : -2147483648 ≤ a) (ha1 : a < 2147483648)  : CT l0 1 0 0 mX11_isState [kR (some 49), kI a] Ia Ja Ra Sa (cI (fun x I' J' => Ia = I' ∧ Ja = J' ∧ (x = 0 ∨ x = 1) ∧ (x = 1 ↔ 0 ≤ a ∧ a ≤ FU (Ia 51 304))) Ra Sa) := by
  refine ct_in pn_X11 (Nat.le_of_ble_eq_true rfl) (fun X hX hT hIn => ?_)
  have hX : aK l0 X cX11_isState 2 RX11 (some .boolean) 1 0 0 := hX
  change WW X 0 [some (kR (some 49)), some (kI a)] [] Ia Ja Ra Sa 0 0
  have qIa := RX_o hQ
  refine ww_iload_n hX (pc := 0) dX11_isState_0 rfl ?_
  refine ww_iconst hX (pc := 1) (x := 0) dX11_isState_1 rfl ?_
  refine ww_aload_n hX (pc := 2) dX11_isState_2 rfl ?_
  refine vI0 hX (pc := 3) sX11_112 (xs_49 hL) (c_X11_states l0 hL hQ ) (by decide) (Nat.le_refl 0) (Nat.le_refl 0) (Nat.le_of_ble_eq_true rfl) dX11_isState_3 (fun x_3 I_3 J_3 h_3 => ?_)
  obtain ⟨rfl, rfl, h_3⟩ := h_3
  refine ww_iconst hX (pc := 6) (x := 1) dX11_isState_6 rfl ?_
  refine ww_isub hX (pc := 7) dX11_isState_7 ?_
  refine sI3 hX (pc := 8) sX11_101 (c_X11_lies l0 (by omega) (by omega) (by omega) (by omega) (by omega) (by omega)) (by decide) (Nat.le_refl 0) (Nat.le_refl 0) (Nat.le_of_ble_eq_true rfl) dX11_isState_8 (fun x_8 I_8 J_8 h_8 => ?_)
  obtain ⟨rfl, rfl, h_8⟩ := h_8
  refine rZ hX (pc := 11) hT (Nat.le_refl 0) (Nat.le_refl 0) dX11_isState_11 (by omega) ?_
  exact ⟨rfl, rfl, by omega, by omega⟩
set_option maxHeartbeats 4000000 in
set_option maxRecDepth 20000 in
theorem c_X11_isNews (l0 : Launch) {Ia Ja : aI1} {Ra : aR1} {Sa : aS1} (hL : LY Ra Sa) (hQ : RX Ia) {a : Int} (ha0 : -2147483648 ≤ a) (ha1 : a < 2147483648)  : CT l0 1 0 0 mX11_isNews [kR (some 49), kI a] Ia Ja Ra Sa (cI (fun x I' J' => Ia = I' ∧ Ja = J' ∧ (x = 0 ∨ x = 1) ∧ (x = 1 ↔ 0 ≤ a ∧ a < Ia 51 305)) Ra Sa) := by
  refine ct_in pn_X11 (Nat.le_of_ble_eq_true rfl) (fun X hX hT hIn => ?_)
  have hX : aK l0 X cX11_isNews 2 RX11 (some .boolean) 1 0 0 := hX
  change WW X 0 [some (kR (some 49)), some (kI a)] [] Ia Ja Ra Sa 0 0
  have qIa := RX_o hQ
  refine ww_iload_n hX (pc := 0) dX11_isNews_0 rfl ?_
  refine ww_iconst hX (pc := 1) (x := 0) dX11_isNews_1 rfl ?_
  refine ww_aload_n hX (pc := 2) dX11_isNews_2 rfl ?_
  refine ww_getR hX (pc := 3) fX11_20 (by decide) (xs_49 hL) (xr_49_3 hL) dX11_isNews_3 ?_
  refine ww_sipush hX (pc := 6) (x := 305) dX11_isNews_6 (by decide) ?_
  refine ww_iald hX (pc := 9) (xs_51 hL) (by decide) (by omega) (by omega) dX11_isNews_9 ?_
  refine ww_toI (b := Ia 51 305) rfl ?_
  refine ww_iconst hX (pc := 10) (x := 1) dX11_isNews_10 rfl ?_
  refine ww_isub hX (pc := 11) dX11_isNews_11 ?_
  refine sI3 hX (pc := 12) sX11_101 (c_X11_lies l0 (by omega) (by omega) (by omega) (by omega) (by omega) (by omega)) (by decide) (Nat.le_refl 0) (Nat.le_refl 0) (Nat.le_of_ble_eq_true rfl) dX11_isNews_12 (fun x_12 I_12 J_12 h_12 => ?_)
  obtain ⟨rfl, rfl, h_12⟩ := h_12
  refine rZ hX (pc := 15) hT (Nat.le_refl 0) (Nat.le_refl 0) dX11_isNews_15 (by omega) ?_
  exact ⟨rfl, rfl, by omega, by omega⟩
set_option maxHeartbeats 4000000 in
set_option maxRecDepth 20000 in
theorem c_X11_isLamp (l0 : Launch) {Ia Ja : aI1} {Ra : aR1} {Sa : aS1} (hL : LY Ra Sa) (hQ : RX Ia) {a : Int} (ha0 : -2147483648 ≤ a) (ha1 : a < 2147483648)  : CT l0 1 0 0 mX11_isLamp [kR (some 49), kI a] Ia Ja Ra Sa (cI (fun x I' J' => Ia = I' ∧ Ja = J' ∧ (x = 0 ∨ x = 1) ∧ (x = 1 ↔ 0 ≤ a ∧ a < Ia 51 304)) Ra Sa) := by
  refine ct_in pn_X11 (Nat.le_of_ble_eq_true rfl) (fun X hX hT hIn => ?_)
  have hX : aK l0 X cX11_isLamp 2 RX11 (some .boolean) 1 0 0 := hX
  change WW X 0 [some (kR (some 49)), some (kI a)] [] Ia Ja Ra Sa 0 0
  have qIa := RX_o hQ
  refine ww_iload_n hX (pc := 0) dX11_isLamp_0 rfl ?_
  refine ww_iconst hX (pc := 1) (x := 0) dX11_isLamp_1 rfl ?_
  refine ww_aload_n hX (pc := 2) dX11_isLamp_2 rfl ?_
  refine ww_getR hX (pc := 3) fX11_20 (by decide) (xs_49 hL) (xr_49_3 hL) dX11_isLamp_3 ?_
  refine ww_sipush hX (pc := 6) (x := 304) dX11_isLamp_6 (by decide) ?_
  refine ww_iald hX (pc := 9) (xs_51 hL) (by decide) (by omega) (by omega) dX11_isLamp_9 ?_
  refine ww_toI (b := Ia 51 304) rfl ?_
  refine ww_iconst hX (pc := 10) (x := 1) dX11_isLamp_10 rfl ?_
  refine ww_isub hX (pc := 11) dX11_isLamp_11 ?_
  refine sI3 hX (pc := 12) sX11_101 (c_X11_lies l0 (by omega) (by omega) (by omega) (by omega) (by omega) (by omega)) (by decide) (Nat.le_refl 0) (Nat.le_refl 0) (Nat.le_of_ble_eq_true rfl) dX11_isLamp_12 (fun x_12 I_12 J_12 h_12 => ?_)
  obtain ⟨rfl, rfl, h_12⟩ := h_12
  refine rZ hX (pc := 15) hT (Nat.le_refl 0) (Nat.le_refl 0) dX11_isLamp_15 (by omega) ?_
  exact ⟨rfl, rfl, by omega, by omega⟩
set_option maxHeartbeats 4000000 in
set_option maxRecDepth 20000 in
theorem c_X11_readOf (l0 : Launch) {Ia Ja : aI1} {Ra : aR1} {Sa : aS1} (hL : LY Ra Sa) (hQ : RX Ia) {a : Int} (ha0 : 0 ≤ a) (ha1 : a ≤ 255)  : CT l0 0 0 0 mX11_readOf [kR (some 49), kI a] Ia Ja Ra Sa (cI (fun x I' J' => Ia = I' ∧ Ja = J' ∧ x = Ia 51 a.toNat) Ra Sa) := by
  refine ct_in pn_X11 (Nat.le_of_ble_eq_true rfl) (fun X hX hT hIn => ?_)
  have hX : aK l0 X cX11_readOf 2 RX11 (some .int) 0 0 0 := hX
  change WW X 0 [some (kR (some 49)), some (kI a)] [] Ia Ja Ra Sa 0 0
  have qIa := RX_o hQ
  refine ww_aload_n hX (pc := 0) dX11_readOf_0 rfl ?_
  refine ww_getR hX (pc := 1) fX11_20 (by decide) (xs_49 hL) (xr_49_3 hL) dX11_readOf_1 ?_
  refine ww_iconst hX (pc := 4) (x := 0) dX11_readOf_4 rfl ?_
  refine ww_iload_n hX (pc := 5) dX11_readOf_5 rfl ?_
  refine ww_iadd hX (pc := 6) dX11_readOf_6 ?_
  refine ww_iald hX (pc := 7) (xs_51 hL) (by decide) (by omega) (by omega) dX11_readOf_7 ?_
  refine rI hX (pc := 8) hT (Nat.le_refl 0) (Nat.le_refl 0) dX11_readOf_8 ?_
  exact ⟨rfl, rfl, by rw [Int.zero_add]⟩
def canC (s t b : Int) : Prop := w32 (i_and s (i_xor t (-1))) = 0 ∧ w32 (i_and (i_and t (i_xor s (-1))) b) = 0
set_option maxHeartbeats 4000000 in
set_option maxRecDepth 20000 in
theorem c_X11_canCome (l0 : Launch) {Ia Ja : aI1} {Ra : aR1} {Sa : aS1} (hL : LY Ra Sa) (hQ : RX Ia) {a b c : Int}  : CT l0 0 0 0 mX11_canCome [kR (some 49), kI a, kI b, kI c] Ia Ja Ra Sa (cI (fun x I' J' => Ia = I' ∧ Ja = J' ∧ (x = 0 ∨ x = 1) ∧ (x = 1 ↔ canC a b c)) Ra Sa) := by
  refine ct_in pn_X11 (Nat.le_of_ble_eq_true rfl) (fun X hX hT hIn => ?_)
  have hX : aK l0 X cX11_canCome 4 RX11 (some .boolean) 0 0 0 := hX
  change WW X 0 [some (kR (some 49)), some (kI a), some (kI b), some (kI c)] [] Ia Ja Ra Sa 0 0
  have qIa := RX_o hQ
  refine ww_iload_n hX (pc := 0) dX11_canCome_0 rfl ?_
  refine ww_iload_n hX (pc := 1) dX11_canCome_1 rfl ?_
  refine ww_iconst hX (pc := 2) (x := (-1)) dX11_canCome_2 rfl ?_
  refine ww_ixor hX (pc := 3) dX11_canCome_3 ?_
  refine ww_iand hX (pc := 4) dX11_canCome_4 ?_
  refine ww_if_ne hX (pc := 5) (tgt := 22) dX11_canCome_5 (by decide) (fun h_5 => ?_) (fun h_5 => ?_)
  · simp only [w32_mod] at h_5
    refine ww_iconst hX (pc := 22) (x := 0) dX11_canCome_22 rfl ?_
    refine rZ hX (pc := 23) hT (Nat.le_refl 0) (Nat.le_refl 0) dX11_canCome_23 (by decide) ?_
    exact ⟨rfl, rfl, by omega, fun h8 => by unfold canC; simp only [w32_mod]; omega, fun h9 => by unfold canC at h9; simp only [w32_mod] at h9; omega⟩
  · simp only [w32_mod] at h_5
    refine ww_iload_n hX (pc := 8) dX11_canCome_8 rfl ?_
    refine ww_iload_n hX (pc := 9) dX11_canCome_9 rfl ?_
    refine ww_iconst hX (pc := 10) (x := (-1)) dX11_canCome_10 rfl ?_
    refine ww_ixor hX (pc := 11) dX11_canCome_11 ?_
    refine ww_iand hX (pc := 12) dX11_canCome_12 ?_
    refine ww_iload_n hX (pc := 13) dX11_canCome_13 rfl ?_
    refine ww_iand hX (pc := 14) dX11_canCome_14 ?_
    refine ww_if_ne hX (pc := 15) (tgt := 22) dX11_canCome_15 (by decide) (fun h_15 => ?_) (fun h_15 => ?_)
    · simp only [w32_mod] at h_15
      refine ww_iconst hX (pc := 22) (x := 0) dX11_canCome_22 rfl ?_
      refine rZ hX (pc := 23) hT (Nat.le_refl 0) (Nat.le_refl 0) dX11_canCome_23 (by decide) ?_
      exact ⟨rfl, rfl, by omega, fun h8 => by unfold canC; simp only [w32_mod]; omega, fun h9 => by unfold canC at h9; simp only [w32_mod] at h9; omega⟩
    · simp only [w32_mod] at h_15
      refine ww_iconst hX (pc := 18) (x := 1) dX11_canCome_18 rfl ?_
      refine ww_goto hX (pc := 19) (tgt := 23) dX11_canCome_19 (by decide) ?_
      refine rZ hX (pc := 23) hT (Nat.le_refl 0) (Nat.le_refl 0) dX11_canCome_23 (by decide) ?_
      exact ⟨rfl, rfl, by omega, fun h8 => by unfold canC; simp only [w32_mod]; omega, fun h9 => by unfold canC at h9; simp only [w32_mod] at h9; omega⟩
set_option maxHeartbeats 4000000 in
set_option maxRecDepth 20000 in
theorem c_X11_ones (l0 : Launch) {Ia Ja : aI1} {Ra : aR1} {Sa : aS1} {a : Int}  : CT l0 0 0 0 mX11_ones [kI a] Ia Ja Ra Sa (cI (fun x I' J' => Ia = I' ∧ Ja = J' ∧ 0 ≤ x ∧ x ≤ 16) Ra Sa) := by
  refine ct_in pn_X11 (Nat.le_of_ble_eq_true rfl) (fun X hX hT hIn => ?_)
  have hX : aK l0 X cX11_ones 3 RX11 (some .int) 0 0 0 := hX
  change WW X 0 [some (kI a), none, none] [] Ia Ja Ra Sa 0 0
  refine ww_iconst hX (pc := 0) (x := 0) dX11_ones_0 rfl ?_
  refine ww_istore_n hX (pc := 1) (lv' := [some (kI a), some (kI 0), none]) dX11_ones_1 (by decide) rfl rfl ?_
  refine ww_iconst hX (pc := 2) (x := 0) dX11_ones_2 rfl ?_
  refine ww_istore_n hX (pc := 3) (lv' := [some (kI a), some (kI 0), some (kI 0)]) dX11_ones_3 (by decide) rfl rfl ?_
  have hl_4 : ∀ (n_4 : Nat) (n : Int) (i : Int), (16 - i).toNat = n_4 → ((0 ≤ i ∧ i ≤ 16 ∧ 0 ≤ n ∧ n ≤ i)) → WW X 4 [some (kI a), some (kI n), some (kI i)] [] Ia Ja Ra Sa 0 0 := by
    intro n_4
    induction n_4 using Nat.strongRecOn with
    | ind n_4 ih_4 =>
      intro n i hm_4 hv_4
      have hq_4 := Sh0_i hm_4
      clear hm_4
      have hv := hv_4
      refine ww_iload_n hX (pc := 4) dX11_ones_4 rfl ?_
      refine ww_bipush hX (pc := 5) (x := 16) dX11_ones_5 (by decide) ?_
      refine ww_icmp_ge hX (pc := 7) (tgt := 24) dX11_ones_7 (by decide) (fun h_7 => ?_) (fun h_7 => ?_)
      · simp only [w32_mod] at h_7
        refine ww_iload_n hX (pc := 24) dX11_ones_24 rfl ?_
        refine rI hX (pc := 25) hT (Nat.le_refl 0) (Nat.le_refl 0) dX11_ones_25 ?_
        exact ⟨rfl, rfl, by omega⟩
      · simp only [w32_mod] at h_7
        refine ww_iload_n hX (pc := 10) dX11_ones_10 rfl ?_
        refine ww_iload_n hX (pc := 11) dX11_ones_11 rfl ?_
        refine ww_iload_n hX (pc := 12) dX11_ones_12 rfl ?_
        refine ww_ishr hX (pc := 13) dX11_ones_13 ?_
        refine ww_iconst hX (pc := 14) (x := 1) dX11_ones_14 rfl ?_
        refine ww_iand hX (pc := 15) dX11_ones_15 ?_
        have hb1 := i_and_1 (i_shr a i)
        refine ww_iadd hX (pc := 16) dX11_ones_16 ?_
        refine ww_nmI (fun v_17 hv_17 => ?_)
        refine ww_istore_n hX (pc := 17) (lv' := [some (kI a), some (kI v_17), some (kI i)]) dX11_ones_17 (by decide) rfl rfl ?_
        refine ww_iinc hX (pc := 18) (lv' := [some (kI a), some (kI v_17), some (kI (i + 1))]) dX11_ones_18 rfl (by decide) rfl rfl ?_
        refine ww_goto hX (pc := 21) (tgt := 4) dX11_ones_21 (by decide) ?_
        exact ih_4 _ (by have hm9 := Sh0_e hq_4; omega) v_17 (i + 1) rfl (by omega)
  exact hl_4 _ 0 0 rfl (by omega)
def oilF (k : Nat → Int) (a : Int) : Nat → Int
  | 0 => 0
  | n + 1 => oilF k a n + (if w32 (i_and (i_shr a (n : Int)) 1) = 1 then k (256 + n) else 0)
theorem oilF_s (k : Nat → Int) (a : Int) {i : Int} (h : 0 ≤ i) : oilF k a (i + 1).toNat = oilF k a i.toNat + (if w32 (i_and (i_shr a i) 1) = 1 then k (256 + i).toNat else 0) := by
  obtain ⟨n, rfl⟩ := Int.eq_ofNat_of_zero_le h
  rw [show ((n : Int) + 1).toNat = n + 1 by omega, show ((n : Int)).toNat = n by omega, show (256 + (n : Int)).toNat = 256 + n by omega]
  rfl
set_option maxHeartbeats 4000000 in
set_option maxRecDepth 20000 in
theorem c_X11_oilOf (l0 : Launch) {Ia Ja : aI1} {Ra : aR1} {Sa : aS1} (hL : LY Ra Sa) (hQ : RX Ia) {a : Int}  : CT l0 0 0 0 mX11_oilOf [kR (some 49), kI a] Ia Ja Ra Sa (cI (fun x I' J' => Ia = I' ∧ Ja = J' ∧ x = oilF (Ia 51) a (Ia 51 304).toNat) Ra Sa) := by
  refine ct_in pn_X11 (Nat.le_of_ble_eq_true rfl) (fun X hX hT hIn => ?_)
  have hX : aK l0 X cX11_oilOf 4 RX11 (some .int) 0 0 0 := hX
  change WW X 0 [some (kR (some 49)), some (kI a), none, none] [] Ia Ja Ra Sa 0 0
  have qIa := RX_o hQ
  refine ww_iconst hX (pc := 0) (x := 0) dX11_oilOf_0 rfl ?_
  refine ww_istore_n hX (pc := 1) (lv' := [some (kR (some 49)), some (kI a), some (kI 0), none]) dX11_oilOf_1 (by decide) rfl rfl ?_
  refine ww_iconst hX (pc := 2) (x := 0) dX11_oilOf_2 rfl ?_
  refine ww_istore_n hX (pc := 3) (lv' := [some (kR (some 49)), some (kI a), some (kI 0), some (kI 0)]) dX11_oilOf_3 (by decide) rfl rfl ?_
  have hl_4 : ∀ (n_4 : Nat) (n : Int) (i : Int), (Ia 51 304 - i).toNat = n_4 → ((0 ≤ i ∧ i ≤ Ia 51 304 ∧ n = oilF (Ia 51) a i.toNat)) → WW X 4 [some (kR (some 49)), some (kI a), some (kI n), some (kI i)] [] Ia Ja Ra Sa 0 0 := by
    intro n_4
    induction n_4 using Nat.strongRecOn with
    | ind n_4 ih_4 =>
      intro n i hm_4 hv_4
      have hq_4 := Sh0_i hm_4
      clear hm_4
      have hv := hv_4
      refine ww_iload_n hX (pc := 4) dX11_oilOf_4 rfl ?_
      refine ww_aload_n hX (pc := 5) dX11_oilOf_5 rfl ?_
      refine ww_getR hX (pc := 6) fX11_20 (by decide) (xs_49 hL) (xr_49_3 hL) dX11_oilOf_6 ?_
      refine ww_sipush hX (pc := 9) (x := 304) dX11_oilOf_9 (by decide) ?_
      refine ww_iald hX (pc := 12) (xs_51 hL) (by decide) (by omega) (by omega) dX11_oilOf_12 ?_
      refine ww_toI (b := Ia 51 304) rfl ?_
      refine ww_icmp_ge hX (pc := 13) (tgt := 48) dX11_oilOf_13 (by decide) (fun h_13 => ?_) (fun h_13 => ?_)
      · simp only [w32_mod] at h_13
        refine ww_iload_n hX (pc := 48) dX11_oilOf_48 rfl ?_
        refine rI hX (pc := 49) hT (Nat.le_refl 0) (Nat.le_refl 0) dX11_oilOf_49 ?_
        exact ⟨rfl, rfl, by rw [hv.2.2]; exact congrArg _ (show i.toNat = (Ia 51 304).toNat by omega)⟩
      · simp only [w32_mod] at h_13
        refine ww_iload_n hX (pc := 16) dX11_oilOf_16 rfl ?_
        refine ww_iload_n hX (pc := 17) dX11_oilOf_17 rfl ?_
        refine ww_iload_n hX (pc := 18) dX11_oilOf_18 rfl ?_
        refine ww_ishr hX (pc := 19) dX11_oilOf_19 ?_
        refine ww_iconst hX (pc := 20) (x := 1) dX11_oilOf_20 rfl ?_
        refine ww_iand hX (pc := 21) dX11_oilOf_21 ?_
        refine ww_iconst hX (pc := 22) (x := 1) dX11_oilOf_22 rfl ?_
        refine ww_icmp_ne hX (pc := 23) (tgt := 39) dX11_oilOf_23 (by decide) (fun h_23 => ?_) (fun h_23 => ?_)
        · simp only [w32_mod] at h_23
          have hos : oilF (Ia 51) a (i + 1).toNat = oilF (Ia 51) a i.toNat + 0 := by rw [oilF_s _ _ (by omega), if_neg (by simp only [w32_mod]; omega)]
          refine ww_iconst hX (pc := 39) (x := 0) dX11_oilOf_39 rfl ?_
          refine ww_iadd hX (pc := 40) dX11_oilOf_40 ?_
          refine ww_nmI (fun v_41 hv_41 => ?_)
          refine ww_istore_n hX (pc := 41) (lv' := [some (kR (some 49)), some (kI a), some (kI v_41), some (kI i)]) dX11_oilOf_41 (by decide) rfl rfl ?_
          refine ww_iinc hX (pc := 42) (lv' := [some (kR (some 49)), some (kI a), some (kI v_41), some (kI (i + 1))]) dX11_oilOf_42 rfl (by decide) rfl rfl ?_
          refine ww_goto hX (pc := 45) (tgt := 4) dX11_oilOf_45 (by decide) ?_
          exact ih_4 _ (by have hm9 := Sh0_e hq_4; omega) v_41 (i + 1) rfl (by omega)
        · simp only [w32_mod] at h_23
          have hos : oilF (Ia 51) a (i + 1).toNat = oilF (Ia 51) a i.toNat + Ia 51 (256 + i).toNat := by rw [oilF_s _ _ (by omega), if_pos (by simp only [w32_mod]; omega)]
          refine ww_aload_n hX (pc := 26) dX11_oilOf_26 rfl ?_
          refine ww_getR hX (pc := 27) fX11_20 (by decide) (xs_49 hL) (xr_49_3 hL) dX11_oilOf_27 ?_
          refine ww_sipush hX (pc := 30) (x := 256) dX11_oilOf_30 (by decide) ?_
          refine ww_iload_n hX (pc := 33) dX11_oilOf_33 rfl ?_
          refine ww_iadd hX (pc := 34) dX11_oilOf_34 ?_
          refine ww_iald hX (pc := 35) (xs_51 hL) (by decide) (by omega) (by omega) dX11_oilOf_35 ?_
          refine ww_goto hX (pc := 36) (tgt := 40) dX11_oilOf_36 (by decide) ?_
          refine ww_iadd hX (pc := 40) dX11_oilOf_40 ?_
          refine ww_nmI (fun v_41 hv_41 => ?_)
          refine ww_istore_n hX (pc := 41) (lv' := [some (kR (some 49)), some (kI a), some (kI v_41), some (kI i)]) dX11_oilOf_41 (by decide) rfl rfl ?_
          refine ww_iinc hX (pc := 42) (lv' := [some (kR (some 49)), some (kI a), some (kI v_41), some (kI (i + 1))]) dX11_oilOf_42 rfl (by decide) rfl rfl ?_
          refine ww_goto hX (pc := 45) (tgt := 4) dX11_oilOf_45 (by decide) ?_
          exact ih_4 _ (by have hm9 := Sh0_e hq_4; omega) v_41 (i + 1) rfl (by omega)
  exact hl_4 _ 0 0 rfl (⟨by omega, by omega, rfl⟩)
