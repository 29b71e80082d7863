section
set_option maxHeartbeats 4000000 in
set_option maxRecDepth 20000 in
theorem c_X11_lies (l0 : Launch) {Ia Ja : aI1} {Ra : aR1} {Sa : aS1} {a b c : Int} (ha0 : -2147483648 ≤ a) (ha1 : a < 2147483648) (hb0 : -2147483648 ≤ b) (hb1 : b < 2147483648) (hc0 : -2147483648 ≤ c) (hc1 : c < 2147483648)  : CT l0 0 0 0 mX11_lies [kI a, kI b, kI c] Ia Ja Ra Sa (cI (fun x I' J' => Ia = I' ∧ Ja = J' ∧ (x = 0 ∨ x = 1) ∧ (x = 1 ↔ b ≤ a ∧ a ≤ c)) Ra Sa) := by
  refine ct_in pn_X11 (Nat.le_of_ble_eq_true rfl) (fun X hX hT hIn => ?_)
  have hX : aK l0 X cX11_lies 3 RX11 (some .boolean) 0 0 0 := hX
  change WW X 0 [some (kI a), some (kI b), some (kI c)] [] Ia Ja Ra Sa 0 0
  refine ww_iload_n hX (pc := 0) dX11_lies_0 rfl ?_
  refine ww_iload_n hX (pc := 1) dX11_lies_1 rfl ?_
  refine ww_icmp_lt hX (pc := 2) (tgt := 14) dX11_lies_2 (by decide) (fun h_2 => ?_) (fun h_2 => ?_)
  · simp only [w32_mod] at h_2
    refine ww_iconst hX (pc := 14) (x := 0) dX11_lies_14 rfl ?_
    refine rZ hX (pc := 15) hT (Nat.le_refl 0) (Nat.le_refl 0) dX11_lies_15 (by decide) ?_
    exact ⟨rfl, rfl, by omega, by omega⟩
  · simp only [w32_mod] at h_2
    refine ww_iload_n hX (pc := 5) dX11_lies_5 rfl ?_
    refine ww_iload_n hX (pc := 6) dX11_lies_6 rfl ?_
    refine ww_icmp_gt hX (pc := 7) (tgt := 14) dX11_lies_7 (by decide) (fun h_7 => ?_) (fun h_7 => ?_)
    · simp only [w32_mod] at h_7
      refine ww_iconst hX (pc := 14) (x := 0) dX11_lies_14 rfl ?_
      refine rZ hX (pc := 15) hT (Nat.le_refl 0) (Nat.le_refl 0) dX11_lies_15 (by decide) ?_
      exact ⟨rfl, rfl, by omega, by omega⟩
    · simp only [w32_mod] at h_7
      refine ww_iconst hX (pc := 10) (x := 1) dX11_lies_10 rfl ?_
      refine ww_goto hX (pc := 11) (tgt := 15) dX11_lies_11 (by decide) ?_
      refine rZ hX (pc := 15) hT (Nat.le_refl 0) (Nat.le_refl 0) dX11_lies_15 (by decide) ?_
      exact ⟨rfl, rfl, by omega, by omega⟩
set_option maxHeartbeats 4000000 in
set_option maxRecDepth 20000 in
theorem c_X11_isManner (l0 : Launch) {Ia Ja : aI1} {Ra : aR1} {Sa : aS1} {a : Int} (ha0 : -2147483648 ≤ a) (ha1 : a < 2147483648)  : CT l0 1 0 0 mX11_isManner [kI a] Ia Ja Ra Sa (cI (fun x I' J' => Ia = I' ∧ Ja = J' ∧ (x = 0 ∨ x = 1) ∧ (x = 1 ↔ 0 ≤ a ∧ a ≤ 3)) Ra Sa) := by
  refine ct_in pn_X11 (Nat.le_of_ble_eq_true rfl) (fun X hX hT hIn => ?_)
  have hX : aK l0 X cX11_isManner 1 RX11 (some .boolean) 1 0 0 := hX
  change WW X 0 [some (kI a)] [] Ia Ja Ra Sa 0 0
  refine ww_iload_n hX (pc := 0) dX11_isManner_0 rfl ?_
  refine ww_iconst hX (pc := 1) (x := 0) dX11_isManner_1 rfl ?_
  refine ww_iconst hX (pc := 2) (x := 3) dX11_isManner_2 rfl ?_
  refine sI3 hX (pc := 3) sX11_101 (c_X11_lies l0 (by omega) (by omega) (by omega) (by omega) (by omega) (by omega)) (by decide) (Nat.le_refl 0) (Nat.le_refl 0) (Nat.le_of_ble_eq_true rfl) dX11_isManner_3 (fun x_3 I_3 J_3 h_3 => ?_)
  obtain ⟨rfl, rfl, h_3⟩ := h_3
  refine rZ hX (pc := 6) hT (Nat.le_refl 0) (Nat.le_refl 0) dX11_isManner_6 (by omega) ?_
  exact ⟨rfl, rfl, by omega, by omega⟩
set_option maxHeartbeats 4000000 in
set_option maxRecDepth 20000 in
theorem c_X11_areCodes (l0 : Launch) {Ia Ja : aI1} {Ra : aR1} {Sa : aS1} {a b c : Int} (ha0 : -2147483648 ≤ a) (ha1 : a < 2147483648) (hb0 : -2147483648 ≤ b) (hb1 : b < 2147483648) (hc0 : -2147483648 ≤ c) (hc1 : c < 2147483648)  : CT l0 1 0 0 mX11_areCodes [kI a, kI b, kI c] Ia Ja Ra Sa (cI (fun x I' J' => Ia = I' ∧ Ja = J' ∧ (x = 0 ∨ x = 1) ∧ (x = 1 ↔ 1 ≤ a ∧ a ≤ 3 ∧ 2 ≤ b ∧ b ≤ 4 ∧ 0 ≤ c ∧ c ≤ 8)) Ra Sa) := by
  refine ct_in pn_X11 (Nat.le_of_ble_eq_true rfl) (fun X hX hT hIn => ?_)
  have hX : aK l0 X cX11_areCodes 3 RX11 (some .boolean) 1 0 0 := hX
  change WW X 0 [some (kI a), some (kI b), some (kI c)] [] Ia Ja Ra Sa 0 0
  refine ww_iload_n hX (pc := 0) dX11_areCodes_0 rfl ?_
  refine ww_iconst hX (pc := 1) (x := 1) dX11_areCodes_1 rfl ?_
  refine ww_iconst hX (pc := 2) (x := 3) dX11_areCodes_2 rfl ?_
  refine sI3 hX (pc := 3) sX11_101 (c_X11_lies l0 (by omega) (by omega) (by omega) (by omega) (by omega) (by omega)) (by decide) (Nat.le_refl 0) (Nat.le_refl 0) (Nat.le_of_ble_eq_true rfl) dX11_areCodes_3 (fun x_3 I_3 J_3 h_3 => ?_)
  obtain ⟨rfl, rfl, h_3⟩ := h_3
  refine ww_if_eq hX (pc := 6) (tgt := 32) dX11_areCodes_6 (by decide) (fun h_6 => ?_) (fun h_6 => ?_)
  · simp only [w32_mod] at h_6
    refine ww_iconst hX (pc := 32) (x := 0) dX11_areCodes_32 rfl ?_
    refine rZ hX (pc := 33) hT (Nat.le_refl 0) (Nat.le_refl 0) dX11_areCodes_33 (by decide) ?_
    exact ⟨rfl, rfl, by omega, by omega⟩
  · simp only [w32_mod] at h_6
    have k_3 := h_3.2.mp (by omega)
    clear h_3
    refine ww_iload_n hX (pc := 9) dX11_areCodes_9 rfl ?_
    refine ww_iconst hX (pc := 10) (x := 2) dX11_areCodes_10 rfl ?_
    refine ww_iconst hX (pc := 11) (x := 4) dX11_areCodes_11 rfl ?_
    refine sI3 hX (pc := 12) sX11_101 (c_X11_lies l0 (by omega) (by omega) (by omega) (by omega) (by omega) (by omega)) (by decide) (Nat.le_refl 0) (Nat.le_refl 0) (Nat.le_of_ble_eq_true rfl) dX11_areCodes_12 (fun x_12 I_12 J_12 h_12 => ?_)
    obtain ⟨rfl, rfl, h_12⟩ := h_12
    refine ww_if_eq hX (pc := 15) (tgt := 32) dX11_areCodes_15 (by decide) (fun h_15 => ?_) (fun h_15 => ?_)
    · simp only [w32_mod] at h_15
      refine ww_iconst hX (pc := 32) (x := 0) dX11_areCodes_32 rfl ?_
      refine rZ hX (pc := 33) hT (Nat.le_refl 0) (Nat.le_refl 0) dX11_areCodes_33 (by decide) ?_
      exact ⟨rfl, rfl, by omega, by omega⟩
    · simp only [w32_mod] at h_15
      have k_12 := h_12.2.mp (by omega)
      clear h_12
      refine ww_iload_n hX (pc := 18) dX11_areCodes_18 rfl ?_
      refine ww_iconst hX (pc := 19) (x := 0) dX11_areCodes_19 rfl ?_
      refine ww_bipush hX (pc := 20) (x := 8) dX11_areCodes_20 (by decide) ?_
      refine sI3 hX (pc := 22) sX11_101 (c_X11_lies l0 (by omega) (by omega) (by omega) (by omega) (by omega) (by omega)) (by decide) (Nat.le_refl 0) (Nat.le_refl 0) (Nat.le_of_ble_eq_true rfl) dX11_areCodes_22 (fun x_22 I_22 J_22 h_22 => ?_)
      obtain ⟨rfl, rfl, h_22⟩ := h_22
      refine ww_if_eq hX (pc := 25) (tgt := 32) dX11_areCodes_25 (by decide) (fun h_25 => ?_) (fun h_25 => ?_)
      · simp only [w32_mod] at h_25
        refine ww_iconst hX (pc := 32) (x := 0) dX11_areCodes_32 rfl ?_
        refine rZ hX (pc := 33) hT (Nat.le_refl 0) (Nat.le_refl 0) dX11_areCodes_33 (by decide) ?_
        exact ⟨rfl, rfl, by omega, by omega⟩
      · simp only [w32_mod] at h_25
        have k_22 := h_22.2.mp (by omega)
        clear h_22
        refine ww_iconst hX (pc := 28) (x := 1) dX11_areCodes_28 rfl ?_
        refine ww_goto hX (pc := 29) (tgt := 33) dX11_areCodes_29 (by decide) ?_
        refine rZ hX (pc := 33) hT (Nat.le_refl 0) (Nat.le_refl 0) dX11_areCodes_33 (by decide) ?_
        exact ⟨rfl, rfl, by omega, by omega⟩
set_option maxHeartbeats 4000000 in
set_option maxRecDepth 20000 in
theorem c_X11_greater (l0 : Launch) {Ia Ja : aI1} {Ra : aR1} {Sa : aS1} {a b : Int} (ha0 : -2147483648 ≤ a) (ha1 : a < 2147483648) (hb0 : -2147483648 ≤ b) (hb1 : b < 2147483648)  : CT l0 0 0 0 mX11_greater [kI a, kI b] Ia Ja Ra Sa (cI (fun x I' J' => Ia = I' ∧ Ja = J' ∧ x = max a b) Ra Sa) := by
  refine ct_in pn_X11 (Nat.le_of_ble_eq_true rfl) (fun X hX hT hIn => ?_)
  have hX : aK l0 X cX11_greater 2 RX11 (some .int) 0 0 0 := hX
  change WW X 0 [some (kI a), some (kI b)] [] Ia Ja Ra Sa 0 0
  refine ww_iload_n hX (pc := 0) dX11_greater_0 rfl ?_
  refine ww_iload_n hX (pc := 1) dX11_greater_1 rfl ?_
  refine ww_icmp_le hX (pc := 2) (tgt := 9) dX11_greater_2 (by decide) (fun h_2 => ?_) (fun h_2 => ?_)
  · simp only [w32_mod] at h_2
    refine ww_iload_n hX (pc := 9) dX11_greater_9 rfl ?_
    refine rI hX (pc := 10) hT (Nat.le_refl 0) (Nat.le_refl 0) dX11_greater_10 ?_
    exact ⟨rfl, rfl, by omega⟩
  · simp only [w32_mod] at h_2
    refine ww_iload_n hX (pc := 5) dX11_greater_5 rfl ?_
    refine ww_goto hX (pc := 6) (tgt := 10) dX11_greater_6 (by decide) ?_
    refine rI hX (pc := 10) hT (Nat.le_refl 0) (Nat.le_refl 0) dX11_greater_10 ?_
    exact ⟨rfl, rfl, by omega⟩
set_option maxHeartbeats 4000000 in
set_option maxRecDepth 20000 in
theorem c_X11_isSmall (l0 : Launch) {Ia Ja : aI1} {Ra : aR1} {Sa : aS1} {a : Int} (ha0 : -2147483648 ≤ a) (ha1 : a < 2147483648)  : CT l0 0 0 0 mX11_isSmall [kI a] Ia Ja Ra Sa (cI (fun x I' J' => Ia = I' ∧ Ja = J' ∧ (x = 0 ∨ x = 1) ∧ (x = 1 ↔ 97 ≤ a ∧ a ≤ 122)) Ra Sa) := by
  refine ct_in pn_X11 (Nat.le_of_ble_eq_true rfl) (fun X hX hT hIn => ?_)
  have hX : aK l0 X cX11_isSmall 1 RX11 (some .boolean) 0 0 0 := hX
  change WW X 0 [some (kI a)] [] Ia Ja Ra Sa 0 0
  refine ww_iload_n hX (pc := 0) dX11_isSmall_0 rfl ?_
  refine ww_bipush hX (pc := 1) (x := 97) dX11_isSmall_1 (by decide) ?_
  refine ww_icmp_lt hX (pc := 3) (tgt := 16) dX11_isSmall_3 (by decide) (fun h_3 => ?_) (fun h_3 => ?_)
  · simp only [w32_mod] at h_3
    refine ww_iconst hX (pc := 16) (x := 0) dX11_isSmall_16 rfl ?_
    refine rZ hX (pc := 17) hT (Nat.le_refl 0) (Nat.le_refl 0) dX11_isSmall_17 (by decide) ?_
    exact ⟨rfl, rfl, by omega, by omega⟩
  · simp only [w32_mod] at h_3
    refine ww_iload_n hX (pc := 6) dX11_isSmall_6 rfl ?_
    refine ww_bipush hX (pc := 7) (x := 122) dX11_isSmall_7 (by decide) ?_
    refine ww_icmp_gt hX (pc := 9) (tgt := 16) dX11_isSmall_9 (by decide) (fun h_9 => ?_) (fun h_9 => ?_)
    · simp only [w32_mod] at h_9
      refine ww_iconst hX (pc := 16) (x := 0) dX11_isSmall_16 rfl ?_
      refine rZ hX (pc := 17) hT (Nat.le_refl 0) (Nat.le_refl 0) dX11_isSmall_17 (by decide) ?_
      exact ⟨rfl, rfl, by omega, by omega⟩
    · simp only [w32_mod] at h_9
      refine ww_iconst hX (pc := 12) (x := 1) dX11_isSmall_12 rfl ?_
      refine ww_goto hX (pc := 13) (tgt := 17) dX11_isSmall_13 (by decide) ?_
      refine rZ hX (pc := 17) hT (Nat.le_refl 0) (Nat.le_refl 0) dX11_isSmall_17 (by decide) ?_
      exact ⟨rfl, rfl, by omega, by omega⟩
set_option maxHeartbeats 4000000 in
set_option maxRecDepth 20000 in
theorem c_X11_isDigit (l0 : Launch) {Ia Ja : aI1} {Ra : aR1} {Sa : aS1} {a : Int} (ha0 : -2147483648 ≤ a) (ha1 : a < 2147483648)  : CT l0 0 0 0 mX11_isDigit [kI a] Ia Ja Ra Sa (cI (fun x I' J' => Ia = I' ∧ Ja = J' ∧ (x = 0 ∨ x = 1) ∧ (x = 1 ↔ 48 ≤ a ∧ a ≤ 57)) Ra Sa) := by
  refine ct_in pn_X11 (Nat.le_of_ble_eq_true rfl) (fun X hX hT hIn => ?_)
  have hX : aK l0 X cX11_isDigit 1 RX11 (some .boolean) 0 0 0 := hX
  change WW X 0 [some (kI a)] [] Ia Ja Ra Sa 0 0
  refine ww_iload_n hX (pc := 0) dX11_isDigit_0 rfl ?_
  refine ww_bipush hX (pc := 1) (x := 48) dX11_isDigit_1 (by decide) ?_
  refine ww_icmp_lt hX (pc := 3) (tgt := 16) dX11_isDigit_3 (by decide) (fun h_3 => ?_) (fun h_3 => ?_)
  · simp only [w32_mod] at h_3
    refine ww_iconst hX (pc := 16) (x := 0) dX11_isDigit_16 rfl ?_
    refine rZ hX (pc := 17) hT (Nat.le_refl 0) (Nat.le_refl 0) dX11_isDigit_17 (by decide) ?_
    exact ⟨rfl, rfl, by omega, by omega⟩
  · simp only [w32_mod] at h_3
    refine ww_iload_n hX (pc := 6) dX11_isDigit_6 rfl ?_
    refine ww_bipush hX (pc := 7) (x := 57) dX11_isDigit_7 (by decide) ?_
    refine ww_icmp_gt hX (pc := 9) (tgt := 16) dX11_isDigit_9 (by decide) (fun h_9 => ?_) (fun h_9 => ?_)
    · simp only [w32_mod] at h_9
      refine ww_iconst hX (pc := 16) (x := 0) dX11_isDigit_16 rfl ?_
      refine rZ hX (pc := 17) hT (Nat.le_refl 0) (Nat.le_refl 0) dX11_isDigit_17 (by decide) ?_
      exact ⟨rfl, rfl, by omega, by omega⟩
    · simp only [w32_mod] at h_9
      refine ww_iconst hX (pc := 12) (x := 1) dX11_isDigit_12 rfl ?_
      refine ww_goto hX (pc := 13) (tgt := 17) dX11_isDigit_13 (by decide) ?_
      refine rZ hX (pc := 17) hT (Nat.le_refl 0) (Nat.le_refl 0) dX11_isDigit_17 (by decide) ?_
      exact ⟨rfl, rfl, by omega, by omega⟩
set_option maxHeartbeats 4000000 in
set_option maxRecDepth 20000 in
theorem c_X11_sign (l0 : Launch) {Ia Ja : aI1} {Ra : aR1} {Sa : aS1} {a : Int}  : CT l0 0 0 0 mX11_sign [kI a] Ia Ja Ra Sa (cI (fun x I' J' => Ia = I' ∧ Ja = J' ∧ x = 100 + a) Ra Sa) := by
  refine ct_in pn_X11 (Nat.le_of_ble_eq_true rfl) (fun X hX hT hIn => ?_)
  have hX : aK l0 X cX11_sign 1 RX11 (some .int) 0 0 0 := hX
  change WW X 0 [some (kI a)] [] Ia Ja Ra Sa 0 0
  refine ww_bipush hX (pc := 0) (x := 100) dX11_sign_0 (by decide) ?_
  refine ww_iload_n hX (pc := 2) dX11_sign_2 rfl ?_
  refine ww_iadd hX (pc := 3) dX11_sign_3 ?_
  refine rI hX (pc := 4) hT (Nat.le_refl 0) (Nat.le_refl 0) dX11_sign_4 ?_
  exact ⟨rfl, rfl, rfl⟩
set_option maxHeartbeats 4000000 in
set_option maxRecDepth 20000 in
theorem c_X11_states (l0 : Launch) {Ia Ja : aI1} {Ra : aR1} {Sa : aS1} (hL : LY Ra Sa) (hQ : RX Ia)  : CT l0 0 0 0 mX11_states [kR (some 49)] Ia Ja Ra Sa (cI (fun x I' J' => Ia = I' ∧ Ja = J' ∧ x = FU (Ia 51 304) + 1) Ra Sa) := by
  refine ct_in pn_X11 (Nat.le_of_ble_eq_true rfl) (fun X hX hT hIn => ?_)
  have hX : aK l0 X cX11_states 1 RX11 (some .int) 0 0 0 := hX
  change WW X 0 [some (kR (some 49))] [] Ia Ja Ra Sa 0 0
  have qIa := RX_o hQ
  refine ww_iconst hX (pc := 0) (x := 1) dX11_states_0 rfl ?_
  refine ww_aload_n hX (pc := 1) dX11_states_1 rfl ?_
  refine ww_getR hX (pc := 2) fX11_20 (by decide) (xs_49 hL) (xr_49_3 hL) dX11_states_2 ?_
  refine ww_sipush hX (pc := 5) (x := 304) dX11_states_5 (by decide) ?_
  refine ww_iald hX (pc := 8) (xs_51 hL) (by decide) (by omega) (by omega) dX11_states_8 ?_
  refine ww_toI (b := Ia 51 304) rfl ?_
  refine ww_ishl hX (pc := 9) dX11_states_9 ?_
  refine rI hX (pc := 10) hT (Nat.le_refl 0) (Nat.le_refl 0) dX11_states_10 ?_
  exact ⟨rfl, rfl, by rw [i_shl1 (by omega) (by omega)]; exact (FU_r (by omega) (by omega)).2.2.symm⟩
set_option maxHeartbeats 4000000 in
set_option maxRecDepth 20000 in
theorem c_X11_isState (l0 : Launch) {Ia Ja : aI1} {Ra : aR1} {Sa : aS1} (hL : LY Ra Sa) (hQ : RX Ia) {a : Int} (ha0 : -2147483648 ≤ a) (ha1 : a < 2147483648)  : CT l0 1 0 0 mX11_isState [kR (some 49), kI a] Ia Ja Ra Sa (cI (fun x I' J' => Ia = I' ∧ Ja = J' ∧ (x = 0 ∨ x = 1) ∧ (x = 1 ↔ 0 ≤ a ∧ a ≤ FU (Ia 51 304))) Ra Sa) := by
  refine ct_in pn_X11 (Nat.le_of_ble_eq_true rfl) (fun X hX hT hIn => ?_)
  have hX : aK l0 X cX11_isState 2 RX11 (some .boolean) 1 0 0 := hX
  change WW X 0 [some (kR (some 49)), some (kI a)] [] Ia Ja Ra Sa 0 0
  have qIa := RX_o hQ
  refine ww_iload_n hX (pc := 0) dX11_isState_0 rfl ?_
  refine ww_iconst hX (pc := 1) (x := 0) dX11_isState_1 rfl ?_
  refine ww_aload_n hX (pc := 2) dX11_isState_2 rfl ?_
  refine vI0 hX (pc := 3) sX11_112 (xs_49 hL) (c_X11_states l0 hL hQ ) (by decide) (Nat.le_refl 0) (Nat.le_refl 0) (Nat.le_of_ble_eq_true rfl) dX11_isState_3 (fun x_3 I_3 J_3 h_3 => ?_)
  obtain ⟨rfl, rfl, h_3⟩ := h_3
  refine ww_iconst hX (pc := 6) (x := 1) dX11_isState_6 rfl ?_
  refine ww_isub hX (pc := 7) dX11_isState_7 ?_
  refine sI3 hX (pc := 8) sX11_101 (c_X11_lies l0 (by omega) (by omega) (by omega) (by omega) (by omega) (by omega)) (by decide) (Nat.le_refl 0) (Nat.le_refl 0) (Nat.le_of_ble_eq_true rfl) dX11_isState_8 (fun x_8 I_8 J_8 h_8 => ?_)
  obtain ⟨rfl, rfl, h_8⟩ := h_8
  refine rZ hX (pc := 11) hT (Nat.le_refl 0) (Nat.le_refl 0) dX11_isState_11 (by omega) ?_
  exact ⟨rfl, rfl, by omega, by omega⟩
set_option maxHeartbeats 4000000 in
set_option maxRecDepth 20000 in
theorem c_X11_isNews (l0 : Launch) {Ia Ja : aI1} {Ra : aR1} {Sa : aS1} (hL : LY Ra Sa) (hQ : RX Ia) {a : Int} (ha0 : -2147483648 ≤ a) (ha1 : a < 2147483648)  : CT l0 1 0 0 mX11_isNews [kR (some 49), kI a] Ia Ja Ra Sa (cI (fun x I' J' => Ia = I' ∧ Ja = J' ∧ (x = 0 ∨ x = 1) ∧ (x = 1 ↔ 0 ≤ a ∧ a < Ia 51 305)) Ra Sa) := by
  refine ct_in pn_X11 (Nat.le_of_ble_eq_true rfl) (fun X hX hT hIn => ?_)
  have hX : aK l0 X cX11_isNews 2 RX11 (some .boolean) 1 0 0 := hX
  change WW X 0 [some (kR (some 49)), some (kI a)] [] Ia Ja Ra Sa 0 0
  have qIa := RX_o hQ
  refine ww_iload_n hX (pc := 0) dX11_isNews_0 rfl ?_
  refine ww_iconst hX (pc := 1) (x := 0) dX11_isNews_1 rfl ?_
  refine ww_aload_n hX (pc := 2) dX11_isNews_2 rfl ?_
  refine ww_getR hX (pc := 3) fX11_20 (by decide) (xs_49 hL) (xr_49_3 hL) dX11_isNews_3 ?_
  refine ww_sipush hX (pc := 6) (x := 305) dX11_isNews_6 (by decide) ?_
  refine ww_iald hX (pc := 9) (xs_51 hL) (by decide) (by omega) (by omega) dX11_isNews_9 ?_
  refine ww_toI (b := Ia 51 305) rfl ?_
  refine ww_iconst hX (pc := 10) (x := 1) dX11_isNews_10 rfl ?_
  refine ww_isub hX (pc := 11) dX11_isNews_11 ?_
  refine sI3 hX (pc := 12) sX11_101 (c_X11_lies l0 (by omega) (by omega) (by omega) (by omega) (by omega) (by omega)) (by decide) (Nat.le_refl 0) (Nat.le_refl 0) (Nat.le_of_ble_eq_true rfl) dX11_isNews_12 (fun x_12 I_12 J_12 h_12 => ?_)
  obtain ⟨rfl, rfl, h_12⟩ := h_12
  refine rZ hX (pc := 15) hT (Nat.le_refl 0) (Nat.le_refl 0) dX11_isNews_15 (by omega) ?_
  exact ⟨rfl, rfl, by omega, by omega⟩
set_option maxHeartbeats 4000000 in
set_option maxRecDepth 20000 in
theorem c_X11_isLamp (l0 : Launch) {Ia Ja : aI1} {Ra : aR1} {Sa : aS1} (hL : LY Ra Sa) (hQ : RX Ia) {a : Int} (ha0 : -2147483648 ≤ a) (ha1 : a < 2147483648)  : CT l0 1 0 0 mX11_isLamp [kR (some 49), kI a] Ia Ja Ra Sa (cI (fun x I' J' => Ia = I' ∧ Ja = J' ∧ (x = 0 ∨ x = 1) ∧ (x = 1 ↔ 0 ≤ a ∧ a < Ia 51 304)) Ra Sa) := by
  refine ct_in pn_X11 (Nat.le_of_ble_eq_true rfl) (fun X hX hT hIn => ?_)
  have hX : aK l0 X cX11_isLamp 2 RX11 (some .boolean) 1 0 0 := hX
  change WW X 0 [some (kR (some 49)), some (kI a)] [] Ia Ja Ra Sa 0 0
  have qIa := RX_o hQ
  refine ww_iload_n hX (pc := 0) dX11_isLamp_0 rfl ?_
  refine ww_iconst hX (pc := 1) (x := 0) dX11_isLamp_1 rfl ?_
  refine ww_aload_n hX (pc := 2) dX11_isLamp_2 rfl ?_
  refine ww_getR hX (pc := 3) fX11_20 (by decide) (xs_49 hL) (xr_49_3 hL) dX11_isLamp_3 ?_
  refine ww_sipush hX (pc := 6) (x := 304) dX11_isLamp_6 (by decide) ?_
  refine ww_iald hX (pc := 9) (xs_51 hL) (by decide) (by omega) (by omega) dX11_isLamp_9 ?_
  refine ww_toI (b := Ia 51 304) rfl ?_
  refine ww_iconst hX (pc := 10) (x := 1) dX11_isLamp_10 rfl ?_
  refine ww_isub hX (pc := 11) dX11_isLamp_11 ?_
  refine sI3 hX (pc := 12) sX11_101 (c_X11_lies l0 (by omega) (by omega) (by omega) (by omega) (by omega) (by omega)) (by decide) (Nat.le_refl 0) (Nat.le_refl 0) (Nat.le_of_ble_eq_true rfl) dX11_isLamp_12 (fun x_12 I_12 J_12 h_12 => ?_)
  obtain ⟨rfl, rfl, h_12⟩ := h_12
  refine rZ hX (pc := 15) hT (Nat.le_refl 0) (Nat.le_refl 0) dX11_isLamp_15 (by omega) ?_
  exact ⟨rfl, rfl, by omega, by omega⟩
set_option maxHeartbeats 4000000 in
set_option maxRecDepth 20000 in
theorem c_X11_readOf (l0 : Launch) {Ia Ja : aI1} {Ra : aR1} {Sa : aS1} (hL : LY Ra Sa) (hQ : RX Ia) {a : Int} (ha0 : 0 ≤ a) (ha1 : a ≤ 255)  : CT l0 0 0 0 mX11_readOf [kR (some 49), kI a] Ia Ja Ra Sa (cI (fun x I' J' => Ia = I' ∧ Ja = J' ∧ x = Ia 51 a.toNat) Ra Sa) := by
  refine ct_in pn_X11 (Nat.le_of_ble_eq_true rfl) (fun X hX hT hIn => ?_)
  have hX : aK l0 X cX11_readOf 2 RX11 (some .int) 0 0 0 := hX
  change WW X 0 [some (kR (some 49)), some (kI a)] [] Ia Ja Ra Sa 0 0
  have qIa := RX_o hQ
  refine ww_aload_n hX (pc := 0) dX11_readOf_0 rfl ?_
  refine ww_getR hX (pc := 1) fX11_20 (by decide) (xs_49 hL) (xr_49_3 hL) dX11_readOf_1 ?_
  refine ww_iconst hX (pc := 4) (x := 0) dX11_readOf_4 rfl ?_
  refine ww_iload_n hX (pc := 5) dX11_readOf_5 rfl ?_
  refine ww_iadd hX (pc := 6) dX11_readOf_6 ?_
  refine ww_iald hX (pc := 7) (xs_51 hL) (by decide) (by omega) (by omega) dX11_readOf_7 ?_
  refine rI hX (pc := 8) hT (Nat.le_refl 0) (Nat.le_refl 0) dX11_readOf_8 ?_
  exact ⟨rfl, rfl, by rw [Int.zero_add]⟩
def canC (s t b : Int) : Prop := w32 (i_and s (i_xor t (-1))) = 0 ∧ w32 (i_and (i_and t (i_xor s (-1))) b) = 0
set_option maxHeartbeats 4000000 in
set_option maxRecDepth 20000 in
theorem c_X11_canCome (l0 : Launch) {Ia Ja : aI1} {Ra : aR1} {Sa : aS1} (hL : LY Ra Sa) (hQ : RX Ia) {a b c : Int}  : CT l0 0 0 0 mX11_canCome [kR (some 49), kI a, kI b, kI c] Ia Ja Ra Sa (cI (fun x I' J' => Ia = I' ∧ Ja = J' ∧ (x = 0 ∨ x = 1) ∧ (x = 1 ↔ canC a b c)) Ra Sa) := by
  refine ct_in pn_X11 (Nat.le_of_ble_eq_true rfl) (fun X hX hT hIn => ?_)
  have hX : aK l0 X cX11_canCome 4 RX11 (some .boolean) 0 0 0 := hX
  change WW X 0 [some (kR (some 49)), some (kI a), some (kI b), some (kI c)] [] Ia Ja Ra Sa 0 0
  have qIa := RX_o hQ
  refine ww_iload_n hX (pc := 0) dX11_canCome_0 rfl ?_
  refine ww_iload_n hX (pc := 1) dX11_canCome_1 rfl ?_
  refine ww_iconst hX (pc := 2) (x := (-1)) dX11_canCome_2 rfl ?_
  refine ww_ixor hX (pc := 3) dX11_canCome_3 ?_
  refine ww_iand hX (pc := 4) dX11_canCome_4 ?_
  refine ww_if_ne hX (pc := 5) (tgt := 22) dX11_canCome_5 (by decide) (fun h_5 => ?_) (fun h_5 => ?_)
  · simp only [w32_mod] at h_5
    refine ww_iconst hX (pc := 22) (x := 0) dX11_canCome_22 rfl ?_
    refine rZ hX (pc := 23) hT (Nat.le_refl 0) (Nat.le_refl 0) dX11_canCome_23 (by decide) ?_
    exact ⟨rfl, rfl, by omega, fun h8 => by unfold canC; simp only [w32_mod]; omega, fun h9 => by unfold canC at h9; simp only [w32_mod] at h9; omega⟩
  · simp only [w32_mod] at h_5
    refine ww_iload_n hX (pc := 8) dX11_canCome_8 rfl ?_
    refine ww_iload_n hX (pc := 9) dX11_canCome_9 rfl ?_
    refine ww_iconst hX (pc := 10) (x := (-1)) dX11_canCome_10 rfl ?_
    refine ww_ixor hX (pc := 11) dX11_canCome_11 ?_
    refine ww_iand hX (pc := 12) dX11_canCome_12 ?_
    refine ww_iload_n hX (pc := 13) dX11_canCome_13 rfl ?_
    refine ww_iand hX (pc := 14) dX11_canCome_14 ?_
    refine ww_if_ne hX (pc := 15) (tgt := 22) dX11_canCome_15 (by decide) (fun h_15 => ?_) (fun h_15 => ?_)
    · simp only [w32_mod] at h_15
      refine ww_iconst hX (pc := 22) (x := 0) dX11_canCome_22 rfl ?_
      refine rZ hX (pc := 23) hT (Nat.le_refl 0) (Nat.le_refl 0) dX11_canCome_23 (by decide) ?_
      exact ⟨rfl, rfl, by omega, fun h8 => by unfold canC; simp only [w32_mod]; omega, fun h9 => by unfold canC at h9; simp only [w32_mod] at h9; omega⟩
    · simp only [w32_mod] at h_15
      refine ww_iconst hX (pc := 18) (x := 1) dX11_canCome_18 rfl ?_
      refine ww_goto hX (pc := 19) (tgt := 23) dX11_canCome_19 (by decide) ?_
      refine rZ hX (pc := 23) hT (Nat.le_refl 0) (Nat.le_refl 0) dX11_canCome_23 (by decide) ?_
      exact ⟨rfl, rfl, by omega, fun h8 => by unfold canC; simp only [w32_mod]; omega, fun h9 => by unfold canC at h9; simp only [w32_mod] at h9; omega⟩
set_option maxHeartbeats 4000000 in
set_option maxRecDepth 20000 in
theorem c_X11_ones (l0 : Launch) {Ia Ja : aI1} {Ra : aR1} {Sa : aS1} {a : Int}  : CT l0 0 0 0 mX11_ones [kI a] Ia Ja Ra Sa (cI (fun x I' J' => Ia = I' ∧ Ja = J' ∧ 0 ≤ x ∧ x ≤ 16) Ra Sa) := by
  refine ct_in pn_X11 (Nat.le_of_ble_eq_true rfl) (fun X hX hT hIn => ?_)
  have hX : aK l0 X cX11_ones 3 RX11 (some .int) 0 0 0 := hX
  change WW X 0 [some (kI a), none, none] [] Ia Ja Ra Sa 0 0
  refine ww_iconst hX (pc := 0) (x := 0) dX11_ones_0 rfl ?_
  refine ww_istore_n hX (pc := 1) (lv' := [some (kI a), some (kI 0), none]) dX11_ones_1 (by decide) rfl rfl ?_
  refine ww_iconst hX (pc := 2) (x := 0) dX11_ones_2 rfl ?_
  refine ww_istore_n hX (pc := 3) (lv' := [some (kI a), some (kI 0), some (kI 0)]) dX11_ones_3 (by decide) rfl rfl ?_
  have hl_4 : ∀ (n_4 : Nat) (n : Int) (i : Int), (16 - i).toNat = n_4 → ((0 ≤ i ∧ i ≤ 16 ∧ 0 ≤ n ∧ n ≤ i)) → WW X 4 [some (kI a), some (kI n), some (kI i)] [] Ia Ja Ra Sa 0 0 := by
    intro n_4
    induction n_4 using Nat.strongRecOn with
    | ind n_4 ih_4 =>
      intro n i hm_4 hv_4
      have hq_4 := Sh0_i hm_4
      clear hm_4
      have hv := hv_4
      refine ww_iload_n hX (pc := 4) dX11_ones_4 rfl ?_
      refine ww_bipush hX (pc := 5) (x := 16) dX11_ones_5 (by decide) ?_
      refine ww_icmp_ge hX (pc := 7) (tgt := 24) dX11_ones_7 (by decide) (fun h_7 => ?_) (fun h_7 => ?_)
      · simp only [w32_mod] at h_7
        refine ww_iload_n hX (pc := 24) dX11_ones_24 rfl ?_
        refine rI hX (pc := 25) hT (Nat.le_refl 0) (Nat.le_refl 0) dX11_ones_25 ?_
        exact ⟨rfl, rfl, by omega⟩
      · simp only [w32_mod] at h_7
        refine ww_iload_n hX (pc := 10) dX11_ones_10 rfl ?_
        refine ww_iload_n hX (pc := 11) dX11_ones_11 rfl ?_
        refine ww_iload_n hX (pc := 12) dX11_ones_12 rfl ?_
        refine ww_ishr hX (pc := 13) dX11_ones_13 ?_
        refine ww_iconst hX (pc := 14) (x := 1) dX11_ones_14 rfl ?_
        refine ww_iand hX (pc := 15) dX11_ones_15 ?_
        have hb1 := i_and_1 (i_shr a i)
        refine ww_iadd hX (pc := 16) dX11_ones_16 ?_
        refine ww_nmI (fun v_17 hv_17 => ?_)
        refine ww_istore_n hX (pc := 17) (lv' := [some (kI a), some (kI v_17), some (kI i)]) dX11_ones_17 (by decide) rfl rfl ?_
        refine ww_iinc hX (pc := 18) (lv' := [some (kI a), some (kI v_17), some (kI (i + 1))]) dX11_ones_18 rfl (by decide) rfl rfl ?_
        refine ww_goto hX (pc := 21) (tgt := 4) dX11_ones_21 (by decide) ?_
        exact ih_4 _ (by have hm9 := Sh0_e hq_4; omega) v_17 (i + 1) rfl (by omega)
  exact hl_4 _ 0 0 rfl (by omega)
def oilF (k : Nat → Int) (a : Int) : Nat → Int
  | 0 => 0
  | n + 1 => oilF k a n + (if w32 (i_and (i_shr a (n : Int)) 1) = 1 then k (256 + n) else 0)
theorem oilF_s (k : Nat → Int) (a : Int) {i : Int} (h : 0 ≤ i) : oilF k a (i + 1).toNat = oilF k a i.toNat + (if w32 (i_and (i_shr a i) 1) = 1 then k (256 + i).toNat else 0) := by
  obtain ⟨n, rfl⟩ := Int.eq_ofNat_of_zero_le h
  rw [show ((n : Int) + 1).toNat = n + 1 by omega, show ((n : Int)).toNat = n by omega, show (256 + (n : Int)).toNat = 256 + n by omega]
  rfl
set_option maxHeartbeats 4000000 in
set_option maxRecDepth 20000 in
theorem c_X11_oilOf (l0 : Launch) {Ia Ja : aI1} {Ra : aR1} {Sa : aS1} (hL : LY Ra Sa) (hQ : RX Ia) {a : Int}  : CT l0 0 0 0 mX11_oilOf [kR (some 49), kI a] Ia Ja Ra Sa (cI (fun x I' J' => Ia = I' ∧ Ja = J' ∧ x = oilF (Ia 51) a (Ia 51 304).toNat) Ra Sa) := by
  refine ct_in pn_X11 (Nat.le_of_ble_eq_true rfl) (fun X hX hT hIn => ?_)
  have hX : aK l0 X cX11_oilOf 4 RX11 (some .int) 0 0 0 := hX
  change WW X 0 [some (kR (some 49)), some (kI a), none, none] [] Ia Ja Ra Sa 0 0
  have qIa := RX_o hQ
  refine ww_iconst hX (pc := 0) (x := 0) dX11_oilOf_0 rfl ?_
  refine ww_istore_n hX (pc := 1) (lv' := [some (kR (some 49)), some (kI a), some (kI 0), none]) dX11_oilOf_1 (by decide) rfl rfl ?_
  refine ww_iconst hX (pc := 2) (x := 0) dX11_oilOf_2 rfl ?_
  refine ww_istore_n hX (pc := 3) (lv' := [some (kR (some 49)), some (kI a), some (kI 0), some (kI 0)]) dX11_oilOf_3 (by decide) rfl rfl ?_
  have hl_4 : ∀ (n_4 : Nat) (n : Int) (i : Int), (Ia 51 304 - i).toNat = n_4 → ((0 ≤ i ∧ i ≤ Ia 51 304 ∧ n = oilF (Ia 51) a i.toNat)) → WW X 4 [some (kR (some 49)), some (kI a), some (kI n), some (kI i)] [] Ia Ja Ra Sa 0 0 := by
    intro n_4
    induction n_4 using Nat.strongRecOn with
    | ind n_4 ih_4 =>
      intro n i hm_4 hv_4
      have hq_4 := Sh0_i hm_4
      clear hm_4
      have hv := hv_4
      refine ww_iload_n hX (pc := 4) dX11_oilOf_4 rfl ?_
      refine ww_aload_n hX (pc := 5) dX11_oilOf_5 rfl ?_
      refine ww_getR hX (pc := 6) fX11_20 (by decide) (xs_49 hL) (xr_49_3 hL) dX11_oilOf_6 ?_
      refine ww_sipush hX (pc := 9) (x := 304) dX11_oilOf_9 (by decide) ?_
      refine ww_iald hX (pc := 12) (xs_51 hL) (by decide) (by omega) (by omega) dX11_oilOf_12 ?_
      refine ww_toI (b := Ia 51 304) rfl ?_
      refine ww_icmp_ge hX (pc := 13) (tgt := 48) dX11_oilOf_13 (by decide) (fun h_13 => ?_) (fun h_13 => ?_)
      · simp only [w32_mod] at h_13
        refine ww_iload_n hX (pc := 48) dX11_oilOf_48 rfl ?_
        refine rI hX (pc := 49) hT (Nat.le_refl 0) (Nat.le_refl 0) dX11_oilOf_49 ?_
        exact ⟨rfl, rfl, by rw [hv.2.2]; exact congrArg _ (show i.toNat = (Ia 51 304).toNat by omega)⟩
      · simp only [w32_mod] at h_13
        refine ww_iload_n hX (pc := 16) dX11_oilOf_16 rfl ?_
        refine ww_iload_n hX (pc := 17) dX11_oilOf_17 rfl ?_
        refine ww_iload_n hX (pc := 18) dX11_oilOf_18 rfl ?_
        refine ww_ishr hX (pc := 19) dX11_oilOf_19 ?_
        refine ww_iconst hX (pc := 20) (x := 1) dX11_oilOf_20 rfl ?_
        refine ww_iand hX (pc := 21) dX11_oilOf_21 ?_
        refine ww_iconst hX (pc := 22) (x := 1) dX11_oilOf_22 rfl ?_
        refine ww_icmp_ne hX (pc := 23) (tgt := 39) dX11_oilOf_23 (by decide) (fun h_23 => ?_) (fun h_23 => ?_)
        · simp only [w32_mod] at h_23
          have hos : oilF (Ia 51) a (i + 1).toNat = oilF (Ia 51) a i.toNat + 0 := by rw [oilF_s _ _ (by omega), if_neg (by simp only [w32_mod]; omega)]
          refine ww_iconst hX (pc := 39) (x := 0) dX11_oilOf_39 rfl ?_
          refine ww_iadd hX (pc := 40) dX11_oilOf_40 ?_
          refine ww_nmI (fun v_41 hv_41 => ?_)
          refine ww_istore_n hX (pc := 41) (lv' := [some (kR (some 49)), some (kI a), some (kI v_41), some (kI i)]) dX11_oilOf_41 (by decide) rfl rfl ?_
          refine ww_iinc hX (pc := 42) (lv' := [some (kR (some 49)), some (kI a), some (kI v_41), some (kI (i + 1))]) dX11_oilOf_42 rfl (by decide) rfl rfl ?_
          refine ww_goto hX (pc := 45) (tgt := 4) dX11_oilOf_45 (by decide) ?_
          exact ih_4 _ (by have hm9 := Sh0_e hq_4; omega) v_41 (i + 1) rfl (by omega)
        · simp only [w32_mod] at h_23
          have hos : oilF (Ia 51) a (i + 1).toNat = oilF (Ia 51) a i.toNat + Ia 51 (256 + i).toNat := by rw [oilF_s _ _ (by omega), if_pos (by simp only [w32_mod]; omega)]
          refine ww_aload_n hX (pc := 26) dX11_oilOf_26 rfl ?_
          refine ww_getR hX (pc := 27) fX11_20 (by decide) (xs_49 hL) (xr_49_3 hL) dX11_oilOf_27 ?_
          refine ww_sipush hX (pc := 30) (x := 256) dX11_oilOf_30 (by decide) ?_
          refine ww_iload_n hX (pc := 33) dX11_oilOf_33 rfl ?_
          refine ww_iadd hX (pc := 34) dX11_oilOf_34 ?_
          refine ww_iald hX (pc := 35) (xs_51 hL) (by decide) (by omega) (by omega) dX11_oilOf_35 ?_
          refine ww_goto hX (pc := 36) (tgt := 40) dX11_oilOf_36 (by decide) ?_
          refine ww_iadd hX (pc := 40) dX11_oilOf_40 ?_
          refine ww_nmI (fun v_41 hv_41 => ?_)
          refine ww_istore_n hX (pc := 41) (lv' := [some (kR (some 49)), some (kI a), some (kI v_41), some (kI i)]) dX11_oilOf_41 (by decide) rfl rfl ?_
          refine ww_iinc hX (pc := 42) (lv' := [some (kR (some 49)), some (kI a), some (kI v_41), some (kI (i + 1))]) dX11_oilOf_42 rfl (by decide) rfl rfl ?_
          refine ww_goto hX (pc := 45) (tgt := 4) dX11_oilOf_45 (by decide) ?_
          exact ih_4 _ (by have hm9 := Sh0_e hq_4; omega) v_41 (i + 1) rfl (by omega)
  exact hl_4 _ 0 0 rfl (⟨by omega, by omega, rfl⟩)
end
section
section WR
variable {X : aX} {pc : Nat} {lv : List (Option aV)} {st : List aV} {I J : aI1} {R : aR1} {S : aS1} {uc us : Nat}
theorem ww_wI {a : Int} (k : WW X pc lv (kI (w32 a) :: st) I J R S uc us) : WW X pc lv (kI a :: st) I J R S uc us := by
  obtain ⟨p, l, e, Rm, s, m, args, below, meth, c, Q, E⟩ := X
  intro H locs ls hP hS hz hl
  have k := k H locs ls hP hS hz hl
  simp only [List.map_cons, aC_I, w32, n_of] at k
  exact k
end WR
theorem pow_7 {b : Int} {n : Nat} (h1 : 1 ≤ b) (h2 : b ≤ 7) (hn : n ≤ 8) : 1 ≤ b ^ n ∧ b ^ n ≤ 5764801 := by
  have h : ∀ n : Nat, n < 9 → 1 ≤ b ^ n ∧ b ^ n ≤ 5764801 := by
    rcases (show b = 1 ∨ b = 2 ∨ b = 3 ∨ b = 4 ∨ b = 5 ∨ b = 6 ∨ b = 7 by omega) with rfl | rfl | rfl | rfl | rfl | rfl | rfl <;> decide
  exact h n (by omega)
set_option maxHeartbeats 4000000 in
set_option maxRecDepth 20000 in
theorem c_X11_power (l0 : Launch) {Ia Ja : aI1} {Ra : aR1} {Sa : aS1} (hL : LY Ra Sa) (hQ : RX Ia) {a : Int} (ha0 : -2147483648 ≤ a) (ha1 : a < 2147483648)  : CT l0 0 0 0 mX11_power [kR (some 49), kI a] Ia Ja Ra Sa (cJ (fun x I' J' => Ia = I' ∧ Ja = J' ∧ x = (Ia 51 305 - 1) ^ a.toNat) Ra Sa) := by
  refine ct_in pn_X11 (Nat.le_of_ble_eq_true rfl) (fun X hX hT hIn => ?_)
  have hX : aK l0 X cX11_power 5 RX11 (some .long) 0 0 0 := hX
  change WW X 0 [some (kR (some 49)), some (kI a), none, none, none] [] Ia Ja Ra Sa 0 0
  have qIa := RX_o hQ
  refine ww_lconst hX (pc := 0) (x := 1) dX11_power_0 (by decide) ?_
  refine ww_lstore_n hX (pc := 1) (lv' := [some (kR (some 49)), some (kI a), some (kL 1), none, none]) dX11_power_1 (by decide) rfl rfl ?_
  refine ww_iconst hX (pc := 2) (x := 0) dX11_power_2 rfl ?_
  refine ww_istore hX (pc := 3) (lv' := [some (kR (some 49)), some (kI a), some (kL 1), none, some (kI 0)]) dX11_power_3 (by decide) rfl rfl ?_
  have hl_5 : ∀ (n_5 : Nat) (w : Int) (i : Int), (a - i).toNat = n_5 → ((0 ≤ i ∧ (i ≤ a ∨ i = 0) ∧ w = (Ia 51 305 - 1) ^ i.toNat)) → WW X 5 [some (kR (some 49)), some (kI a), some (kL w), none, some (kI i)] [] Ia Ja Ra Sa 0 0 := by
    intro n_5
    induction n_5 using Nat.strongRecOn with
    | ind n_5 ih_5 =>
      intro w i hm_5 hv_5
      have hq_5 := Sh0_i hm_5
      clear hm_5
      have hv := hv_5
      refine ww_iload hX (pc := 5) dX11_power_5 rfl ?_
      refine ww_iload_n hX (pc := 7) dX11_power_7 rfl ?_
      refine ww_icmp_ge hX (pc := 8) (tgt := 31) dX11_power_8 (by decide) (fun h_8 => ?_) (fun h_8 => ?_)
      · simp only [w32_mod] at h_8
        refine ww_lload_n hX (pc := 31) dX11_power_31 rfl ?_
        refine rJ hX (pc := 32) hT (Nat.le_refl 0) (Nat.le_refl 0) dX11_power_32 ?_
        exact ⟨rfl, rfl, by rw [hv.2.2]; exact congrArg _ (show i.toNat = a.toNat by omega)⟩
      · simp only [w32_mod] at h_8
        refine ww_lload_n hX (pc := 11) dX11_power_11 rfl ?_
        refine ww_aload_n hX (pc := 12) dX11_power_12 rfl ?_
        refine ww_getR hX (pc := 13) fX11_20 (by decide) (xs_49 hL) (xr_49_3 hL) dX11_power_13 ?_
        refine ww_sipush hX (pc := 16) (x := 305) dX11_power_16 (by decide) ?_
        refine ww_iald hX (pc := 19) (xs_51 hL) (by decide) (by omega) (by omega) dX11_power_19 ?_
        refine ww_toI (b := Ia 51 305) rfl ?_
        refine ww_iconst hX (pc := 20) (x := 1) dX11_power_20 rfl ?_
        refine ww_isub hX (pc := 21) dX11_power_21 ?_
        refine ww_i2l hX (pc := 22) dX11_power_22 ?_
        refine ww_lmul hX (pc := 23) dX11_power_23 ?_
        refine ww_nmL (fun v_24 hv_24 => ?_)
        refine ww_lstore_n hX (pc := 24) (lv' := [some (kR (some 49)), some (kI a), some (kL v_24), none, some (kI i)]) dX11_power_24 (by decide) rfl rfl ?_
        have hpw : v_24 = (Ia 51 305 - 1) ^ (i + 1).toNat := by
          rw [hv_24, w32_id (by omega) (by omega), hv.2.2, show (i + 1).toNat = i.toNat + 1 by omega, Int.pow_succ]
        refine ww_iinc hX (pc := 25) (lv' := [some (kR (some 49)), some (kI a), some (kL v_24), none, some (kI (i + 1))]) dX11_power_25 rfl (by decide) rfl rfl ?_
        refine ww_goto hX (pc := 28) (tgt := 5) dX11_power_28 (by decide) ?_
        exact ih_5 _ (by have hm9 := Sh0_e hq_5; omega) v_24 (i + 1) rfl (by omega)
  exact hl_5 _ 1 0 rfl (⟨by omega, by omega, (Int.pow_zero _).symm⟩)
end
section
theorem mul_small {p k : Int} (hp : 1 ≤ p ∧ p ≤ 5764801) (hk : 1 ≤ k ∧ k ≤ 8) : 1 ≤ p * k ∧ p * k ≤ 46118408 := by
  rcases (show k = 1 ∨ k = 2 ∨ k = 3 ∨ k = 4 ∨ k = 5 ∨ k = 6 ∨ k = 7 ∨ k = 8 by omega) with rfl | rfl | rfl | rfl | rfl | rfl | rfl | rfl <;> omega
theorem RX_s {I : aI1} (h : RX I) : (1 ≤ I 51 304 ∧ I 51 304 ≤ 8) ∧ (2 ≤ I 51 305 ∧ I 51 305 ≤ 8) ∧ (1 ≤ FU (I 51 304) ∧ FU (I 51 304) ≤ 255) := by
  have hf := FU_r h.1.1.1 h.1.1.2
  exact ⟨h.1.1, h.1.2.1, hf.1, hf.2.1⟩
end
section
theorem i_rem_v {a b : Int} (ha : 0 ≤ a) (ha2 : a < 2147483648) (hb : 0 < b) (hb2 : b < 2147483648) : i_rem a b = a % b := by
  have e1 : (Int32.ofInt a).toInt = a := w32_id (by omega) (by omega)
  have e2 : (Int32.ofInt b).toInt = b := w32_id (by omega) (by omega)
  have h1 : 0 ≤ a / b := Int.ediv_nonneg ha (by omega)
  have h2 : a / b ≤ a := Int.ediv_le_self b ha
  have h3 : a / b * b = a - a % b := by have := Int.mul_ediv_add_emod a b; rw [Int.mul_comm] at this; omega
  have h4 := Int.emod_nonneg a (show b ≠ 0 by omega)
  have h5 := Int.emod_lt_of_pos a hb
  unfold i_rem
  rw [Int32.toInt_sub, Int32.toInt_mul, Int32.toInt_div, e1, e2, Int.tdiv_eq_ediv_of_nonneg ha]
  rw [show (a / b).bmod (2 ^ 32) = a / b from Int.bmod_eq_of_le (by omega) (by omega), h3]
  rw [show (a - a % b).bmod (2 ^ 32) = a - a % b from Int.bmod_eq_of_le (by omega) (by omega)]
  rw [show a - (a - a % b) = a % b by omega]
  exact Int.bmod_eq_of_le (by omega) (by omega)
theorem i_div_v {a b : Int} (ha : 0 ≤ a) (ha2 : a < 2147483648) (hb : 0 < b) (hb2 : b < 2147483648) : i_div a b = a / b := by
  have e1 : (Int32.ofInt a).toInt = a := w32_id (by omega) (by omega)
  have e2 : (Int32.ofInt b).toInt = b := w32_id (by omega) (by omega)
  have h1 : 0 ≤ a / b := Int.ediv_nonneg ha (by omega)
  have h2 : a / b ≤ a := Int.ediv_le_self b ha
  unfold i_div
  rw [Int32.toInt_div, e1, e2, Int.tdiv_eq_ediv_of_nonneg ha]
  exact Int.bmod_eq_of_le (by omega) (by omega)
theorem FU_3 {n : Int} (h0 : 1 ≤ n) (h1 : n ≤ 3) : FU n ≤ 7 := by
  unfold FU
  rcases (show n = 1 ∨ n = 2 ∨ n = 3 by omega) with rfl | rfl | rfl <;> decide
end
section
theorem RX_n {I : aI1} (h : RX I) : (1 ≤ I 51 304 ∧ I 51 304 ≤ 8) ∧ (2 ≤ I 51 305 ∧ I 51 305 ≤ 8) ∧ (1 ≤ FU (I 51 304) ∧ FU (I 51 304) ≤ 255) := by
  have hf := FU_r h.1.1.1 h.1.1.2
  exact ⟨h.1.1, h.1.2.1, hf.1, hf.2.1⟩
end
section
theorem KR_ext {k k' : Nat → Int} (h : KR k) (e : ∀ j, j < 5117 → k' j = k j) : KR k' := by
  unfold KR at h ⊢
  rw [e 304 (by decide), e 305 (by decide), e 307 (by decide), e 308 (by decide), e 309 (by decide), e 310 (by decide)]
  obtain ⟨a4, a5, a7, a8, a9, a10, b1, b2⟩ := h
  refine ⟨a4, a5, a7, a8, a9, a10, fun j g1 g2 => by rw [e j (by omega)]; exact b1 j g1 g2, fun t ht => ?_⟩
  have h2 := b2 t ht
  have hv : cvw k' t = cvw k t := by
    funext i
    unfold cvw
    rw [e _ (by omega)]
    by_cases g : (i : Int) < k (311 + t)
    · rw [if_pos g, if_pos g, e _ (by omega)]
    · rw [if_neg g, if_neg g]
  rw [hv, e _ (by omega)]
  exact h2
def imgR (I : aI1) (a i : Int) : aI1 := upR I 52 (fun b => if 5117 * a ≤ (b : Int) ∧ (b : Int) < 5117 * a + i then I 51 ((b : Int) - 5117 * a).toNat else I 52 b)
theorem imgR_0 (I : aI1) (a : Int) : I = imgR I a 0 := by
  funext x b
  unfold imgR
  by_cases h : x = 52
  · subst h; rw [upR_s, if_neg (by omega)]
  · rw [upR_n _ _ h]
theorem imgR_s (I : aI1) {a i : Int} (ha : 0 ≤ a) (hi : 0 ≤ i) : up2 (imgR I a i) 52 (5117 * a + i).toNat (imgR I a i 51 i.toNat) = imgR I a (i + 1) := by
  have e1 : imgR I a i 51 i.toNat = I 51 i.toNat := by unfold imgR; rw [upR_n _ _ (by decide)]
  rw [e1]
  funext x b
  by_cases h : x = 52
  · subst h
    by_cases hb : b = (5117 * a + i).toNat
    · rw [hb, up2_s]
      unfold imgR
      rw [upR_s, if_pos (by omega)]
      exact congrArg _ (by omega)
    · rw [up2_n _ _ (Or.inr hb)]
      unfold imgR
      rw [upR_s, upR_s]
      by_cases hc : 5117 * a ≤ (b : Int) ∧ (b : Int) < 5117 * a + i
      · rw [if_pos hc, if_pos (by omega)]
      · rw [if_neg hc, if_neg (by omega)]
  · rw [up2_n _ _ (Or.inl h)]
    unfold imgR
    rw [upR_n _ _ h, upR_n _ _ h]
theorem RX_img {I : aI1} {a : Int} (h : RX I) (ha0 : 0 ≤ a) (ha1 : a ≤ 1) : RX (up2 (imgR I a 5117) 53 a.toNat 1) := by
  have e : ∀ x, x ≠ 52 → x ≠ 53 → up2 (imgR I a 5117) 53 a.toNat 1 x = I x := fun x h1 h2 => by rw [up2_off _ _ _ h2]; unfold imgR; rw [upR_n _ _ h1]
  have e2 : up2 (imgR I a 5117) 53 a.toNat 1 52 = fun (b : Nat) => if 5117 * a ≤ (b : Int) ∧ (b : Int) < 5117 * a + 5117 then I 51 ((b : Int) - 5117 * a).toNat else I 52 b := by rw [up2_off _ _ _ (by decide)]; unfold imgR; rw [upR_s]
  unfold RX at h ⊢
  rw [e 51 (by decide) (by decide), e 61 (by decide) (by decide), e 49 (by decide) (by decide), e 54 (by decide) (by decide), e2]
  refine ⟨h.1, fun i hi => ?_, h.2.2⟩
  by_cases q : i = a.toNat
  · refine Or.inr ⟨by rw [q, up2_s], KR_ext h.1 (fun j hj => ?_)⟩
    show (if 5117 * a ≤ ((5117 * i + j : Nat) : Int) ∧ ((5117 * i + j : Nat) : Int) < 5117 * a + 5117 then I 51 (((5117 * i + j : Nat) : Int) - 5117 * a).toNat else I 52 (5117 * i + j)) = I 51 j
    rw [if_pos (by omega)]
    exact congrArg _ (by omega)
  · have e3 : up2 (imgR I a 5117) 53 a.toNat 1 53 i = I 53 i := by rw [up2_n _ _ (Or.inr q)]; unfold imgR; rw [upR_n _ _ (by decide)]
    rw [e3]
    rcases h.2.1 i hi with g | ⟨g1, g2⟩
    · exact Or.inl g
    · refine Or.inr ⟨g1, KR_ext g2 (fun j hj => ?_)⟩
      show (if 5117 * a ≤ ((5117 * i + j : Nat) : Int) ∧ ((5117 * i + j : Nat) : Int) < 5117 * a + 5117 then I 51 (((5117 * i + j : Nat) : Int) - 5117 * a).toNat else I 52 (5117 * i + j)) = I 52 (5117 * i + j)
      rw [if_neg (by omega)]
def backR (I : aI1) (a i : Int) : aI1 := upR I 51 (fun b => if (b : Int) < i then I 52 (5117 * a + b).toNat else I 51 b)
theorem backR_0 (I : aI1) (a : Int) : I = backR I a 0 := by
  funext x b
  unfold backR
  by_cases h : x = 51
  · subst h; rw [upR_s, if_neg (by omega)]
  · rw [upR_n _ _ h]
theorem backR_s (I : aI1) {a i : Int} (hi : 0 ≤ i) : up2 (backR I a i) 51 i.toNat (backR I a i 52 (5117 * a + i).toNat) = backR I a (i + 1) := by
  have e1 : backR I a i 52 (5117 * a + i).toNat = I 52 (5117 * a + i).toNat := by unfold backR; rw [upR_n _ _ (by decide)]
  rw [e1]
  funext x b
  by_cases h : x = 51
  · subst h
    by_cases hb : b = i.toNat
    · rw [hb, up2_s]
      unfold backR
      rw [upR_s, if_pos (by omega)]
      exact congrArg _ (by omega)
    · rw [up2_n _ _ (Or.inr hb)]
      unfold backR
      rw [upR_s, upR_s]
      by_cases hc : (b : Int) < i
      · rw [if_pos hc, if_pos (by omega)]
      · rw [if_neg hc, if_neg (by omega)]
  · rw [up2_n _ _ (Or.inl h)]
    unfold backR
    rw [upR_n _ _ h, upR_n _ _ h]
theorem RX_back {I : aI1} {a : Int} (h : RX I) (ha0 : 0 ≤ a) (ha1 : a ≤ 1) (hi : ¬ I 53 a.toNat = 0) : RX (backR I a 5117) := by
  refine RX_k h (fun x hx => by unfold backR; rw [upR_n _ _ hx]) ?_
  rcases h.2.1 a.toNat (by omega) with g | ⟨-, g⟩
  · exact absurd g hi
  · refine KR_ext g (fun j hj => ?_)
    unfold backR
    rw [upR_s]
    show (if (j : Int) < 5117 then I 52 (5117 * a + j).toNat else I 51 j) = I 52 (5117 * a.toNat + j)
    rw [if_pos (by omega)]
    exact congrArg _ (by omega)
end
section
theorem RX_p {I : aI1} (h : RX I) : (1 ≤ I 51 304 ∧ I 51 304 ≤ 8) ∧ (0 ≤ I 51 309 ∧ I 51 309 ≤ 16) ∧ (1 ≤ FU (I 51 304) ∧ FU (I 51 304) ≤ 255) := by
  have hf := FU_r h.1.1.1 h.1.1.2
  exact ⟨h.1.1, h.1.2.2.2.2.1, hf.1, hf.2.1⟩
/-- a STATE t by which the i-th NEWS may be sent from s -/
def Cand (k L : Nat → Int) (i s t : Int) : Prop := w32 (k t.toNat) = w32 (k (288 + i).toNat) ∧ canC s t (k 306) ∧ ¬ w32 (L (256 * (i + 1) + t).toNat) = w32 1000000000
def vPl (k L : Nat → Int) (i s t : Int) : Int := oilF k (i_and t (i_xor s (-1))) (k 304).toNat + L (256 * (i + 1) + t).toNat
def PLs (k L : Nat → Int) (i s : Int) : Prop := L (256 * i + s).toNat = 1000000000 ∨ ∃ t, s ≤ t ∧ t ≤ FU (k 304) ∧ Cand k L i s t ∧ vPl k L i s t = L (256 * i + s).toNat
theorem PL_keep {k L : Nat → Int} {i s i' s' v : Int} (hi : 0 ≤ i) (hs : 0 ≤ s) (hs1 : s ≤ 255) (hs' : 0 ≤ s') (hs'1 : s' ≤ 255) (hii : i < i' ∨ (i = i' ∧ s' < s)) (h : PLs k L i' s') : PLs k (up1 L (256 * i + s).toNat v) i' s' := by
  have e : ∀ q : Int, 256 * i + s < q ∨ (0 ≤ q ∧ q < 256 * i + s) → up1 L (256 * i + s).toNat v q.toNat = L q.toNat := fun q hq => up1_n _ _ (by omega)
  have e1 := e (256 * i' + s') (by omega)
  unfold PLs at h ⊢
  rw [e1]
  rcases h with h | ⟨t, h1, h2, ⟨c1, c2, c3⟩, h4⟩
  · exact Or.inl h
  · refine Or.inr ⟨t, h1, h2, ⟨c1, c2, ?_⟩, ?_⟩
    · rw [e (256 * (i' + 1) + t) (by omega)]; exact c3
    · unfold vPl at h4 ⊢
      rw [e (256 * (i' + 1) + t) (by omega)]; exact h4
/-- the best so far -/
def Bst (k L : Nat → Int) (i s t v : Int) : Prop := v = 1000000000 ∨ ∃ t9, s ≤ t9 ∧ t9 < t ∧ t9 ≤ FU (k 304) ∧ Cand k L i s t9 ∧ v = vPl k L i s t9
theorem Bst_0 {k L : Nat → Int} {i s t : Int} : Bst k L i s t 1000000000 := Or.inl rfl
theorem Bst_k {k L : Nat → Int} {i s t v : Int} (h : Bst k L i s t v) : Bst k L i s (t + 1) v := by
  rcases h with h | ⟨t9, h1, h2, h3⟩
  · exact Or.inl h
  · exact Or.inr ⟨t9, h1, by omega, h3⟩
theorem Bst_n {k L : Nat → Int} {i s t v : Int} (h1 : s ≤ t) (h2 : t ≤ FU (k 304)) (h3 : Cand k L i s t) (h4 : v = vPl k L i s t) : Bst k L i s (t + 1) v := Or.inr ⟨t, h1, by omega, h2, h3, h4⟩
theorem PL_new {k L : Nat → Int} {i s v t8 : Int} (hi : 0 ≤ i) (hs : 0 ≤ s) (hs1 : s ≤ 255) (h : Bst k L i s t8 v) : PLs k (up1 L (256 * i + s).toNat v) i s := by
  have e : ∀ q : Int, 256 * i + s < q → up1 L (256 * i + s).toNat v q.toNat = L q.toNat := fun q hq => up1_n _ _ (by omega)
  unfold PLs
  rw [up1_s]
  rcases h with h | ⟨t, h1, -, h2, ⟨c1, c2, c3⟩, h4⟩
  · exact Or.inl h
  · refine Or.inr ⟨t, h1, h2, ⟨c1, c2, ?_⟩, ?_⟩
    · rw [e (256 * (i + 1) + t) (by omega)]; exact c3
    · have e1 := e (256 * (i + 1) + t) (by omega)
      unfold vPl
      rw [e1]
      exact h4.symm
theorem PL_st {k L L' : Nat → Int} {i s i9 s9 v t8 : Int} (e : L' = up1 L (256 * i + s).toNat v) (hi : 0 ≤ i) (hs : 0 ≤ s) (hs1 : s ≤ 255) (h : Bst k L i s t8 v) (g1 : i < i9 ∨ (i9 = i ∧ s9 < s + 1)) (g3 : 0 ≤ s9) (g4 : s9 ≤ 255) (hp : i < i9 ∨ (i9 = i ∧ s9 < s) → PLs k L i9 s9) : PLs k L' i9 s9 := by
  rw [e]
  by_cases hh : i9 = i ∧ s9 = s
  · rw [hh.1, hh.2]
    exact PL_new hi hs hs1 h
  · exact PL_keep hi hs hs1 g3 g4 (by omega) (hp (by omega))
end
section
theorem PL_w {k L : Nat → Int} {i s : Int} (h : PLs k L i s) (hn : ¬ w32 (L (256 * i + s).toNat) = w32 1000000000) : ∃ t, s ≤ t ∧ t ≤ FU (k 304) ∧ Cand k L i s t ∧ vPl k L i s t = L (256 * i + s).toNat := by
  rcases h with h | h
  · exact absurd (by rw [h]) hn
  · exact h
end
section
def RG (f : Nat → Int) (n : Int) : Prop := ∀ j : Nat, (j : Int) < n → 0 ≤ f j ∧ f j ≤ 400
theorem RG_up {f : Nat → Int} {n v : Int} (h : RG f n) (hn : 0 ≤ n) (h0 : 0 ≤ v) (h1 : v ≤ 400) : RG (up1 f n.toNat v) (n + 1) := fun j hj => by
  by_cases e : j = n.toNat
  · rw [e, up1_s]; exact ⟨h0, h1⟩
  · rw [up1_n _ _ e]; exact h j (by omega)
theorem RX_w {I : aI1} (h : RX I) : (0 ≤ I 49 10 ∧ I 49 10 ≤ 400) := h.2.2.2.1
end
section
/-- the reader's state -/
def PI (I : aI1) : Prop := (0 ≤ I 49 15 ∧ I 49 15 ≤ 400) ∧ (0 ≤ I 49 16 ∧ I 49 16 ≤ I 49 15) ∧ (-1 ≤ I 49 18 ∧ I 49 18 ≤ 400) ∧ RG (I 57) (I 49 15 + 1) ∧ RG (I 59) (I 49 15 + 1) ∧ I 57 (I 49 15).toNat = 0
theorem PI_o {I : aI1} (h : PI I) : (0 ≤ I 49 15 ∧ I 49 15 ≤ 400) ∧ (0 ≤ I 49 16 ∧ I 49 16 ≤ I 49 15) ∧ (-1 ≤ I 49 18 ∧ I 49 18 ≤ 400) := ⟨h.1, h.2.1, h.2.2.1⟩
theorem PI_t {I : aI1} (h : PI I) : (0 ≤ I 57 (I 49 16).toNat ∧ I 57 (I 49 16).toNat ≤ 400) ∧ (0 ≤ I 59 (I 49 16).toNat ∧ I 59 (I 49 16).toNat ≤ 400) := by
  have h1 := PI_o h
  exact ⟨h.2.2.2.1 _ (by omega), h.2.2.2.2.1 _ (by omega)⟩
theorem PI_lt {I : aI1} (h : PI I) (hz : 1 ≤ I 57 (I 49 16).toNat) : I 49 16 < I 49 15 := by
  have h1 := PI_o h
  by_cases e : I 49 16 = I 49 15
  · rw [e] at hz
    have := h.2.2.2.2.2
    omega
  · omega
/-- what the reader's steps say, kept shut -/
def NB (I : aI1) : Prop := ¬ I 49 18 = -1
def FN (x : Int) (I : aI1) : Prop := x = 1 ↔ I 49 18 = -1
theorem FN_1 {x : Int} {I : aI1} (h : FN x I) (hx : x = 1) : I 49 18 = -1 := h.mp hx
theorem FN_0 {x : Int} {I : aI1} (h : FN x I) (hx : x = 0) : NB I := fun g => by have := h.mpr g; omega
def NOP (c : Nat → Int) (r : Int) (I : aI1) : Prop := I 49 18 = -1 → ¬ c (I 49 16).toNat = r
def TK (x : Int) (c : Nat → Int) (r : Int) (I I' : aI1) : Prop := (x = 1 → I 49 18 = -1 ∧ c (I 49 16).toNat = r ∧ I' 49 16 = I 49 16 + 1) ∧ (x = 0 → I' 49 16 = I 49 16 ∧ NOP c r I)
theorem TK_1 {x : Int} {c : Nat → Int} {r : Int} {I I' : aI1} (h : TK x c r I I') (hx : x = 1) : I 49 18 = -1 ∧ c (I 49 16).toNat = r ∧ I' 49 16 = I 49 16 + 1 := h.1 hx
theorem TK_0 {x : Int} {c : Nat → Int} {r : Int} {I I' : aI1} (h : TK x c r I I') (hx : x = 0) : I' 49 16 = I 49 16 ∧ NOP c r I := h.2 hx
theorem PI_f {I : aI1} {j : Nat} {v : Int} (h : PI I) (hj : j = 16 ∨ j = 17 ∨ j = 18) (h16 : j = 16 → 0 ≤ v ∧ v ≤ I 49 15) (h18 : j = 18 → -1 ≤ v ∧ v ≤ 400) : PI (up2 I 49 j v) := by
  have e : ∀ q, q ≠ j → up2 I 49 j v 49 q = I 49 q := fun q hq => up2_n _ _ (Or.inr hq)
  have e2 : ∀ a, a ≠ 49 → up2 I 49 j v a = I a := fun a ha => up2_off _ _ _ ha
  unfold PI at h ⊢
  rw [e2 57 (by decide), e2 59 (by decide), e 15 (by omega)]
  refine ⟨h.1, ?_, ?_, h.2.2.2⟩
  · by_cases q : j = 16
    · rw [q, up2_s]; exact h16 q
    · rw [e 16 (by omega)]; exact h.2.1
  · by_cases q : j = 18
    · rw [q, up2_s]; exact h18 q
    · rw [e 18 (by omega)]; exact h.2.2.1
def pvw (I : aI1) (i : Nat) : Int := if (i : Int) < I 49 15 then I 57 i else 0
theorem pvw_tr {rs fs : List Nat} {I I' : aI1} {c : Nat → Int} (h : Ch rs fs I I') (h1 : 15 ∉ fs) (h2 : 57 ∉ rs) (hc : pvw I = c) : pvw I' = c := by
  rw [← hc]
  funext i
  unfold pvw
  rw [h.1 57 (by decide) h2, h.2 15 h1]
theorem pvw_at {I : aI1} {c : Nat → Int} (h : PI I) (hc : pvw I = c) : c (I 49 16).toNat = I 57 (I 49 16).toNat := by
  have h1 := PI_o h
  rw [← hc]
  unfold pvw
  by_cases e : I 49 16 < I 49 15
  · rw [if_pos (by omega)]
  · rw [if_neg (by omega), show I 49 16 = I 49 15 by omega]
    exact h.2.2.2.2.2.symm
def GPm (c : Nat → Int) : Nat → Nat → Nat → Prop
  | 0 => GPart (fun _ _ => False) c
  | k + 1 => GPart (GSum c k) c
theorem GSum_eq (c : Nat → Int) (m : Nat) : GSum c m = GSeq (GSeq (GPm c m) opT c) opS c := by cases m <;> rfl
def GPlm (c : Nat → Int) : Nat → Nat → Nat → Prop
  | 0 => GPlain (fun _ _ => False) (GSum c 0) c
  | k + 1 => GPlain (GTest c k) (GSum c (k + 1)) c
theorem GTest_eq (c : Nat → Int) (m : Nat) : GTest c m = GSeq (GSeq (GPlm c m) opA c) opO c := by cases m <;> rfl
set_option maxHeartbeats 4000000 in
set_option maxRecDepth 20000 in
theorem c_X11_fine (l0 : Launch) {Ia Ja : aI1} {Ra : aR1} {Sa : aS1} (hL : LY Ra Sa) (hQ : RX Ia) (hP : PI Ia)  : CT l0 0 0 0 mX11_fine [kR (some 49)] Ia Ja Ra Sa (cI (fun x I' J' => Ia = I' ∧ Ja = J' ∧ (0 ≤ x ∧ x ≤ 1) ∧ FN x Ia) Ra Sa) := by
  refine ct_in pn_X11 (Nat.le_of_ble_eq_true rfl) (fun X hX hT hIn => ?_)
  have hX : aK l0 X cX11_fine 1 RX11 (some .boolean) 0 0 0 := hX
  change WW X 0 [some (kR (some 49))] [] Ia Ja Ra Sa 0 0
  have qIa := RX_w hQ
  have oIa := PI_o hP
  have tIa := PI_t hP
  refine ww_aload_n hX (pc := 0) dX11_fine_0 rfl ?_
  refine ww_getI hX (pc := 1) fX11_155 (by decide) (xs_49 hL) dX11_fine_1 ?_
  refine ww_iconst hX (pc := 4) (x := (-1)) dX11_fine_4 rfl ?_
  refine ww_icmp_ne hX (pc := 5) (tgt := 12) dX11_fine_5 (by decide) (fun h_5 => ?_) (fun h_5 => ?_)
  · simp only [w32_mod] at h_5
    refine ww_iconst hX (pc := 12) (x := 0) dX11_fine_12 rfl ?_
    refine rZ hX (pc := 13) hT (Nat.le_refl 0) (Nat.le_refl 0) dX11_fine_13 (by decide) ?_
    exact ⟨rfl, rfl, by omega, (by unfold FN; omega)⟩
  · simp only [w32_mod] at h_5
    refine ww_iconst hX (pc := 8) (x := 1) dX11_fine_8 rfl ?_
    refine ww_goto hX (pc := 9) (tgt := 13) dX11_fine_9 (by decide) ?_
    refine rZ hX (pc := 13) hT (Nat.le_refl 0) (Nat.le_refl 0) dX11_fine_13 (by decide) ?_
    exact ⟨rfl, rfl, by omega, (by unfold FN; omega)⟩
end
section
theorem NO5 {c : Nat → Int} {I5 I6 : aI1} {x : Int} (ht : TK x c 5 I5 I6) (h8 : I6 49 18 = I5 49 18) : x = 0 → NOP c 5 I6 := fun hx g => by
  obtain ⟨e1, e2⟩ := TK_0 ht hx
  rw [e1]
  exact e2 (by omega)
def F5 (x : Int) (c : Nat → Int) (I : aI1) : Prop := x = 0 → NOP c 5 I
theorem PI_mk {I5 I : aI1} (h : (0 ≤ I5 49 15 ∧ I5 49 15 ≤ 400) ∧ RG (I5 57) (I5 49 15 + 1) ∧ RG (I5 59) (I5 49 15 + 1) ∧ I5 57 (I5 49 15).toNat = 0) (e57 : I 57 = I5 57) (e59 : I 59 = I5 59) (e15 : I 49 15 = I5 49 15) (e16 : I 49 16 = 0) (e18 : I 49 18 = -1) : PI I := by
  unfold PI
  rw [e57, e59, e15, e16, e18]
  exact ⟨h.1, ⟨by omega, by omega⟩, ⟨by omega, by omega⟩, h.2⟩
end
section
theorem PI_g {I : aI1} {j : Nat} {v : Int} (h : PI I) (hj : j ≠ 15 ∧ j ≠ 16 ∧ j ≠ 18) : PI (up2 I 49 j v) := by
  have e : ∀ q, q ≠ j → up2 I 49 j v 49 q = I 49 q := fun q hq => up2_n _ _ (Or.inr hq)
  unfold PI at h ⊢
  rw [up2_off _ _ _ (show 57 ≠ 49 by decide), up2_off _ _ _ (show 59 ≠ 49 by decide), e 15 (by omega), e 16 (by omega), e 18 (by omega)]
  exact h
theorem KR_up {k : Nat → Int} {q : Nat} {v : Int} (h : KR k) (hq : (311 + k 310 ≤ q ∧ q ≤ 316) ∨ (317 + 400 * k 310 ≤ q ∧ q < 2717 ∧ 0 ≤ v ∧ v ≤ 400) ∨ 2717 ≤ q) : KR (up1 k q v) := by
  unfold KR at h ⊢
  obtain ⟨a4, a5, a7, a8, a9, a10, b1, b2⟩ := h
  have e : ∀ j, j ≠ q → up1 k q v j = k j := fun j hj => up1_n _ _ hj
  rw [e 304 (by omega), e 305 (by omega), e 307 (by omega), e 308 (by omega), e 309 (by omega), e 310 (by omega)]
  refine ⟨a4, a5, a7, a8, a9, a10, fun j g1 g2 => ?_, fun t ht => ?_⟩
  · by_cases hj : j = q
    · rw [hj, up1_s]; omega
    · rw [e j hj]; exact b1 j g1 g2
  · have b3 := b2 t ht
    have hv : cvw (up1 k q v) t = cvw k t := by
      funext i
      unfold cvw
      rw [e (311 + t) (by omega)]
      by_cases hi : (i : Int) < k (311 + t)
      · rw [if_pos hi, if_pos hi, e _ (by omega)]
      · rw [if_neg hi, if_neg hi]
    rw [hv, e _ (by omega)]
    exact b3
theorem RX_up {I : aI1} {q : Nat} {v : Int} (h : RX I) (hq : (311 + I 51 310 ≤ q ∧ q ≤ 316) ∨ (317 + 400 * I 51 310 ≤ q ∧ q < 2717 ∧ 0 ≤ v ∧ v ≤ 400) ∨ 2717 ≤ q) : RX (up2 I 51 q v) :=
  RX_k h (fun a ha => up2_off _ _ _ ha) (by rw [up2_row]; exact KR_up h.1 hq)
theorem KR_tl {k : Nat → Int} {t : Nat} (h : KR k) (ht : k 310 = t) (h5 : t ≤ 5) (hs : 0 ≤ k (311 + t) ∧ k (311 + t) ≤ 400) (hl : LawG (cvw k t) (k (311 + t)).toNat) : KR (up1 k 310 (k 310 + 1)) := by
  unfold KR at h ⊢
  obtain ⟨a4, a5, a7, a8, a9, a10, b1, b2⟩ := h
  have e : ∀ j, j ≠ 310 → up1 k 310 (k 310 + 1) j = k j := fun j hj => up1_n _ _ hj
  rw [e 304 (by omega), e 305 (by omega), e 307 (by omega), e 308 (by omega), e 309 (by omega), up1_s]
  refine ⟨a4, a5, a7, a8, a9, by omega, fun j g1 g2 => by rw [e j (by omega)]; exact b1 j g1 g2, fun t' ht' => ?_⟩
  have hv : cvw (up1 k 310 (k 310 + 1)) t' = cvw k t' := by
    funext i
    unfold cvw
    rw [e _ (by omega), e _ (by omega)]
  rw [hv, e _ (by omega)]
  by_cases e9 : t' = t
  · subst e9
    exact ⟨hs, hl⟩
  · exact b2 t' (by omega)
theorem RX_tl {I : aI1} {v : Int} {t : Nat} (h : RX I) (hv : v = I 51 310 + 1) (ht : I 51 310 = t) (h5 : t ≤ 5) (hs : 0 ≤ I 51 (311 + t) ∧ I 51 (311 + t) ≤ 400) (hl : LawG (cvw (I 51) t) (I 51 (311 + t)).toNat) : RX (up2 I 51 (310 : Int).toNat v) :=
  RX_k h (fun a ha => up2_off _ _ _ ha) (by rw [up2_row, hv]; exact KR_tl h.1 ht h5 hs hl)
theorem cvw_pvw {k : Nat → Int} {I : aI1} {t : Nat} (h1 : k (311 + t) = I 49 15) (h2 : ∀ j : Nat, (j : Int) < I 49 15 → k (317 + 400 * t + j) = I 57 j) : cvw k t = pvw I := by
  funext i
  unfold cvw pvw
  rw [h1]
  by_cases hi : (i : Int) < I 49 15
  · rw [if_pos hi, if_pos hi, h2 i hi]
  · rw [if_neg hi, if_neg hi]
theorem RX_l {I : aI1} (h : RX I) : (0 ≤ I 49 10 ∧ I 49 10 ≤ 400) ∧ (0 ≤ I 51 310 ∧ I 51 310 ≤ 6) := ⟨h.2.2.2.1, h.1.2.2.2.2.2.1⟩
end
section
theorem RX_rg {I : aI1} (h : RX I) (j : Int) (h1 : 317 ≤ j) (h2 : j < 2717) : 0 ≤ I 51 j.toNat ∧ I 51 j.toNat ≤ 400 := h.1.2.2.2.2.2.2.1 j.toNat (by omega) (by omega)
theorem RX_lg {I : aI1} (h : RX I) (t : Nat) (ht : (t : Int) < I 51 310) : (0 ≤ I 51 (311 + t) ∧ I 51 (311 + t) ≤ 400) ∧ LawG (cvw (I 51) t) (I 51 (311 + t)).toNat := h.1.2.2.2.2.2.2.2 t ht
/-- the evaluator's state: law t, at place a -/
def EV (I : aI1) (t : Nat) (c : Nat → Int) (a : Nat) : Prop := ((t : Int) < I 51 310 ∧ I 51 310 ≤ 6) ∧ (0 ≤ I 51 (311 + t) ∧ I 51 (311 + t) ≤ 400) ∧ I 49 20 = 400 * t + I 51 (311 + t) ∧ I 49 19 = 400 * t + a ∧ a ≤ 402 ∧ cvw (I 51) t = c
theorem EV_o {I : aI1} {t : Nat} {c : Nat → Int} {a : Nat} (h : EV I t c a) : ((t : Int) < I 51 310 ∧ I 51 310 ≤ 6) ∧ (0 ≤ I 51 (311 + t) ∧ I 51 (311 + t) ≤ 400) ∧ I 49 20 = 400 * t + I 51 (311 + t) ∧ I 49 19 = 400 * t + a ∧ a ≤ 402 ∧ (0 ≤ I 49 20 ∧ I 49 20 ≤ 2400) ∧ (0 ≤ I 49 19 ∧ I 49 19 ≤ 2402) := by
  obtain ⟨h1, h2, h3, h4, h5, -⟩ := h
  exact ⟨h1, h2, h3, h4, h5, by omega, by omega⟩
theorem EV_c {I : aI1} {t : Nat} {c : Nat → Int} {a : Nat} (h : EV I t c a) {x : Int} (hx : (x = I 51 (317 + I 49 19).toNat ∧ I 49 19 < I 49 20) ∨ (x = 0 ∧ ¬ I 49 19 < I 49 20)) : x = c a := by
  have h1 := EV_o h
  rw [← h.2.2.2.2.2]
  unfold cvw
  rcases hx with ⟨e, g⟩ | ⟨e, g⟩
  · rw [if_pos (by omega), e]
    exact congrArg _ (by omega)
  · rw [if_neg (by omega), e]
theorem EV_z {I : aI1} {t : Nat} {c : Nat → Int} {a i : Nat} (h : EV I t c a) (hz : ¬ c i = 0) : (i : Int) < I 51 (311 + t) := by
  have h1 := h.2.2.2.2.2
  rw [← h1] at hz
  unfold cvw at hz
  by_cases g : (i : Int) < I 51 (311 + t)
  · exact g
  · rw [if_neg g] at hz
    exact absurd rfl hz
theorem EV_st {I I' : aI1} {t : Nat} {c : Nat → Int} {a a' : Nat} (h : EV I t c a) (e51 : I' 51 = I 51) (e20 : I' 49 20 = I 49 20) (e19 : I' 49 19 = 400 * t + a') (ha : a' ≤ 402) : EV I' t c a' := by
  unfold EV at h ⊢
  rw [e51, e20, e19]
  exact ⟨h.1, h.2.1, h.2.2.1, rfl, ha, h.2.2.2.2.2⟩
def PS (x : Int) (c : Nat → Int) (a : Nat) (r : Int) : Prop := x = 1 ↔ c a = r
theorem PS_1 {x : Int} {c : Nat → Int} {a : Nat} {r : Int} (h : PS x c a r) (hx : x = 1) : c a = r := h.mp hx
theorem PS_0 {x : Int} {c : Nat → Int} {a : Nat} {r : Int} (h : PS x c a r) (hx : x = 0) : ¬ c a = r := fun g => by have := h.mpr g; omega
theorem EV_to {I : aI1} {t : Nat} {c : Nat → Int} {a a' : Nat} (h : EV I t c a) (e : a = a') : EV I t c a' := e ▸ h
theorem EV_0 {I : aI1} {q : Int} (hQ : RX I) (h0 : 0 ≤ q) (h1 : q < I 51 310) (e19 : I 49 19 = 400 * q) (e20 : I 49 20 = 400 * q + I 51 (311 + q).toNat) : EV I q.toNat (cvw (I 51) q.toNat) 0 := by
  have h2 := hQ.1.2.2.2.2.2.1
  have h3 := RX_lg hQ q.toNat (by omega)
  rw [show (311 + q).toNat = 311 + q.toNat by omega] at e20
  exact ⟨⟨by omega, by omega⟩, h3.1, by omega, by omega, by omega, rfl⟩
set_option maxHeartbeats 4000000 in
set_option maxRecDepth 20000 in
theorem c_X11_codeAt (l0 : Launch) {Ia Ja : aI1} {Ra : aR1} {Sa : aS1} (hL : LY Ra Sa) (hQ : RX Ia) {w : Int} (hw : w = Ia 49 19) {t a : Nat} {c : Nat → Int} (hE : EV Ia t c a)  : CT l0 0 0 0 mX11_codeAt [kR (some 49), kI w] Ia Ja Ra Sa (cI (fun x I' J' => Ia = I' ∧ Ja = J' ∧ x = c a ∧ 0 ≤ x ∧ x ≤ 400) Ra Sa) := by
  refine ct_in pn_X11 (Nat.le_of_ble_eq_true rfl) (fun X hX hT hIn => ?_)
  have hX : aK l0 X cX11_codeAt 2 RX11 (some .int) 0 0 0 := hX
  change WW X 0 [some (kR (some 49)), some (kI w)] [] Ia Ja Ra Sa 0 0
  have qIa := RX_w hQ
  have oIa := EV_o hE
  refine ww_iload_n hX (pc := 0) dX11_codeAt_0 rfl ?_
  refine ww_aload_n hX (pc := 1) dX11_codeAt_1 rfl ?_
  refine ww_getI hX (pc := 2) fX11_212 (by decide) (xs_49 hL) dX11_codeAt_2 ?_
  refine ww_icmp_ge hX (pc := 5) (tgt := 21) dX11_codeAt_5 (by decide) (fun h_5 => ?_) (fun h_5 => ?_)
  · simp only [w32_mod] at h_5
    refine ww_iconst hX (pc := 21) (x := 0) dX11_codeAt_21 rfl ?_
    refine rI hX (pc := 22) hT (Nat.le_refl 0) (Nat.le_refl 0) dX11_codeAt_22 ?_
    exact ⟨rfl, rfl, EV_c hE (Or.inr ⟨rfl, by omega⟩), by omega, by omega⟩
  · simp only [w32_mod] at h_5
    refine ww_aload_n hX (pc := 8) dX11_codeAt_8 rfl ?_
    refine ww_getR hX (pc := 9) fX11_20 (by decide) (xs_49 hL) (xr_49_3 hL) dX11_codeAt_9 ?_
    refine ww_sipush hX (pc := 12) (x := 317) dX11_codeAt_12 (by decide) ?_
    refine ww_iload_n hX (pc := 15) dX11_codeAt_15 rfl ?_
    refine ww_iadd hX (pc := 16) dX11_codeAt_16 ?_
    have hrg := RX_rg hQ (317 + w) (by omega) (by omega)
    refine ww_iald hX (pc := 17) (xs_51 hL) (by decide) (by omega) (by omega) dX11_codeAt_17 ?_
    refine ww_goto hX (pc := 18) (tgt := 22) dX11_codeAt_18 (by decide) ?_
    refine rI hX (pc := 22) hT (Nat.le_refl 0) (Nat.le_refl 0) dX11_codeAt_22 ?_
    exact ⟨rfl, rfl, EV_c hE (Or.inl ⟨by rw [hw], by omega⟩), by omega, by omega⟩
set_option maxHeartbeats 4000000 in
set_option maxRecDepth 20000 in
theorem c_X11_passes0 (l0 : Launch) {Ia Ja : aI1} {Ra : aR1} {Sa : aS1} (hL : LY Ra Sa) (hQ : RX Ia) {r : Int} (hr0 : 1 ≤ r) (hr1 : r ≤ 400) {t a : Nat} {c : Nat → Int} (hE : EV Ia t c a)  : CT l0 1 0 0 mX11_passes0 [kR (some 49), kI r] Ia Ja Ra Sa (cI (fun x I' J' => Ch [] [19] Ia I' ∧ Kp 49 73 Ja J' ∧ RX I' ∧ EV I' t c (a + x.toNat) ∧ (0 ≤ x ∧ x ≤ 1) ∧ PS x c a r) Ra Sa) := by
  refine ct_in pn_X11 (Nat.le_of_ble_eq_true rfl) (fun X hX hT hIn => ?_)
  have hX : aK l0 X cX11_passes0 3 RX11 (some .boolean) 1 0 0 := hX
  change WW X 0 [some (kR (some 49)), some (kI r), none] [] Ia Ja Ra Sa 0 0
  have qIa := RX_w hQ
  have oIa := EV_o hE
  refine ww_aload_n hX (pc := 0) dX11_passes0_0 rfl ?_
  refine ww_aload_n hX (pc := 1) dX11_passes0_1 rfl ?_
  refine ww_getI hX (pc := 2) fX11_215 (by decide) (xs_49 hL) dX11_passes0_2 ?_
  refine vI1 hX (pc := 5) sX11_218 (xs_49 hL) (c_X11_codeAt l0 hL hQ  rfl hE) (by decide) (Nat.le_refl 0) (Nat.le_refl 0) (Nat.le_of_ble_eq_true rfl) dX11_passes0_5 (fun x_5 I_5 J_5 h_5 => ?_)
  obtain ⟨rfl, rfl, h_5⟩ := h_5
  refine ww_iload_n hX (pc := 8) dX11_passes0_8 rfl ?_
  refine ww_icmp_ne hX (pc := 9) (tgt := 16) dX11_passes0_9 (by decide) (fun h_9 => ?_) (fun h_9 => ?_)
  · simp only [w32_mod] at h_9
    refine ww_iconst hX (pc := 16) (x := 0) dX11_passes0_16 rfl ?_
    refine ww_istore_n hX (pc := 17) (lv' := [some (kR (some 49)), some (kI r), some (kI 0)]) dX11_passes0_17 (by decide) rfl rfl ?_
    refine ww_iload_n hX (pc := 18) dX11_passes0_18 rfl ?_
    refine ww_if_eq hX (pc := 19) (tgt := 32) dX11_passes0_19 (by decide) (fun h_19 => ?_) (fun h_19 => ?_)
    · simp only [w32_mod] at h_19
      refine ww_iload_n hX (pc := 32) dX11_passes0_32 rfl ?_
      refine rZ hX (pc := 33) hT (Nat.le_refl 0) (Nat.le_refl 0) dX11_passes0_33 (by decide) ?_
      exact ⟨Ch_rf, (Kp_rf (a := 49) (b := 73)), hQ, EV_to hE (by omega), by omega, (by unfold PS; omega)⟩
    · simp only [w32_mod] at h_19
      exfalso
      omega
  · simp only [w32_mod] at h_9
    refine ww_iconst hX (pc := 12) (x := 1) dX11_passes0_12 rfl ?_
    refine ww_goto hX (pc := 13) (tgt := 17) dX11_passes0_13 (by decide) ?_
    refine ww_istore_n hX (pc := 17) (lv' := [some (kR (some 49)), some (kI r), some (kI 1)]) dX11_passes0_17 (by decide) rfl rfl ?_
    refine ww_iload_n hX (pc := 18) dX11_passes0_18 rfl ?_
    refine ww_if_eq hX (pc := 19) (tgt := 32) dX11_passes0_19 (by decide) (fun h_19 => ?_) (fun h_19 => ?_)
    · simp only [w32_mod] at h_19
      exfalso
      omega
    · simp only [w32_mod] at h_19
      have hz := EV_z (i := a) hE (by omega)
      refine ww_aload_n hX (pc := 22) dX11_passes0_22 rfl ?_
      refine ww_dupR hX (pc := 23) dX11_passes0_23 ?_
      refine ww_getI hX (pc := 24) fX11_215 (by decide) (xs_49 hL) dX11_passes0_24 ?_
      refine ww_iconst hX (pc := 27) (x := 1) dX11_passes0_27 rfl ?_
      refine ww_iadd hX (pc := 28) dX11_passes0_28 ?_
      refine ww_putI hX (pc := 29) (fun h9 => absurd h9 (by decide)) gX11_215 rfl (xs_49 hL) dX11_passes0_29 ?_
      refine ww_nmH (fun I_29 eI_29 => ?_)
      have kI_29 : Ch [] [19] Ia I_29 := by rw [eI_29]; exact Ch_f Ch_rf (by decide)
      have cI_29 : RX I_29 := by rw [eI_29]; exact RX_f hQ (by decide)
      have qI_29 := RX_w cI_29
      have f20_I_29 : I_29 49 20 = Ia 49 20 := by rw [eI_29, up2_n _ _ (Or.inr (by decide))]
      have f21_I_29 : I_29 49 21 = Ia 49 21 := by rw [eI_29, up2_n _ _ (Or.inr (by decide))]
      have vI_29 : EV I_29 t c (a + 1) := EV_st hE (by rw [eI_29, up2_off _ _ _ (by decide)]) (by omega) (by rw [eI_29, up2_s]; omega) (by omega)
      have oI_29 := EV_o vI_29
      refine ww_iload_n hX (pc := 32) dX11_passes0_32 rfl ?_
      refine rZ hX (pc := 33) hT (Nat.le_refl 0) (Nat.le_refl 0) dX11_passes0_33 (by decide) ?_
      exact ⟨kI_29, (Kp_rf (a := 49) (b := 73)), cI_29, EV_to vI_29 (by omega), by omega, (by unfold PS; omega)⟩
end
section
section NMR
variable {X : aX} {pc : Nat} {lv : List (Option aV)} {st : List aV} {I J : aI1} {R : aR1} {S : aS1} {uc us : Nat}
theorem ww_nmR (k : ∀ R' : aR1, R' = R → WW X pc lv st I J R' S uc us) : WW X pc lv st I J R S uc us := k R rfl
theorem ww_nmS (k : ∀ S' : aS1, S' = S → WW X pc lv st I J R S' uc us) : WW X pc lv st I J R S uc us := k S rfl
theorem ww_nmU (k : ∀ uc' us' : Nat, uc' = uc → us' = us → WW X pc lv st I J R S uc' us') : WW X pc lv st I J R S uc us := k uc us rfl rfl
end NMR
theorem KR_0 {k : Nat → Int} (h4 : k 304 = 3) (h5 : k 305 = 4) (h0 : ∀ j, j ≠ 304 → j ≠ 305 → k j = 0) : KR k := by
  unfold KR
  rw [h4, h5, h0 307 (by decide) (by decide), h0 308 (by decide) (by decide), h0 309 (by decide) (by decide), h0 310 (by decide) (by decide)]
  exact ⟨by omega, by omega, by omega, by omega, by omega, by omega, fun j h1 h2 => by rw [h0 j (by omega) (by omega)]; omega, fun t ht => absurd ht (by omega)⟩
theorem RX_0 {I : aI1} (z51 : I 51 = up1 (up1 (fun _ => 0) (304 : Int).toNat 3) (305 : Int).toNat 4) (z53 : I 53 = fun _ => 0) (z61 : I 61 = fun _ => 0) (z10 : I 49 10 = 0) (z33 : I 49 33 = 0) (z39 : I 49 39 = -1) (z54 : I 54 59 = 32) : RX I := by
  unfold RX
  rw [z51, z53, z61, z10, z33, z39, z54]
  refine ⟨KR_0 rfl rfl (fun j h1 h2 => ?_), fun i hi => Or.inl rfl, fun j hj => (by show (0 : Int) ≤ 0 ∧ (0 : Int) ≤ 256 - j; omega), by omega, by omega, by omega, rfl⟩
  show up1 (up1 (fun _ => 0) 304 3) 305 4 j = 0
  rw [up1_n _ _ h2, up1_n _ _ h1]
def layR2 : List (Nat × Nat × Nat) := layR.filter (fun q => 49 ≤ q.1)
theorem layR_2 {q : Nat × Nat × Nat} (h : q ∈ layR) (h2 : ¬ q.1 < 49) : q ∈ layR2 := List.mem_filter.mpr ⟨h, by simpa using h2⟩
end
section
/-! THE CLAIM OUT OF ONE WALK OF THE LAW'S BODY. Your part is whole_start (and what it stands on); all else here is the same for every law, but numbers. -/
def R_law : String := "LitCoastLaw"
def lw_P (b : Addr) (xs : List Int32) (args : Array Value) (s : State) : Prop := args = #[.ref b] ∧ s.IntsAt b xs ∧ xs.length ≤ 3072 ∧ (Jvm.Cond.and given_1 narrow_1).before args s = true
def lw_Q (_ : Array Value) (s : State) (o : Outcome) (t : State) : Prop := o = .returned (some (.int 1)) ∧ Framed s o t [] 600000 7302250
def lw_Z (below : List Frame) (a : Array Value) (s : State) : State → Prop := fun t => ∃ o, t.status = .running ∧ Ended t below o ∧ lw_Q a s o t
/-- the law's own end, with 1 on the stack, nothing written that was there before, its room as the claim has it -/
theorem lw_ret {p : Program} {l : Launch} {e : Env} {s : State} {m : MethodId} {below : List Frame} {meth : Method} {c : Code} {b : Nat} (hx : p.tables.exec = Jvm.exec) (hb : c.code = code) (hr : meth.sig.returnType = ret) (hlocks : meth.locks = false) {pc : Nat} {H : Heap} {ls : Array Slot} (hdg : decode code pc = .ok (.ireturn, 1)) : W p l e room_1 s m #[Value.ref b] below meth c H [] 600000 7302250 (lw_Z below #[Value.ref b] s) (F0 m pc ls [.int 1]) := by
  intro T hT X
  obtain ⟨fs, hret, hrun, hended, hW, hframe⟩ := X.leave (v := some (.int 1)) (hlocks := hlocks) (fun h => by rw [hr] at h; cases h)
  have hmeth' : T.vm.method? m = some meth := X.method'
  refine ⟨T.setFrames fs, ?_, .returned (some (.int 1)), hrun, hended, rfl, ⟨_, rfl⟩, hW, hframe⟩
  jvm_step X.here [X.here.top, hx, hb, hdg, hmeth', hr, ret, narrow_b1]
  (try refine ⟨rfl, ?_⟩); (try refine ⟨rfl, ?_⟩)
  first | (intro acts; rw [hret _ acts rfl rfl rfl]) | rw [hret _ _ rfl rfl rfl]
  exact Steps.refl _
/-- what holds at the law's entry: the machine, the code, the tables' words (any of lw_tbl by 'hts w (by decide +kernel)'), the script of L ints xs at the cell b, what the Statement gives of the start (any of its parts by flat_of_before) -/
def lw_At (p : Program) (s : State) (m : MethodId) (meth : Method) (c : Code) (b L : Nat) (xs : Nat → Int32) : Prop :=
  p.tables.exec = Jvm.exec ∧ c.code = code ∧ meth.sig.returnType = ret ∧ c.maxLocals = 4 ∧ s.vm.findClass R_law = some m.cls ∧ (∀ w ∈ lw_tbl, w.before #[Value.ref b] s = true) ∧ va_X b L xs s s.heap ∧ b < s.heap.size ∧ meth.locks = false ∧ (Jvm.Cond.and given_1 narrow_1).before #[Value.ref b] s = true
/-! the law's own frame: its script, its end -/
def aScr (X : aX) (L : Nat) (sc : Nat → Int) : Prop := match X with
  | (p, l, e, Rm, s, m, args, below, meth, c, Q, E) => ∃ xs : Nat → Int32, (∀ k, sc k = (xs k).toInt) ∧ va_X (E.2.2.2.2.1 300) L xs s s.heap ∧ E.2.2.2.2.1 300 < E.1
def aLz (X : aX) : Prop := match X with
  | (p, l, e, Rm, s, m, args, below, meth, c, Q, E) => Rm = room_1 ∧ E.1 = s.heap.size ∧ ∃ b : Nat, args = #[Value.ref b] ∧ Q = lw_Z below #[Value.ref b] s
theorem aScr_r {X : aX} {L : Nat} {sc : Nat → Int} (h : aScr X L sc) (k : Nat) : -2147483648 ≤ sc k ∧ sc k < 2147483648 := by
  obtain ⟨p, l, e, Rm, s, m, args, below, meth, c, Q, E⟩ := X
  obtain ⟨xs, h1, -⟩ := h
  have h2 := w32_r (xs k).toInt
  have h3 : w32 (xs k).toInt = (xs k).toInt := by unfold w32; rw [n_of]
  rw [h1 k, ← h3]
  exact h2
section LAWR
variable {l0 : Launch} {X : aX} {cc : ByteArray} {nL : Nat} {own : String} {rt : Option FieldType} {d mc ms : Nat} {pc : Nat} {lv : List (Option aV)} {st : List aV} {I J : aI1} {R : aR1} {S : aS1} {uc us : Nat}
theorem ww_slen (hX : aK l0 X cc nL own rt d mc ms) {L : Nat} {sc : Nat → Int} (hsc : aScr X L sc) (hd : decode cc pc = .ok (.arraylength, 1)) (k : WW X (pc + 1) lv (kI (L : Int) :: st) I J R S uc us) : WW X pc lv (kS 300 :: st) I J R S uc us := by
  obtain ⟨p, l, e, Rm, s, m, args, below, meth, c, Q, E⟩ := X
  obtain ⟨hl0, hx, hb, hr, hml, hown, hts, hlocks, hK, hz0, hR, hStr⟩ := hX
  obtain ⟨xs, h1, h2, h3⟩ := hsc
  intro H locs ls hP hS hz hl
  have h4 : E.2.2.2.2.1 300 < s.heap.size := Nat.lt_of_lt_of_le h3 hz0
  have h5 : ¬ (fun q : Nat => E.1 ≤ q) (E.2.2.2.2.1 300) := Nat.not_le.mpr h3
  exact va_slen hx hb h2 h4 h5 hS hd (k H locs ls hP hS hz hl)
theorem ww_sld (hX : aK l0 X cc nL own rt d mc ms) {L : Nat} {sc : Nat → Int} (hsc : aScr X L sc) {i : Int} (h0 : 0 ≤ i) (h1 : i < L) (hL : L < 2147483648) (hd : decode cc pc = .ok (.iaload, 1)) (k : WW X (pc + 1) lv (kI (sc i.toNat) :: st) I J R S uc us) : WW X pc lv (kI i :: kS 300 :: st) I J R S uc us := by
  obtain ⟨p, l, e, Rm, s, m, args, below, meth, c, Q, E⟩ := X
  obtain ⟨hl0, hx, hb, hr, hml, hown, hts, hlocks, hK, hz0, hR, hStr⟩ := hX
  obtain ⟨xs, g1, g2, g3⟩ := hsc
  intro H locs ls hP hS hz hl
  have h4 : E.2.2.2.2.1 300 < s.heap.size := Nat.lt_of_lt_of_le g3 hz0
  have h5 : ¬ (fun q : Nat => E.1 ≤ q) (E.2.2.2.2.1 300) := Nat.not_le.mpr g3
  have h6 := n_in h0 h1 hL
  refine va_sld hx hb g2 h4 h5 hS h6.1 hd ?_
  have h7 := k H locs ls hP hS hz hl
  rw [h6.2]
  rw [g1] at h7
  have h8 : aC E (kI (xs i.toNat).toInt) = .int (xs i.toNat) := by rw [aC_I, n_of]
  rw [List.map_cons, h8] at h7
  exact h7
theorem ww_lend (hX : aK l0 X code nL own ret d mc ms) (hZ : aLz X) (hc : uc ≤ 600000) (hs : us ≤ 7302250) (hd : decode code pc = .ok (.ireturn, 1)) : WW X pc lv [kI 1] I J R S uc us := by
  obtain ⟨p, l, e, Rm, s, m, args, below, meth, c, Q, E⟩ := X
  obtain ⟨hl0, hx, hb, hr, hml, hown, hts, hlocks, hK, hz0, hR, hStr⟩ := hX
  obtain ⟨rfl, hE, b, rfl, rfl⟩ := hZ
  intro H locs ls hP hS hz hl
  refine va_forget (fun q hq => by have h9 := hS.2.2 q hq; rw [← hE]; exact h9) ?_
  refine W.widen (k := 600000) (n := 7302250) hc hs ?_
  exact lw_ret hx hb hr hlocks hd
theorem vD0 (hX : aK l0 X cc nL own rt d mc ms) {idx ci b nb d' mc' ms' : Nat} {M : aM} {p : Int → aI1 → aI1 → aR1 → aS1 → Prop} (hsi : aSV own idx M 0 ci) (hbs : S[b]? = some (ci + 6, nb)) (hM : CT l0 d' mc' ms' M [kR (some b)] I J R S (dI p)) (hd1 : d' + 1 ≤ d) (hc : uc + mc' ≤ mc) (hs : us + ms' ≤ ms) (hcat : aCat st ≤ 8) (hd : decode cc pc = .ok (.invokevirtual idx, 3)) (kk : ∀ x I' J' R' S', p x I' J' R' S' → WW X (pc + 3) lv (kI x :: st) I' J' R' S' (uc + mc') (us + ms')) : WW X pc lv (kR (some b) :: st) I J R S uc us :=
  ww_callV (av := []) hX hsi hbs hM rfl hd1 hc hs hcat hd (fun r I' J' R' S' h => by obtain ⟨x, rfl, h⟩ := h; exact kk x I' J' R' S' h)
theorem vD1 (hX : aK l0 X cc nL own rt d mc ms) {idx ci b nb d' mc' ms' : Nat} {M : aM} {a1 : aV} {p : Int → aI1 → aI1 → aR1 → aS1 → Prop} (hsi : aSV own idx M 1 ci) (hbs : S[b]? = some (ci + 6, nb)) (hM : CT l0 d' mc' ms' M [kR (some b), a1] I J R S (dI p)) (hd1 : d' + 1 ≤ d) (hc : uc + mc' ≤ mc) (hs : us + ms' ≤ ms) (hcat : aCat st ≤ 8) (hd : decode cc pc = .ok (.invokevirtual idx, 3)) (kk : ∀ x I' J' R' S', p x I' J' R' S' → WW X (pc + 3) lv (kI x :: st) I' J' R' S' (uc + mc') (us + ms')) : WW X pc lv (a1 :: kR (some b) :: st) I J R S uc us :=
  ww_callV (av := [a1]) hX hsi hbs hM rfl hd1 hc hs hcat hd (fun r I' J' R' S' h => by obtain ⟨x, rfl, h⟩ := h; exact kk x I' J' R' S' h)
end LAWR
theorem RX_mid {I I' : aI1} (h : RX I) (e : ∀ k, 49 ≤ k → k < 73 → I' k = I k) : RX I' := by
  unfold RX at h ⊢
  rw [e 49 (by decide) (by decide), e 51 (by decide) (by decide), e 52 (by decide) (by decide), e 53 (by decide) (by decide), e 54 (by decide) (by decide), e 61 (by decide) (by decide)]
  exact h
theorem RX_low {I I' : aI1} (h : RX I) (hk : Kp 0 49 I I') : RX I' := RX_mid h (fun k h1 _ => hk k (by omega))
theorem CI_ref {I I' : aI1} {R : aR1} {S : aS1} (h : CI I R S) (hk : Kp 49 73 I I') : CI I' R S :=
  ⟨h.1, CX_lo h.2.1 (fun k h1 => hk k (by omega)), LawsOK_hi h.2.2.1 (fun _ _ => rfl) (fun k h1 _ => hk k (by omega)) (fun _ _ _ => rfl) SX_rf, fun i hi c hc => CoastOK_hi (h.2.2.2 i hi c hc) (fun k h1 _ => hk k (by omega)) (fun _ _ _ => rfl) SX_rf⟩
end
