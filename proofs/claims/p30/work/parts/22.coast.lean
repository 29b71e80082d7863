set_option maxHeartbeats 4000000 in
set_option maxRecDepth 20000 in
theorem c_X1_full (l0 : Launch) {Ia Ja : aI1} {Ra : aR1} {Sa : aS1} (hL : LY Ra Sa) (hI : XI Ia)  : CT l0 0 0 0 mX1_full [kR (some 1)] Ia Ja Ra Sa (cI (fun x I' J' => Ia = I' ∧ Ja = J' ∧ x = FU (Ia 1 5)) Ra Sa) := by
  refine ct_in pn_X1 (Nat.le_of_ble_eq_true rfl) (fun X hX hT hIn => ?_)
  have hX : aK l0 X cX1_full 1 RX1 (some .int) 0 0 0 := hX
  change WW X 0 [some (kR (some 1))] [] Ia Ja Ra Sa 0 0
  refine ww_iconst hX (pc := 0) (x := 1) dX1_full_0 rfl ?_
  refine ww_aload_n hX (pc := 1) dX1_full_1 rfl ?_
  refine ww_getI hX (pc := 2) fX1_30 (by decide) (xs_1 hL) dX1_full_2 ?_
  refine ww_ishl hX (pc := 5) dX1_full_5 ?_
  refine ww_iconst hX (pc := 6) (x := 1) dX1_full_6 rfl ?_
  refine ww_isub hX (pc := 7) dX1_full_7 ?_
  refine rI hX (pc := 8) hT (Nat.le_refl 0) (Nat.le_refl 0) dX1_full_8 ?_
  refine ⟨rfl, rfl, ?_⟩
  rw [i_shl1 (by have := hI.1; omega) (by have := hI.1; omega)]
  rfl
set_option maxHeartbeats 4000000 in
set_option maxRecDepth 20000 in
theorem c_X1_isLamp (l0 : Launch) {Ia Ja : aI1} {Ra : aR1} {Sa : aS1} (hL : LY Ra Sa) (hI : XI Ia) {a : Int} (ha : -2147483648 ≤ a ∧ a < 2147483648)  : CT l0 0 0 0 mX1_isLamp [kR (some 1), kI a] Ia Ja Ra Sa (cI (fun x I' J' => Ia = I' ∧ Ja = J' ∧ (x = 0 ∨ x = 1) ∧ (x = 1 ↔ 0 ≤ a ∧ a < Ia 1 5)) Ra Sa) := by
  refine ct_in pn_X1 (Nat.le_of_ble_eq_true rfl) (fun X hX hT hIn => ?_)
  have hX : aK l0 X cX1_isLamp 2 RX1 (some .boolean) 0 0 0 := hX
  change WW X 0 [some (kR (some 1)), some (kI a)] [] Ia Ja Ra Sa 0 0
  obtain ⟨hn1, hn2⟩ := hI.1
  obtain ⟨hk1, hk2⟩ := hI.2.1
  obtain ⟨hf1, hf2⟩ := hI.fu
  refine ww_iload_n hX (pc := 0) dX1_isLamp_0 rfl ?_
  refine ww_if_lt hX (pc := 1) (tgt := 16) dX1_isLamp_1 (by decide) (fun h_1 => ?_) (fun h_1 => ?_)
  · simp only [w32_mod] at h_1
    refine ww_iconst hX (pc := 16) (x := 0) dX1_isLamp_16 rfl ?_
    refine rZ hX (pc := 17) hT (Nat.le_refl 0) (Nat.le_refl 0) dX1_isLamp_17 (by decide) ?_
    exact ⟨rfl, rfl, by omega, by omega⟩
  · simp only [w32_mod] at h_1
    refine ww_iload_n hX (pc := 4) dX1_isLamp_4 rfl ?_
    refine ww_aload_n hX (pc := 5) dX1_isLamp_5 rfl ?_
    refine ww_getI hX (pc := 6) fX1_30 (by decide) (xs_1 hL) dX1_isLamp_6 ?_
    refine ww_icmp_ge hX (pc := 9) (tgt := 16) dX1_isLamp_9 (by decide) (fun h_9 => ?_) (fun h_9 => ?_)
    · simp only [w32_mod] at h_9
      refine ww_iconst hX (pc := 16) (x := 0) dX1_isLamp_16 rfl ?_
      refine rZ hX (pc := 17) hT (Nat.le_refl 0) (Nat.le_refl 0) dX1_isLamp_17 (by decide) ?_
      exact ⟨rfl, rfl, by omega, by omega⟩
    · simp only [w32_mod] at h_9
      refine ww_iconst hX (pc := 12) (x := 1) dX1_isLamp_12 rfl ?_
      refine ww_goto hX (pc := 13) (tgt := 17) dX1_isLamp_13 (by decide) ?_
      refine rZ hX (pc := 17) hT (Nat.le_refl 0) (Nat.le_refl 0) dX1_isLamp_17 (by decide) ?_
      exact ⟨rfl, rfl, by omega, by omega⟩
set_option maxHeartbeats 4000000 in
set_option maxRecDepth 20000 in
theorem c_X1_isNews (l0 : Launch) {Ia Ja : aI1} {Ra : aR1} {Sa : aS1} (hL : LY Ra Sa) (hI : XI Ia) {a : Int} (ha : -2147483648 ≤ a ∧ a < 2147483648)  : CT l0 0 0 0 mX1_isNews [kR (some 1), kI a] Ia Ja Ra Sa (cI (fun x I' J' => Ia = I' ∧ Ja = J' ∧ (x = 0 ∨ x = 1) ∧ (x = 1 ↔ 0 ≤ a ∧ a < Ia 1 6)) Ra Sa) := by
  refine ct_in pn_X1 (Nat.le_of_ble_eq_true rfl) (fun X hX hT hIn => ?_)
  have hX : aK l0 X cX1_isNews 2 RX1 (some .boolean) 0 0 0 := hX
  change WW X 0 [some (kR (some 1)), some (kI a)] [] Ia Ja Ra Sa 0 0
  obtain ⟨hn1, hn2⟩ := hI.1
  obtain ⟨hk1, hk2⟩ := hI.2.1
  obtain ⟨hf1, hf2⟩ := hI.fu
  refine ww_iload_n hX (pc := 0) dX1_isNews_0 rfl ?_
  refine ww_if_lt hX (pc := 1) (tgt := 16) dX1_isNews_1 (by decide) (fun h_1 => ?_) (fun h_1 => ?_)
  · simp only [w32_mod] at h_1
    refine ww_iconst hX (pc := 16) (x := 0) dX1_isNews_16 rfl ?_
    refine rZ hX (pc := 17) hT (Nat.le_refl 0) (Nat.le_refl 0) dX1_isNews_17 (by decide) ?_
    exact ⟨rfl, rfl, by omega, by omega⟩
  · simp only [w32_mod] at h_1
    refine ww_iload_n hX (pc := 4) dX1_isNews_4 rfl ?_
    refine ww_aload_n hX (pc := 5) dX1_isNews_5 rfl ?_
    refine ww_getI hX (pc := 6) fX1_34 (by decide) (xs_1 hL) dX1_isNews_6 ?_
    refine ww_icmp_ge hX (pc := 9) (tgt := 16) dX1_isNews_9 (by decide) (fun h_9 => ?_) (fun h_9 => ?_)
    · simp only [w32_mod] at h_9
      refine ww_iconst hX (pc := 16) (x := 0) dX1_isNews_16 rfl ?_
      refine rZ hX (pc := 17) hT (Nat.le_refl 0) (Nat.le_refl 0) dX1_isNews_17 (by decide) ?_
      exact ⟨rfl, rfl, by omega, by omega⟩
    · simp only [w32_mod] at h_9
      refine ww_iconst hX (pc := 12) (x := 1) dX1_isNews_12 rfl ?_
      refine ww_goto hX (pc := 13) (tgt := 17) dX1_isNews_13 (by decide) ?_
      refine rZ hX (pc := 17) hT (Nat.le_refl 0) (Nat.le_refl 0) dX1_isNews_17 (by decide) ?_
      exact ⟨rfl, rfl, by omega, by omega⟩
set_option maxHeartbeats 4000000 in
set_option maxRecDepth 20000 in
theorem c_X1_isState (l0 : Launch) {Ia Ja : aI1} {Ra : aR1} {Sa : aS1} (hL : LY Ra Sa) (hI : XI Ia) {a : Int} (ha : -2147483648 ≤ a ∧ a < 2147483648)  : CT l0 1 0 0 mX1_isState [kR (some 1), kI a] Ia Ja Ra Sa (cI (fun x I' J' => Ia = I' ∧ Ja = J' ∧ (x = 0 ∨ x = 1) ∧ (x = 1 ↔ 0 ≤ a ∧ a ≤ FU (Ia 1 5))) Ra Sa) := by
  refine ct_in pn_X1 (Nat.le_of_ble_eq_true rfl) (fun X hX hT hIn => ?_)
  have hX : aK l0 X cX1_isState 2 RX1 (some .boolean) 1 0 0 := hX
  change WW X 0 [some (kR (some 1)), some (kI a)] [] Ia Ja Ra Sa 0 0
  obtain ⟨hn1, hn2⟩ := hI.1
  obtain ⟨hk1, hk2⟩ := hI.2.1
  obtain ⟨hf1, hf2⟩ := hI.fu
  refine ww_iload_n hX (pc := 0) dX1_isState_0 rfl ?_
  refine ww_if_lt hX (pc := 1) (tgt := 16) dX1_isState_1 (by decide) (fun h_1 => ?_) (fun h_1 => ?_)
  · simp only [w32_mod] at h_1
    refine ww_iconst hX (pc := 16) (x := 0) dX1_isState_16 rfl ?_
    refine rZ hX (pc := 17) hT (Nat.le_refl 0) (Nat.le_refl 0) dX1_isState_17 (by decide) ?_
    exact ⟨rfl, rfl, by omega, by omega⟩
  · simp only [w32_mod] at h_1
    refine ww_iload_n hX (pc := 4) dX1_isState_4 rfl ?_
    refine ww_aload_n hX (pc := 5) dX1_isState_5 rfl ?_
    refine vI0 hX (pc := 6) sX1_43 (xs_1 hL) (c_X1_full l0 hL hI) (by decide) (Nat.le_refl 0) (Nat.le_refl 0) (Nat.le_of_ble_eq_true rfl) dX1_isState_6 (fun x_6 I_6 J_6 h_6 => ?_)
    obtain ⟨rfl, rfl, h_6⟩ := h_6
    refine ww_icmp_gt hX (pc := 9) (tgt := 16) dX1_isState_9 (by decide) (fun h_9 => ?_) (fun h_9 => ?_)
    · simp only [w32_mod] at h_9
      refine ww_iconst hX (pc := 16) (x := 0) dX1_isState_16 rfl ?_
      refine rZ hX (pc := 17) hT (Nat.le_refl 0) (Nat.le_refl 0) dX1_isState_17 (by decide) ?_
      exact ⟨rfl, rfl, by omega, by omega⟩
    · simp only [w32_mod] at h_9
      refine ww_iconst hX (pc := 12) (x := 1) dX1_isState_12 rfl ?_
      refine ww_goto hX (pc := 13) (tgt := 17) dX1_isState_13 (by decide) ?_
      refine rZ hX (pc := 17) hT (Nat.le_refl 0) (Nat.le_refl 0) dX1_isState_17 (by decide) ?_
      exact ⟨rfl, rfl, by omega, by omega⟩
set_option maxHeartbeats 4000000 in
set_option maxRecDepth 20000 in
theorem c_X1_isReached (l0 : Launch) {Ia Ja : aI1} {Ra : aR1} {Sa : aS1} (hL : LY Ra Sa) (hI : XI Ia) {a : Int} (ha0 : 0 ≤ a) (ha1 : a ≤ 255)  : CT l0 0 0 0 mX1_isReached [kR (some 1), kI a] Ia Ja Ra Sa (cI (fun x I' J' => Ia = I' ∧ Ja = J' ∧ (x = 0 ∨ x = 1)) Ra Sa) := by
  refine ct_in pn_X1 (Nat.le_of_ble_eq_true rfl) (fun X hX hT hIn => ?_)
  have hX : aK l0 X cX1_isReached 2 RX1 (some .boolean) 0 0 0 := hX
  change WW X 0 [some (kR (some 1)), some (kI a)] [] Ia Ja Ra Sa 0 0
  obtain ⟨hn1, hn2⟩ := hI.1
  obtain ⟨hk1, hk2⟩ := hI.2.1
  obtain ⟨hf1, hf2⟩ := hI.fu
  refine ww_iload_n hX (pc := 0) dX1_isReached_0 rfl ?_
  refine ww_if_eq hX (pc := 1) (tgt := 23) dX1_isReached_1 (by decide) (fun h_1 => ?_) (fun h_1 => ?_)
  · simp only [w32_mod] at h_1
    refine ww_iconst hX (pc := 23) (x := 1) dX1_isReached_23 rfl ?_
    refine ww_goto hX (pc := 24) (tgt := 28) dX1_isReached_24 (by decide) ?_
    refine rZ hX (pc := 28) hT (Nat.le_refl 0) (Nat.le_refl 0) dX1_isReached_28 (by decide) ?_
    exact ⟨rfl, rfl, by omega⟩
  · simp only [w32_mod] at h_1
    refine ww_aload_n hX (pc := 4) dX1_isReached_4 rfl ?_
    refine ww_getR hX (pc := 5) fX1_15 (by decide) (xs_1 hL) (xr_1_1 hL) dX1_isReached_5 ?_
    refine ww_iload_n hX (pc := 8) dX1_isReached_8 rfl ?_
    refine ww_iald hX (pc := 9) (xs_3 hL) (by decide) (by omega) (by omega) dX1_isReached_9 ?_
    refine ww_iconst hX (pc := 10) (x := (-1)) dX1_isReached_10 rfl ?_
    refine ww_icmp_eq hX (pc := 11) (tgt := 27) dX1_isReached_11 (by decide) (fun h_11 => ?_) (fun h_11 => ?_)
    · simp only [w32_mod] at h_11
      refine ww_iconst hX (pc := 27) (x := 0) dX1_isReached_27 rfl ?_
      refine rZ hX (pc := 28) hT (Nat.le_refl 0) (Nat.le_refl 0) dX1_isReached_28 (by decide) ?_
      exact ⟨rfl, rfl, by omega⟩
    · simp only [w32_mod] at h_11
      refine ww_iload_n hX (pc := 14) dX1_isReached_14 rfl ?_
      refine ww_aload_n hX (pc := 15) dX1_isReached_15 rfl ?_
      refine ww_getI hX (pc := 16) fX1_47 (by decide) (xs_1 hL) dX1_isReached_16 ?_
      refine ww_iand hX (pc := 19) dX1_isReached_19 ?_
      refine ww_if_ne hX (pc := 20) (tgt := 27) dX1_isReached_20 (by decide) (fun h_20 => ?_) (fun h_20 => ?_)
      · simp only [w32_mod] at h_20
        refine ww_iconst hX (pc := 27) (x := 0) dX1_isReached_27 rfl ?_
        refine rZ hX (pc := 28) hT (Nat.le_refl 0) (Nat.le_refl 0) dX1_isReached_28 (by decide) ?_
        exact ⟨rfl, rfl, by omega⟩
      · simp only [w32_mod] at h_20
        refine ww_iconst hX (pc := 23) (x := 1) dX1_isReached_23 rfl ?_
        refine ww_goto hX (pc := 24) (tgt := 28) dX1_isReached_24 (by decide) ?_
        refine rZ hX (pc := 28) hT (Nat.le_refl 0) (Nat.le_refl 0) dX1_isReached_28 (by decide) ?_
        exact ⟨rfl, rfl, by omega⟩
set_option maxHeartbeats 4000000 in
set_option maxRecDepth 20000 in
theorem c_X1_newsBit (l0 : Launch) {Ia Ja : aI1} {Ra : aR1} {Sa : aS1} (hL : LY Ra Sa) (hI : XI Ia) {a : Int} (ha0 : 0 ≤ a) (ha1 : a ≤ 255)  : CT l0 1 0 0 mX1_newsBit [kR (some 1), kI a] Ia Ja Ra Sa (cI (fun x I' J' => Ia = I' ∧ Ja = J' ∧ True) Ra Sa) := by
  refine ct_in pn_X1 (Nat.le_of_ble_eq_true rfl) (fun X hX hT hIn => ?_)
  have hX : aK l0 X cX1_newsBit 2 RX1 (some .int) 1 0 0 := hX
  change WW X 0 [some (kR (some 1)), some (kI a)] [] Ia Ja Ra Sa 0 0
  obtain ⟨hn1, hn2⟩ := hI.1
  obtain ⟨hk1, hk2⟩ := hI.2.1
  obtain ⟨hf1, hf2⟩ := hI.fu
  refine ww_aload_n hX (pc := 0) dX1_newsBit_0 rfl ?_
  refine ww_getR hX (pc := 1) fX1_15 (by decide) (xs_1 hL) (xr_1_1 hL) dX1_newsBit_1 ?_
  refine ww_iload_n hX (pc := 4) dX1_newsBit_4 rfl ?_
  refine ww_iald hX (pc := 5) (xs_3 hL) (by decide) (by omega) (by omega) dX1_newsBit_5 ?_
  refine ww_iconst hX (pc := 6) (x := (-1)) dX1_newsBit_6 rfl ?_
  refine ww_icmp_eq hX (pc := 7) (tgt := 29) dX1_newsBit_7 (by decide) (fun h_7 => ?_) (fun h_7 => ?_)
  · simp only [w32_mod] at h_7
    refine ww_iconst hX (pc := 29) (x := 0) dX1_newsBit_29 rfl ?_
    refine rI hX (pc := 30) hT (Nat.le_refl 0) (Nat.le_refl 0) dX1_newsBit_30 ?_
    exact ⟨rfl, rfl, trivial⟩
  · simp only [w32_mod] at h_7
    refine ww_aload_n hX (pc := 10) dX1_newsBit_10 rfl ?_
    refine ww_iload_n hX (pc := 11) dX1_newsBit_11 rfl ?_
    refine vI1 hX (pc := 12) sX1_50 (xs_1 hL) (c_X1_isReached l0 hL hI (by omega) (by omega)) (by decide) (Nat.le_refl 0) (Nat.le_refl 0) (Nat.le_of_ble_eq_true rfl) dX1_newsBit_12 (fun x_12 I_12 J_12 h_12 => ?_)
    obtain ⟨rfl, rfl, h_12⟩ := h_12
    refine ww_if_eq hX (pc := 15) (tgt := 29) dX1_newsBit_15 (by decide) (fun h_15 => ?_) (fun h_15 => ?_)
    · simp only [w32_mod] at h_15
      refine ww_iconst hX (pc := 29) (x := 0) dX1_newsBit_29 rfl ?_
      refine rI hX (pc := 30) hT (Nat.le_refl 0) (Nat.le_refl 0) dX1_newsBit_30 ?_
      exact ⟨rfl, rfl, trivial⟩
    · simp only [w32_mod] at h_15
      refine ww_iconst hX (pc := 18) (x := 1) dX1_newsBit_18 rfl ?_
      refine ww_aload_n hX (pc := 19) dX1_newsBit_19 rfl ?_
      refine ww_getR hX (pc := 20) fX1_15 (by decide) (xs_1 hL) (xr_1_1 hL) dX1_newsBit_20 ?_
      refine ww_iload_n hX (pc := 23) dX1_newsBit_23 rfl ?_
      refine ww_iald hX (pc := 24) (xs_3 hL) (by decide) (by omega) (by omega) dX1_newsBit_24 ?_
      refine ww_ishl hX (pc := 25) dX1_newsBit_25 ?_
      refine ww_goto hX (pc := 26) (tgt := 30) dX1_newsBit_26 (by decide) ?_
      refine rI hX (pc := 30) hT (Nat.le_refl 0) (Nat.le_refl 0) dX1_newsBit_30 ?_
      exact ⟨rfl, rfl, trivial⟩
set_option maxHeartbeats 4000000 in
set_option maxRecDepth 20000 in
theorem c_X1_forget (l0 : Launch) {Ia Ja : aI1} {Ra : aR1} {Sa : aS1} (hL : LY Ra Sa)  : CT l0 1 0 0 mX1_forget [kR (some 1)] Ia Ja Ra Sa (cV (fun I' J' => Ja = J' ∧ I' = up2 (up2 (up2 (upR Ia 3 (fun j => if j < 256 then -1 else Ia 3 j)) 1 8 0) 1 10 0) 1 11 0) Ra Sa) := by
  refine ct_in pn_X1 (Nat.le_of_ble_eq_true rfl) (fun X hX hT hIn => ?_)
  have hX : aK l0 X cX1_forget 1 RX1 none 1 0 0 := hX
  change WW X 0 [some (kR (some 1))] [] Ia Ja Ra Sa 0 0
  refine ww_aload_n hX (pc := 0) dX1_forget_0 rfl ?_
  refine ww_getR hX (pc := 1) fX1_15 (by decide) (xs_1 hL) (xr_1_1 hL) dX1_forget_1 ?_
  refine ww_iconst hX (pc := 4) (x := (-1)) dX1_forget_4 rfl ?_
  refine sV2 hX (pc := 5) sX1_37 (c_J7_fill_53178 l0 (xs_3 hL) (by decide)) (by decide) (Nat.le_refl 0) (Nat.le_refl 0) (Nat.le_of_ble_eq_true rfl) dX1_forget_5 (fun I_5 J_5 h_5 => ?_)
  obtain ⟨rfl, eI_5⟩ := h_5
  refine ww_aload_n hX (pc := 8) dX1_forget_8 rfl ?_
  refine ww_iconst hX (pc := 9) (x := 0) dX1_forget_9 rfl ?_
  refine ww_putI hX (pc := 10) (fun h9 => absurd h9 (by decide)) gX1_58 rfl (xs_1 hL) dX1_forget_10 ?_
  refine ww_nmH (fun I_10 eI_10 => ?_)
  refine ww_aload_n hX (pc := 13) dX1_forget_13 rfl ?_
  refine ww_iconst hX (pc := 14) (x := 0) dX1_forget_14 rfl ?_
  refine ww_putI hX (pc := 15) (fun h9 => absurd h9 (by decide)) gX1_61 rfl (xs_1 hL) dX1_forget_15 ?_
  refine ww_nmH (fun I_15 eI_15 => ?_)
  refine ww_aload_n hX (pc := 18) dX1_forget_18 rfl ?_
  refine ww_iconst hX (pc := 19) (x := 0) dX1_forget_19 rfl ?_
  refine ww_putI hX (pc := 20) (fun h9 => absurd h9 (by decide)) gX1_64 rfl (xs_1 hL) dX1_forget_20 ?_
  refine ww_nmH (fun I_20 eI_20 => ?_)
  refine rV hX (pc := 23) hT (Nat.le_refl 0) (Nat.le_refl 0) dX1_forget_23 ?_
  exact ⟨rfl, by subst_vars; rfl⟩
