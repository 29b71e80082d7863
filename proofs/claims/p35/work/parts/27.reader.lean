/-- the reader of LAWS: its numbers are in their ranges -/
def LRf (f : Nat → Int) : Prop := (0 ≤ f 6 ∧ f 6 ≤ 400) ∧ (0 ≤ f 7 ∧ f 7 ≤ 400) ∧ (-1000 ≤ f 8 ∧ f 8 ≤ 1400) ∧ (0 ≤ f 9 ∧ f 9 ≤ 400) ∧ (0 ≤ f 10 ∧ f 10 ≤ 50) ∧ (0 ≤ f 11 ∧ f 11 ≤ 12)
def LR (I : aI1) : Prop := LRf (I 10) ∧ (∀ j, j < 401 → -1000 ≤ I 11 j ∧ I 11 j ≤ 1400) ∧ (∀ j, j < 400 → -10000 ≤ I 13 j ∧ I 13 j ≤ 10000) ∧ (∀ j, j < 25 → -10000 ≤ I 14 j ∧ I 14 j ≤ 10000)
theorem LR_kp {I I' : aI1} {a b : Nat} (h : LR I) (hk : Kp a b I I') (ha : 15 ≤ a ∨ b ≤ 10) : LR I' := by
  unfold LR at h ⊢
  rw [hk 10 (by omega), hk 11 (by omega), hk 13 (by omega), hk 14 (by omega)]
  exact h
theorem LR_0 {I : aI1} (h : LR I) {v : Int}  : LR (up2 I 10 0 v) := by
  obtain ⟨a, b, c, d⟩ := h
  refine ⟨?_, by rw [up2_off _ _ _ (by decide)]; exact b, by rw [up2_off _ _ _ (by decide)]; exact c, by rw [up2_off _ _ _ (by decide)]; exact d⟩
  rw [up2_row]
  unfold LRf at a ⊢
  simp [up1]
  omega
theorem LR_6 {I : aI1} (h : LR I) {v : Int} (h1 : 0 ≤ v) (h2 : v ≤ 400) : LR (up2 I 10 6 v) := by
  obtain ⟨a, b, c, d⟩ := h
  refine ⟨?_, by rw [up2_off _ _ _ (by decide)]; exact b, by rw [up2_off _ _ _ (by decide)]; exact c, by rw [up2_off _ _ _ (by decide)]; exact d⟩
  rw [up2_row]
  unfold LRf at a ⊢
  simp [up1]
  omega
theorem LR_7 {I : aI1} (h : LR I) {v : Int} (h1 : 0 ≤ v) (h2 : v ≤ 400) : LR (up2 I 10 7 v) := by
  obtain ⟨a, b, c, d⟩ := h
  refine ⟨?_, by rw [up2_off _ _ _ (by decide)]; exact b, by rw [up2_off _ _ _ (by decide)]; exact c, by rw [up2_off _ _ _ (by decide)]; exact d⟩
  rw [up2_row]
  unfold LRf at a ⊢
  simp [up1]
  omega
theorem LR_8 {I : aI1} (h : LR I) {v : Int} (h1 : -1000 ≤ v) (h2 : v ≤ 1400) : LR (up2 I 10 8 v) := by
  obtain ⟨a, b, c, d⟩ := h
  refine ⟨?_, by rw [up2_off _ _ _ (by decide)]; exact b, by rw [up2_off _ _ _ (by decide)]; exact c, by rw [up2_off _ _ _ (by decide)]; exact d⟩
  rw [up2_row]
  unfold LRf at a ⊢
  simp [up1]
  omega
theorem LR_9 {I : aI1} (h : LR I) {v : Int} (h1 : 0 ≤ v) (h2 : v ≤ 400) : LR (up2 I 10 9 v) := by
  obtain ⟨a, b, c, d⟩ := h
  refine ⟨?_, by rw [up2_off _ _ _ (by decide)]; exact b, by rw [up2_off _ _ _ (by decide)]; exact c, by rw [up2_off _ _ _ (by decide)]; exact d⟩
  rw [up2_row]
  unfold LRf at a ⊢
  simp [up1]
  omega
theorem LR_10 {I : aI1} (h : LR I) {v : Int} (h1 : 0 ≤ v) (h2 : v ≤ 50) : LR (up2 I 10 10 v) := by
  obtain ⟨a, b, c, d⟩ := h
  refine ⟨?_, by rw [up2_off _ _ _ (by decide)]; exact b, by rw [up2_off _ _ _ (by decide)]; exact c, by rw [up2_off _ _ _ (by decide)]; exact d⟩
  rw [up2_row]
  unfold LRf at a ⊢
  simp [up1]
  omega
theorem LR_11 {I : aI1} (h : LR I) {v : Int} (h1 : 0 ≤ v) (h2 : v ≤ 12) : LR (up2 I 10 11 v) := by
  obtain ⟨a, b, c, d⟩ := h
  refine ⟨?_, by rw [up2_off _ _ _ (by decide)]; exact b, by rw [up2_off _ _ _ (by decide)]; exact c, by rw [up2_off _ _ _ (by decide)]; exact d⟩
  rw [up2_row]
  unfold LRf at a ⊢
  simp [up1]
  omega
theorem LR_c11 {I : aI1} (h : LR I) (q : Nat) {v : Int} (h1 : -1000 ≤ v) (h2 : v ≤ 1400) : LR (up2 I 11 q v) := by
  obtain ⟨a, b, c, d⟩ := h
  exact ⟨by rw [up2_off _ _ _ (by decide)]; exact a, by exact rng_upN ⟨h1, h2⟩ b, by rw [up2_off _ _ _ (by decide)]; exact c, by rw [up2_off _ _ _ (by decide)]; exact d⟩
theorem LR_c12 {I : aI1} (h : LR I) (q : Nat) {v : Int}  : LR (up2 I 12 q v) := by
  obtain ⟨a, b, c, d⟩ := h
  exact ⟨by rw [up2_off _ _ _ (by decide)]; exact a, by rw [up2_off _ _ _ (by decide)]; exact b, by rw [up2_off _ _ _ (by decide)]; exact c, by rw [up2_off _ _ _ (by decide)]; exact d⟩
theorem LR_c13 {I : aI1} (h : LR I) (q : Nat) {v : Int} (h1 : -10000 ≤ v) (h2 : v ≤ 10000) : LR (up2 I 13 q v) := by
  obtain ⟨a, b, c, d⟩ := h
  exact ⟨by rw [up2_off _ _ _ (by decide)]; exact a, by rw [up2_off _ _ _ (by decide)]; exact b, by exact rng_upN ⟨h1, h2⟩ c, by rw [up2_off _ _ _ (by decide)]; exact d⟩
theorem LR_c14 {I : aI1} (h : LR I) (q : Nat) {v : Int} (h1 : -10000 ≤ v) (h2 : v ≤ 10000) : LR (up2 I 14 q v) := by
  obtain ⟨a, b, c, d⟩ := h
  exact ⟨by rw [up2_off _ _ _ (by decide)]; exact a, by rw [up2_off _ _ _ (by decide)]; exact b, by rw [up2_off _ _ _ (by decide)]; exact c, by exact rng_upN ⟨h1, h2⟩ d⟩
set_option maxHeartbeats 4000000 in
set_option maxRecDepth 20000 in
theorem c_X7_isLetter (l0 : Launch) {Ia Ja : aI1} {Ra : aR1} {Sa : aS1} {a : Int} (ha0 : -2147483648 ≤ a) (ha1 : a < 2147483648)  : CT l0 0 0 0 mX7_isLetter [kI a] Ia Ja Ra Sa (cI (fun x I' J' => Ia = I' ∧ Ja = J' ∧ (x = 0 ∨ x = 1) ∧ (x = 1 ↔ 97 ≤ a ∧ a ≤ 122)) Ra Sa) := by
  refine ct_in pn_X7 (Nat.le_of_ble_eq_true rfl) (fun X hX hT hIn => ?_)
  have hX : aK l0 X cX7_isLetter 1 RX7 (some .boolean) 0 0 0 := hX
  change WW X 0 [some (kI a)] [] Ia Ja Ra Sa 0 0
  refine ww_iload_n hX (pc := 0) dX7_isLetter_0 rfl ?_
  refine ww_bipush hX (pc := 1) (x := 97) dX7_isLetter_1 (by decide) ?_
  refine ww_icmp_lt hX (pc := 3) (tgt := 16) dX7_isLetter_3 (by decide) (fun h_3 => ?_) (fun h_3 => ?_)
  · simp only [w32_mod] at h_3
    refine ww_iconst hX (pc := 16) (x := 0) dX7_isLetter_16 rfl ?_
    refine rZ hX (pc := 17) hT (Nat.le_refl 0) (Nat.le_refl 0) dX7_isLetter_17 (by decide) ?_
    exact ⟨rfl, rfl, by omega, by omega⟩
  · simp only [w32_mod] at h_3
    refine ww_iload_n hX (pc := 6) dX7_isLetter_6 rfl ?_
    refine ww_bipush hX (pc := 7) (x := 122) dX7_isLetter_7 (by decide) ?_
    refine ww_icmp_gt hX (pc := 9) (tgt := 16) dX7_isLetter_9 (by decide) (fun h_9 => ?_) (fun h_9 => ?_)
    · simp only [w32_mod] at h_9
      refine ww_iconst hX (pc := 16) (x := 0) dX7_isLetter_16 rfl ?_
      refine rZ hX (pc := 17) hT (Nat.le_refl 0) (Nat.le_refl 0) dX7_isLetter_17 (by decide) ?_
      exact ⟨rfl, rfl, by omega, by omega⟩
    · simp only [w32_mod] at h_9
      refine ww_iconst hX (pc := 12) (x := 1) dX7_isLetter_12 rfl ?_
      refine ww_goto hX (pc := 13) (tgt := 17) dX7_isLetter_13 (by decide) ?_
      refine rZ hX (pc := 17) hT (Nat.le_refl 0) (Nat.le_refl 0) dX7_isLetter_17 (by decide) ?_
      exact ⟨rfl, rfl, by omega, by omega⟩
set_option maxHeartbeats 4000000 in
set_option maxRecDepth 20000 in
theorem c_X7_isDigit (l0 : Launch) {Ia Ja : aI1} {Ra : aR1} {Sa : aS1} {a : Int} (ha0 : -2147483648 ≤ a) (ha1 : a < 2147483648)  : CT l0 0 0 0 mX7_isDigit [kI a] Ia Ja Ra Sa (cI (fun x I' J' => Ia = I' ∧ Ja = J' ∧ (x = 0 ∨ x = 1) ∧ (x = 1 ↔ 48 ≤ a ∧ a ≤ 57)) Ra Sa) := by
  refine ct_in pn_X7 (Nat.le_of_ble_eq_true rfl) (fun X hX hT hIn => ?_)
  have hX : aK l0 X cX7_isDigit 1 RX7 (some .boolean) 0 0 0 := hX
  change WW X 0 [some (kI a)] [] Ia Ja Ra Sa 0 0
  refine ww_iload_n hX (pc := 0) dX7_isDigit_0 rfl ?_
  refine ww_bipush hX (pc := 1) (x := 48) dX7_isDigit_1 (by decide) ?_
  refine ww_icmp_lt hX (pc := 3) (tgt := 16) dX7_isDigit_3 (by decide) (fun h_3 => ?_) (fun h_3 => ?_)
  · simp only [w32_mod] at h_3
    refine ww_iconst hX (pc := 16) (x := 0) dX7_isDigit_16 rfl ?_
    refine rZ hX (pc := 17) hT (Nat.le_refl 0) (Nat.le_refl 0) dX7_isDigit_17 (by decide) ?_
    exact ⟨rfl, rfl, by omega, by omega⟩
  · simp only [w32_mod] at h_3
    refine ww_iload_n hX (pc := 6) dX7_isDigit_6 rfl ?_
    refine ww_bipush hX (pc := 7) (x := 57) dX7_isDigit_7 (by decide) ?_
    refine ww_icmp_gt hX (pc := 9) (tgt := 16) dX7_isDigit_9 (by decide) (fun h_9 => ?_) (fun h_9 => ?_)
    · simp only [w32_mod] at h_9
      refine ww_iconst hX (pc := 16) (x := 0) dX7_isDigit_16 rfl ?_
      refine rZ hX (pc := 17) hT (Nat.le_refl 0) (Nat.le_refl 0) dX7_isDigit_17 (by decide) ?_
      exact ⟨rfl, rfl, by omega, by omega⟩
    · simp only [w32_mod] at h_9
      refine ww_iconst hX (pc := 12) (x := 1) dX7_isDigit_12 rfl ?_
      refine ww_goto hX (pc := 13) (tgt := 17) dX7_isDigit_13 (by decide) ?_
      refine rZ hX (pc := 17) hT (Nat.le_refl 0) (Nat.le_refl 0) dX7_isDigit_17 (by decide) ?_
      exact ⟨rfl, rfl, by omega, by omega⟩
set_option maxHeartbeats 4000000 in
set_option maxRecDepth 20000 in
theorem c_X7_stepOf (l0 : Launch) {Ia Ja : aI1} {Ra : aR1} {Sa : aS1} {a : Int}  : CT l0 0 0 0 mX7_stepOf [kI a] Ia Ja Ra Sa (cI (fun x I' J' => Ia = I' ∧ Ja = J' ∧ (-18 ≤ x ∧ x ≤ -11)) Ra Sa) := by
  refine ct_in pn_X7 (Nat.le_of_ble_eq_true rfl) (fun X hX hT hIn => ?_)
  have hX : aK l0 X cX7_stepOf 1 RX7 (some .int) 0 0 0 := hX
  change WW X 0 [some (kI a)] [] Ia Ja Ra Sa 0 0
  refine ww_iload_n hX (pc := 0) dX7_stepOf_0 rfl ?_
  refine ww_lookup hX (pc := 1) dX7_stepOf_1 (by decide) ?_
  by_cases e37 : w32 a = 37
  · refine ⟨79, 80, by rw [e37]; decide, by decide, ?_⟩
    refine ww_bipush hX (pc := 80) (x := (-15)) dX7_stepOf_80 (by decide) ?_
    refine rI hX (pc := 82) hT (Nat.le_refl 0) (Nat.le_refl 0) dX7_stepOf_82 ?_
    exact ⟨rfl, rfl, by omega⟩
  by_cases e42 : w32 a = 42
  · refine ⟨73, 74, by rw [e42]; decide, by decide, ?_⟩
    refine ww_bipush hX (pc := 74) (x := (-13)) dX7_stepOf_74 (by decide) ?_
    refine rI hX (pc := 76) hT (Nat.le_refl 0) (Nat.le_refl 0) dX7_stepOf_76 ?_
    exact ⟨rfl, rfl, by omega⟩
  by_cases e43 : w32 a = 43
  · refine ⟨67, 68, by rw [e43]; decide, by decide, ?_⟩
    refine ww_bipush hX (pc := 68) (x := (-11)) dX7_stepOf_68 (by decide) ?_
    refine rI hX (pc := 70) hT (Nat.le_refl 0) (Nat.le_refl 0) dX7_stepOf_70 ?_
    exact ⟨rfl, rfl, by omega⟩
  by_cases e45 : w32 a = 45
  · refine ⟨70, 71, by rw [e45]; decide, by decide, ?_⟩
    refine ww_bipush hX (pc := 71) (x := (-12)) dX7_stepOf_71 (by decide) ?_
    refine rI hX (pc := 73) hT (Nat.le_refl 0) (Nat.le_refl 0) dX7_stepOf_73 ?_
    exact ⟨rfl, rfl, by omega⟩
  by_cases e47 : w32 a = 47
  · refine ⟨76, 77, by rw [e47]; decide, by decide, ?_⟩
    refine ww_bipush hX (pc := 77) (x := (-14)) dX7_stepOf_77 (by decide) ?_
    refine rI hX (pc := 79) hT (Nat.le_refl 0) (Nat.le_refl 0) dX7_stepOf_79 ?_
    exact ⟨rfl, rfl, by omega⟩
  by_cases e60 : w32 a = 60
  · refine ⟨82, 83, by rw [e60]; decide, by decide, ?_⟩
    refine ww_bipush hX (pc := 83) (x := (-16)) dX7_stepOf_83 (by decide) ?_
    refine rI hX (pc := 85) hT (Nat.le_refl 0) (Nat.le_refl 0) dX7_stepOf_85 ?_
    exact ⟨rfl, rfl, by omega⟩
  by_cases e62 : w32 a = 62
  · refine ⟨85, 86, by rw [e62]; decide, by decide, ?_⟩
    refine ww_bipush hX (pc := 86) (x := (-17)) dX7_stepOf_86 (by decide) ?_
    refine rI hX (pc := 88) hT (Nat.le_refl 0) (Nat.le_refl 0) dX7_stepOf_88 ?_
    exact ⟨rfl, rfl, by omega⟩
  refine ⟨88, 89, by simp [Op.lookupswitch.offset, e37, Ne.symm e37, e42, Ne.symm e42, e43, Ne.symm e43, e45, Ne.symm e45, e47, Ne.symm e47, e60, Ne.symm e60, e62, Ne.symm e62], by decide, ?_⟩
  refine ww_bipush hX (pc := 89) (x := (-18)) dX7_stepOf_89 (by decide) ?_
  refine rI hX (pc := 91) hT (Nat.le_refl 0) (Nat.le_refl 0) dX7_stepOf_91 ?_
  exact ⟨rfl, rfl, by omega⟩
set_option maxHeartbeats 4000000 in
set_option maxRecDepth 20000 in
theorem c_X7_skipBlanks (l0 : Launch) {Ia Ja : aI1} {Ra : aR1} {Sa : aS1} (hL : LY Ra Sa) (hI : XI Ia) {a : Int} (ha0 : 0 ≤ a) (ha1 : a ≤ Ia 8 1)  : CT l0 1 0 0 mX7_skipBlanks [kR (some 10), kI a] Ia Ja Ra Sa (cI (fun x I' J' => Ia = I' ∧ Ja = J' ∧ (a ≤ x ∧ x ≤ Ia 8 1)) Ra Sa) := by
  refine ct_in pn_X7 (Nat.le_of_ble_eq_true rfl) (fun X hX hT hIn => ?_)
  have hX : aK l0 X cX7_skipBlanks 3 RX7 (some .int) 1 0 0 := hX
  change WW X 0 [some (kR (some 10)), some (kI a), none] [] Ia Ja Ra Sa 0 0
  obtain ⟨hn1, hn2⟩ := hI.1
  obtain ⟨hk1, hk2⟩ := hI.2.1
  obtain ⟨hf1, hf2⟩ := hI.fu
  obtain ⟨hl1, hl2⟩ := hI.2.2.2.2.2.2.1
  refine ww_iload_n hX (pc := 0) dX7_skipBlanks_0 rfl ?_
  refine ww_istore_n hX (pc := 1) (lv' := [some (kR (some 10)), some (kI a), some (kI a)]) dX7_skipBlanks_1 (by decide) rfl rfl ?_
  have hl_2 : ∀ (n_2 : Nat) (q : Int), (Ia 8 1 - q).toNat = n_2 → (a ≤ q ∧ q ≤ Ia 8 1) → WW X 2 [some (kR (some 10)), some (kI a), some (kI q)] [] Ia Ja Ra Sa 0 0 := by
    intro n_2
    induction n_2 using Nat.strongRecOn with
    | ind n_2 ih_2 =>
      intro q hm_2 hv_2
      have hq_2 := Sh0_i hm_2
      clear hm_2
      obtain ⟨hq0, hq1⟩ := hv_2
      refine ww_iload_n hX (pc := 2) dX7_skipBlanks_2 rfl ?_
      refine ww_aload_n hX (pc := 3) dX7_skipBlanks_3 rfl ?_
      refine ww_getR hX (pc := 4) fX7_28 (by decide) (xs_10 hL) (xr_10_1 hL) dX7_skipBlanks_4 ?_
      refine ww_getI hX (pc := 7) fX7_128 (by decide) (xs_8 hL) dX7_skipBlanks_7 ?_
      refine ww_icmp_ge hX (pc := 10) (tgt := 32) dX7_skipBlanks_10 (by decide) (fun h_10 => ?_) (fun h_10 => ?_)
      · simp only [w32_mod] at h_10
        refine ww_iload_n hX (pc := 32) dX7_skipBlanks_32 rfl ?_
        refine rI hX (pc := 33) hT (Nat.le_refl 0) (Nat.le_refl 0) dX7_skipBlanks_33 ?_
        exact ⟨rfl, rfl, by omega⟩
      · simp only [w32_mod] at h_10
        refine ww_aload_n hX (pc := 13) dX7_skipBlanks_13 rfl ?_
        refine ww_getR hX (pc := 14) fX7_28 (by decide) (xs_10 hL) (xr_10_1 hL) dX7_skipBlanks_14 ?_
        refine ww_iload_n hX (pc := 17) dX7_skipBlanks_17 rfl ?_
        refine vI1 hX (pc := 18) sX7_139 (xs_8 hL) (c_X9_byteAt l0 hL hI (by omega) (by omega)) (by decide) (Nat.le_refl 0) (Nat.le_refl 0) (Nat.le_of_ble_eq_true rfl) dX7_skipBlanks_18 (fun x_18 I_18 J_18 h_18 => ?_)
        obtain ⟨rfl, rfl, h_18⟩ := h_18
        refine ww_bipush hX (pc := 21) (x := 32) dX7_skipBlanks_21 (by decide) ?_
        refine ww_icmp_ne hX (pc := 23) (tgt := 32) dX7_skipBlanks_23 (by decide) (fun h_23 => ?_) (fun h_23 => ?_)
        · simp only [w32_mod] at h_23
          refine ww_iload_n hX (pc := 32) dX7_skipBlanks_32 rfl ?_
          refine rI hX (pc := 33) hT (Nat.le_refl 0) (Nat.le_refl 0) dX7_skipBlanks_33 ?_
          exact ⟨rfl, rfl, by omega⟩
        · simp only [w32_mod] at h_23
          refine ww_iinc hX (pc := 26) (lv' := [some (kR (some 10)), some (kI a), some (kI (q + 1))]) dX7_skipBlanks_26 rfl (by decide) rfl rfl ?_
          refine ww_goto hX (pc := 29) (tgt := 2) dX7_skipBlanks_29 (by decide) ?_
          exact ih_2 _ (by have hm9 := Sh0_e hq_2; omega) (q + 1) rfl ⟨by omega, by omega⟩
  exact hl_2 _ a rfl ⟨by omega, by omega⟩
set_option maxHeartbeats 4000000 in
set_option maxRecDepth 20000 in
theorem c_X7_stopOf (l0 : Launch) {Ia Ja : aI1} {Ra : aR1} {Sa : aS1} (hL : LY Ra Sa) (hI : XI Ia) {a : Int} (ha0 : 0 ≤ a) (ha1 : a < Ia 8 1)  : CT l0 1 0 0 mX7_stopOf [kR (some 10), kI a] Ia Ja Ra Sa (cI (fun x I' J' => Ia = I' ∧ Ja = J' ∧ (a < x ∧ x ≤ Ia 8 1) ∧ (48 ≤ Ia 9 a.toNat ∧ Ia 9 a.toNat ≤ 57 → ∀ j : Int, a ≤ j → j < x → 48 ≤ Ia 9 j.toNat ∧ Ia 9 j.toNat ≤ 57)) Ra Sa) := by
  refine ct_in pn_X7 (Nat.le_of_ble_eq_true rfl) (fun X hX hT hIn => ?_)
  have hX : aK l0 X cX7_stopOf 5 RX7 (some .int) 1 0 0 := hX
  change WW X 0 [some (kR (some 10)), some (kI a), none, none, none] [] Ia Ja Ra Sa 0 0
  obtain ⟨hn1, hn2⟩ := hI.1
  obtain ⟨hk1, hk2⟩ := hI.2.1
  obtain ⟨hf1, hf2⟩ := hI.fu
  obtain ⟨hl1, hl2⟩ := hI.2.2.2.2.2.2.1
  have hba := hI.2.2.2.2.2.2.2.2.2.2 a.toNat (by omega)
  refine ww_aload_n hX (pc := 0) dX7_stopOf_0 rfl ?_
  refine ww_getR hX (pc := 1) fX7_28 (by decide) (xs_10 hL) (xr_10_1 hL) dX7_stopOf_1 ?_
  refine ww_iload_n hX (pc := 4) dX7_stopOf_4 rfl ?_
  refine vI1 hX (pc := 5) sX7_139 (xs_8 hL) (c_X9_byteAt l0 hL hI (by omega) (by omega)) (by decide) (Nat.le_refl 0) (Nat.le_refl 0) (Nat.le_of_ble_eq_true rfl) dX7_stopOf_5 (fun x_5 I_5 J_5 h_5 => ?_)
  obtain ⟨rfl, rfl, h_5⟩ := h_5
  refine sI1 hX (pc := 8) sX7_142 (c_X7_isLetter l0 (by omega) (by omega)) (by decide) (Nat.le_refl 0) (Nat.le_refl 0) (Nat.le_of_ble_eq_true rfl) dX7_stopOf_8 (fun x_8 I_8 J_8 h_8 => ?_)
  obtain ⟨rfl, rfl, h_8⟩ := h_8
  refine ww_istore_n hX (pc := 11) (lv' := [some (kR (some 10)), some (kI a), some (kI x_8), none, none]) dX7_stopOf_11 (by decide) rfl rfl ?_
  refine ww_aload_n hX (pc := 12) dX7_stopOf_12 rfl ?_
  refine ww_getR hX (pc := 13) fX7_28 (by decide) (xs_10 hL) (xr_10_1 hL) dX7_stopOf_13 ?_
  refine ww_iload_n hX (pc := 16) dX7_stopOf_16 rfl ?_
  refine vI1 hX (pc := 17) sX7_139 (xs_8 hL) (c_X9_byteAt l0 hL hI (by omega) (by omega)) (by decide) (Nat.le_refl 0) (Nat.le_refl 0) (Nat.le_of_ble_eq_true rfl) dX7_stopOf_17 (fun x_17 I_17 J_17 h_17 => ?_)
  obtain ⟨rfl, rfl, h_17⟩ := h_17
  refine sI1 hX (pc := 20) sX7_145 (c_X7_isDigit l0 (by omega) (by omega)) (by decide) (Nat.le_refl 0) (Nat.le_refl 0) (Nat.le_of_ble_eq_true rfl) dX7_stopOf_20 (fun x_20 I_20 J_20 h_20 => ?_)
  obtain ⟨rfl, rfl, h_20⟩ := h_20
  refine ww_istore_n hX (pc := 23) (lv' := [some (kR (some 10)), some (kI a), some (kI x_8), some (kI x_20), none]) dX7_stopOf_23 (by decide) rfl rfl ?_
  refine ww_iload_n hX (pc := 24) dX7_stopOf_24 rfl ?_
  refine ww_iconst hX (pc := 25) (x := 1) dX7_stopOf_25 rfl ?_
  refine ww_iadd hX (pc := 26) dX7_stopOf_26 ?_
  refine ww_nmI (fun v_27 hv_27 => ?_)
  refine ww_istore hX (pc := 27) (lv' := [some (kR (some 10)), some (kI a), some (kI x_8), some (kI x_20), some (kI v_27)]) dX7_stopOf_27 (by decide) rfl rfl ?_
  have hl_29 : ∀ (n_29 : Nat) (q : Int), (Ia 8 1 - q).toNat = n_29 → ((a < q ∧ q ≤ Ia 8 1) ∧ (48 ≤ Ia 9 a.toNat ∧ Ia 9 a.toNat ≤ 57 → ∀ j : Int, a ≤ j → j < q → 48 ≤ Ia 9 j.toNat ∧ Ia 9 j.toNat ≤ 57)) → WW X 29 [some (kR (some 10)), some (kI a), some (kI x_8), some (kI x_20), some (kI q)] [] Ia Ja Ra Sa 0 0 := by
    intro n_29
    induction n_29 using Nat.strongRecOn with
    | ind n_29 ih_29 =>
      intro q hm_29 hv_29
      have hq_29 := Sh0_i hm_29
      clear hm_29
      obtain ⟨hq0, hdg⟩ := hv_29
      refine ww_iload hX (pc := 29) dX7_stopOf_29 rfl ?_
      refine ww_aload_n hX (pc := 31) dX7_stopOf_31 rfl ?_
      refine ww_getR hX (pc := 32) fX7_28 (by decide) (xs_10 hL) (xr_10_1 hL) dX7_stopOf_32 ?_
      refine ww_getI hX (pc := 35) fX7_128 (by decide) (xs_8 hL) dX7_stopOf_35 ?_
      refine ww_icmp_ge hX (pc := 38) (tgt := 85) dX7_stopOf_38 (by decide) (fun h_38 => ?_) (fun h_38 => ?_)
      · simp only [w32_mod] at h_38
        refine ww_iload hX (pc := 85) dX7_stopOf_85 rfl ?_
        refine rI hX (pc := 87) hT (Nat.le_refl 0) (Nat.le_refl 0) dX7_stopOf_87 ?_
        exact ⟨rfl, rfl, by omega, hdg⟩
      · simp only [w32_mod] at h_38
        have hbq := hI.2.2.2.2.2.2.2.2.2.2 q.toNat (by omega)
        refine ww_iload_n hX (pc := 41) dX7_stopOf_41 rfl ?_
        refine ww_if_eq hX (pc := 42) (tgt := 60) dX7_stopOf_42 (by decide) (fun h_42 => ?_) (fun h_42 => ?_)
        · simp only [w32_mod] at h_42
          refine ww_iload_n hX (pc := 60) dX7_stopOf_60 rfl ?_
          refine ww_if_eq hX (pc := 61) (tgt := 85) dX7_stopOf_61 (by decide) (fun h_61 => ?_) (fun h_61 => ?_)
          · simp only [w32_mod] at h_61
            refine ww_iload hX (pc := 85) dX7_stopOf_85 rfl ?_
            refine rI hX (pc := 87) hT (Nat.le_refl 0) (Nat.le_refl 0) dX7_stopOf_87 ?_
            exact ⟨rfl, rfl, by omega, hdg⟩
          · simp only [w32_mod] at h_61
            refine ww_aload_n hX (pc := 64) dX7_stopOf_64 rfl ?_
            refine ww_getR hX (pc := 65) fX7_28 (by decide) (xs_10 hL) (xr_10_1 hL) dX7_stopOf_65 ?_
            refine ww_iload hX (pc := 68) dX7_stopOf_68 rfl ?_
            refine vI1 hX (pc := 70) sX7_139 (xs_8 hL) (c_X9_byteAt l0 hL hI (by omega) (by omega)) (by decide) (Nat.le_refl 0) (Nat.le_refl 0) (Nat.le_of_ble_eq_true rfl) dX7_stopOf_70 (fun x_70 I_70 J_70 h_70 => ?_)
            obtain ⟨rfl, rfl, h_70⟩ := h_70
            refine sI1 hX (pc := 73) sX7_145 (c_X7_isDigit l0 (by omega) (by omega)) (by decide) (Nat.le_refl 0) (Nat.le_refl 0) (Nat.le_of_ble_eq_true rfl) dX7_stopOf_73 (fun x_73 I_73 J_73 h_73 => ?_)
            obtain ⟨rfl, rfl, h_73⟩ := h_73
            refine ww_if_eq hX (pc := 76) (tgt := 85) dX7_stopOf_76 (by decide) (fun h_76 => ?_) (fun h_76 => ?_)
            · simp only [w32_mod] at h_76
              refine ww_iload hX (pc := 85) dX7_stopOf_85 rfl ?_
              refine rI hX (pc := 87) hT (Nat.le_refl 0) (Nat.le_refl 0) dX7_stopOf_87 ?_
              exact ⟨rfl, rfl, by omega, hdg⟩
            · simp only [w32_mod] at h_76
              have k_73 := h_73.2.mp (by omega)
              clear h_73
              refine ww_iinc hX (pc := 79) (lv' := [some (kR (some 10)), some (kI a), some (kI x_8), some (kI x_20), some (kI (q + 1))]) dX7_stopOf_79 rfl (by decide) rfl rfl ?_
              refine ww_goto hX (pc := 82) (tgt := 29) dX7_stopOf_82 (by decide) ?_
              exact ih_29 _ (by have hm9 := Sh0_e hq_29; omega) (q + 1) rfl ⟨by omega, fun hd j h1 h2 => (if hj : j < q then hdg hd j h1 hj else (by rw [show j = q by omega]; omega))⟩
        · simp only [w32_mod] at h_42
          refine ww_aload_n hX (pc := 45) dX7_stopOf_45 rfl ?_
          refine ww_getR hX (pc := 46) fX7_28 (by decide) (xs_10 hL) (xr_10_1 hL) dX7_stopOf_46 ?_
          refine ww_iload hX (pc := 49) dX7_stopOf_49 rfl ?_
          refine vI1 hX (pc := 51) sX7_139 (xs_8 hL) (c_X9_byteAt l0 hL hI (by omega) (by omega)) (by decide) (Nat.le_refl 0) (Nat.le_refl 0) (Nat.le_of_ble_eq_true rfl) dX7_stopOf_51 (fun x_51 I_51 J_51 h_51 => ?_)
          obtain ⟨rfl, rfl, h_51⟩ := h_51
          refine sI1 hX (pc := 54) sX7_142 (c_X7_isLetter l0 (by omega) (by omega)) (by decide) (Nat.le_refl 0) (Nat.le_refl 0) (Nat.le_of_ble_eq_true rfl) dX7_stopOf_54 (fun x_54 I_54 J_54 h_54 => ?_)
          obtain ⟨rfl, rfl, h_54⟩ := h_54
          refine ww_if_ne hX (pc := 57) (tgt := 79) dX7_stopOf_57 (by decide) (fun h_57 => ?_) (fun h_57 => ?_)
          · simp only [w32_mod] at h_57
            have k_54 := h_54.2.mp (by omega)
            clear h_54
            refine ww_iinc hX (pc := 79) (lv' := [some (kR (some 10)), some (kI a), some (kI x_8), some (kI x_20), some (kI (q + 1))]) dX7_stopOf_79 rfl (by decide) rfl rfl ?_
            refine ww_goto hX (pc := 82) (tgt := 29) dX7_stopOf_82 (by decide) ?_
            exact ih_29 _ (by have hm9 := Sh0_e hq_29; omega) (q + 1) rfl ⟨by omega, fun hd j h1 h2 => (if hj : j < q then hdg hd j h1 hj else (by rw [show j = q by omega]; omega))⟩
          · simp only [w32_mod] at h_57
            refine ww_iload_n hX (pc := 60) dX7_stopOf_60 rfl ?_
            refine ww_if_eq hX (pc := 61) (tgt := 85) dX7_stopOf_61 (by decide) (fun h_61 => ?_) (fun h_61 => ?_)
            · simp only [w32_mod] at h_61
              refine ww_iload hX (pc := 85) dX7_stopOf_85 rfl ?_
              refine rI hX (pc := 87) hT (Nat.le_refl 0) (Nat.le_refl 0) dX7_stopOf_87 ?_
              exact ⟨rfl, rfl, by omega, hdg⟩
            · simp only [w32_mod] at h_61
              refine ww_aload_n hX (pc := 64) dX7_stopOf_64 rfl ?_
              refine ww_getR hX (pc := 65) fX7_28 (by decide) (xs_10 hL) (xr_10_1 hL) dX7_stopOf_65 ?_
              refine ww_iload hX (pc := 68) dX7_stopOf_68 rfl ?_
              refine vI1 hX (pc := 70) sX7_139 (xs_8 hL) (c_X9_byteAt l0 hL hI (by omega) (by omega)) (by decide) (Nat.le_refl 0) (Nat.le_refl 0) (Nat.le_of_ble_eq_true rfl) dX7_stopOf_70 (fun x_70 I_70 J_70 h_70 => ?_)
              obtain ⟨rfl, rfl, h_70⟩ := h_70
              refine sI1 hX (pc := 73) sX7_145 (c_X7_isDigit l0 (by omega) (by omega)) (by decide) (Nat.le_refl 0) (Nat.le_refl 0) (Nat.le_of_ble_eq_true rfl) dX7_stopOf_73 (fun x_73 I_73 J_73 h_73 => ?_)
              obtain ⟨rfl, rfl, h_73⟩ := h_73
              refine ww_if_eq hX (pc := 76) (tgt := 85) dX7_stopOf_76 (by decide) (fun h_76 => ?_) (fun h_76 => ?_)
              · simp only [w32_mod] at h_76
                refine ww_iload hX (pc := 85) dX7_stopOf_85 rfl ?_
                refine rI hX (pc := 87) hT (Nat.le_refl 0) (Nat.le_refl 0) dX7_stopOf_87 ?_
                exact ⟨rfl, rfl, by omega, hdg⟩
              · simp only [w32_mod] at h_76
                have k_73 := h_73.2.mp (by omega)
                clear h_73
                refine ww_iinc hX (pc := 79) (lv' := [some (kR (some 10)), some (kI a), some (kI x_8), some (kI x_20), some (kI (q + 1))]) dX7_stopOf_79 rfl (by decide) rfl rfl ?_
                refine ww_goto hX (pc := 82) (tgt := 29) dX7_stopOf_82 (by decide) ?_
                exact ih_29 _ (by have hm9 := Sh0_e hq_29; omega) (q + 1) rfl ⟨by omega, fun hd j h1 h2 => (if hj : j < q then hdg hd j h1 hj else (by rw [show j = q by omega]; omega))⟩
  exact hl_29 _ v_27 rfl ⟨by omega, fun hd j h1 h2 => (by rw [show j = a by omega]; exact hd)⟩
set_option maxHeartbeats 4000000 in
set_option maxRecDepth 20000 in
theorem c_X7_numberAt (l0 : Launch) {Ia Ja : aI1} {Ra : aR1} {Sa : aS1} (hL : LY Ra Sa) (hI : XI Ia) {a b : Int} (ha0 : 0 ≤ a) (hab : a ≤ b) (hb : b ≤ Ia 8 1) (hdg : ∀ j : Int, a ≤ j → j < b → 48 ≤ Ia 9 j.toNat ∧ Ia 9 j.toNat ≤ 57)  : CT l0 1 0 0 mX7_numberAt [kR (some 10), kI a, kI b] Ia Ja Ra Sa (cI (fun x I' J' => Ia = I' ∧ Ja = J' ∧ (0 ≤ x ∧ x ≤ 1001)) Ra Sa) := by
  refine ct_in pn_X7 (Nat.le_of_ble_eq_true rfl) (fun X hX hT hIn => ?_)
  have hX : aK l0 X cX7_numberAt 5 RX7 (some .int) 1 0 0 := hX
  change WW X 0 [some (kR (some 10)), some (kI a), some (kI b), none, none] [] Ia Ja Ra Sa 0 0
  obtain ⟨hn1, hn2⟩ := hI.1
  obtain ⟨hk1, hk2⟩ := hI.2.1
  obtain ⟨hf1, hf2⟩ := hI.fu
  obtain ⟨hl1, hl2⟩ := hI.2.2.2.2.2.2.1
  refine ww_iconst hX (pc := 0) (x := 0) dX7_numberAt_0 rfl ?_
  refine ww_istore_n hX (pc := 1) (lv' := [some (kR (some 10)), some (kI a), some (kI b), some (kI 0), none]) dX7_numberAt_1 (by decide) rfl rfl ?_
  refine ww_iload_n hX (pc := 2) dX7_numberAt_2 rfl ?_
  refine ww_istore hX (pc := 3) (lv' := [some (kR (some 10)), some (kI a), some (kI b), some (kI 0), some (kI a)]) dX7_numberAt_3 (by decide) rfl rfl ?_
  have hl_5 : ∀ (n_5 : Nat) (nb : Int) (q : Int), (b - q).toNat = n_5 → ((a ≤ q ∧ q ≤ b) ∧ (0 ≤ nb ∧ nb ≤ 1001)) → WW X 5 [some (kR (some 10)), some (kI a), some (kI b), some (kI nb), some (kI q)] [] Ia Ja Ra Sa 0 0 := by
    intro n_5
    induction n_5 using Nat.strongRecOn with
    | ind n_5 ih_5 =>
      intro nb q hm_5 hv_5
      have hq_5 := Sh0_i hm_5
      clear hm_5
      obtain ⟨hq0, hnb⟩ := hv_5
      refine ww_iload hX (pc := 5) dX7_numberAt_5 rfl ?_
      refine ww_iload_n hX (pc := 7) dX7_numberAt_7 rfl ?_
      refine ww_icmp_ge hX (pc := 8) (tgt := 41) dX7_numberAt_8 (by decide) (fun h_8 => ?_) (fun h_8 => ?_)
      · simp only [w32_mod] at h_8
        refine ww_iload_n hX (pc := 41) dX7_numberAt_41 rfl ?_
        refine rI hX (pc := 42) hT (Nat.le_refl 0) (Nat.le_refl 0) dX7_numberAt_42 ?_
        exact ⟨rfl, rfl, by omega⟩
      · simp only [w32_mod] at h_8
        have hd1 := hdg q (by omega) (by omega)
        refine ww_iload_n hX (pc := 11) dX7_numberAt_11 rfl ?_
        refine ww_bipush hX (pc := 12) (x := 10) dX7_numberAt_12 (by decide) ?_
        refine ww_imul hX (pc := 14) dX7_numberAt_14 ?_
        refine ww_aload_n hX (pc := 15) dX7_numberAt_15 rfl ?_
        refine ww_getR hX (pc := 16) fX7_28 (by decide) (xs_10 hL) (xr_10_1 hL) dX7_numberAt_16 ?_
        refine ww_iload hX (pc := 19) dX7_numberAt_19 rfl ?_
        refine vI1 hX (pc := 21) sX7_139 (xs_8 hL) (c_X9_byteAt l0 hL hI (by omega) (by omega)) (by decide) (Nat.le_refl 0) (Nat.le_refl 0) (Nat.le_of_ble_eq_true rfl) dX7_numberAt_21 (fun x_21 I_21 J_21 h_21 => ?_)
        obtain ⟨rfl, rfl, h_21⟩ := h_21
        refine ww_iadd hX (pc := 24) dX7_numberAt_24 ?_
        refine ww_bipush hX (pc := 25) (x := 48) dX7_numberAt_25 (by decide) ?_
        refine ww_isub hX (pc := 27) dX7_numberAt_27 ?_
        refine ww_sipush hX (pc := 28) (x := 1001) dX7_numberAt_28 (by decide) ?_
        refine ww_mmin hX (pc := 31) tb_578 tb_579 tb_13 tb_580 (by decide) (Nat.le_refl 0) (Nat.le_refl 0) (Nat.le_of_ble_eq_true rfl) dX7_numberAt_31 ?_
        refine ww_nmI (fun v_34 hv_34 => ?_)
        refine ww_istore_n hX (pc := 34) (lv' := [some (kR (some 10)), some (kI a), some (kI b), some (kI v_34), some (kI q)]) dX7_numberAt_34 (by decide) rfl rfl ?_
        rw [i_min_r (by omega) (by omega) (by omega) (by omega)] at hv_34
        refine ww_iinc hX (pc := 35) (lv' := [some (kR (some 10)), some (kI a), some (kI b), some (kI v_34), some (kI (q + 1))]) dX7_numberAt_35 rfl (by decide) rfl rfl ?_
        refine ww_goto hX (pc := 38) (tgt := 5) dX7_numberAt_38 (by decide) ?_
        exact ih_5 _ (by have hm9 := Sh0_e hq_5; omega) v_34 (q + 1) rfl ⟨by omega, by omega⟩
  exact hl_5 _ 0 a rfl ⟨by omega, by omega⟩
set_option maxHeartbeats 4000000 in
set_option maxRecDepth 20000 in
theorem c_X7_partKind (l0 : Launch) {Ia Ja : aI1} {Ra : aR1} {Sa : aS1} (hL : LY Ra Sa) (hI : XI Ia) {a b : Int} (ha0 : 0 ≤ a) (hab : a ≤ b) (hb : b ≤ Ia 8 1)  : CT l0 5 0 0 mX7_partKind [kR (some 10), kI a, kI b] Ia Ja Ra Sa (cI (fun x I' J' => Ia = I' ∧ Ja = J' ∧ (-8 ≤ x ∧ x ≤ 262)) Ra Sa) := by
  refine ct_in pn_X7 (Nat.le_of_ble_eq_true rfl) (fun X hX hT hIn => ?_)
  have hX : aK l0 X cX7_partKind 3 RX7 (some .int) 5 0 0 := hX
  change WW X 0 [some (kR (some 10)), some (kI a), some (kI b)] [] Ia Ja Ra Sa 0 0
  obtain ⟨hn1, hn2⟩ := hI.1
  obtain ⟨hk1, hk2⟩ := hI.2.1
  obtain ⟨hf1, hf2⟩ := hI.fu
  obtain ⟨hl1, hl2⟩ := hI.2.2.2.2.2.2.1
  refine ww_aload_n hX (pc := 0) dX7_partKind_0 rfl ?_
  refine ww_getR hX (pc := 1) fX7_28 (by decide) (xs_10 hL) (xr_10_1 hL) dX7_partKind_1 ?_
  refine ww_ldcS hX (pc := 4) (n := 5) (tx := "state") dX7_partKind_4 rfl ?_
  refine ww_iload_n hX (pc := 6) dX7_partKind_6 rfl ?_
  refine ww_iload_n hX (pc := 7) dX7_partKind_7 rfl ?_
  refine vI3 hX (pc := 8) sX7_156 (xs_8 hL) (c_X9_spells l0 hL hI (n := 5) (by decide) (by omega) (by omega) (by omega)) (by decide) (Nat.le_refl 0) (Nat.le_refl 0) (Nat.le_of_ble_eq_true rfl) dX7_partKind_8 (fun x_8 I_8 J_8 h_8 => ?_)
  obtain ⟨rfl, rfl, h_8⟩ := h_8
  refine ww_if_eq hX (pc := 11) (tgt := 16) dX7_partKind_11 (by decide) (fun h_11 => ?_) (fun h_11 => ?_)
  · simp only [w32_mod] at h_11
    refine ww_aload_n hX (pc := 16) dX7_partKind_16 rfl ?_
    refine ww_getR hX (pc := 17) fX7_28 (by decide) (xs_10 hL) (xr_10_1 hL) dX7_partKind_17 ?_
    refine ww_ldcS hX (pc := 20) (n := 6) (tx := "lit") dX7_partKind_20 rfl ?_
    refine ww_iload_n hX (pc := 22) dX7_partKind_22 rfl ?_
    refine ww_iload_n hX (pc := 23) dX7_partKind_23 rfl ?_
    refine vI3 hX (pc := 24) sX7_156 (xs_8 hL) (c_X9_spells l0 hL hI (n := 6) (by decide) (by omega) (by omega) (by omega)) (by decide) (Nat.le_refl 0) (Nat.le_refl 0) (Nat.le_of_ble_eq_true rfl) dX7_partKind_24 (fun x_24 I_24 J_24 h_24 => ?_)
    obtain ⟨rfl, rfl, h_24⟩ := h_24
    refine ww_if_eq hX (pc := 27) (tgt := 33) dX7_partKind_27 (by decide) (fun h_27 => ?_) (fun h_27 => ?_)
    · simp only [w32_mod] at h_27
      refine ww_aload_n hX (pc := 33) dX7_partKind_33 rfl ?_
      refine ww_getR hX (pc := 34) fX7_28 (by decide) (xs_10 hL) (xr_10_1 hL) dX7_partKind_34 ?_
      refine ww_ldcS hX (pc := 37) (n := 7) (tx := "sum") dX7_partKind_37 rfl ?_
      refine ww_iload_n hX (pc := 39) dX7_partKind_39 rfl ?_
      refine ww_iload_n hX (pc := 40) dX7_partKind_40 rfl ?_
      refine vI3 hX (pc := 41) sX7_156 (xs_8 hL) (c_X9_spells l0 hL hI (n := 7) (by decide) (by omega) (by omega) (by omega)) (by decide) (Nat.le_refl 0) (Nat.le_refl 0) (Nat.le_of_ble_eq_true rfl) dX7_partKind_41 (fun x_41 I_41 J_41 h_41 => ?_)
      obtain ⟨rfl, rfl, h_41⟩ := h_41
      refine ww_if_eq hX (pc := 44) (tgt := 50) dX7_partKind_44 (by decide) (fun h_44 => ?_) (fun h_44 => ?_)
      · simp only [w32_mod] at h_44
        refine ww_aload_n hX (pc := 50) dX7_partKind_50 rfl ?_
        refine ww_getR hX (pc := 51) fX7_28 (by decide) (xs_10 hL) (xr_10_1 hL) dX7_partKind_51 ?_
        refine ww_ldcS hX (pc := 54) (n := 8) (tx := "mix") dX7_partKind_54 rfl ?_
        refine ww_iload_n hX (pc := 56) dX7_partKind_56 rfl ?_
        refine ww_iload_n hX (pc := 57) dX7_partKind_57 rfl ?_
        refine vI3 hX (pc := 58) sX7_156 (xs_8 hL) (c_X9_spells l0 hL hI (n := 8) (by decide) (by omega) (by omega) (by omega)) (by decide) (Nat.le_refl 0) (Nat.le_refl 0) (Nat.le_of_ble_eq_true rfl) dX7_partKind_58 (fun x_58 I_58 J_58 h_58 => ?_)
        obtain ⟨rfl, rfl, h_58⟩ := h_58
        refine ww_if_eq hX (pc := 61) (tgt := 67) dX7_partKind_61 (by decide) (fun h_61 => ?_) (fun h_61 => ?_)
        · simp only [w32_mod] at h_61
          refine ww_aload_n hX (pc := 67) dX7_partKind_67 rfl ?_
          refine ww_getR hX (pc := 68) fX7_28 (by decide) (xs_10 hL) (xr_10_1 hL) dX7_partKind_68 ?_
          refine ww_ldcS hX (pc := 71) (n := 9) (tx := "first") dX7_partKind_71 rfl ?_
          refine ww_iload_n hX (pc := 73) dX7_partKind_73 rfl ?_
          refine ww_iload_n hX (pc := 74) dX7_partKind_74 rfl ?_
          refine vI3 hX (pc := 75) sX7_156 (xs_8 hL) (c_X9_spells l0 hL hI (n := 9) (by decide) (by omega) (by omega) (by omega)) (by decide) (Nat.le_refl 0) (Nat.le_refl 0) (Nat.le_of_ble_eq_true rfl) dX7_partKind_75 (fun x_75 I_75 J_75 h_75 => ?_)
          obtain ⟨rfl, rfl, h_75⟩ := h_75
          refine ww_if_eq hX (pc := 78) (tgt := 84) dX7_partKind_78 (by decide) (fun h_78 => ?_) (fun h_78 => ?_)
          · simp only [w32_mod] at h_78
            refine ww_aload_n hX (pc := 84) dX7_partKind_84 rfl ?_
            refine ww_getR hX (pc := 85) fX7_28 (by decide) (xs_10 hL) (xr_10_1 hL) dX7_partKind_85 ?_
            refine ww_ldcS hX (pc := 88) (n := 10) (tx := "last") dX7_partKind_88 rfl ?_
            refine ww_iload_n hX (pc := 90) dX7_partKind_90 rfl ?_
            refine ww_iload_n hX (pc := 91) dX7_partKind_91 rfl ?_
            refine vI3 hX (pc := 92) sX7_156 (xs_8 hL) (c_X9_spells l0 hL hI (n := 10) (by decide) (by omega) (by omega) (by omega)) (by decide) (Nat.le_refl 0) (Nat.le_refl 0) (Nat.le_of_ble_eq_true rfl) dX7_partKind_92 (fun x_92 I_92 J_92 h_92 => ?_)
            obtain ⟨rfl, rfl, h_92⟩ := h_92
            refine ww_if_eq hX (pc := 95) (tgt := 101) dX7_partKind_95 (by decide) (fun h_95 => ?_) (fun h_95 => ?_)
            · simp only [w32_mod] at h_95
              refine ww_aload_n hX (pc := 101) dX7_partKind_101 rfl ?_
              refine ww_getR hX (pc := 102) fX7_28 (by decide) (xs_10 hL) (xr_10_1 hL) dX7_partKind_102 ?_
              refine ww_ldcS hX (pc := 105) (n := 11) (tx := "lamps") dX7_partKind_105 rfl ?_
              refine ww_iload_n hX (pc := 107) dX7_partKind_107 rfl ?_
              refine ww_iload_n hX (pc := 108) dX7_partKind_108 rfl ?_
              refine vI3 hX (pc := 109) sX7_156 (xs_8 hL) (c_X9_spells l0 hL hI (n := 11) (by decide) (by omega) (by omega) (by omega)) (by decide) (Nat.le_refl 0) (Nat.le_refl 0) (Nat.le_of_ble_eq_true rfl) dX7_partKind_109 (fun x_109 I_109 J_109 h_109 => ?_)
              obtain ⟨rfl, rfl, h_109⟩ := h_109
              refine ww_if_eq hX (pc := 112) (tgt := 118) dX7_partKind_112 (by decide) (fun h_112 => ?_) (fun h_112 => ?_)
              · simp only [w32_mod] at h_112
                refine ww_aload_n hX (pc := 118) dX7_partKind_118 rfl ?_
                refine ww_getR hX (pc := 119) fX7_28 (by decide) (xs_10 hL) (xr_10_1 hL) dX7_partKind_119 ?_
                refine ww_ldcS hX (pc := 122) (n := 12) (tx := "news") dX7_partKind_122 rfl ?_
                refine ww_iload_n hX (pc := 124) dX7_partKind_124 rfl ?_
                refine ww_iload_n hX (pc := 125) dX7_partKind_125 rfl ?_
                refine vI3 hX (pc := 126) sX7_156 (xs_8 hL) (c_X9_spells l0 hL hI (n := 12) (by decide) (by omega) (by omega) (by omega)) (by decide) (Nat.le_refl 0) (Nat.le_refl 0) (Nat.le_of_ble_eq_true rfl) dX7_partKind_126 (fun x_126 I_126 J_126 h_126 => ?_)
                obtain ⟨rfl, rfl, h_126⟩ := h_126
                refine ww_if_eq hX (pc := 129) (tgt := 135) dX7_partKind_129 (by decide) (fun h_129 => ?_) (fun h_129 => ?_)
                · simp only [w32_mod] at h_129
                  refine ww_sipush hX (pc := 135) (x := 257) dX7_partKind_135 (by decide) ?_
                  refine rI hX (pc := 138) hT (Nat.le_refl 0) (Nat.le_refl 0) dX7_partKind_138 ?_
                  exact ⟨rfl, rfl, by omega⟩
                · simp only [w32_mod] at h_129
                  refine ww_bipush hX (pc := 132) (x := (-8)) dX7_partKind_132 (by decide) ?_
                  refine rI hX (pc := 134) hT (Nat.le_refl 0) (Nat.le_refl 0) dX7_partKind_134 ?_
                  exact ⟨rfl, rfl, by omega⟩
              · simp only [w32_mod] at h_112
                refine ww_bipush hX (pc := 115) (x := (-7)) dX7_partKind_115 (by decide) ?_
                refine rI hX (pc := 117) hT (Nat.le_refl 0) (Nat.le_refl 0) dX7_partKind_117 ?_
                exact ⟨rfl, rfl, by omega⟩
            · simp only [w32_mod] at h_95
              refine ww_bipush hX (pc := 98) (x := (-6)) dX7_partKind_98 (by decide) ?_
              refine rI hX (pc := 100) hT (Nat.le_refl 0) (Nat.le_refl 0) dX7_partKind_100 ?_
              exact ⟨rfl, rfl, by omega⟩
          · simp only [w32_mod] at h_78
            refine ww_bipush hX (pc := 81) (x := (-5)) dX7_partKind_81 (by decide) ?_
            refine rI hX (pc := 83) hT (Nat.le_refl 0) (Nat.le_refl 0) dX7_partKind_83 ?_
            exact ⟨rfl, rfl, by omega⟩
        · simp only [w32_mod] at h_61
          refine ww_bipush hX (pc := 64) (x := (-4)) dX7_partKind_64 (by decide) ?_
          refine rI hX (pc := 66) hT (Nat.le_refl 0) (Nat.le_refl 0) dX7_partKind_66 ?_
          exact ⟨rfl, rfl, by omega⟩
      · simp only [w32_mod] at h_44
        refine ww_bipush hX (pc := 47) (x := (-3)) dX7_partKind_47 (by decide) ?_
        refine rI hX (pc := 49) hT (Nat.le_refl 0) (Nat.le_refl 0) dX7_partKind_49 ?_
        exact ⟨rfl, rfl, by omega⟩
    · simp only [w32_mod] at h_27
      refine ww_bipush hX (pc := 30) (x := (-2)) dX7_partKind_30 (by decide) ?_
      refine rI hX (pc := 32) hT (Nat.le_refl 0) (Nat.le_refl 0) dX7_partKind_32 ?_
      exact ⟨rfl, rfl, by omega⟩
  · simp only [w32_mod] at h_11
    refine ww_iconst hX (pc := 14) (x := (-1)) dX7_partKind_14 rfl ?_
    refine rI hX (pc := 15) hT (Nat.le_refl 0) (Nat.le_refl 0) dX7_partKind_15 ?_
    exact ⟨rfl, rfl, by omega⟩
set_option maxHeartbeats 4000000 in
set_option maxRecDepth 20000 in
theorem c_X7_wordKind (l0 : Launch) {Ia Ja : aI1} {Ra : aR1} {Sa : aS1} (hL : LY Ra Sa) (hI : XI Ia) {a b : Int} (ha0 : 0 ≤ a) (hab : a ≤ b) (hb : b ≤ Ia 8 1)  : CT l0 6 0 0 mX7_wordKind [kR (some 10), kI a, kI b] Ia Ja Ra Sa (cI (fun x I' J' => Ia = I' ∧ Ja = J' ∧ (-8 ≤ x ∧ x ≤ 262)) Ra Sa) := by
  refine ct_in pn_X7 (Nat.le_of_ble_eq_true rfl) (fun X hX hT hIn => ?_)
  have hX : aK l0 X cX7_wordKind 3 RX7 (some .int) 6 0 0 := hX
  change WW X 0 [some (kR (some 10)), some (kI a), some (kI b)] [] Ia Ja Ra Sa 0 0
  obtain ⟨hn1, hn2⟩ := hI.1
  obtain ⟨hk1, hk2⟩ := hI.2.1
  obtain ⟨hf1, hf2⟩ := hI.fu
  obtain ⟨hl1, hl2⟩ := hI.2.2.2.2.2.2.1
  refine ww_aload_n hX (pc := 0) dX7_wordKind_0 rfl ?_
  refine ww_getR hX (pc := 1) fX7_28 (by decide) (xs_10 hL) (xr_10_1 hL) dX7_wordKind_1 ?_
  refine ww_ldcS hX (pc := 4) (n := 0) (tx := "reads") dX7_wordKind_4 rfl ?_
  refine ww_iload_n hX (pc := 6) dX7_wordKind_6 rfl ?_
  refine ww_iload_n hX (pc := 7) dX7_wordKind_7 rfl ?_
  refine vI3 hX (pc := 8) sX7_156 (xs_8 hL) (c_X9_spells l0 hL hI (n := 0) (by decide) (by omega) (by omega) (by omega)) (by decide) (Nat.le_refl 0) (Nat.le_refl 0) (Nat.le_of_ble_eq_true rfl) dX7_wordKind_8 (fun x_8 I_8 J_8 h_8 => ?_)
  obtain ⟨rfl, rfl, h_8⟩ := h_8
  refine ww_if_eq hX (pc := 11) (tgt := 18) dX7_wordKind_11 (by decide) (fun h_11 => ?_) (fun h_11 => ?_)
  · simp only [w32_mod] at h_11
    refine ww_aload_n hX (pc := 18) dX7_wordKind_18 rfl ?_
    refine ww_getR hX (pc := 19) fX7_28 (by decide) (xs_10 hL) (xr_10_1 hL) dX7_wordKind_19 ?_
    refine ww_ldcS hX (pc := 22) (n := 1) (tx := "if") dX7_wordKind_22 rfl ?_
    refine ww_iload_n hX (pc := 24) dX7_wordKind_24 rfl ?_
    refine ww_iload_n hX (pc := 25) dX7_wordKind_25 rfl ?_
    refine vI3 hX (pc := 26) sX7_156 (xs_8 hL) (c_X9_spells l0 hL hI (n := 1) (by decide) (by omega) (by omega) (by omega)) (by decide) (Nat.le_refl 0) (Nat.le_refl 0) (Nat.le_of_ble_eq_true rfl) dX7_wordKind_26 (fun x_26 I_26 J_26 h_26 => ?_)
    obtain ⟨rfl, rfl, h_26⟩ := h_26
    refine ww_if_eq hX (pc := 29) (tgt := 36) dX7_wordKind_29 (by decide) (fun h_29 => ?_) (fun h_29 => ?_)
    · simp only [w32_mod] at h_29
      refine ww_aload_n hX (pc := 36) dX7_wordKind_36 rfl ?_
      refine ww_getR hX (pc := 37) fX7_28 (by decide) (xs_10 hL) (xr_10_1 hL) dX7_wordKind_37 ?_
      refine ww_ldcS hX (pc := 40) (n := 2) (tx := "or") dX7_wordKind_40 rfl ?_
      refine ww_iload_n hX (pc := 42) dX7_wordKind_42 rfl ?_
      refine ww_iload_n hX (pc := 43) dX7_wordKind_43 rfl ?_
      refine vI3 hX (pc := 44) sX7_156 (xs_8 hL) (c_X9_spells l0 hL hI (n := 2) (by decide) (by omega) (by omega) (by omega)) (by decide) (Nat.le_refl 0) (Nat.le_refl 0) (Nat.le_of_ble_eq_true rfl) dX7_wordKind_44 (fun x_44 I_44 J_44 h_44 => ?_)
      obtain ⟨rfl, rfl, h_44⟩ := h_44
      refine ww_if_eq hX (pc := 47) (tgt := 54) dX7_wordKind_47 (by decide) (fun h_47 => ?_) (fun h_47 => ?_)
      · simp only [w32_mod] at h_47
        refine ww_aload_n hX (pc := 54) dX7_wordKind_54 rfl ?_
        refine ww_getR hX (pc := 55) fX7_28 (by decide) (xs_10 hL) (xr_10_1 hL) dX7_wordKind_55 ?_
        refine ww_ldcS hX (pc := 58) (n := 3) (tx := "and") dX7_wordKind_58 rfl ?_
        refine ww_iload_n hX (pc := 60) dX7_wordKind_60 rfl ?_
        refine ww_iload_n hX (pc := 61) dX7_wordKind_61 rfl ?_
        refine vI3 hX (pc := 62) sX7_156 (xs_8 hL) (c_X9_spells l0 hL hI (n := 3) (by decide) (by omega) (by omega) (by omega)) (by decide) (Nat.le_refl 0) (Nat.le_refl 0) (Nat.le_of_ble_eq_true rfl) dX7_wordKind_62 (fun x_62 I_62 J_62 h_62 => ?_)
        obtain ⟨rfl, rfl, h_62⟩ := h_62
        refine ww_if_eq hX (pc := 65) (tgt := 72) dX7_wordKind_65 (by decide) (fun h_65 => ?_) (fun h_65 => ?_)
        · simp only [w32_mod] at h_65
          refine ww_aload_n hX (pc := 72) dX7_wordKind_72 rfl ?_
          refine ww_getR hX (pc := 73) fX7_28 (by decide) (xs_10 hL) (xr_10_1 hL) dX7_wordKind_73 ?_
          refine ww_ldcS hX (pc := 76) (n := 4) (tx := "not") dX7_wordKind_76 rfl ?_
          refine ww_iload_n hX (pc := 78) dX7_wordKind_78 rfl ?_
          refine ww_iload_n hX (pc := 79) dX7_wordKind_79 rfl ?_
          refine vI3 hX (pc := 80) sX7_156 (xs_8 hL) (c_X9_spells l0 hL hI (n := 4) (by decide) (by omega) (by omega) (by omega)) (by decide) (Nat.le_refl 0) (Nat.le_refl 0) (Nat.le_of_ble_eq_true rfl) dX7_wordKind_80 (fun x_80 I_80 J_80 h_80 => ?_)
          obtain ⟨rfl, rfl, h_80⟩ := h_80
          refine ww_if_eq hX (pc := 83) (tgt := 90) dX7_wordKind_83 (by decide) (fun h_83 => ?_) (fun h_83 => ?_)
          · simp only [w32_mod] at h_83
            refine ww_aload_n hX (pc := 90) dX7_wordKind_90 rfl ?_
            refine ww_iload_n hX (pc := 91) dX7_wordKind_91 rfl ?_
            refine ww_iload_n hX (pc := 92) dX7_wordKind_92 rfl ?_
            refine vI2 hX (pc := 93) sX7_168 (xs_10 hL) (c_X7_partKind l0 hL hI (by omega) (by omega) (by omega)) (by decide) (Nat.le_refl 0) (Nat.le_refl 0) (Nat.le_of_ble_eq_true rfl) dX7_wordKind_93 (fun x_93 I_93 J_93 h_93 => ?_)
            obtain ⟨rfl, rfl, h_93⟩ := h_93
            refine rI hX (pc := 96) hT (Nat.le_refl 0) (Nat.le_refl 0) dX7_wordKind_96 ?_
            exact ⟨rfl, rfl, by omega⟩
          · simp only [w32_mod] at h_83
            refine ww_sipush hX (pc := 86) (x := 262) dX7_wordKind_86 (by decide) ?_
            refine rI hX (pc := 89) hT (Nat.le_refl 0) (Nat.le_refl 0) dX7_wordKind_89 ?_
            exact ⟨rfl, rfl, by omega⟩
        · simp only [w32_mod] at h_65
          refine ww_sipush hX (pc := 68) (x := 261) dX7_wordKind_68 (by decide) ?_
          refine rI hX (pc := 71) hT (Nat.le_refl 0) (Nat.le_refl 0) dX7_wordKind_71 ?_
          exact ⟨rfl, rfl, by omega⟩
      · simp only [w32_mod] at h_47
        refine ww_sipush hX (pc := 50) (x := 260) dX7_wordKind_50 (by decide) ?_
        refine rI hX (pc := 53) hT (Nat.le_refl 0) (Nat.le_refl 0) dX7_wordKind_53 ?_
        exact ⟨rfl, rfl, by omega⟩
    · simp only [w32_mod] at h_29
      refine ww_sipush hX (pc := 32) (x := 259) dX7_wordKind_32 (by decide) ?_
      refine rI hX (pc := 35) hT (Nat.le_refl 0) (Nat.le_refl 0) dX7_wordKind_35 ?_
      exact ⟨rfl, rfl, by omega⟩
  · simp only [w32_mod] at h_11
    refine ww_sipush hX (pc := 14) (x := 258) dX7_wordKind_14 (by decide) ?_
    refine rI hX (pc := 17) hT (Nat.le_refl 0) (Nat.le_refl 0) dX7_wordKind_17 ?_
    exact ⟨rfl, rfl, by omega⟩
set_option maxHeartbeats 4000000 in
set_option maxRecDepth 20000 in
theorem c_X7_kindOf (l0 : Launch) {Ia Ja : aI1} {Ra : aR1} {Sa : aS1} (hL : LY Ra Sa) (hI : XI Ia) {a b : Int} (ha0 : 0 ≤ a) (hab : a < b) (hb : b ≤ Ia 8 1) (hdg : (48 ≤ Ia 9 a.toNat ∧ Ia 9 a.toNat ≤ 57 → ∀ j : Int, a ≤ j → j < b → 48 ≤ Ia 9 j.toNat ∧ Ia 9 j.toNat ≤ 57))  : CT l0 7 0 0 mX7_kindOf [kR (some 10), kI a, kI b] Ia Ja Ra Sa (cI (fun x I' J' => Ia = I' ∧ Ja = J' ∧ (-8 ≤ x ∧ x ≤ 1301)) Ra Sa) := by
  refine ct_in pn_X7 (Nat.le_of_ble_eq_true rfl) (fun X hX hT hIn => ?_)
  have hX : aK l0 X cX7_kindOf 4 RX7 (some .int) 7 0 0 := hX
  change WW X 0 [some (kR (some 10)), some (kI a), some (kI b), none] [] Ia Ja Ra Sa 0 0
  obtain ⟨hn1, hn2⟩ := hI.1
  obtain ⟨hk1, hk2⟩ := hI.2.1
  obtain ⟨hf1, hf2⟩ := hI.fu
  obtain ⟨hl1, hl2⟩ := hI.2.2.2.2.2.2.1
  have hba := hI.2.2.2.2.2.2.2.2.2.2 a.toNat (by omega)
  refine ww_aload_n hX (pc := 0) dX7_kindOf_0 rfl ?_
  refine ww_getR hX (pc := 1) fX7_28 (by decide) (xs_10 hL) (xr_10_1 hL) dX7_kindOf_1 ?_
  refine ww_iload_n hX (pc := 4) dX7_kindOf_4 rfl ?_
  refine vI1 hX (pc := 5) sX7_139 (xs_8 hL) (c_X9_byteAt l0 hL hI (by omega) (by omega)) (by decide) (Nat.le_refl 0) (Nat.le_refl 0) (Nat.le_of_ble_eq_true rfl) dX7_kindOf_5 (fun x_5 I_5 J_5 h_5 => ?_)
  obtain ⟨rfl, rfl, h_5⟩ := h_5
  refine ww_istore_n hX (pc := 8) (lv' := [some (kR (some 10)), some (kI a), some (kI b), some (kI x_5)]) dX7_kindOf_8 (by decide) rfl rfl ?_
  refine ww_iload_n hX (pc := 9) dX7_kindOf_9 rfl ?_
  refine sI1 hX (pc := 10) sX7_142 (c_X7_isLetter l0 (by omega) (by omega)) (by decide) (Nat.le_refl 0) (Nat.le_refl 0) (Nat.le_of_ble_eq_true rfl) dX7_kindOf_10 (fun x_10 I_10 J_10 h_10 => ?_)
  obtain ⟨rfl, rfl, h_10⟩ := h_10
  refine ww_if_eq hX (pc := 13) (tgt := 23) dX7_kindOf_13 (by decide) (fun h_13 => ?_) (fun h_13 => ?_)
  · simp only [w32_mod] at h_13
    refine ww_iload_n hX (pc := 23) dX7_kindOf_23 rfl ?_
    refine sI1 hX (pc := 24) sX7_145 (c_X7_isDigit l0 (by omega) (by omega)) (by decide) (Nat.le_refl 0) (Nat.le_refl 0) (Nat.le_of_ble_eq_true rfl) dX7_kindOf_24 (fun x_24 I_24 J_24 h_24 => ?_)
    obtain ⟨rfl, rfl, h_24⟩ := h_24
    refine ww_if_eq hX (pc := 27) (tgt := 43) dX7_kindOf_27 (by decide) (fun h_27 => ?_) (fun h_27 => ?_)
    · simp only [w32_mod] at h_27
      refine ww_iload_n hX (pc := 43) dX7_kindOf_43 rfl ?_
      refine rI hX (pc := 44) hT (Nat.le_refl 0) (Nat.le_refl 0) dX7_kindOf_44 ?_
      exact ⟨rfl, rfl, by omega⟩
    · simp only [w32_mod] at h_27
      have k_24 := h_24.2.mp (by omega)
      clear h_24
      refine ww_sipush hX (pc := 30) (x := 300) dX7_kindOf_30 (by decide) ?_
      refine ww_aload_n hX (pc := 33) dX7_kindOf_33 rfl ?_
      refine ww_iload_n hX (pc := 34) dX7_kindOf_34 rfl ?_
      refine ww_iload_n hX (pc := 35) dX7_kindOf_35 rfl ?_
      refine vI2 hX (pc := 36) sX7_151 (xs_10 hL) (c_X7_numberAt l0 hL hI (by omega) (by omega) (by omega) (hdg (by omega))) (by decide) (Nat.le_refl 0) (Nat.le_refl 0) (Nat.le_of_ble_eq_true rfl) dX7_kindOf_36 (fun x_36 I_36 J_36 h_36 => ?_)
      obtain ⟨rfl, rfl, h_36⟩ := h_36
      refine ww_iadd hX (pc := 39) dX7_kindOf_39 ?_
      refine ww_goto hX (pc := 40) (tgt := 44) dX7_kindOf_40 (by decide) ?_
      refine rI hX (pc := 44) hT (Nat.le_refl 0) (Nat.le_refl 0) dX7_kindOf_44 ?_
      exact ⟨rfl, rfl, by omega⟩
  · simp only [w32_mod] at h_13
    have k_10 := h_10.2.mp (by omega)
    clear h_10
    refine ww_aload_n hX (pc := 16) dX7_kindOf_16 rfl ?_
    refine ww_iload_n hX (pc := 17) dX7_kindOf_17 rfl ?_
    refine ww_iload_n hX (pc := 18) dX7_kindOf_18 rfl ?_
    refine vI2 hX (pc := 19) sX7_148 (xs_10 hL) (c_X7_wordKind l0 hL hI (by omega) (by omega) (by omega)) (by decide) (Nat.le_refl 0) (Nat.le_refl 0) (Nat.le_of_ble_eq_true rfl) dX7_kindOf_19 (fun x_19 I_19 J_19 h_19 => ?_)
    obtain ⟨rfl, rfl, h_19⟩ := h_19
    refine rI hX (pc := 22) hT (Nat.le_refl 0) (Nat.le_refl 0) dX7_kindOf_22 ?_
    exact ⟨rfl, rfl, by omega⟩
