/-- the reader of LAWS: its numbers are in their ranges -/
def LRf (f : Nat → Int) : Prop := (0 ≤ f 6 ∧ f 6 ≤ 400) ∧ (0 ≤ f 7 ∧ f 7 ≤ 400) ∧ (-1000 ≤ f 8 ∧ f 8 ≤ 1400) ∧ (0 ≤ f 9 ∧ f 9 ≤ 400) ∧ (0 ≤ f 10 ∧ f 10 ≤ 50) ∧ (0 ≤ f 11 ∧ f 11 ≤ 12)
def LR (I : aI1) : Prop := LRf (I 10) ∧ (∀ j, j < 401 → -1000 ≤ I 11 j ∧ I 11 j ≤ 1400) ∧ (∀ j, j < 400 → -10000 ≤ I 13 j ∧ I 13 j ≤ 10000) ∧ (∀ j, j < 25 → -10000 ≤ I 14 j ∧ I 14 j ≤ 10000)
theorem LR_kp {I I' : aI1} {a b : Nat} (h : LR I) (hk : Kp a b I I') (ha : 15 ≤ a ∨ b ≤ 10) : LR I' := by
  unfold LR at h ⊢
  rw [hk 10 (by omega), hk 11 (by omega), hk 13 (by omega), hk 14 (by omega)]
  exact h
theorem LR_0 {I : aI1} (h : LR I) {v : Int}  : LR (up2 I 10 0 v) := by
  obtain ⟨a, b, c, d⟩ := h
  refine ⟨?_, by rw [up2_off _ _ _ (by decide)]; exact b, by rw [up2_off _ _ _ (by decide)]; exact c, by rw [up2_off _ _ _ (by decide)]; exact d⟩
  rw [up2_row]
  unfold LRf at a ⊢
  simp [up1]
  omega
theorem LR_6 {I : aI1} (h : LR I) {v : Int} (h1 : 0 ≤ v) (h2 : v ≤ 400) : LR (up2 I 10 6 v) := by
  obtain ⟨a, b, c, d⟩ := h
  refine ⟨?_, by rw [up2_off _ _ _ (by decide)]; exact b, by rw [up2_off _ _ _ (by decide)]; exact c, by rw [up2_off _ _ _ (by decide)]; exact d⟩
  rw [up2_row]
  unfold LRf at a ⊢
  simp [up1]
  omega
theorem LR_7 {I : aI1} (h : LR I) {v : Int} (h1 : 0 ≤ v) (h2 : v ≤ 400) : LR (up2 I 10 7 v) := by
  obtain ⟨a, b, c, d⟩ := h
  refine ⟨?_, by rw [up2_off _ _ _ (by decide)]; exact b, by rw [up2_off _ _ _ (by decide)]; exact c, by rw [up2_off _ _ _ (by decide)]; exact d⟩
  rw [up2_row]
  unfold LRf at a ⊢
  simp [up1]
  omega
theorem LR_8 {I : aI1} (h : LR I) {v : Int} (h1 : -1000 ≤ v) (h2 : v ≤ 1400) : LR (up2 I 10 8 v) := by
  obtain ⟨a, b, c, d⟩ := h
  refine ⟨?_, by rw [up2_off _ _ _ (by decide)]; exact b, by rw [up2_off _ _ _ (by decide)]; exact c, by rw [up2_off _ _ _ (by decide)]; exact d⟩
  rw [up2_row]
  unfold LRf at a ⊢
  simp [up1]
  omega
theorem LR_9 {I : aI1} (h : LR I) {v : Int} (h1 : 0 ≤ v) (h2 : v ≤ 400) : LR (up2 I 10 9 v) := by
  obtain ⟨a, b, c, d⟩ := h
  refine ⟨?_, by rw [up2_off _ _ _ (by decide)]; exact b, by rw [up2_off _ _ _ (by decide)]; exact c, by rw [up2_off _ _ _ (by decide)]; exact d⟩
  rw [up2_row]
  unfold LRf at a ⊢
  simp [up1]
  omega
theorem LR_10 {I : aI1} (h : LR I) {v : Int} (h1 : 0 ≤ v) (h2 : v ≤ 50) : LR (up2 I 10 10 v) := by
  obtain ⟨a, b, c, d⟩ := h
  refine ⟨?_, by rw [up2_off _ _ _ (by decide)]; exact b, by rw [up2_off _ _ _ (by decide)]; exact c, by rw [up2_off _ _ _ (by decide)]; exact d⟩
  rw [up2_row]
  unfold LRf at a ⊢
  simp [up1]
  omega
theorem LR_11 {I : aI1} (h : LR I) {v : Int} (h1 : 0 ≤ v) (h2 : v ≤ 12) : LR (up2 I 10 11 v) := by
  obtain ⟨a, b, c, d⟩ := h
  refine ⟨?_, by rw [up2_off _ _ _ (by decide)]; exact b, by rw [up2_off _ _ _ (by decide)]; exact c, by rw [up2_off _ _ _ (by decide)]; exact d⟩
  rw [up2_row]
  unfold LRf at a ⊢
  simp [up1]
  omega
theorem LR_c11 {I : aI1} (h : LR I) (q : Nat) {v : Int} (h1 : -1000 ≤ v) (h2 : v ≤ 1400) : LR (up2 I 11 q v) := by
  obtain ⟨a, b, c, d⟩ := h
  exact ⟨by rw [up2_off _ _ _ (by decide)]; exact a, by exact rng_upN ⟨h1, h2⟩ b, by rw [up2_off _ _ _ (by decide)]; exact c, by rw [up2_off _ _ _ (by decide)]; exact d⟩
theorem LR_c12 {I : aI1} (h : LR I) (q : Nat) {v : Int}  : LR (up2 I 12 q v) := by
  obtain ⟨a, b, c, d⟩ := h
  exact ⟨by rw [up2_off _ _ _ (by decide)]; exact a, by rw [up2_off _ _ _ (by decide)]; exact b, by rw [up2_off _ _ _ (by decide)]; exact c, by rw [up2_off _ _ _ (by decide)]; exact d⟩
theorem LR_c13 {I : aI1} (h : LR I) (q : Nat) {v : Int} (h1 : -10000 ≤ v) (h2 : v ≤ 10000) : LR (up2 I 13 q v) := by
  obtain ⟨a, b, c, d⟩ := h
  exact ⟨by rw [up2_off _ _ _ (by decide)]; exact a, by rw [up2_off _ _ _ (by decide)]; exact b, by exact rng_upN ⟨h1, h2⟩ c, by rw [up2_off _ _ _ (by decide)]; exact d⟩
theorem LR_c14 {I : aI1} (h : LR I) (q : Nat) {v : Int} (h1 : -10000 ≤ v) (h2 : v ≤ 10000) : LR (up2 I 14 q v) := by
  obtain ⟨a, b, c, d⟩ := h
  exact ⟨by rw [up2_off _ _ _ (by decide)]; exact a, by rw [up2_off _ _ _ (by decide)]; exact b, by rw [up2_off _ _ _ (by decide)]; exact c, by exact rng_upN ⟨h1, h2⟩ d⟩
set_option maxHeartbeats 4000000 in
set_option maxRecDepth 20000 in
theorem c_X7_isLetter (l0 : Launch) {Ia Ja : aI1} {Ra : aR1} {Sa : aS1} {a : Int} (ha0 : -2147483648 ≤ a) (ha1 : a < 2147483648)  : CT l0 0 0 0 mX7_isLetter [kI a] Ia Ja Ra Sa (cI (fun x I' J' => Ia = I' ∧ Ja = J' ∧ (x = 0 ∨ x = 1) ∧ (x = 1 ↔ 97 ≤ a ∧ a ≤ 122)) Ra Sa) := by
  refine ct_in pn_X7 (Nat.le_of_ble_eq_true rfl) (fun X hX hT hIn => ?_)
  have hX : aK l0 X cX7_isLetter 1 RX7 (some .boolean) 0 0 0 := hX
  change WW X 0 [some (kI a)] [] Ia Ja Ra Sa 0 0
  refine ww_iload_n hX (pc := 0) dX7_isLetter_0 rfl ?_
  refine ww_bipush hX (pc := 1) (x := 97) dX7_isLetter_1 (by decide) ?_
  refine ww_icmp_lt hX (pc := 3) (tgt := 16) dX7_isLetter_3 (by decide) (fun h_3 => ?_) (fun h_3 => ?_)
  · simp only [w32_mod] at h_3
    refine ww_iconst hX (pc := 16) (x := 0) dX7_isLetter_16 rfl ?_
    refine rZ hX (pc := 17) hT (Nat.le_refl 0) (Nat.le_refl 0) dX7_isLetter_17 (by decide) ?_
    exact ⟨rfl, rfl, by omega, by omega⟩
  · simp only [w32_mod] at h_3
    refine ww_iload_n hX (pc := 6) dX7_isLetter_6 rfl ?_
    refine ww_bipush hX (pc := 7) (x := 122) dX7_isLetter_7 (by decide) ?_
    refine ww_icmp_gt hX (pc := 9) (tgt := 16) dX7_isLetter_9 (by decide) (fun h_9 => ?_) (fun h_9 => ?_)
    · simp only [w32_mod] at h_9
      refine ww_iconst hX (pc := 16) (x := 0) dX7_isLetter_16 rfl ?_
      refine rZ hX (pc := 17) hT (Nat.le_refl 0) (Nat.le_refl 0) dX7_isLetter_17 (by decide) ?_
      exact ⟨rfl, rfl, by omega, by omega⟩
    · simp only [w32_mod] at h_9
      refine ww_iconst hX (pc := 12) (x := 1) dX7_isLetter_12 rfl ?_
      refine ww_goto hX (pc := 13) (tgt := 17) dX7_isLetter_13 (by decide) ?_
      refine rZ hX (pc := 17) hT (Nat.le_refl 0) (Nat.le_refl 0) dX7_isLetter_17 (by decide) ?_
      exact ⟨rfl, rfl, by omega, by omega⟩
set_option maxHeartbeats 4000000 in
set_option maxRecDepth 20000 in
theorem c_X7_isDigit (l0 : Launch) {Ia Ja : aI1} {Ra : aR1} {Sa : aS1} {a : Int} (ha0 : -2147483648 ≤ a) (ha1 : a < 2147483648)  : CT l0 0 0 0 mX7_isDigit [kI a] Ia Ja Ra Sa (cI (fun x I' J' => Ia = I' ∧ Ja = J' ∧ (x = 0 ∨ x = 1) ∧ (x = 1 ↔ 48 ≤ a ∧ a ≤ 57)) Ra Sa) := by
  refine ct_in pn_X7 (Nat.le_of_ble_eq_true rfl) (fun X hX hT hIn => ?_)
  have hX : aK l0 X cX7_isDigit 1 RX7 (some .boolean) 0 0 0 := hX
  change WW X 0 [some (kI a)] [] Ia Ja Ra Sa 0 0
  refine ww_iload_n hX (pc := 0) dX7_isDigit_0 rfl ?_
  refine ww_bipush hX (pc := 1) (x := 48) dX7_isDigit_1 (by decide) ?_
  refine ww_icmp_lt hX (pc := 3) (tgt := 16) dX7_isDigit_3 (by decide) (fun h_3 => ?_) (fun h_3 => ?_)
  · simp only [w32_mod] at h_3
    refine ww_iconst hX (pc := 16) (x := 0) dX7_isDigit_16 rfl ?_
    refine rZ hX (pc := 17) hT (Nat.le_refl 0) (Nat.le_refl 0) dX7_isDigit_17 (by decide) ?_
    exact ⟨rfl, rfl, by omega, by omega⟩
  · simp only [w32_mod] at h_3
    refine ww_iload_n hX (pc := 6) dX7_isDigit_6 rfl ?_
    refine ww_bipush hX (pc := 7) (x := 57) dX7_isDigit_7 (by decide) ?_
    refine ww_icmp_gt hX (pc := 9) (tgt := 16) dX7_isDigit_9 (by decide) (fun h_9 => ?_) (fun h_9 => ?_)
    · simp only [w32_mod] at h_9
      refine ww_iconst hX (pc := 16) (x := 0) dX7_isDigit_16 rfl ?_
      refine rZ hX (pc := 17) hT (Nat.le_refl 0) (Nat.le_refl 0) dX7_isDigit_17 (by decide) ?_
      exact ⟨rfl, rfl, by omega, by omega⟩
    · simp only [w32_mod] at h_9
      refine ww_iconst hX (pc := 12) (x := 1) dX7_isDigit_12 rfl ?_
      refine ww_goto hX (pc := 13) (tgt := 17) dX7_isDigit_13 (by decide) ?_
      refine rZ hX (pc := 17) hT (Nat.le_refl 0) (Nat.le_refl 0) dX7_isDigit_17 (by decide) ?_
      exact ⟨rfl, rfl, by omega, by omega⟩
