/-- the class's state, ranges alone -/
def CX (I : aI1) : Prop := XI I ∧ LR I ∧ FI I
theorem XI_o {I : aI1} (h : XI I) : (1 ≤ I 1 5 ∧ I 1 5 ≤ 8) ∧ (2 ≤ I 1 6 ∧ I 1 6 ≤ 8) ∧ (0 ≤ I 1 8 ∧ I 1 8 ≤ FU (I 1 5)) ∧ (0 ≤ I 1 9 ∧ I 1 9 ≤ 6) ∧ (0 ≤ I 1 10 ∧ I 1 10 ≤ 24) ∧ (0 ≤ I 1 11 ∧ I 1 11 ≤ 16) ∧ (0 ≤ I 8 1 ∧ I 8 1 ≤ 400) ∧ (0 ≤ I 0 12 ∧ I 0 12 ≤ 30) ∧ (0 ≤ I 0 13 ∧ I 0 13 ≤ 24) ∧ (1 ≤ FU (I 1 5) ∧ FU (I 1 5) ≤ 255) :=
  ⟨h.1, h.2.1, h.2.2.1, h.2.2.2.1, h.2.2.2.2.1, h.2.2.2.2.2.1, h.2.2.2.2.2.2.1, h.2.2.2.2.2.2.2.1, h.2.2.2.2.2.2.2.2.1, h.fu⟩
theorem XI_of {I I' : aI1} (h : XI I) (h0 : I' 0 = I 0) (h1 : I' 1 = I 1) (h3 : I' 3 = I 3) (h8 : I' 8 = I 8) (h9 : I' 9 = I 9) : XI I' := by
  unfold XI at h ⊢
  rw [h0, h1, h3, h8, h9]
  exact h
theorem LR_of {I I' : aI1} (h : LR I) (h0 : I' 10 = I 10) (h1 : I' 11 = I 11) (h3 : I' 13 = I 13) (h8 : I' 14 = I 14) : LR I' := by
  unfold LR at h ⊢
  rw [h0, h1, h3, h8]
  exact h
theorem CX_kp {I I' : aI1} {a b : Nat} (h : CX I) (hk : Kp a b I I') (ha : 15 ≤ a) (hb : b ≤ 44 ∨ 45 ≤ a) : CX I' := ⟨XI_kp h.1 hk (by omega), LR_kp h.2.1 hk (Or.inl ha), FI_of h.2.2 (hk 44 (by omega))⟩
theorem CX_up {I : aI1} {k j : Nat} {v : Int} (h : CX I) (hk : k ≠ 0 ∧ k ≠ 1 ∧ k ≠ 3 ∧ k ≠ 8 ∧ k ≠ 9 ∧ k ≠ 10 ∧ k ≠ 11 ∧ k ≠ 13 ∧ k ≠ 14 ∧ k ≠ 44) : CX (up2 I k j v) := by
  have e : ∀ a, a ≠ k → up2 I k j v a = I a := fun a ha => up2_off _ _ _ ha
  exact ⟨XI_of h.1 (e _ (by omega)) (e _ (by omega)) (e _ (by omega)) (e _ (by omega)) (e _ (by omega)), LR_of h.2.1 (e _ (by omega)) (e _ (by omega)) (e _ (by omega)) (e _ (by omega)), FI_of h.2.2 (e _ (by omega))⟩
theorem CX_x {I : aI1} {k j : Nat} {v : Int} (h : CX I) (hx : XI (up2 I k j v)) (hk : k < 10) : CX (up2 I k j v) := by
  have e : ∀ a, a ≠ k → up2 I k j v a = I a := fun a ha => up2_off _ _ _ ha
  exact ⟨hx, LR_of h.2.1 (e _ (by omega)) (e _ (by omega)) (e _ (by omega)) (e _ (by omega)), FI_of h.2.2 (e _ (by omega))⟩
theorem XI_0 {I : aI1} {v : Int} {j : Nat} (h : XI I) (hj : j ≠ 12 ∧ j ≠ 13) : XI (up2 I 0 j v) := by
  have eo : ∀ a, a ≠ 0 → up2 I 0 j v a = I a := fun a ha => up2_off _ _ _ ha
  have e1 : ∀ b, b ≠ j → up2 I 0 j v 0 b = I 0 b := fun b hb => up2_n _ _ (Or.inr hb)
  unfold XI at h ⊢
  rw [eo 1 (by decide), eo 3 (by decide), eo 8 (by decide), eo 9 (by decide), e1 12 (by omega), e1 13 (by omega)]
  exact ⟨h.1, h.2.1, h.2.2.1, h.2.2.2.1, h.2.2.2.2.1, h.2.2.2.2.2.1, h.2.2.2.2.2.2.1, h.2.2.2.2.2.2.2.1, h.2.2.2.2.2.2.2.2.1, h.2.2.2.2.2.2.2.2.2.1, h.2.2.2.2.2.2.2.2.2.2⟩
theorem XI_1_7 {I : aI1} {v : Int} (h : XI I) : XI (up2 I 1 7 v) := by
  have eo : ∀ a, a ≠ 1 → up2 I 1 7 v a = I a := fun a ha => up2_off _ _ _ ha
  have e1 : ∀ b, b ≠ 7 → up2 I 1 7 v 1 b = I 1 b := fun b hb => up2_n _ _ (Or.inr hb)
  unfold XI at h ⊢
  rw [eo 0 (by decide), eo 3 (by decide), eo 8 (by decide), eo 9 (by decide), e1 5 (by omega), e1 6 (by omega), e1 8 (by omega), e1 9 (by omega), e1 10 (by omega), e1 11 (by omega)]
  exact ⟨h.1, h.2.1, h.2.2.1, h.2.2.2.1, h.2.2.2.2.1, h.2.2.2.2.2.1, h.2.2.2.2.2.2.1, h.2.2.2.2.2.2.2.1, h.2.2.2.2.2.2.2.2.1, h.2.2.2.2.2.2.2.2.2.1, h.2.2.2.2.2.2.2.2.2.2⟩
theorem XI_1_6 {I : aI1} {v : Int} (h : XI I) (h1 : 2 ≤ v) (h2 : v ≤ 8) : XI (up2 I 1 6 v) := by
  have eo : ∀ a, a ≠ 1 → up2 I 1 6 v a = I a := fun a ha => up2_off _ _ _ ha
  have e1 : ∀ b, b ≠ 6 → up2 I 1 6 v 1 b = I 1 b := fun b hb => up2_n _ _ (Or.inr hb)
  unfold XI at h ⊢
  rw [eo 0 (by decide), eo 3 (by decide), eo 8 (by decide), eo 9 (by decide), e1 5 (by omega), up2_s, e1 8 (by omega), e1 9 (by omega), e1 10 (by omega), e1 11 (by omega)]
  exact ⟨h.1, ⟨h1, h2⟩, h.2.2.1, h.2.2.2.1, h.2.2.2.2.1, h.2.2.2.2.2.1, h.2.2.2.2.2.2.1, h.2.2.2.2.2.2.2.1, h.2.2.2.2.2.2.2.2.1, h.2.2.2.2.2.2.2.2.2.1, h.2.2.2.2.2.2.2.2.2.2⟩
theorem XI_1_8 {I : aI1} {v : Int} (h : XI I) (h1 : 0 ≤ v) (h2 : v ≤ FU (I 1 5)) : XI (up2 I 1 8 v) := by
  have eo : ∀ a, a ≠ 1 → up2 I 1 8 v a = I a := fun a ha => up2_off _ _ _ ha
  have e1 : ∀ b, b ≠ 8 → up2 I 1 8 v 1 b = I 1 b := fun b hb => up2_n _ _ (Or.inr hb)
  unfold XI at h ⊢
  rw [eo 0 (by decide), eo 3 (by decide), eo 8 (by decide), eo 9 (by decide), e1 5 (by omega), e1 6 (by omega), up2_s, e1 9 (by omega), e1 10 (by omega), e1 11 (by omega)]
  exact ⟨h.1, h.2.1, ⟨h1, h2⟩, h.2.2.2.1, h.2.2.2.2.1, h.2.2.2.2.2.1, h.2.2.2.2.2.2.1, h.2.2.2.2.2.2.2.1, h.2.2.2.2.2.2.2.2.1, h.2.2.2.2.2.2.2.2.2.1, h.2.2.2.2.2.2.2.2.2.2⟩
theorem XI_1_9 {I : aI1} {v : Int} (h : XI I) (h1 : 0 ≤ v) (h2 : v ≤ 6) : XI (up2 I 1 9 v) := by
  have eo : ∀ a, a ≠ 1 → up2 I 1 9 v a = I a := fun a ha => up2_off _ _ _ ha
  have e1 : ∀ b, b ≠ 9 → up2 I 1 9 v 1 b = I 1 b := fun b hb => up2_n _ _ (Or.inr hb)
  unfold XI at h ⊢
  rw [eo 0 (by decide), eo 3 (by decide), eo 8 (by decide), eo 9 (by decide), e1 5 (by omega), e1 6 (by omega), e1 8 (by omega), up2_s, e1 10 (by omega), e1 11 (by omega)]
  exact ⟨h.1, h.2.1, h.2.2.1, ⟨h1, h2⟩, h.2.2.2.2.1, h.2.2.2.2.2.1, h.2.2.2.2.2.2.1, h.2.2.2.2.2.2.2.1, h.2.2.2.2.2.2.2.2.1, h.2.2.2.2.2.2.2.2.2.1, h.2.2.2.2.2.2.2.2.2.2⟩
theorem XI_1_10 {I : aI1} {v : Int} (h : XI I) (h1 : 0 ≤ v) (h2 : v ≤ 24) : XI (up2 I 1 10 v) := by
  have eo : ∀ a, a ≠ 1 → up2 I 1 10 v a = I a := fun a ha => up2_off _ _ _ ha
  have e1 : ∀ b, b ≠ 10 → up2 I 1 10 v 1 b = I 1 b := fun b hb => up2_n _ _ (Or.inr hb)
  unfold XI at h ⊢
  rw [eo 0 (by decide), eo 3 (by decide), eo 8 (by decide), eo 9 (by decide), e1 5 (by omega), e1 6 (by omega), e1 8 (by omega), e1 9 (by omega), up2_s, e1 11 (by omega)]
  exact ⟨h.1, h.2.1, h.2.2.1, h.2.2.2.1, ⟨h1, h2⟩, h.2.2.2.2.2.1, h.2.2.2.2.2.2.1, h.2.2.2.2.2.2.2.1, h.2.2.2.2.2.2.2.2.1, h.2.2.2.2.2.2.2.2.2.1, h.2.2.2.2.2.2.2.2.2.2⟩
theorem XI_1_11 {I : aI1} {v : Int} (h : XI I) (h1 : 0 ≤ v) (h2 : v ≤ 16) : XI (up2 I 1 11 v) := by
  have eo : ∀ a, a ≠ 1 → up2 I 1 11 v a = I a := fun a ha => up2_off _ _ _ ha
  have e1 : ∀ b, b ≠ 11 → up2 I 1 11 v 1 b = I 1 b := fun b hb => up2_n _ _ (Or.inr hb)
  unfold XI at h ⊢
  rw [eo 0 (by decide), eo 3 (by decide), eo 8 (by decide), eo 9 (by decide), e1 5 (by omega), e1 6 (by omega), e1 8 (by omega), e1 9 (by omega), e1 10 (by omega), up2_s]
  exact ⟨h.1, h.2.1, h.2.2.1, h.2.2.2.1, h.2.2.2.2.1, ⟨h1, h2⟩, h.2.2.2.2.2.2.1, h.2.2.2.2.2.2.2.1, h.2.2.2.2.2.2.2.2.1, h.2.2.2.2.2.2.2.2.2.1, h.2.2.2.2.2.2.2.2.2.2⟩
theorem XI_8_1 {I : aI1} {v : Int} (h : XI I) (h1 : 0 ≤ v) (h2 : v ≤ 400) : XI (up2 I 8 1 v) := by
  have eo : ∀ a, a ≠ 8 → up2 I 8 1 v a = I a := fun a ha => up2_off _ _ _ ha
  have e1 : ∀ b, b ≠ 1 → up2 I 8 1 v 8 b = I 8 b := fun b hb => up2_n _ _ (Or.inr hb)
  unfold XI at h ⊢
  rw [eo 0 (by decide), eo 1 (by decide), eo 3 (by decide), eo 9 (by decide), up2_s]
  exact ⟨h.1, h.2.1, h.2.2.1, h.2.2.2.1, h.2.2.2.2.1, h.2.2.2.2.2.1, ⟨h1, h2⟩, h.2.2.2.2.2.2.2.1, h.2.2.2.2.2.2.2.2.1, h.2.2.2.2.2.2.2.2.2.1, h.2.2.2.2.2.2.2.2.2.2⟩
theorem XI_0_12 {I : aI1} {v : Int} (h : XI I) (h1 : 0 ≤ v) (h2 : v ≤ 30) : XI (up2 I 0 12 v) := by
  have eo : ∀ a, a ≠ 0 → up2 I 0 12 v a = I a := fun a ha => up2_off _ _ _ ha
  have e1 : ∀ b, b ≠ 12 → up2 I 0 12 v 0 b = I 0 b := fun b hb => up2_n _ _ (Or.inr hb)
  unfold XI at h ⊢
  rw [eo 1 (by decide), eo 3 (by decide), eo 8 (by decide), eo 9 (by decide), up2_s, e1 13 (by omega)]
  exact ⟨h.1, h.2.1, h.2.2.1, h.2.2.2.1, h.2.2.2.2.1, h.2.2.2.2.2.1, h.2.2.2.2.2.2.1, ⟨h1, h2⟩, h.2.2.2.2.2.2.2.2.1, h.2.2.2.2.2.2.2.2.2.1, h.2.2.2.2.2.2.2.2.2.2⟩
theorem XI_0_13 {I : aI1} {v : Int} (h : XI I) (h1 : 0 ≤ v) (h2 : v ≤ 24) : XI (up2 I 0 13 v) := by
  have eo : ∀ a, a ≠ 0 → up2 I 0 13 v a = I a := fun a ha => up2_off _ _ _ ha
  have e1 : ∀ b, b ≠ 13 → up2 I 0 13 v 0 b = I 0 b := fun b hb => up2_n _ _ (Or.inr hb)
  unfold XI at h ⊢
  rw [eo 1 (by decide), eo 3 (by decide), eo 8 (by decide), eo 9 (by decide), e1 12 (by omega), up2_s]
  exact ⟨h.1, h.2.1, h.2.2.1, h.2.2.2.1, h.2.2.2.2.1, h.2.2.2.2.2.1, h.2.2.2.2.2.2.1, h.2.2.2.2.2.2.2.1, ⟨h1, h2⟩, h.2.2.2.2.2.2.2.2.2.1, h.2.2.2.2.2.2.2.2.2.2⟩
theorem XI_3 {I : aI1} {v : Int} {j : Nat} (h : XI I) (h1 : -1 ≤ v) (h2 : v ≤ 7) : XI (up2 I 3 j v) := by
  have eo : ∀ a, a ≠ 3 → up2 I 3 j v a = I a := fun a ha => up2_off _ _ _ ha
  unfold XI at h ⊢
  rw [eo 0 (by decide), eo 1 (by decide), eo 8 (by decide), eo 9 (by decide)]
  exact ⟨h.1, h.2.1, h.2.2.1, h.2.2.2.1, h.2.2.2.2.1, h.2.2.2.2.2.1, h.2.2.2.2.2.2.1, h.2.2.2.2.2.2.2.1, h.2.2.2.2.2.2.2.2.1, rng_upN ⟨h1, h2⟩ h.2.2.2.2.2.2.2.2.2.1, h.2.2.2.2.2.2.2.2.2.2⟩
set_option maxHeartbeats 4000000 in
set_option maxRecDepth 20000 in
theorem c_X10_isManner (l0 : Launch) {Ia Ja : aI1} {Ra : aR1} {Sa : aS1} {a : Int} (ha0 : -2147483648 ≤ a) (ha1 : a < 2147483648)  : CT l0 0 0 0 mX10_isManner [kI a] Ia Ja Ra Sa (cI (fun x I' J' => Ia = I' ∧ Ja = J' ∧ (x = 0 ∨ x = 1) ∧ (x = 1 ↔ 0 ≤ a ∧ a ≤ 3)) Ra Sa) := by
  refine ct_in pn_X10 (Nat.le_of_ble_eq_true rfl) (fun X hX hT hIn => ?_)
  have hX : aK l0 X cX10_isManner 1 RX10 (some .boolean) 0 0 0 := hX
  change WW X 0 [some (kI a)] [] Ia Ja Ra Sa 0 0
  refine ww_iload_n hX (pc := 0) dX10_isManner_0 rfl ?_
  refine ww_if_lt hX (pc := 1) (tgt := 13) dX10_isManner_1 (by decide) (fun h_1 => ?_) (fun h_1 => ?_)
  · simp only [w32_mod] at h_1
    refine ww_iconst hX (pc := 13) (x := 0) dX10_isManner_13 rfl ?_
    refine rZ hX (pc := 14) hT (Nat.le_refl 0) (Nat.le_refl 0) dX10_isManner_14 (by decide) ?_
    exact ⟨rfl, rfl, by omega, by omega⟩
  · simp only [w32_mod] at h_1
    refine ww_iload_n hX (pc := 4) dX10_isManner_4 rfl ?_
    refine ww_iconst hX (pc := 5) (x := 3) dX10_isManner_5 rfl ?_
    refine ww_icmp_gt hX (pc := 6) (tgt := 13) dX10_isManner_6 (by decide) (fun h_6 => ?_) (fun h_6 => ?_)
    · simp only [w32_mod] at h_6
      refine ww_iconst hX (pc := 13) (x := 0) dX10_isManner_13 rfl ?_
      refine rZ hX (pc := 14) hT (Nat.le_refl 0) (Nat.le_refl 0) dX10_isManner_14 (by decide) ?_
      exact ⟨rfl, rfl, by omega, by omega⟩
    · simp only [w32_mod] at h_6
      refine ww_iconst hX (pc := 9) (x := 1) dX10_isManner_9 rfl ?_
      refine ww_goto hX (pc := 10) (tgt := 14) dX10_isManner_10 (by decide) ?_
      refine rZ hX (pc := 14) hT (Nat.le_refl 0) (Nat.le_refl 0) dX10_isManner_14 (by decide) ?_
      exact ⟨rfl, rfl, by omega, by omega⟩
theorem CX_cs {I I' : aI1} (h : CX I) (hk : Kp 37 46 I I') (hf : FI I') : CX I' := ⟨XI_kp h.1 hk (by decide), LR_kp h.2.1 hk (by decide), hf⟩
set_option maxHeartbeats 4000000 in
set_option maxRecDepth 20000 in
theorem c_X10_isRowTo (l0 : Launch) {Ia Ja : aI1} {Ra : aR1} {Sa : aS1} (hL : LY Ra Sa) (hI : XI Ia) {a b c : Int} (ha0 : -2147483648 ≤ a) (ha1 : a < 2147483648) (hb0 : -2147483648 ≤ b) (hb1 : b < 2147483648) (hc0 : -2147483648 ≤ c) (hc1 : c < 2147483648)  : CT l0 3 0 0 mX10_isRowTo [kR (some 0), kI a, kI b, kI c] Ia Ja Ra Sa (cI (fun x I' J' => Ia = I' ∧ Ja = J' ∧ (x = 0 ∨ x = 1) ∧ (x = 1 ↔ 0 ≤ a ∧ a ≤ 8 ∧ 0 ≤ b ∧ b ≤ FU (Ia 1 5) ∧ 0 ≤ c ∧ c ≤ 3)) Ra Sa) := by
  refine ct_in pn_X10 (Nat.le_of_ble_eq_true rfl) (fun X hX hT hIn => ?_)
  have hX : aK l0 X cX10_isRowTo 4 RX10 (some .boolean) 3 0 0 := hX
  change WW X 0 [some (kR (some 0)), some (kI a), some (kI b), some (kI c)] [] Ia Ja Ra Sa 0 0
  refine ww_iload_n hX (pc := 0) dX10_isRowTo_0 rfl ?_
  refine ww_if_lt hX (pc := 1) (tgt := 32) dX10_isRowTo_1 (by decide) (fun h_1 => ?_) (fun h_1 => ?_)
  · simp only [w32_mod] at h_1
    refine ww_iconst hX (pc := 32) (x := 0) dX10_isRowTo_32 rfl ?_
    refine rZ hX (pc := 33) hT (Nat.le_refl 0) (Nat.le_refl 0) dX10_isRowTo_33 (by decide) ?_
    exact ⟨rfl, rfl, by omega, by omega⟩
  · simp only [w32_mod] at h_1
    refine ww_iload_n hX (pc := 4) dX10_isRowTo_4 rfl ?_
    refine ww_bipush hX (pc := 5) (x := 8) dX10_isRowTo_5 (by decide) ?_
    refine ww_icmp_gt hX (pc := 7) (tgt := 32) dX10_isRowTo_7 (by decide) (fun h_7 => ?_) (fun h_7 => ?_)
    · simp only [w32_mod] at h_7
      refine ww_iconst hX (pc := 32) (x := 0) dX10_isRowTo_32 rfl ?_
      refine rZ hX (pc := 33) hT (Nat.le_refl 0) (Nat.le_refl 0) dX10_isRowTo_33 (by decide) ?_
      exact ⟨rfl, rfl, by omega, by omega⟩
    · simp only [w32_mod] at h_7
      refine ww_aload_n hX (pc := 10) dX10_isRowTo_10 rfl ?_
      refine ww_getR hX (pc := 11) fX10_10 (by decide) (xs_0 hL) (xr_0_0 hL) dX10_isRowTo_11 ?_
      refine ww_iload_n hX (pc := 14) dX10_isRowTo_14 rfl ?_
      refine vI1 hX (pc := 15) sX10_131 (xs_1 hL) (c_X1_isState l0 hL hI (by omega)) (by decide) (Nat.le_refl 0) (Nat.le_refl 0) (Nat.le_of_ble_eq_true rfl) dX10_isRowTo_15 (fun x_15 I_15 J_15 h_15 => ?_)
      obtain ⟨rfl, rfl, h_15⟩ := h_15
      refine ww_if_eq hX (pc := 18) (tgt := 32) dX10_isRowTo_18 (by decide) (fun h_18 => ?_) (fun h_18 => ?_)
      · simp only [w32_mod] at h_18
        refine ww_iconst hX (pc := 32) (x := 0) dX10_isRowTo_32 rfl ?_
        refine rZ hX (pc := 33) hT (Nat.le_refl 0) (Nat.le_refl 0) dX10_isRowTo_33 (by decide) ?_
        exact ⟨rfl, rfl, by omega, by omega⟩
      · simp only [w32_mod] at h_18
        have k_15 := h_15.2.mp (by omega)
        clear h_15
        refine ww_iload_n hX (pc := 21) dX10_isRowTo_21 rfl ?_
        refine sI1 hX (pc := 22) sX10_188 (c_X10_isManner l0 (by omega) (by omega)) (by decide) (Nat.le_refl 0) (Nat.le_refl 0) (Nat.le_of_ble_eq_true rfl) dX10_isRowTo_22 (fun x_22 I_22 J_22 h_22 => ?_)
        obtain ⟨rfl, rfl, h_22⟩ := h_22
        refine ww_if_eq hX (pc := 25) (tgt := 32) dX10_isRowTo_25 (by decide) (fun h_25 => ?_) (fun h_25 => ?_)
        · simp only [w32_mod] at h_25
          refine ww_iconst hX (pc := 32) (x := 0) dX10_isRowTo_32 rfl ?_
          refine rZ hX (pc := 33) hT (Nat.le_refl 0) (Nat.le_refl 0) dX10_isRowTo_33 (by decide) ?_
          exact ⟨rfl, rfl, by omega, by omega⟩
        · simp only [w32_mod] at h_25
          have k_22 := h_22.2.mp (by omega)
          clear h_22
          refine ww_iconst hX (pc := 28) (x := 1) dX10_isRowTo_28 rfl ?_
          refine ww_goto hX (pc := 29) (tgt := 33) dX10_isRowTo_29 (by decide) ?_
          refine rZ hX (pc := 33) hT (Nat.le_refl 0) (Nat.le_refl 0) dX10_isRowTo_33 (by decide) ?_
          exact ⟨rfl, rfl, by omega, by omega⟩
theorem CX_put {I I' : aI1} (h : CX I) (hk : Kp 8 10 I I') (h0 : 0 ≤ I' 8 1) (h1 : I' 8 1 ≤ 400) (hb : ∀ j, j < 400 → 0 ≤ I' 9 j ∧ I' 9 j ≤ 255) : CX I' := by
  refine ⟨?_, LR_kp h.2.1 hk (by decide), FI_of h.2.2 (hk 44 (by decide))⟩
  have h := h.1
  unfold XI at h ⊢
  rw [hk 0 (by decide), hk 1 (by decide), hk 3 (by decide)]
  exact ⟨h.1, h.2.1, h.2.2.1, h.2.2.2.1, h.2.2.2.2.1, h.2.2.2.2.2.1, ⟨h0, h1⟩, h.2.2.2.2.2.2.2.1, h.2.2.2.2.2.2.2.2.1, h.2.2.2.2.2.2.2.2.2.1, hb⟩
