theorem rng_upN {N : Nat} {F : aI1} {k q : Nat} {lo hi v : Int} (hv : lo ≤ v ∧ v ≤ hi) (h : ∀ j, j < N → lo ≤ F k j ∧ F k j ≤ hi) : ∀ j, j < N → lo ≤ up2 F k q v k j ∧ up2 F k q v k j ≤ hi := by
  intro j hj
  by_cases e : j = q
  · subst e; rw [up2_s]; exact hv
  · rw [up2_n _ _ (Or.inr e)]; exact h j hj
theorem i_and_255 (x : Int) : 0 ≤ i_and x 255 ∧ i_and x 255 ≤ 255 := by
  rw [i_and_comm]
  exact i_and_le (by decide) (by decide) x
theorem l_cmp_ne0 {a : Int} (h : ¬ (l_cmp a 0 + 2147483648) % 4294967296 - 2147483648 = 0) : ¬ w64 a = 0 := by
  have := l_cmp_ne h
  simpa [show w64 0 = 0 from rfl] using this
theorem l_cmp_v (a b : Int) : l_cmp a b = -1 ∧ w64 a < w64 b ∨ l_cmp a b = 0 ∧ w64 a = w64 b ∨ l_cmp a b = 1 ∧ w64 b < w64 a := by
  unfold l_cmp
  by_cases h1 : w64 a < w64 b
  · left; exact ⟨if_pos h1, h1⟩
  · by_cases h2 : w64 a = w64 b
    · right; left; exact ⟨by rw [if_neg h1, if_pos h2], h2⟩
    · right; right; exact ⟨by rw [if_neg h1, if_neg h2], by omega⟩
theorem w32_of64 {v : Int} (h : 0 ≤ w64 v) (h2 : w64 v < 2147483648) : w32 v = w64 v := by
  rw [w64_mod] at h h2 ⊢
  rw [w32_mod]
  omega
theorem ww_w32 {X : aX} {pc : Nat} {lv : List (Option aV)} {st : List aV} {I J : aI1} {R : aR1} {S : aS1} {uc us : Nat} {x : Int} (k : WW X pc lv (kI (w32 x) :: st) I J R S uc us) : WW X pc lv (kI x :: st) I J R S uc us := by
  obtain ⟨p, l, e, Rm, s, m, args, below, meth, c, Q, E⟩ := X
  intro H locs ls hP hS hz hl
  have k := k H locs ls hP hS hz hl
  have e : aC E (kI (w32 x)) = aC E (kI x) := by
    show Value.int (Int32.ofInt (Int32.ofInt x).toInt) = Value.int (Int32.ofInt x)
    rw [n_of]
  rw [List.map_cons, e] at k
  exact k
set_option maxHeartbeats 4000000 in
set_option maxRecDepth 20000 in
theorem c_X9_hasRoom (l0 : Launch) {Ia Ja : aI1} {Ra : aR1} {Sa : aS1} (hL : LY Ra Sa) (hI : XI Ia)  : CT l0 0 0 0 mX9_hasRoom [kR (some 8)] Ia Ja Ra Sa (cI (fun x I' J' => Ia = I' ∧ Ja = J' ∧ (x = 0 ∨ x = 1) ∧ (x = 1 ↔ Ia 8 1 ≤ 380)) Ra Sa) := by
  refine ct_in pn_X9 (Nat.le_of_ble_eq_true rfl) (fun X hX hT hIn => ?_)
  have hX : aK l0 X cX9_hasRoom 1 RX9 (some .boolean) 0 0 0 := hX
  change WW X 0 [some (kR (some 8))] [] Ia Ja Ra Sa 0 0
  obtain ⟨hn1, hn2⟩ := hI.1
  obtain ⟨hk1, hk2⟩ := hI.2.1
  obtain ⟨hf1, hf2⟩ := hI.fu
  obtain ⟨hl1, hl2⟩ := hI.2.2.2.2.2.2.1
  refine ww_aload_n hX (pc := 0) dX9_hasRoom_0 rfl ?_
  refine ww_getI hX (pc := 1) fX9_15 (by decide) (xs_8 hL) dX9_hasRoom_1 ?_
  refine ww_sipush hX (pc := 4) (x := 380) dX9_hasRoom_4 (by decide) ?_
  refine ww_icmp_gt hX (pc := 7) (tgt := 14) dX9_hasRoom_7 (by decide) (fun h_7 => ?_) (fun h_7 => ?_)
  · simp only [w32_mod] at h_7
    refine ww_iconst hX (pc := 14) (x := 0) dX9_hasRoom_14 rfl ?_
    refine rZ hX (pc := 15) hT (Nat.le_refl 0) (Nat.le_refl 0) dX9_hasRoom_15 (by decide) ?_
    exact ⟨rfl, rfl, by omega, by omega⟩
  · simp only [w32_mod] at h_7
    refine ww_iconst hX (pc := 10) (x := 1) dX9_hasRoom_10 rfl ?_
    refine ww_goto hX (pc := 11) (tgt := 15) dX9_hasRoom_11 (by decide) ?_
    refine rZ hX (pc := 15) hT (Nat.le_refl 0) (Nat.le_refl 0) dX9_hasRoom_15 (by decide) ?_
    exact ⟨rfl, rfl, by omega, by omega⟩
set_option maxHeartbeats 4000000 in
set_option maxRecDepth 20000 in
theorem c_X9_byteAt (l0 : Launch) {Ia Ja : aI1} {Ra : aR1} {Sa : aS1} (hL : LY Ra Sa) (hI : XI Ia) {a : Int} (ha0 : -2147483648 ≤ a) (ha1 : a < 2147483648)  : CT l0 0 0 0 mX9_byteAt [kR (some 8), kI a] Ia Ja Ra Sa (cI (fun x I' J' => Ia = I' ∧ Ja = J' ∧ (-1 ≤ x ∧ x ≤ 255) ∧ (0 ≤ a ∧ a < Ia 8 1 → x = Ia 9 a.toNat) ∧ (¬ (0 ≤ a ∧ a < Ia 8 1) → x = -1)) Ra Sa) := by
  refine ct_in pn_X9 (Nat.le_of_ble_eq_true rfl) (fun X hX hT hIn => ?_)
  have hX : aK l0 X cX9_byteAt 2 RX9 (some .int) 0 0 0 := hX
  change WW X 0 [some (kR (some 8)), some (kI a)] [] Ia Ja Ra Sa 0 0
  obtain ⟨hn1, hn2⟩ := hI.1
  obtain ⟨hk1, hk2⟩ := hI.2.1
  obtain ⟨hf1, hf2⟩ := hI.fu
  obtain ⟨hl1, hl2⟩ := hI.2.2.2.2.2.2.1
  refine ww_iload_n hX (pc := 0) dX9_byteAt_0 rfl ?_
  refine ww_if_lt hX (pc := 1) (tgt := 21) dX9_byteAt_1 (by decide) (fun h_1 => ?_) (fun h_1 => ?_)
  · simp only [w32_mod] at h_1
    refine ww_iconst hX (pc := 21) (x := (-1)) dX9_byteAt_21 rfl ?_
    refine rI hX (pc := 22) hT (Nat.le_refl 0) (Nat.le_refl 0) dX9_byteAt_22 ?_
    exact ⟨rfl, rfl, by omega, by omega, by omega⟩
  · simp only [w32_mod] at h_1
    refine ww_iload_n hX (pc := 4) dX9_byteAt_4 rfl ?_
    refine ww_aload_n hX (pc := 5) dX9_byteAt_5 rfl ?_
    refine ww_getI hX (pc := 6) fX9_15 (by decide) (xs_8 hL) dX9_byteAt_6 ?_
    refine ww_icmp_ge hX (pc := 9) (tgt := 21) dX9_byteAt_9 (by decide) (fun h_9 => ?_) (fun h_9 => ?_)
    · simp only [w32_mod] at h_9
      refine ww_iconst hX (pc := 21) (x := (-1)) dX9_byteAt_21 rfl ?_
      refine rI hX (pc := 22) hT (Nat.le_refl 0) (Nat.le_refl 0) dX9_byteAt_22 ?_
      exact ⟨rfl, rfl, by omega, by omega, by omega⟩
    · simp only [w32_mod] at h_9
      have hby := hI.2.2.2.2.2.2.2.2.2.2 a.toNat (by omega)
      refine ww_aload_n hX (pc := 12) dX9_byteAt_12 rfl ?_
      refine ww_getR hX (pc := 13) fX9_9 (by decide) (xs_8 hL) (xr_8_0 hL) dX9_byteAt_13 ?_
      refine ww_iload_n hX (pc := 16) dX9_byteAt_16 rfl ?_
      refine ww_iald hX (pc := 17) (xs_9 hL) (by decide) (by omega) (by omega) dX9_byteAt_17 ?_
      refine ww_goto hX (pc := 18) (tgt := 22) dX9_byteAt_18 (by decide) ?_
      refine rI hX (pc := 22) hT (Nat.le_refl 0) (Nat.le_refl 0) dX9_byteAt_22 ?_
      exact ⟨rfl, rfl, by omega, by omega, by omega⟩
