theorem rng_upN {N : Nat} {F : aI1} {k q : Nat} {lo hi v : Int} (hv : lo ≤ v ∧ v ≤ hi) (h : ∀ j, j < N → lo ≤ F k j ∧ F k j ≤ hi) : ∀ j, j < N → lo ≤ up2 F k q v k j ∧ up2 F k q v k j ≤ hi := by
  intro j hj
  by_cases e : j = q
  · subst e; rw [up2_s]; exact hv
  · rw [up2_n _ _ (Or.inr e)]; exact h j hj
theorem i_and_255 (x : Int) : 0 ≤ i_and x 255 ∧ i_and x 255 ≤ 255 := by
  rw [i_and_comm]
  exact i_and_le (by decide) (by decide) x
theorem l_cmp_ne0 {a : Int} (h : ¬ (l_cmp a 0 + 2147483648) % 4294967296 - 2147483648 = 0) : ¬ w64 a = 0 := by
  have := l_cmp_ne h
  simpa [show w64 0 = 0 from rfl] using this
theorem l_cmp_v (a b : Int) : l_cmp a b = -1 ∧ w64 a < w64 b ∨ l_cmp a b = 0 ∧ w64 a = w64 b ∨ l_cmp a b = 1 ∧ w64 b < w64 a := by
  unfold l_cmp
  by_cases h1 : w64 a < w64 b
  · left; exact ⟨if_pos h1, h1⟩
  · by_cases h2 : w64 a = w64 b
    · right; left; exact ⟨by rw [if_neg h1, if_pos h2], h2⟩
    · right; right; exact ⟨by rw [if_neg h1, if_neg h2], by omega⟩
theorem w32_of64 {v : Int} (h : 0 ≤ w64 v) (h2 : w64 v < 2147483648) : w32 v = w64 v := by
  rw [w64_mod] at h h2 ⊢
  rw [w32_mod]
  omega
theorem ww_w32 {X : aX} {pc : Nat} {lv : List (Option aV)} {st : List aV} {I J : aI1} {R : aR1} {S : aS1} {uc us : Nat} {x : Int} (k : WW X pc lv (kI (w32 x) :: st) I J R S uc us) : WW X pc lv (kI x :: st) I J R S uc us := by
  obtain ⟨p, l, e, Rm, s, m, args, below, meth, c, Q, E⟩ := X
  intro H locs ls hP hS hz hl
  have k := k H locs ls hP hS hz hl
  have e : aC E (kI (w32 x)) = aC E (kI x) := by
    show Value.int (Int32.ofInt (Int32.ofInt x).toInt) = Value.int (Int32.ofInt x)
    rw [n_of]
  rw [List.map_cons, e] at k
  exact k
set_option maxHeartbeats 4000000 in
set_option maxRecDepth 20000 in
theorem c_X9_hasRoom (l0 : Launch) {Ia Ja : aI1} {Ra : aR1} {Sa : aS1} (hL : LY Ra Sa) (hI : XI Ia)  : CT l0 0 0 0 mX9_hasRoom [kR (some 8)] Ia Ja Ra Sa (cI (fun x I' J' => Ia = I' ∧ Ja = J' ∧ (x = 0 ∨ x = 1) ∧ (x = 1 ↔ Ia 8 1 ≤ 380)) Ra Sa) := by
  refine ct_in pn_X9 (Nat.le_of_ble_eq_true rfl) (fun X hX hT hIn => ?_)
  have hX : aK l0 X cX9_hasRoom 1 RX9 (some .boolean) 0 0 0 := hX
  change WW X 0 [some (kR (some 8))] [] Ia Ja Ra Sa 0 0
  obtain ⟨hn1, hn2⟩ := hI.1
  obtain ⟨hk1, hk2⟩ := hI.2.1
  obtain ⟨hf1, hf2⟩ := hI.fu
  obtain ⟨hl1, hl2⟩ := hI.2.2.2.2.2.2.1
  refine ww_aload_n hX (pc := 0) dX9_hasRoom_0 rfl ?_
  refine ww_getI hX (pc := 1) fX9_15 (by decide) (xs_8 hL) dX9_hasRoom_1 ?_
  refine ww_sipush hX (pc := 4) (x := 380) dX9_hasRoom_4 (by decide) ?_
  refine ww_icmp_gt hX (pc := 7) (tgt := 14) dX9_hasRoom_7 (by decide) (fun h_7 => ?_) (fun h_7 => ?_)
  · simp only [w32_mod] at h_7
    refine ww_iconst hX (pc := 14) (x := 0) dX9_hasRoom_14 rfl ?_
    refine rZ hX (pc := 15) hT (Nat.le_refl 0) (Nat.le_refl 0) dX9_hasRoom_15 (by decide) ?_
    exact ⟨rfl, rfl, by omega, by omega⟩
  · simp only [w32_mod] at h_7
    refine ww_iconst hX (pc := 10) (x := 1) dX9_hasRoom_10 rfl ?_
    refine ww_goto hX (pc := 11) (tgt := 15) dX9_hasRoom_11 (by decide) ?_
    refine rZ hX (pc := 15) hT (Nat.le_refl 0) (Nat.le_refl 0) dX9_hasRoom_15 (by decide) ?_
    exact ⟨rfl, rfl, by omega, by omega⟩
set_option maxHeartbeats 4000000 in
set_option maxRecDepth 20000 in
theorem c_X9_byteAt (l0 : Launch) {Ia Ja : aI1} {Ra : aR1} {Sa : aS1} (hL : LY Ra Sa) (hI : XI Ia) {a : Int} (ha0 : -2147483648 ≤ a) (ha1 : a < 2147483648)  : CT l0 0 0 0 mX9_byteAt [kR (some 8), kI a] Ia Ja Ra Sa (cI (fun x I' J' => Ia = I' ∧ Ja = J' ∧ (-1 ≤ x ∧ x ≤ 255) ∧ (0 ≤ a ∧ a < Ia 8 1 → x = Ia 9 a.toNat) ∧ (¬ (0 ≤ a ∧ a < Ia 8 1) → x = -1)) Ra Sa) := by
  refine ct_in pn_X9 (Nat.le_of_ble_eq_true rfl) (fun X hX hT hIn => ?_)
  have hX : aK l0 X cX9_byteAt 2 RX9 (some .int) 0 0 0 := hX
  change WW X 0 [some (kR (some 8)), some (kI a)] [] Ia Ja Ra Sa 0 0
  obtain ⟨hn1, hn2⟩ := hI.1
  obtain ⟨hk1, hk2⟩ := hI.2.1
  obtain ⟨hf1, hf2⟩ := hI.fu
  obtain ⟨hl1, hl2⟩ := hI.2.2.2.2.2.2.1
  refine ww_iload_n hX (pc := 0) dX9_byteAt_0 rfl ?_
  refine ww_if_lt hX (pc := 1) (tgt := 21) dX9_byteAt_1 (by decide) (fun h_1 => ?_) (fun h_1 => ?_)
  · simp only [w32_mod] at h_1
    refine ww_iconst hX (pc := 21) (x := (-1)) dX9_byteAt_21 rfl ?_
    refine rI hX (pc := 22) hT (Nat.le_refl 0) (Nat.le_refl 0) dX9_byteAt_22 ?_
    exact ⟨rfl, rfl, by omega, by omega, by omega⟩
  · simp only [w32_mod] at h_1
    refine ww_iload_n hX (pc := 4) dX9_byteAt_4 rfl ?_
    refine ww_aload_n hX (pc := 5) dX9_byteAt_5 rfl ?_
    refine ww_getI hX (pc := 6) fX9_15 (by decide) (xs_8 hL) dX9_byteAt_6 ?_
    refine ww_icmp_ge hX (pc := 9) (tgt := 21) dX9_byteAt_9 (by decide) (fun h_9 => ?_) (fun h_9 => ?_)
    · simp only [w32_mod] at h_9
      refine ww_iconst hX (pc := 21) (x := (-1)) dX9_byteAt_21 rfl ?_
      refine rI hX (pc := 22) hT (Nat.le_refl 0) (Nat.le_refl 0) dX9_byteAt_22 ?_
      exact ⟨rfl, rfl, by omega, by omega, by omega⟩
    · simp only [w32_mod] at h_9
      have hby := hI.2.2.2.2.2.2.2.2.2.2 a.toNat (by omega)
      refine ww_aload_n hX (pc := 12) dX9_byteAt_12 rfl ?_
      refine ww_getR hX (pc := 13) fX9_9 (by decide) (xs_8 hL) (xr_8_0 hL) dX9_byteAt_13 ?_
      refine ww_iload_n hX (pc := 16) dX9_byteAt_16 rfl ?_
      refine ww_iald hX (pc := 17) (xs_9 hL) (by decide) (by omega) (by omega) dX9_byteAt_17 ?_
      refine ww_goto hX (pc := 18) (tgt := 22) dX9_byteAt_18 (by decide) ?_
      refine rI hX (pc := 22) hT (Nat.le_refl 0) (Nat.le_refl 0) dX9_byteAt_22 ?_
      exact ⟨rfl, rfl, by omega, by omega, by omega⟩
set_option maxHeartbeats 4000000 in
set_option maxRecDepth 20000 in
theorem c_X9_spells (l0 : Launch) {Ia Ja : aI1} {Ra : aR1} {Sa : aS1} (hL : LY Ra Sa) (hI : XI Ia) {n : Nat} {a b : Int} (hn : n < 13) (ha0 : 0 ≤ a) (hab : a ≤ b) (hb1 : b < 2147483648)  : CT l0 4 0 0 mX9_spells [kR (some 8), kS n, kI a, kI b] Ia Ja Ra Sa (cI (fun x I' J' => Ia = I' ∧ Ja = J' ∧ (x = 0 ∨ x = 1)) Ra Sa) := by
  refine ct_in pn_X9 (Nat.le_of_ble_eq_true rfl) (fun X hX hT hIn => ?_)
  have hX : aK l0 X cX9_spells 5 RX9 (some .boolean) 4 0 0 := hX
  change WW X 0 [some (kR (some 8)), some (kS n), some (kI a), some (kI b), none] [] Ia Ja Ra Sa 0 0
  obtain ⟨hn1, hn2⟩ := hI.1
  obtain ⟨hk1, hk2⟩ := hI.2.1
  obtain ⟨hf1, hf2⟩ := hI.fu
  obtain ⟨hl1, hl2⟩ := hI.2.2.2.2.2.2.1
  have hsl := strLen_r hn
  refine ww_iload_n hX (pc := 0) dX9_spells_0 rfl ?_
  refine ww_if_lt hX (pc := 1) (tgt := 22) dX9_spells_1 (by decide) (fun h_1 => ?_) (fun h_1 => ?_)
  · simp only [w32_mod] at h_1
    refine ww_iconst hX (pc := 22) (x := 0) dX9_spells_22 rfl ?_
    refine rZ hX (pc := 23) hT (Nat.le_refl 0) (Nat.le_refl 0) dX9_spells_23 (by decide) ?_
    exact ⟨rfl, rfl, by omega⟩
  · simp only [w32_mod] at h_1
    refine ww_iload_n hX (pc := 4) dX9_spells_4 rfl ?_
    refine ww_aload_n hX (pc := 5) dX9_spells_5 rfl ?_
    refine ww_getI hX (pc := 6) fX9_15 (by decide) (xs_8 hL) dX9_spells_6 ?_
    refine ww_icmp_gt hX (pc := 9) (tgt := 22) dX9_spells_9 (by decide) (fun h_9 => ?_) (fun h_9 => ?_)
    · simp only [w32_mod] at h_9
      refine ww_iconst hX (pc := 22) (x := 0) dX9_spells_22 rfl ?_
      refine rZ hX (pc := 23) hT (Nat.le_refl 0) (Nat.le_refl 0) dX9_spells_23 (by decide) ?_
      exact ⟨rfl, rfl, by omega⟩
    · simp only [w32_mod] at h_9
      refine ww_aload_nS hX (pc := 12) dX9_spells_12 rfl ?_
      refine xI0 hX (pc := 13) sX9_19 hn (c_J0_length_8abf5 l0 hn) (by decide) (Nat.le_refl 0) (Nat.le_refl 0) (Nat.le_of_ble_eq_true rfl) dX9_spells_13 (fun x_13 I_13 J_13 h_13 => ?_)
      obtain ⟨rfl, rfl, h_13⟩ := h_13
      refine ww_iload_n hX (pc := 16) dX9_spells_16 rfl ?_
      refine ww_iload_n hX (pc := 17) dX9_spells_17 rfl ?_
      refine ww_isub hX (pc := 18) dX9_spells_18 ?_
      refine ww_icmp_eq hX (pc := 19) (tgt := 24) dX9_spells_19 (by decide) (fun h_19 => ?_) (fun h_19 => ?_)
      · simp only [w32_mod] at h_19
        refine ww_iconst hX (pc := 24) (x := 0) dX9_spells_24 rfl ?_
        refine ww_istore hX (pc := 25) (lv' := [some (kR (some 8)), some (kS n), some (kI a), some (kI b), some (kI 0)]) dX9_spells_25 (by decide) rfl rfl ?_
        have hl_27 : ∀ (n_27 : Nat) (i : Int), (((strLen.getD n 0 : Nat) : Int) - i).toNat = n_27 → (0 ≤ i ∧ i ≤ (strLen.getD n 0 : Nat)) → WW X 27 [some (kR (some 8)), some (kS n), some (kI a), some (kI b), some (kI i)] [] Ia Ja Ra Sa 0 0 := by
          intro n_27
          induction n_27 using Nat.strongRecOn with
          | ind n_27 ih_27 =>
            intro i hm_27 hv_27
            have hq_27 := Sh0_i hm_27
            clear hm_27
            obtain ⟨hi0, hi1⟩ := hv_27
            refine ww_iload hX (pc := 27) dX9_spells_27 rfl ?_
            refine ww_aload_nS hX (pc := 29) dX9_spells_29 rfl ?_
            refine xI0 hX (pc := 30) sX9_19 hn (c_J0_length_8abf5 l0 hn) (by decide) (Nat.le_refl 0) (Nat.le_refl 0) (Nat.le_of_ble_eq_true rfl) dX9_spells_30 (fun x_30 I_30 J_30 h_30 => ?_)
            obtain ⟨rfl, rfl, h_30⟩ := h_30
            refine ww_icmp_ge hX (pc := 33) (tgt := 62) dX9_spells_33 (by decide) (fun h_33 => ?_) (fun h_33 => ?_)
            · simp only [w32_mod] at h_33
              refine ww_iconst hX (pc := 62) (x := 1) dX9_spells_62 rfl ?_
              refine rZ hX (pc := 63) hT (Nat.le_refl 0) (Nat.le_refl 0) dX9_spells_63 (by decide) ?_
              exact ⟨rfl, rfl, by omega⟩
            · simp only [w32_mod] at h_33
              refine ww_aload_n hX (pc := 36) dX9_spells_36 rfl ?_
              refine ww_getR hX (pc := 37) fX9_9 (by decide) (xs_8 hL) (xr_8_0 hL) dX9_spells_37 ?_
              refine ww_iload_n hX (pc := 40) dX9_spells_40 rfl ?_
              refine ww_iload hX (pc := 41) dX9_spells_41 rfl ?_
              refine ww_iadd hX (pc := 43) dX9_spells_43 ?_
              refine ww_iald hX (pc := 44) (xs_9 hL) (by decide) (by omega) (by omega) dX9_spells_44 ?_
              refine ww_aload_nS hX (pc := 45) dX9_spells_45 rfl ?_
              refine ww_iload hX (pc := 46) dX9_spells_46 rfl ?_
              refine xI1 hX (pc := 48) sX9_24 hn (c_J0_charAt_5068e l0 hn (by omega) (by omega)) (by decide) (Nat.le_refl 0) (Nat.le_refl 0) (Nat.le_of_ble_eq_true rfl) dX9_spells_48 (fun x_48 I_48 J_48 h_48 => ?_)
              obtain ⟨rfl, rfl, h_48⟩ := h_48
              refine ww_icmp_eq hX (pc := 51) (tgt := 56) dX9_spells_51 (by decide) (fun h_51 => ?_) (fun h_51 => ?_)
              · simp only [w32_mod] at h_51
                refine ww_iinc hX (pc := 56) (lv' := [some (kR (some 8)), some (kS n), some (kI a), some (kI b), some (kI (i + 1))]) dX9_spells_56 rfl (by decide) rfl rfl ?_
                refine ww_goto hX (pc := 59) (tgt := 27) dX9_spells_59 (by decide) ?_
                exact ih_27 _ (by have hm9 := Sh0_e hq_27; omega) (i + 1) rfl ⟨by omega, by omega⟩
              · simp only [w32_mod] at h_51
                refine ww_iconst hX (pc := 54) (x := 0) dX9_spells_54 rfl ?_
                refine rZ hX (pc := 55) hT (Nat.le_refl 0) (Nat.le_refl 0) dX9_spells_55 (by decide) ?_
                exact ⟨rfl, rfl, by omega⟩
        exact hl_27 _ 0 rfl ⟨by omega, by omega⟩
      · simp only [w32_mod] at h_19
        refine ww_iconst hX (pc := 22) (x := 0) dX9_spells_22 rfl ?_
        refine rZ hX (pc := 23) hT (Nat.le_refl 0) (Nat.le_refl 0) dX9_spells_23 (by decide) ?_
        exact ⟨rfl, rfl, by omega⟩
set_option maxHeartbeats 4000000 in
set_option maxRecDepth 20000 in
theorem c_X0_fillWords (l0 : Launch) {Ia Ja : aI1} {Ra : aR1} {Sa : aS1} (hL : LY Ra Sa) (hI : XI Ia) {a : Int}  : CT l0 1 0 0 mX0_fillWords [kR (some 15), kR (some 1), kI a] Ia Ja Ra Sa (cV (fun I' J' => Kp 15 18 Ia I' ∧ Kp 15 18 Ja J' ∧ True) Ra Sa) := by
  refine ct_in pn_X0 (Nat.le_of_ble_eq_true rfl) (fun X hX hT hIn => ?_)
  have hX : aK l0 X cX0_fillWords 8 RX0 none 1 0 0 := hX
  change WW X 0 [some (kR (some 15)), some (kR (some 1)), some (kI a), none, none, none, none, none] [] Ia Ja Ra Sa 0 0
  obtain ⟨hn1, hn2⟩ := hI.1
  obtain ⟨hk1, hk2⟩ := hI.2.1
  obtain ⟨hf1, hf2⟩ := hI.fu
  refine ww_iconst hX (pc := 0) (x := 0) dX0_fillWords_0 rfl ?_
  refine ww_istore_n hX (pc := 1) (lv' := [some (kR (some 15)), some (kR (some 1)), some (kI a), some (kI 0), none, none, none, none]) dX0_fillWords_1 (by decide) rfl rfl ?_
  refine ww_iconst hX (pc := 2) (x := 0) dX0_fillWords_2 rfl ?_
  refine ww_istore hX (pc := 3) (lv' := [some (kR (some 15)), some (kR (some 1)), some (kI a), some (kI 0), some (kI 0), none, none, none]) dX0_fillWords_3 (by decide) rfl rfl ?_
  refine ww_iconst hX (pc := 5) (x := (-1)) dX0_fillWords_5 rfl ?_
  refine ww_istore hX (pc := 6) (lv' := [some (kR (some 15)), some (kR (some 1)), some (kI a), some (kI 0), some (kI 0), some (kI (-1)), none, none]) dX0_fillWords_6 (by decide) rfl rfl ?_
  refine ww_iconst hX (pc := 8) (x := (-1)) dX0_fillWords_8 rfl ?_
  refine ww_istore hX (pc := 9) (lv' := [some (kR (some 15)), some (kR (some 1)), some (kI a), some (kI 0), some (kI 0), some (kI (-1)), some (kI (-1)), none]) dX0_fillWords_9 (by decide) rfl rfl ?_
  refine ww_iconst hX (pc := 11) (x := 0) dX0_fillWords_11 rfl ?_
  refine ww_istore hX (pc := 12) (lv' := [some (kR (some 15)), some (kR (some 1)), some (kI a), some (kI 0), some (kI 0), some (kI (-1)), some (kI (-1)), some (kI 0)]) dX0_fillWords_12 (by decide) rfl rfl ?_
  have hl_14 : ∀ (n_14 : Nat) (s1 : Int) (s2 : Int) (s3 : Int) (s4 : Int) (la : Int), (Ia 1 5 - la).toNat = n_14 → (0 ≤ la ∧ la ≤ Ia 1 5) → WW X 14 [some (kR (some 15)), some (kR (some 1)), some (kI a), some (kI s1), some (kI s2), some (kI s3), some (kI s4), some (kI la)] [] Ia Ja Ra Sa 0 0 := by
    intro n_14
    induction n_14 using Nat.strongRecOn with
    | ind n_14 ih_14 =>
      intro s1 s2 s3 s4 la hm_14 hv_14
      have hq_14 := Sh0_i hm_14
      clear hm_14
      obtain ⟨hla0, hla1⟩ := hv_14
      refine ww_iload hX (pc := 14) dX0_fillWords_14 rfl ?_
      refine ww_aload_n hX (pc := 16) dX0_fillWords_16 rfl ?_
      refine ww_getI hX (pc := 17) fX0_64 (by decide) (xs_1 hL) dX0_fillWords_17 ?_
      refine ww_icmp_ge hX (pc := 20) (tgt := 74) dX0_fillWords_20 (by decide) (fun h_20 => ?_) (fun h_20 => ?_)
      · simp only [w32_mod] at h_20
        refine ww_aload_n hX (pc := 74) dX0_fillWords_74 rfl ?_
        refine ww_getR hX (pc := 75) fX0_11 (by decide) (xs_15 hL) (xr_15_0 hL) dX0_fillWords_75 ?_
        refine ww_iconst hX (pc := 78) (x := 0) dX0_fillWords_78 rfl ?_
        refine ww_iload_n hX (pc := 79) dX0_fillWords_79 rfl ?_
        refine ww_iast hX (pc := 80) (xs_16 hL) (by decide) (by omega) (by omega) dX0_fillWords_80 ?_
        refine ww_nmH (fun I_80 eI_80 => ?_)
        have kI_80 : Kp 15 18 Ia I_80 := by rw [eI_80]; exact Kp_up (Kp_rf (a := 15) (b := 18)) _ _ (by decide)
        have r1_5_I_80 : I_80 1 5 = Ia 1 5 := Kp_at kI_80 1 5 (by decide)
        have r1_6_I_80 : I_80 1 6 = Ia 1 6 := Kp_at kI_80 1 6 (by decide)
        have rf_I_80 : FU (I_80 1 5) = FU (Ia 1 5) := by rw [r1_5_I_80]
        refine ww_aload_n hX (pc := 81) dX0_fillWords_81 rfl ?_
        refine ww_getR hX (pc := 82) fX0_11 (by decide) (xs_15 hL) (xr_15_0 hL) dX0_fillWords_82 ?_
        refine ww_iconst hX (pc := 85) (x := 1) dX0_fillWords_85 rfl ?_
        refine ww_iload_n hX (pc := 86) dX0_fillWords_86 rfl ?_
        refine sI1 hX (pc := 87) sX0_67 (c_J6_bitCount_0f7a4 l0) (by decide) (Nat.le_refl 0) (Nat.le_refl 0) (Nat.le_of_ble_eq_true rfl) dX0_fillWords_87 (fun x_87 I_87 J_87 h_87 => ?_)
        obtain ⟨rfl, rfl, h_87⟩ := h_87
        refine ww_iast hX (pc := 90) (xs_16 hL) (by decide) (by omega) (by omega) dX0_fillWords_90 ?_
        refine ww_nmH (fun I_90 eI_90 => ?_)
        have kI_90 : Kp 15 18 Ia I_90 := by rw [eI_90]; exact Kp_up kI_80 _ _ (by decide)
        have r1_5_I_90 : I_90 1 5 = Ia 1 5 := Kp_at kI_90 1 5 (by decide)
        have r1_6_I_90 : I_90 1 6 = Ia 1 6 := Kp_at kI_90 1 6 (by decide)
        have rf_I_90 : FU (I_90 1 5) = FU (Ia 1 5) := by rw [r1_5_I_90]
        refine ww_aload_n hX (pc := 91) dX0_fillWords_91 rfl ?_
        refine ww_getR hX (pc := 92) fX0_11 (by decide) (xs_15 hL) (xr_15_0 hL) dX0_fillWords_92 ?_
        refine ww_iconst hX (pc := 95) (x := 2) dX0_fillWords_95 rfl ?_
        refine ww_iload_n hX (pc := 96) dX0_fillWords_96 rfl ?_
        refine ww_iast hX (pc := 97) (xs_16 hL) (by decide) (by omega) (by omega) dX0_fillWords_97 ?_
        refine ww_nmH (fun I_97 eI_97 => ?_)
        have kI_97 : Kp 15 18 Ia I_97 := by rw [eI_97]; exact Kp_up kI_90 _ _ (by decide)
        have r1_5_I_97 : I_97 1 5 = Ia 1 5 := Kp_at kI_97 1 5 (by decide)
        have r1_6_I_97 : I_97 1 6 = Ia 1 6 := Kp_at kI_97 1 6 (by decide)
        have rf_I_97 : FU (I_97 1 5) = FU (Ia 1 5) := by rw [r1_5_I_97]
        refine ww_aload_n hX (pc := 98) dX0_fillWords_98 rfl ?_
        refine ww_getR hX (pc := 99) fX0_11 (by decide) (xs_15 hL) (xr_15_0 hL) dX0_fillWords_99 ?_
        refine ww_iconst hX (pc := 102) (x := 3) dX0_fillWords_102 rfl ?_
        refine ww_iload hX (pc := 103) dX0_fillWords_103 rfl ?_
        refine ww_iast hX (pc := 105) (xs_16 hL) (by decide) (by omega) (by omega) dX0_fillWords_105 ?_
        refine ww_nmH (fun I_105 eI_105 => ?_)
        have kI_105 : Kp 15 18 Ia I_105 := by rw [eI_105]; exact Kp_up kI_97 _ _ (by decide)
        have r1_5_I_105 : I_105 1 5 = Ia 1 5 := Kp_at kI_105 1 5 (by decide)
        have r1_6_I_105 : I_105 1 6 = Ia 1 6 := Kp_at kI_105 1 6 (by decide)
        have rf_I_105 : FU (I_105 1 5) = FU (Ia 1 5) := by rw [r1_5_I_105]
        refine ww_aload_n hX (pc := 106) dX0_fillWords_106 rfl ?_
        refine ww_getR hX (pc := 107) fX0_11 (by decide) (xs_15 hL) (xr_15_0 hL) dX0_fillWords_107 ?_
        refine ww_iconst hX (pc := 110) (x := 4) dX0_fillWords_110 rfl ?_
        refine ww_iload hX (pc := 111) dX0_fillWords_111 rfl ?_
        refine ww_iast hX (pc := 113) (xs_16 hL) (by decide) (by omega) (by omega) dX0_fillWords_113 ?_
        refine ww_nmH (fun I_113 eI_113 => ?_)
        have kI_113 : Kp 15 18 Ia I_113 := by rw [eI_113]; exact Kp_up kI_105 _ _ (by decide)
        have r1_5_I_113 : I_113 1 5 = Ia 1 5 := Kp_at kI_113 1 5 (by decide)
        have r1_6_I_113 : I_113 1 6 = Ia 1 6 := Kp_at kI_113 1 6 (by decide)
        have rf_I_113 : FU (I_113 1 5) = FU (Ia 1 5) := by rw [r1_5_I_113]
        refine ww_aload_n hX (pc := 114) dX0_fillWords_114 rfl ?_
        refine ww_getR hX (pc := 115) fX0_11 (by decide) (xs_15 hL) (xr_15_0 hL) dX0_fillWords_115 ?_
        refine ww_iconst hX (pc := 118) (x := 5) dX0_fillWords_118 rfl ?_
        refine ww_iload hX (pc := 119) dX0_fillWords_119 rfl ?_
        refine ww_iast hX (pc := 121) (xs_16 hL) (by decide) (by omega) (by omega) dX0_fillWords_121 ?_
        refine ww_nmH (fun I_121 eI_121 => ?_)
        have kI_121 : Kp 15 18 Ia I_121 := by rw [eI_121]; exact Kp_up kI_113 _ _ (by decide)
        have r1_5_I_121 : I_121 1 5 = Ia 1 5 := Kp_at kI_121 1 5 (by decide)
        have r1_6_I_121 : I_121 1 6 = Ia 1 6 := Kp_at kI_121 1 6 (by decide)
        have rf_I_121 : FU (I_121 1 5) = FU (Ia 1 5) := by rw [r1_5_I_121]
        refine ww_aload_n hX (pc := 122) dX0_fillWords_122 rfl ?_
        refine ww_getR hX (pc := 123) fX0_11 (by decide) (xs_15 hL) (xr_15_0 hL) dX0_fillWords_123 ?_
        refine ww_bipush hX (pc := 126) (x := 6) dX0_fillWords_126 (by decide) ?_
        refine ww_aload_n hX (pc := 128) dX0_fillWords_128 rfl ?_
        refine ww_getI hX (pc := 129) fX0_64 (by decide) (xs_1 hL) dX0_fillWords_129 ?_
        refine ww_iast hX (pc := 132) (xs_16 hL) (by decide) (by omega) (by omega) dX0_fillWords_132 ?_
        refine ww_nmH (fun I_132 eI_132 => ?_)
        have kI_132 : Kp 15 18 Ia I_132 := by rw [eI_132]; exact Kp_up kI_121 _ _ (by decide)
        have r1_5_I_132 : I_132 1 5 = Ia 1 5 := Kp_at kI_132 1 5 (by decide)
        have r1_6_I_132 : I_132 1 6 = Ia 1 6 := Kp_at kI_132 1 6 (by decide)
        have rf_I_132 : FU (I_132 1 5) = FU (Ia 1 5) := by rw [r1_5_I_132]
        refine ww_aload_n hX (pc := 133) dX0_fillWords_133 rfl ?_
        refine ww_getR hX (pc := 134) fX0_11 (by decide) (xs_15 hL) (xr_15_0 hL) dX0_fillWords_134 ?_
        refine ww_bipush hX (pc := 137) (x := 7) dX0_fillWords_137 (by decide) ?_
        refine ww_aload_n hX (pc := 139) dX0_fillWords_139 rfl ?_
        refine ww_getI hX (pc := 140) fX0_42 (by decide) (xs_1 hL) dX0_fillWords_140 ?_
        refine ww_iast hX (pc := 143) (xs_16 hL) (by decide) (by omega) (by omega) dX0_fillWords_143 ?_
        refine ww_nmH (fun I_143 eI_143 => ?_)
        have kI_143 : Kp 15 18 Ia I_143 := by rw [eI_143]; exact Kp_up kI_132 _ _ (by decide)
        have r1_5_I_143 : I_143 1 5 = Ia 1 5 := Kp_at kI_143 1 5 (by decide)
        have r1_6_I_143 : I_143 1 6 = Ia 1 6 := Kp_at kI_143 1 6 (by decide)
        have rf_I_143 : FU (I_143 1 5) = FU (Ia 1 5) := by rw [r1_5_I_143]
        refine rV hX (pc := 144) hT (Nat.le_refl 0) (Nat.le_refl 0) dX0_fillWords_144 ?_
        exact ⟨kI_143, (Kp_rf (a := 15) (b := 18)), trivial⟩
      · simp only [w32_mod] at h_20
        refine ww_iload_n hX (pc := 23) dX0_fillWords_23 rfl ?_
        refine ww_iload hX (pc := 24) dX0_fillWords_24 rfl ?_
        refine ww_ishr hX (pc := 26) dX0_fillWords_26 ?_
        refine ww_iconst hX (pc := 27) (x := 1) dX0_fillWords_27 rfl ?_
        refine ww_iand hX (pc := 28) dX0_fillWords_28 ?_
        refine ww_iconst hX (pc := 29) (x := 1) dX0_fillWords_29 rfl ?_
        refine ww_icmp_ne hX (pc := 30) (tgt := 68) dX0_fillWords_30 (by decide) (fun h_30 => ?_) (fun h_30 => ?_)
        · simp only [w32_mod] at h_30
          refine ww_iinc hX (pc := 68) (lv' := [some (kR (some 15)), some (kR (some 1)), some (kI a), some (kI s1), some (kI s2), some (kI s3), some (kI s4), some (kI (la + 1))]) dX0_fillWords_68 rfl (by decide) rfl rfl ?_
          refine ww_goto hX (pc := 71) (tgt := 14) dX0_fillWords_71 (by decide) ?_
          exact ih_14 _ (by have hm9 := Sh0_e hq_14; omega) s1 s2 s3 s4 (la + 1) rfl ⟨by omega, by omega⟩
        · simp only [w32_mod] at h_30
          refine ww_iload_n hX (pc := 33) dX0_fillWords_33 rfl ?_
          refine ww_iload hX (pc := 34) dX0_fillWords_34 rfl ?_
          refine ww_iconst hX (pc := 36) (x := 1) dX0_fillWords_36 rfl ?_
          refine ww_iadd hX (pc := 37) dX0_fillWords_37 ?_
          refine ww_iadd hX (pc := 38) dX0_fillWords_38 ?_
          refine ww_nmI (fun v_39 hv_39 => ?_)
          refine ww_istore_n hX (pc := 39) (lv' := [some (kR (some 15)), some (kR (some 1)), some (kI a), some (kI v_39), some (kI s2), some (kI s3), some (kI s4), some (kI la)]) dX0_fillWords_39 (by decide) rfl rfl ?_
          refine ww_iload hX (pc := 40) dX0_fillWords_40 rfl ?_
          refine ww_iload hX (pc := 42) dX0_fillWords_42 rfl ?_
          refine ww_iconst hX (pc := 44) (x := 1) dX0_fillWords_44 rfl ?_
          refine ww_iadd hX (pc := 45) dX0_fillWords_45 ?_
          refine ww_ixor hX (pc := 46) dX0_fillWords_46 ?_
          refine ww_nmI (fun v_47 hv_47 => ?_)
          refine ww_istore hX (pc := 47) (lv' := [some (kR (some 15)), some (kR (some 1)), some (kI a), some (kI v_39), some (kI v_47), some (kI s3), some (kI s4), some (kI la)]) dX0_fillWords_47 (by decide) rfl rfl ?_
          refine ww_iload hX (pc := 49) dX0_fillWords_49 rfl ?_
          refine ww_iconst hX (pc := 51) (x := (-1)) dX0_fillWords_51 rfl ?_
          refine ww_icmp_ne hX (pc := 52) (tgt := 60) dX0_fillWords_52 (by decide) (fun h_52 => ?_) (fun h_52 => ?_)
          · simp only [w32_mod] at h_52
            refine ww_iload hX (pc := 60) dX0_fillWords_60 rfl ?_
            refine ww_istore hX (pc := 62) (lv' := [some (kR (some 15)), some (kR (some 1)), some (kI a), some (kI v_39), some (kI v_47), some (kI s3), some (kI s4), some (kI la)]) dX0_fillWords_62 (by decide) rfl rfl ?_
            refine ww_iload hX (pc := 64) dX0_fillWords_64 rfl ?_
            refine ww_istore hX (pc := 66) (lv' := [some (kR (some 15)), some (kR (some 1)), some (kI a), some (kI v_39), some (kI v_47), some (kI s3), some (kI la), some (kI la)]) dX0_fillWords_66 (by decide) rfl rfl ?_
            refine ww_iinc hX (pc := 68) (lv' := [some (kR (some 15)), some (kR (some 1)), some (kI a), some (kI v_39), some (kI v_47), some (kI s3), some (kI la), some (kI (la + 1))]) dX0_fillWords_68 rfl (by decide) rfl rfl ?_
            refine ww_goto hX (pc := 71) (tgt := 14) dX0_fillWords_71 (by decide) ?_
            exact ih_14 _ (by have hm9 := Sh0_e hq_14; omega) v_39 v_47 s3 la (la + 1) rfl ⟨by omega, by omega⟩
          · simp only [w32_mod] at h_52
            refine ww_iload hX (pc := 55) dX0_fillWords_55 rfl ?_
            refine ww_goto hX (pc := 57) (tgt := 62) dX0_fillWords_57 (by decide) ?_
            refine ww_istore hX (pc := 62) (lv' := [some (kR (some 15)), some (kR (some 1)), some (kI a), some (kI v_39), some (kI v_47), some (kI la), some (kI s4), some (kI la)]) dX0_fillWords_62 (by decide) rfl rfl ?_
            refine ww_iload hX (pc := 64) dX0_fillWords_64 rfl ?_
            refine ww_istore hX (pc := 66) (lv' := [some (kR (some 15)), some (kR (some 1)), some (kI a), some (kI v_39), some (kI v_47), some (kI la), some (kI la), some (kI la)]) dX0_fillWords_66 (by decide) rfl rfl ?_
            refine ww_iinc hX (pc := 68) (lv' := [some (kR (some 15)), some (kR (some 1)), some (kI a), some (kI v_39), some (kI v_47), some (kI la), some (kI la), some (kI (la + 1))]) dX0_fillWords_68 rfl (by decide) rfl rfl ?_
            refine ww_goto hX (pc := 71) (tgt := 14) dX0_fillWords_71 (by decide) ?_
            exact ih_14 _ (by have hm9 := Sh0_e hq_14; omega) v_39 v_47 la la (la + 1) rfl ⟨by omega, by omega⟩
  exact hl_14 _ 0 0 (-1) (-1) 0 rfl ⟨by omega, by omega⟩
set_option maxHeartbeats 4000000 in
set_option maxRecDepth 20000 in
theorem c_X0_join (l0 : Launch) {Ia Ja : aI1} {Ra : aR1} {Sa : aS1} (hL : LY Ra Sa) {a b : Int} (hb0 : 0 ≤ b) (hb1 : b ≤ 62)  : CT l0 0 0 0 mX0_join [kR (some 15), kI a, kI b] Ia Ja Ra Sa (cI (fun x I' J' => Ia = I' ∧ Kp 15 18 Ja J' ∧ (x = 0 ∨ x = 1)) Ra Sa) := by
  refine ct_in pn_X0 (Nat.le_of_ble_eq_true rfl) (fun X hX hT hIn => ?_)
  have hX : aK l0 X cX0_join 9 RX0 (some .boolean) 0 0 0 := hX
  change WW X 0 [some (kR (some 15)), some (kI a), some (kI b), none, none, none, none, none, none] [] Ia Ja Ra Sa 0 0
  refine ww_aload_n hX (pc := 0) dX0_join_0 rfl ?_
  refine ww_getR hX (pc := 1) fX0_17 (by decide) (xs_15 hL) (xr_15_1 hL) dX0_join_1 ?_
  refine ww_iload_n hX (pc := 4) dX0_join_4 rfl ?_
  refine ww_lald hX (pc := 5) (xs_17 hL) (by decide) (by omega) (by omega) dX0_join_5 ?_
  refine ww_nmL (fun v_6 hv_6 => ?_)
  refine ww_lstore_n hX (pc := 6) (lv' := [some (kR (some 15)), some (kI a), some (kI b), some (kL v_6), none, none, none, none, none]) dX0_join_6 (by decide) rfl rfl ?_
  refine ww_aload_n hX (pc := 7) dX0_join_7 rfl ?_
  refine ww_getR hX (pc := 8) fX0_17 (by decide) (xs_15 hL) (xr_15_1 hL) dX0_join_8 ?_
  refine ww_iload_n hX (pc := 11) dX0_join_11 rfl ?_
  refine ww_iconst hX (pc := 12) (x := 1) dX0_join_12 rfl ?_
  refine ww_iadd hX (pc := 13) dX0_join_13 ?_
  refine ww_lald hX (pc := 14) (xs_17 hL) (by decide) (by omega) (by omega) dX0_join_14 ?_
  refine ww_nmL (fun v_15 hv_15 => ?_)
  refine ww_lstore hX (pc := 15) (lv' := [some (kR (some 15)), some (kI a), some (kI b), some (kL v_6), none, some (kL v_15), none, none, none]) dX0_join_15 (by decide) rfl rfl ?_
  refine ww_iload_n hX (pc := 17) dX0_join_17 rfl ?_
  refine ww_bipush hX (pc := 18) (x := (-14)) dX0_join_18 (by decide) ?_
  refine ww_icmp_eq hX (pc := 20) (tgt := 29) dX0_join_20 (by decide) (fun h_20 => ?_) (fun h_20 => ?_)
  · simp only [w32_mod] at h_20
    refine ww_lload hX (pc := 29) dX0_join_29 rfl ?_
    refine ww_lconst hX (pc := 31) (x := 0) dX0_join_31 (by decide) ?_
    refine ww_lcmp hX (pc := 32) dX0_join_32 ?_
    refine ww_if_ne hX (pc := 33) (tgt := 38) dX0_join_33 (by decide) (fun h_33 => ?_) (fun h_33 => ?_)
    · simp only [w32_mod] at h_33
      refine ww_iload_n hX (pc := 38) dX0_join_38 rfl ?_
      refine ww_table hX (pc := 39) dX0_join_39 159 (by decide) (fun h_39 => ?_) (fun i_39 h_39 e_39 => ?_)
      · simp only [w32_mod] at h_39
        refine ww_lload_n hX (pc := 159) dX0_join_159 rfl ?_
        refine ww_lload hX (pc := 160) dX0_join_160 rfl ?_
        refine ww_lcmp hX (pc := 162) dX0_join_162 ?_
        refine ww_if_ne hX (pc := 163) (tgt := 170) dX0_join_163 (by decide) (fun h_163 => ?_) (fun h_163 => ?_)
        · simp only [w32_mod] at h_163
          refine ww_lconst hX (pc := 170) (x := 0) dX0_join_170 (by decide) ?_
          refine ww_lstore hX (pc := 171) (lv' := [some (kR (some 15)), some (kI a), some (kI b), some (kL v_6), none, some (kL v_15), none, some (kL 0), none]) dX0_join_171 (by decide) rfl rfl ?_
          refine ww_aload_n hX (pc := 173) dX0_join_173 rfl ?_
          refine ww_getR hX (pc := 174) fX0_17 (by decide) (xs_15 hL) (xr_15_1 hL) dX0_join_174 ?_
          refine ww_iload_n hX (pc := 177) dX0_join_177 rfl ?_
          refine ww_lload hX (pc := 178) dX0_join_178 rfl ?_
          refine ww_last hX (pc := 180) (xs_17 hL) (by decide) (by omega) (by omega) dX0_join_180 ?_
          refine ww_nmK (fun J_180 eJ_180 => ?_)
          have kJ_180 : Kp 15 18 Ja J_180 := by rw [eJ_180]; exact Kp_up (Kp_rf (a := 15) (b := 18)) _ _ (by decide)
          refine ww_lload hX (pc := 181) dX0_join_181 rfl ?_
          refine ww_ldc2 hX (pc := 183) (x := 1000000000) dX0_join_183 tb_718 ?_
          refine ww_lcmp hX (pc := 186) dX0_join_186 ?_
          refine ww_if_gt hX (pc := 187) (tgt := 203) dX0_join_187 (by decide) (fun h_187 => ?_) (fun h_187 => ?_)
          · simp only [w32_mod] at h_187
            refine ww_iconst hX (pc := 203) (x := 0) dX0_join_203 rfl ?_
            refine rZ hX (pc := 204) hT (Nat.le_refl 0) (Nat.le_refl 0) dX0_join_204 (by decide) ?_
            exact ⟨rfl, kJ_180, by omega⟩
          · simp only [w32_mod] at h_187
            refine ww_lload hX (pc := 190) dX0_join_190 rfl ?_
            refine ww_ldc2 hX (pc := 192) (x := (-1000000000)) dX0_join_192 tb_719 ?_
            refine ww_lcmp hX (pc := 195) dX0_join_195 ?_
            refine ww_if_lt hX (pc := 196) (tgt := 203) dX0_join_196 (by decide) (fun h_196 => ?_) (fun h_196 => ?_)
            · simp only [w32_mod] at h_196
              refine ww_iconst hX (pc := 203) (x := 0) dX0_join_203 rfl ?_
              refine rZ hX (pc := 204) hT (Nat.le_refl 0) (Nat.le_refl 0) dX0_join_204 (by decide) ?_
              exact ⟨rfl, kJ_180, by omega⟩
            · simp only [w32_mod] at h_196
              refine ww_iconst hX (pc := 199) (x := 1) dX0_join_199 rfl ?_
              refine ww_goto hX (pc := 200) (tgt := 204) dX0_join_200 (by decide) ?_
              refine rZ hX (pc := 204) hT (Nat.le_refl 0) (Nat.le_refl 0) dX0_join_204 (by decide) ?_
              exact ⟨rfl, kJ_180, by omega⟩
        · simp only [w32_mod] at h_163
          refine ww_lconst hX (pc := 166) (x := 1) dX0_join_166 (by decide) ?_
          refine ww_goto hX (pc := 167) (tgt := 171) dX0_join_167 (by decide) ?_
          refine ww_lstore hX (pc := 171) (lv' := [some (kR (some 15)), some (kI a), some (kI b), some (kL v_6), none, some (kL v_15), none, some (kL 1), none]) dX0_join_171 (by decide) rfl rfl ?_
          refine ww_aload_n hX (pc := 173) dX0_join_173 rfl ?_
          refine ww_getR hX (pc := 174) fX0_17 (by decide) (xs_15 hL) (xr_15_1 hL) dX0_join_174 ?_
          refine ww_iload_n hX (pc := 177) dX0_join_177 rfl ?_
          refine ww_lload hX (pc := 178) dX0_join_178 rfl ?_
          refine ww_last hX (pc := 180) (xs_17 hL) (by decide) (by omega) (by omega) dX0_join_180 ?_
          refine ww_nmK (fun J_180 eJ_180 => ?_)
          have kJ_180 : Kp 15 18 Ja J_180 := by rw [eJ_180]; exact Kp_up (Kp_rf (a := 15) (b := 18)) _ _ (by decide)
          refine ww_lload hX (pc := 181) dX0_join_181 rfl ?_
          refine ww_ldc2 hX (pc := 183) (x := 1000000000) dX0_join_183 tb_718 ?_
          refine ww_lcmp hX (pc := 186) dX0_join_186 ?_
          refine ww_if_gt hX (pc := 187) (tgt := 203) dX0_join_187 (by decide) (fun h_187 => ?_) (fun h_187 => ?_)
          · simp only [w32_mod] at h_187
            refine ww_iconst hX (pc := 203) (x := 0) dX0_join_203 rfl ?_
            refine rZ hX (pc := 204) hT (Nat.le_refl 0) (Nat.le_refl 0) dX0_join_204 (by decide) ?_
            exact ⟨rfl, kJ_180, by omega⟩
          · simp only [w32_mod] at h_187
            refine ww_lload hX (pc := 190) dX0_join_190 rfl ?_
            refine ww_ldc2 hX (pc := 192) (x := (-1000000000)) dX0_join_192 tb_719 ?_
            refine ww_lcmp hX (pc := 195) dX0_join_195 ?_
            refine ww_if_lt hX (pc := 196) (tgt := 203) dX0_join_196 (by decide) (fun h_196 => ?_) (fun h_196 => ?_)
            · simp only [w32_mod] at h_196
              refine ww_iconst hX (pc := 203) (x := 0) dX0_join_203 rfl ?_
              refine rZ hX (pc := 204) hT (Nat.le_refl 0) (Nat.le_refl 0) dX0_join_204 (by decide) ?_
              exact ⟨rfl, kJ_180, by omega⟩
            · simp only [w32_mod] at h_196
              refine ww_iconst hX (pc := 199) (x := 1) dX0_join_199 rfl ?_
              refine ww_goto hX (pc := 200) (tgt := 204) dX0_join_200 (by decide) ?_
              refine rZ hX (pc := 204) hT (Nat.le_refl 0) (Nat.le_refl 0) dX0_join_204 (by decide) ?_
              exact ⟨rfl, kJ_180, by omega⟩
      · simp only [w32_mod] at e_39
        rcases (show i_39 = 0 ∨ i_39 = 1 ∨ i_39 = 2 ∨ i_39 = 3 ∨ i_39 = 4 ∨ i_39 = 5 ∨ i_39 = 6 by omega) with rfl | rfl | rfl | rfl | rfl | rfl | rfl
        · refine ⟨103, 142, rfl, by decide, ?_⟩
          refine ww_lload_n hX (pc := 142) dX0_join_142 rfl ?_
          refine ww_lload hX (pc := 143) dX0_join_143 rfl ?_
          refine ww_lcmp hX (pc := 145) dX0_join_145 ?_
          refine ww_if_le hX (pc := 146) (tgt := 153) dX0_join_146 (by decide) (fun h_146 => ?_) (fun h_146 => ?_)
          · simp only [w32_mod] at h_146
            refine ww_lconst hX (pc := 153) (x := 0) dX0_join_153 (by decide) ?_
            refine ww_lstore hX (pc := 154) (lv' := [some (kR (some 15)), some (kI a), some (kI b), some (kL v_6), none, some (kL v_15), none, some (kL 0), none]) dX0_join_154 (by decide) rfl rfl ?_
            refine ww_goto hX (pc := 156) (tgt := 173) dX0_join_156 (by decide) ?_
            refine ww_aload_n hX (pc := 173) dX0_join_173 rfl ?_
            refine ww_getR hX (pc := 174) fX0_17 (by decide) (xs_15 hL) (xr_15_1 hL) dX0_join_174 ?_
            refine ww_iload_n hX (pc := 177) dX0_join_177 rfl ?_
            refine ww_lload hX (pc := 178) dX0_join_178 rfl ?_
            refine ww_last hX (pc := 180) (xs_17 hL) (by decide) (by omega) (by omega) dX0_join_180 ?_
            refine ww_nmK (fun J_180 eJ_180 => ?_)
            have kJ_180 : Kp 15 18 Ja J_180 := by rw [eJ_180]; exact Kp_up (Kp_rf (a := 15) (b := 18)) _ _ (by decide)
            refine ww_lload hX (pc := 181) dX0_join_181 rfl ?_
            refine ww_ldc2 hX (pc := 183) (x := 1000000000) dX0_join_183 tb_718 ?_
            refine ww_lcmp hX (pc := 186) dX0_join_186 ?_
            refine ww_if_gt hX (pc := 187) (tgt := 203) dX0_join_187 (by decide) (fun h_187 => ?_) (fun h_187 => ?_)
            · simp only [w32_mod] at h_187
              refine ww_iconst hX (pc := 203) (x := 0) dX0_join_203 rfl ?_
              refine rZ hX (pc := 204) hT (Nat.le_refl 0) (Nat.le_refl 0) dX0_join_204 (by decide) ?_
              exact ⟨rfl, kJ_180, by omega⟩
            · simp only [w32_mod] at h_187
              refine ww_lload hX (pc := 190) dX0_join_190 rfl ?_
              refine ww_ldc2 hX (pc := 192) (x := (-1000000000)) dX0_join_192 tb_719 ?_
              refine ww_lcmp hX (pc := 195) dX0_join_195 ?_
              refine ww_if_lt hX (pc := 196) (tgt := 203) dX0_join_196 (by decide) (fun h_196 => ?_) (fun h_196 => ?_)
              · simp only [w32_mod] at h_196
                refine ww_iconst hX (pc := 203) (x := 0) dX0_join_203 rfl ?_
                refine rZ hX (pc := 204) hT (Nat.le_refl 0) (Nat.le_refl 0) dX0_join_204 (by decide) ?_
                exact ⟨rfl, kJ_180, by omega⟩
              · simp only [w32_mod] at h_196
                refine ww_iconst hX (pc := 199) (x := 1) dX0_join_199 rfl ?_
                refine ww_goto hX (pc := 200) (tgt := 204) dX0_join_200 (by decide) ?_
                refine rZ hX (pc := 204) hT (Nat.le_refl 0) (Nat.le_refl 0) dX0_join_204 (by decide) ?_
                exact ⟨rfl, kJ_180, by omega⟩
          · simp only [w32_mod] at h_146
            refine ww_lconst hX (pc := 149) (x := 1) dX0_join_149 (by decide) ?_
            refine ww_goto hX (pc := 150) (tgt := 154) dX0_join_150 (by decide) ?_
            refine ww_lstore hX (pc := 154) (lv' := [some (kR (some 15)), some (kI a), some (kI b), some (kL v_6), none, some (kL v_15), none, some (kL 1), none]) dX0_join_154 (by decide) rfl rfl ?_
            refine ww_goto hX (pc := 156) (tgt := 173) dX0_join_156 (by decide) ?_
            refine ww_aload_n hX (pc := 173) dX0_join_173 rfl ?_
            refine ww_getR hX (pc := 174) fX0_17 (by decide) (xs_15 hL) (xr_15_1 hL) dX0_join_174 ?_
            refine ww_iload_n hX (pc := 177) dX0_join_177 rfl ?_
            refine ww_lload hX (pc := 178) dX0_join_178 rfl ?_
            refine ww_last hX (pc := 180) (xs_17 hL) (by decide) (by omega) (by omega) dX0_join_180 ?_
            refine ww_nmK (fun J_180 eJ_180 => ?_)
            have kJ_180 : Kp 15 18 Ja J_180 := by rw [eJ_180]; exact Kp_up (Kp_rf (a := 15) (b := 18)) _ _ (by decide)
            refine ww_lload hX (pc := 181) dX0_join_181 rfl ?_
            refine ww_ldc2 hX (pc := 183) (x := 1000000000) dX0_join_183 tb_718 ?_
            refine ww_lcmp hX (pc := 186) dX0_join_186 ?_
            refine ww_if_gt hX (pc := 187) (tgt := 203) dX0_join_187 (by decide) (fun h_187 => ?_) (fun h_187 => ?_)
            · simp only [w32_mod] at h_187
              refine ww_iconst hX (pc := 203) (x := 0) dX0_join_203 rfl ?_
              refine rZ hX (pc := 204) hT (Nat.le_refl 0) (Nat.le_refl 0) dX0_join_204 (by decide) ?_
              exact ⟨rfl, kJ_180, by omega⟩
            · simp only [w32_mod] at h_187
              refine ww_lload hX (pc := 190) dX0_join_190 rfl ?_
              refine ww_ldc2 hX (pc := 192) (x := (-1000000000)) dX0_join_192 tb_719 ?_
              refine ww_lcmp hX (pc := 195) dX0_join_195 ?_
              refine ww_if_lt hX (pc := 196) (tgt := 203) dX0_join_196 (by decide) (fun h_196 => ?_) (fun h_196 => ?_)
              · simp only [w32_mod] at h_196
                refine ww_iconst hX (pc := 203) (x := 0) dX0_join_203 rfl ?_
                refine rZ hX (pc := 204) hT (Nat.le_refl 0) (Nat.le_refl 0) dX0_join_204 (by decide) ?_
                exact ⟨rfl, kJ_180, by omega⟩
              · simp only [w32_mod] at h_196
                refine ww_iconst hX (pc := 199) (x := 1) dX0_join_199 rfl ?_
                refine ww_goto hX (pc := 200) (tgt := 204) dX0_join_200 (by decide) ?_
                refine rZ hX (pc := 204) hT (Nat.le_refl 0) (Nat.le_refl 0) dX0_join_204 (by decide) ?_
                exact ⟨rfl, kJ_180, by omega⟩
        · refine ⟨86, 125, rfl, by decide, ?_⟩
          refine ww_lload_n hX (pc := 125) dX0_join_125 rfl ?_
          refine ww_lload hX (pc := 126) dX0_join_126 rfl ?_
          refine ww_lcmp hX (pc := 128) dX0_join_128 ?_
          refine ww_if_ge hX (pc := 129) (tgt := 136) dX0_join_129 (by decide) (fun h_129 => ?_) (fun h_129 => ?_)
          · simp only [w32_mod] at h_129
            refine ww_lconst hX (pc := 136) (x := 0) dX0_join_136 (by decide) ?_
            refine ww_lstore hX (pc := 137) (lv' := [some (kR (some 15)), some (kI a), some (kI b), some (kL v_6), none, some (kL v_15), none, some (kL 0), none]) dX0_join_137 (by decide) rfl rfl ?_
            refine ww_goto hX (pc := 139) (tgt := 173) dX0_join_139 (by decide) ?_
            refine ww_aload_n hX (pc := 173) dX0_join_173 rfl ?_
            refine ww_getR hX (pc := 174) fX0_17 (by decide) (xs_15 hL) (xr_15_1 hL) dX0_join_174 ?_
            refine ww_iload_n hX (pc := 177) dX0_join_177 rfl ?_
            refine ww_lload hX (pc := 178) dX0_join_178 rfl ?_
            refine ww_last hX (pc := 180) (xs_17 hL) (by decide) (by omega) (by omega) dX0_join_180 ?_
            refine ww_nmK (fun J_180 eJ_180 => ?_)
            have kJ_180 : Kp 15 18 Ja J_180 := by rw [eJ_180]; exact Kp_up (Kp_rf (a := 15) (b := 18)) _ _ (by decide)
            refine ww_lload hX (pc := 181) dX0_join_181 rfl ?_
            refine ww_ldc2 hX (pc := 183) (x := 1000000000) dX0_join_183 tb_718 ?_
            refine ww_lcmp hX (pc := 186) dX0_join_186 ?_
            refine ww_if_gt hX (pc := 187) (tgt := 203) dX0_join_187 (by decide) (fun h_187 => ?_) (fun h_187 => ?_)
            · simp only [w32_mod] at h_187
              refine ww_iconst hX (pc := 203) (x := 0) dX0_join_203 rfl ?_
              refine rZ hX (pc := 204) hT (Nat.le_refl 0) (Nat.le_refl 0) dX0_join_204 (by decide) ?_
              exact ⟨rfl, kJ_180, by omega⟩
            · simp only [w32_mod] at h_187
              refine ww_lload hX (pc := 190) dX0_join_190 rfl ?_
              refine ww_ldc2 hX (pc := 192) (x := (-1000000000)) dX0_join_192 tb_719 ?_
              refine ww_lcmp hX (pc := 195) dX0_join_195 ?_
              refine ww_if_lt hX (pc := 196) (tgt := 203) dX0_join_196 (by decide) (fun h_196 => ?_) (fun h_196 => ?_)
              · simp only [w32_mod] at h_196
                refine ww_iconst hX (pc := 203) (x := 0) dX0_join_203 rfl ?_
                refine rZ hX (pc := 204) hT (Nat.le_refl 0) (Nat.le_refl 0) dX0_join_204 (by decide) ?_
                exact ⟨rfl, kJ_180, by omega⟩
              · simp only [w32_mod] at h_196
                refine ww_iconst hX (pc := 199) (x := 1) dX0_join_199 rfl ?_
                refine ww_goto hX (pc := 200) (tgt := 204) dX0_join_200 (by decide) ?_
                refine rZ hX (pc := 204) hT (Nat.le_refl 0) (Nat.le_refl 0) dX0_join_204 (by decide) ?_
                exact ⟨rfl, kJ_180, by omega⟩
          · simp only [w32_mod] at h_129
            refine ww_lconst hX (pc := 132) (x := 1) dX0_join_132 (by decide) ?_
            refine ww_goto hX (pc := 133) (tgt := 137) dX0_join_133 (by decide) ?_
            refine ww_lstore hX (pc := 137) (lv' := [some (kR (some 15)), some (kI a), some (kI b), some (kL v_6), none, some (kL v_15), none, some (kL 1), none]) dX0_join_137 (by decide) rfl rfl ?_
            refine ww_goto hX (pc := 139) (tgt := 173) dX0_join_139 (by decide) ?_
            refine ww_aload_n hX (pc := 173) dX0_join_173 rfl ?_
            refine ww_getR hX (pc := 174) fX0_17 (by decide) (xs_15 hL) (xr_15_1 hL) dX0_join_174 ?_
            refine ww_iload_n hX (pc := 177) dX0_join_177 rfl ?_
            refine ww_lload hX (pc := 178) dX0_join_178 rfl ?_
            refine ww_last hX (pc := 180) (xs_17 hL) (by decide) (by omega) (by omega) dX0_join_180 ?_
            refine ww_nmK (fun J_180 eJ_180 => ?_)
            have kJ_180 : Kp 15 18 Ja J_180 := by rw [eJ_180]; exact Kp_up (Kp_rf (a := 15) (b := 18)) _ _ (by decide)
            refine ww_lload hX (pc := 181) dX0_join_181 rfl ?_
            refine ww_ldc2 hX (pc := 183) (x := 1000000000) dX0_join_183 tb_718 ?_
            refine ww_lcmp hX (pc := 186) dX0_join_186 ?_
            refine ww_if_gt hX (pc := 187) (tgt := 203) dX0_join_187 (by decide) (fun h_187 => ?_) (fun h_187 => ?_)
            · simp only [w32_mod] at h_187
              refine ww_iconst hX (pc := 203) (x := 0) dX0_join_203 rfl ?_
              refine rZ hX (pc := 204) hT (Nat.le_refl 0) (Nat.le_refl 0) dX0_join_204 (by decide) ?_
              exact ⟨rfl, kJ_180, by omega⟩
            · simp only [w32_mod] at h_187
              refine ww_lload hX (pc := 190) dX0_join_190 rfl ?_
              refine ww_ldc2 hX (pc := 192) (x := (-1000000000)) dX0_join_192 tb_719 ?_
              refine ww_lcmp hX (pc := 195) dX0_join_195 ?_
              refine ww_if_lt hX (pc := 196) (tgt := 203) dX0_join_196 (by decide) (fun h_196 => ?_) (fun h_196 => ?_)
              · simp only [w32_mod] at h_196
                refine ww_iconst hX (pc := 203) (x := 0) dX0_join_203 rfl ?_
                refine rZ hX (pc := 204) hT (Nat.le_refl 0) (Nat.le_refl 0) dX0_join_204 (by decide) ?_
                exact ⟨rfl, kJ_180, by omega⟩
              · simp only [w32_mod] at h_196
                refine ww_iconst hX (pc := 199) (x := 1) dX0_join_199 rfl ?_
                refine ww_goto hX (pc := 200) (tgt := 204) dX0_join_200 (by decide) ?_
                refine rZ hX (pc := 204) hT (Nat.le_refl 0) (Nat.le_refl 0) dX0_join_204 (by decide) ?_
                exact ⟨rfl, kJ_180, by omega⟩
        · refine ⟨77, 116, rfl, by decide, ?_⟩
          refine ww_lload_n hX (pc := 116) dX0_join_116 rfl ?_
          refine ww_lload hX (pc := 117) dX0_join_117 rfl ?_
          refine ww_lrem hX (pc := 119) dX0_join_119 (by first | exact l_cmp_ne0 h_33 | (exfalso; omega)) ?_
          refine ww_nmL (fun v_120 hv_120 => ?_)
          refine ww_lstore hX (pc := 120) (lv' := [some (kR (some 15)), some (kI a), some (kI b), some (kL v_6), none, some (kL v_15), none, some (kL v_120), none]) dX0_join_120 (by decide) rfl rfl ?_
          refine ww_goto hX (pc := 122) (tgt := 173) dX0_join_122 (by decide) ?_
          refine ww_aload_n hX (pc := 173) dX0_join_173 rfl ?_
          refine ww_getR hX (pc := 174) fX0_17 (by decide) (xs_15 hL) (xr_15_1 hL) dX0_join_174 ?_
          refine ww_iload_n hX (pc := 177) dX0_join_177 rfl ?_
          refine ww_lload hX (pc := 178) dX0_join_178 rfl ?_
          refine ww_last hX (pc := 180) (xs_17 hL) (by decide) (by omega) (by omega) dX0_join_180 ?_
          refine ww_nmK (fun J_180 eJ_180 => ?_)
          have kJ_180 : Kp 15 18 Ja J_180 := by rw [eJ_180]; exact Kp_up (Kp_rf (a := 15) (b := 18)) _ _ (by decide)
          refine ww_lload hX (pc := 181) dX0_join_181 rfl ?_
          refine ww_ldc2 hX (pc := 183) (x := 1000000000) dX0_join_183 tb_718 ?_
          refine ww_lcmp hX (pc := 186) dX0_join_186 ?_
          refine ww_if_gt hX (pc := 187) (tgt := 203) dX0_join_187 (by decide) (fun h_187 => ?_) (fun h_187 => ?_)
          · simp only [w32_mod] at h_187
            refine ww_iconst hX (pc := 203) (x := 0) dX0_join_203 rfl ?_
            refine rZ hX (pc := 204) hT (Nat.le_refl 0) (Nat.le_refl 0) dX0_join_204 (by decide) ?_
            exact ⟨rfl, kJ_180, by omega⟩
          · simp only [w32_mod] at h_187
            refine ww_lload hX (pc := 190) dX0_join_190 rfl ?_
            refine ww_ldc2 hX (pc := 192) (x := (-1000000000)) dX0_join_192 tb_719 ?_
            refine ww_lcmp hX (pc := 195) dX0_join_195 ?_
            refine ww_if_lt hX (pc := 196) (tgt := 203) dX0_join_196 (by decide) (fun h_196 => ?_) (fun h_196 => ?_)
            · simp only [w32_mod] at h_196
              refine ww_iconst hX (pc := 203) (x := 0) dX0_join_203 rfl ?_
              refine rZ hX (pc := 204) hT (Nat.le_refl 0) (Nat.le_refl 0) dX0_join_204 (by decide) ?_
              exact ⟨rfl, kJ_180, by omega⟩
            · simp only [w32_mod] at h_196
              refine ww_iconst hX (pc := 199) (x := 1) dX0_join_199 rfl ?_
              refine ww_goto hX (pc := 200) (tgt := 204) dX0_join_200 (by decide) ?_
              refine rZ hX (pc := 204) hT (Nat.le_refl 0) (Nat.le_refl 0) dX0_join_204 (by decide) ?_
              exact ⟨rfl, kJ_180, by omega⟩
        · refine ⟨68, 107, rfl, by decide, ?_⟩
          refine ww_lload_n hX (pc := 107) dX0_join_107 rfl ?_
          refine ww_lload hX (pc := 108) dX0_join_108 rfl ?_
          refine ww_ldiv hX (pc := 110) dX0_join_110 (by first | exact l_cmp_ne0 h_33 | (exfalso; omega)) ?_
          refine ww_nmL (fun v_111 hv_111 => ?_)
          refine ww_lstore hX (pc := 111) (lv' := [some (kR (some 15)), some (kI a), some (kI b), some (kL v_6), none, some (kL v_15), none, some (kL v_111), none]) dX0_join_111 (by decide) rfl rfl ?_
          refine ww_goto hX (pc := 113) (tgt := 173) dX0_join_113 (by decide) ?_
          refine ww_aload_n hX (pc := 173) dX0_join_173 rfl ?_
          refine ww_getR hX (pc := 174) fX0_17 (by decide) (xs_15 hL) (xr_15_1 hL) dX0_join_174 ?_
          refine ww_iload_n hX (pc := 177) dX0_join_177 rfl ?_
          refine ww_lload hX (pc := 178) dX0_join_178 rfl ?_
          refine ww_last hX (pc := 180) (xs_17 hL) (by decide) (by omega) (by omega) dX0_join_180 ?_
          refine ww_nmK (fun J_180 eJ_180 => ?_)
          have kJ_180 : Kp 15 18 Ja J_180 := by rw [eJ_180]; exact Kp_up (Kp_rf (a := 15) (b := 18)) _ _ (by decide)
          refine ww_lload hX (pc := 181) dX0_join_181 rfl ?_
          refine ww_ldc2 hX (pc := 183) (x := 1000000000) dX0_join_183 tb_718 ?_
          refine ww_lcmp hX (pc := 186) dX0_join_186 ?_
          refine ww_if_gt hX (pc := 187) (tgt := 203) dX0_join_187 (by decide) (fun h_187 => ?_) (fun h_187 => ?_)
          · simp only [w32_mod] at h_187
            refine ww_iconst hX (pc := 203) (x := 0) dX0_join_203 rfl ?_
            refine rZ hX (pc := 204) hT (Nat.le_refl 0) (Nat.le_refl 0) dX0_join_204 (by decide) ?_
            exact ⟨rfl, kJ_180, by omega⟩
          · simp only [w32_mod] at h_187
            refine ww_lload hX (pc := 190) dX0_join_190 rfl ?_
            refine ww_ldc2 hX (pc := 192) (x := (-1000000000)) dX0_join_192 tb_719 ?_
            refine ww_lcmp hX (pc := 195) dX0_join_195 ?_
            refine ww_if_lt hX (pc := 196) (tgt := 203) dX0_join_196 (by decide) (fun h_196 => ?_) (fun h_196 => ?_)
            · simp only [w32_mod] at h_196
              refine ww_iconst hX (pc := 203) (x := 0) dX0_join_203 rfl ?_
              refine rZ hX (pc := 204) hT (Nat.le_refl 0) (Nat.le_refl 0) dX0_join_204 (by decide) ?_
              exact ⟨rfl, kJ_180, by omega⟩
            · simp only [w32_mod] at h_196
              refine ww_iconst hX (pc := 199) (x := 1) dX0_join_199 rfl ?_
              refine ww_goto hX (pc := 200) (tgt := 204) dX0_join_200 (by decide) ?_
              refine rZ hX (pc := 204) hT (Nat.le_refl 0) (Nat.le_refl 0) dX0_join_204 (by decide) ?_
              exact ⟨rfl, kJ_180, by omega⟩
        · refine ⟨59, 98, rfl, by decide, ?_⟩
          refine ww_lload_n hX (pc := 98) dX0_join_98 rfl ?_
          refine ww_lload hX (pc := 99) dX0_join_99 rfl ?_
          refine ww_lmul hX (pc := 101) dX0_join_101 ?_
          refine ww_nmL (fun v_102 hv_102 => ?_)
          refine ww_lstore hX (pc := 102) (lv' := [some (kR (some 15)), some (kI a), some (kI b), some (kL v_6), none, some (kL v_15), none, some (kL v_102), none]) dX0_join_102 (by decide) rfl rfl ?_
          refine ww_goto hX (pc := 104) (tgt := 173) dX0_join_104 (by decide) ?_
          refine ww_aload_n hX (pc := 173) dX0_join_173 rfl ?_
          refine ww_getR hX (pc := 174) fX0_17 (by decide) (xs_15 hL) (xr_15_1 hL) dX0_join_174 ?_
          refine ww_iload_n hX (pc := 177) dX0_join_177 rfl ?_
          refine ww_lload hX (pc := 178) dX0_join_178 rfl ?_
          refine ww_last hX (pc := 180) (xs_17 hL) (by decide) (by omega) (by omega) dX0_join_180 ?_
          refine ww_nmK (fun J_180 eJ_180 => ?_)
          have kJ_180 : Kp 15 18 Ja J_180 := by rw [eJ_180]; exact Kp_up (Kp_rf (a := 15) (b := 18)) _ _ (by decide)
          refine ww_lload hX (pc := 181) dX0_join_181 rfl ?_
          refine ww_ldc2 hX (pc := 183) (x := 1000000000) dX0_join_183 tb_718 ?_
          refine ww_lcmp hX (pc := 186) dX0_join_186 ?_
          refine ww_if_gt hX (pc := 187) (tgt := 203) dX0_join_187 (by decide) (fun h_187 => ?_) (fun h_187 => ?_)
          · simp only [w32_mod] at h_187
            refine ww_iconst hX (pc := 203) (x := 0) dX0_join_203 rfl ?_
            refine rZ hX (pc := 204) hT (Nat.le_refl 0) (Nat.le_refl 0) dX0_join_204 (by decide) ?_
            exact ⟨rfl, kJ_180, by omega⟩
          · simp only [w32_mod] at h_187
            refine ww_lload hX (pc := 190) dX0_join_190 rfl ?_
            refine ww_ldc2 hX (pc := 192) (x := (-1000000000)) dX0_join_192 tb_719 ?_
            refine ww_lcmp hX (pc := 195) dX0_join_195 ?_
            refine ww_if_lt hX (pc := 196) (tgt := 203) dX0_join_196 (by decide) (fun h_196 => ?_) (fun h_196 => ?_)
            · simp only [w32_mod] at h_196
              refine ww_iconst hX (pc := 203) (x := 0) dX0_join_203 rfl ?_
              refine rZ hX (pc := 204) hT (Nat.le_refl 0) (Nat.le_refl 0) dX0_join_204 (by decide) ?_
              exact ⟨rfl, kJ_180, by omega⟩
            · simp only [w32_mod] at h_196
              refine ww_iconst hX (pc := 199) (x := 1) dX0_join_199 rfl ?_
              refine ww_goto hX (pc := 200) (tgt := 204) dX0_join_200 (by decide) ?_
              refine rZ hX (pc := 204) hT (Nat.le_refl 0) (Nat.le_refl 0) dX0_join_204 (by decide) ?_
              exact ⟨rfl, kJ_180, by omega⟩
        · refine ⟨50, 89, rfl, by decide, ?_⟩
          refine ww_lload_n hX (pc := 89) dX0_join_89 rfl ?_
          refine ww_lload hX (pc := 90) dX0_join_90 rfl ?_
          refine ww_lsub hX (pc := 92) dX0_join_92 ?_
          refine ww_nmL (fun v_93 hv_93 => ?_)
          refine ww_lstore hX (pc := 93) (lv' := [some (kR (some 15)), some (kI a), some (kI b), some (kL v_6), none, some (kL v_15), none, some (kL v_93), none]) dX0_join_93 (by decide) rfl rfl ?_
          refine ww_goto hX (pc := 95) (tgt := 173) dX0_join_95 (by decide) ?_
          refine ww_aload_n hX (pc := 173) dX0_join_173 rfl ?_
          refine ww_getR hX (pc := 174) fX0_17 (by decide) (xs_15 hL) (xr_15_1 hL) dX0_join_174 ?_
          refine ww_iload_n hX (pc := 177) dX0_join_177 rfl ?_
          refine ww_lload hX (pc := 178) dX0_join_178 rfl ?_
          refine ww_last hX (pc := 180) (xs_17 hL) (by decide) (by omega) (by omega) dX0_join_180 ?_
          refine ww_nmK (fun J_180 eJ_180 => ?_)
          have kJ_180 : Kp 15 18 Ja J_180 := by rw [eJ_180]; exact Kp_up (Kp_rf (a := 15) (b := 18)) _ _ (by decide)
          refine ww_lload hX (pc := 181) dX0_join_181 rfl ?_
          refine ww_ldc2 hX (pc := 183) (x := 1000000000) dX0_join_183 tb_718 ?_
          refine ww_lcmp hX (pc := 186) dX0_join_186 ?_
          refine ww_if_gt hX (pc := 187) (tgt := 203) dX0_join_187 (by decide) (fun h_187 => ?_) (fun h_187 => ?_)
          · simp only [w32_mod] at h_187
            refine ww_iconst hX (pc := 203) (x := 0) dX0_join_203 rfl ?_
            refine rZ hX (pc := 204) hT (Nat.le_refl 0) (Nat.le_refl 0) dX0_join_204 (by decide) ?_
            exact ⟨rfl, kJ_180, by omega⟩
          · simp only [w32_mod] at h_187
            refine ww_lload hX (pc := 190) dX0_join_190 rfl ?_
            refine ww_ldc2 hX (pc := 192) (x := (-1000000000)) dX0_join_192 tb_719 ?_
            refine ww_lcmp hX (pc := 195) dX0_join_195 ?_
            refine ww_if_lt hX (pc := 196) (tgt := 203) dX0_join_196 (by decide) (fun h_196 => ?_) (fun h_196 => ?_)
            · simp only [w32_mod] at h_196
              refine ww_iconst hX (pc := 203) (x := 0) dX0_join_203 rfl ?_
              refine rZ hX (pc := 204) hT (Nat.le_refl 0) (Nat.le_refl 0) dX0_join_204 (by decide) ?_
              exact ⟨rfl, kJ_180, by omega⟩
            · simp only [w32_mod] at h_196
              refine ww_iconst hX (pc := 199) (x := 1) dX0_join_199 rfl ?_
              refine ww_goto hX (pc := 200) (tgt := 204) dX0_join_200 (by decide) ?_
              refine rZ hX (pc := 204) hT (Nat.le_refl 0) (Nat.le_refl 0) dX0_join_204 (by decide) ?_
              exact ⟨rfl, kJ_180, by omega⟩
        · refine ⟨41, 80, rfl, by decide, ?_⟩
          refine ww_lload_n hX (pc := 80) dX0_join_80 rfl ?_
          refine ww_lload hX (pc := 81) dX0_join_81 rfl ?_
          refine ww_ladd hX (pc := 83) dX0_join_83 ?_
          refine ww_nmL (fun v_84 hv_84 => ?_)
          refine ww_lstore hX (pc := 84) (lv' := [some (kR (some 15)), some (kI a), some (kI b), some (kL v_6), none, some (kL v_15), none, some (kL v_84), none]) dX0_join_84 (by decide) rfl rfl ?_
          refine ww_goto hX (pc := 86) (tgt := 173) dX0_join_86 (by decide) ?_
          refine ww_aload_n hX (pc := 173) dX0_join_173 rfl ?_
          refine ww_getR hX (pc := 174) fX0_17 (by decide) (xs_15 hL) (xr_15_1 hL) dX0_join_174 ?_
          refine ww_iload_n hX (pc := 177) dX0_join_177 rfl ?_
          refine ww_lload hX (pc := 178) dX0_join_178 rfl ?_
          refine ww_last hX (pc := 180) (xs_17 hL) (by decide) (by omega) (by omega) dX0_join_180 ?_
          refine ww_nmK (fun J_180 eJ_180 => ?_)
          have kJ_180 : Kp 15 18 Ja J_180 := by rw [eJ_180]; exact Kp_up (Kp_rf (a := 15) (b := 18)) _ _ (by decide)
          refine ww_lload hX (pc := 181) dX0_join_181 rfl ?_
          refine ww_ldc2 hX (pc := 183) (x := 1000000000) dX0_join_183 tb_718 ?_
          refine ww_lcmp hX (pc := 186) dX0_join_186 ?_
          refine ww_if_gt hX (pc := 187) (tgt := 203) dX0_join_187 (by decide) (fun h_187 => ?_) (fun h_187 => ?_)
          · simp only [w32_mod] at h_187
            refine ww_iconst hX (pc := 203) (x := 0) dX0_join_203 rfl ?_
            refine rZ hX (pc := 204) hT (Nat.le_refl 0) (Nat.le_refl 0) dX0_join_204 (by decide) ?_
            exact ⟨rfl, kJ_180, by omega⟩
          · simp only [w32_mod] at h_187
            refine ww_lload hX (pc := 190) dX0_join_190 rfl ?_
            refine ww_ldc2 hX (pc := 192) (x := (-1000000000)) dX0_join_192 tb_719 ?_
            refine ww_lcmp hX (pc := 195) dX0_join_195 ?_
            refine ww_if_lt hX (pc := 196) (tgt := 203) dX0_join_196 (by decide) (fun h_196 => ?_) (fun h_196 => ?_)
            · simp only [w32_mod] at h_196
              refine ww_iconst hX (pc := 203) (x := 0) dX0_join_203 rfl ?_
              refine rZ hX (pc := 204) hT (Nat.le_refl 0) (Nat.le_refl 0) dX0_join_204 (by decide) ?_
              exact ⟨rfl, kJ_180, by omega⟩
            · simp only [w32_mod] at h_196
              refine ww_iconst hX (pc := 199) (x := 1) dX0_join_199 rfl ?_
              refine ww_goto hX (pc := 200) (tgt := 204) dX0_join_200 (by decide) ?_
              refine rZ hX (pc := 204) hT (Nat.le_refl 0) (Nat.le_refl 0) dX0_join_204 (by decide) ?_
              exact ⟨rfl, kJ_180, by omega⟩
    · simp only [w32_mod] at h_33
      refine ww_iconst hX (pc := 36) (x := 0) dX0_join_36 rfl ?_
      refine rZ hX (pc := 37) hT (Nat.le_refl 0) (Nat.le_refl 0) dX0_join_37 (by decide) ?_
      exact ⟨rfl, (Kp_rf (a := 15) (b := 18)), by omega⟩
  · simp only [w32_mod] at h_20
    refine ww_iload_n hX (pc := 23) dX0_join_23 rfl ?_
    refine ww_bipush hX (pc := 24) (x := (-15)) dX0_join_24 (by decide) ?_
    refine ww_icmp_ne hX (pc := 26) (tgt := 38) dX0_join_26 (by decide) (fun h_26 => ?_) (fun h_26 => ?_)
    · simp only [w32_mod] at h_26
      refine ww_iload_n hX (pc := 38) dX0_join_38 rfl ?_
      refine ww_table hX (pc := 39) dX0_join_39 159 (by decide) (fun h_39 => ?_) (fun i_39 h_39 e_39 => ?_)
      · simp only [w32_mod] at h_39
        refine ww_lload_n hX (pc := 159) dX0_join_159 rfl ?_
        refine ww_lload hX (pc := 160) dX0_join_160 rfl ?_
        refine ww_lcmp hX (pc := 162) dX0_join_162 ?_
        refine ww_if_ne hX (pc := 163) (tgt := 170) dX0_join_163 (by decide) (fun h_163 => ?_) (fun h_163 => ?_)
        · simp only [w32_mod] at h_163
          refine ww_lconst hX (pc := 170) (x := 0) dX0_join_170 (by decide) ?_
          refine ww_lstore hX (pc := 171) (lv' := [some (kR (some 15)), some (kI a), some (kI b), some (kL v_6), none, some (kL v_15), none, some (kL 0), none]) dX0_join_171 (by decide) rfl rfl ?_
          refine ww_aload_n hX (pc := 173) dX0_join_173 rfl ?_
          refine ww_getR hX (pc := 174) fX0_17 (by decide) (xs_15 hL) (xr_15_1 hL) dX0_join_174 ?_
          refine ww_iload_n hX (pc := 177) dX0_join_177 rfl ?_
          refine ww_lload hX (pc := 178) dX0_join_178 rfl ?_
          refine ww_last hX (pc := 180) (xs_17 hL) (by decide) (by omega) (by omega) dX0_join_180 ?_
          refine ww_nmK (fun J_180 eJ_180 => ?_)
          have kJ_180 : Kp 15 18 Ja J_180 := by rw [eJ_180]; exact Kp_up (Kp_rf (a := 15) (b := 18)) _ _ (by decide)
          refine ww_lload hX (pc := 181) dX0_join_181 rfl ?_
          refine ww_ldc2 hX (pc := 183) (x := 1000000000) dX0_join_183 tb_718 ?_
          refine ww_lcmp hX (pc := 186) dX0_join_186 ?_
          refine ww_if_gt hX (pc := 187) (tgt := 203) dX0_join_187 (by decide) (fun h_187 => ?_) (fun h_187 => ?_)
          · simp only [w32_mod] at h_187
            refine ww_iconst hX (pc := 203) (x := 0) dX0_join_203 rfl ?_
            refine rZ hX (pc := 204) hT (Nat.le_refl 0) (Nat.le_refl 0) dX0_join_204 (by decide) ?_
            exact ⟨rfl, kJ_180, by omega⟩
          · simp only [w32_mod] at h_187
            refine ww_lload hX (pc := 190) dX0_join_190 rfl ?_
            refine ww_ldc2 hX (pc := 192) (x := (-1000000000)) dX0_join_192 tb_719 ?_
            refine ww_lcmp hX (pc := 195) dX0_join_195 ?_
            refine ww_if_lt hX (pc := 196) (tgt := 203) dX0_join_196 (by decide) (fun h_196 => ?_) (fun h_196 => ?_)
            · simp only [w32_mod] at h_196
              refine ww_iconst hX (pc := 203) (x := 0) dX0_join_203 rfl ?_
              refine rZ hX (pc := 204) hT (Nat.le_refl 0) (Nat.le_refl 0) dX0_join_204 (by decide) ?_
              exact ⟨rfl, kJ_180, by omega⟩
            · simp only [w32_mod] at h_196
              refine ww_iconst hX (pc := 199) (x := 1) dX0_join_199 rfl ?_
              refine ww_goto hX (pc := 200) (tgt := 204) dX0_join_200 (by decide) ?_
              refine rZ hX (pc := 204) hT (Nat.le_refl 0) (Nat.le_refl 0) dX0_join_204 (by decide) ?_
              exact ⟨rfl, kJ_180, by omega⟩
        · simp only [w32_mod] at h_163
          refine ww_lconst hX (pc := 166) (x := 1) dX0_join_166 (by decide) ?_
          refine ww_goto hX (pc := 167) (tgt := 171) dX0_join_167 (by decide) ?_
          refine ww_lstore hX (pc := 171) (lv' := [some (kR (some 15)), some (kI a), some (kI b), some (kL v_6), none, some (kL v_15), none, some (kL 1), none]) dX0_join_171 (by decide) rfl rfl ?_
          refine ww_aload_n hX (pc := 173) dX0_join_173 rfl ?_
          refine ww_getR hX (pc := 174) fX0_17 (by decide) (xs_15 hL) (xr_15_1 hL) dX0_join_174 ?_
          refine ww_iload_n hX (pc := 177) dX0_join_177 rfl ?_
          refine ww_lload hX (pc := 178) dX0_join_178 rfl ?_
          refine ww_last hX (pc := 180) (xs_17 hL) (by decide) (by omega) (by omega) dX0_join_180 ?_
          refine ww_nmK (fun J_180 eJ_180 => ?_)
          have kJ_180 : Kp 15 18 Ja J_180 := by rw [eJ_180]; exact Kp_up (Kp_rf (a := 15) (b := 18)) _ _ (by decide)
          refine ww_lload hX (pc := 181) dX0_join_181 rfl ?_
          refine ww_ldc2 hX (pc := 183) (x := 1000000000) dX0_join_183 tb_718 ?_
          refine ww_lcmp hX (pc := 186) dX0_join_186 ?_
          refine ww_if_gt hX (pc := 187) (tgt := 203) dX0_join_187 (by decide) (fun h_187 => ?_) (fun h_187 => ?_)
          · simp only [w32_mod] at h_187
            refine ww_iconst hX (pc := 203) (x := 0) dX0_join_203 rfl ?_
            refine rZ hX (pc := 204) hT (Nat.le_refl 0) (Nat.le_refl 0) dX0_join_204 (by decide) ?_
            exact ⟨rfl, kJ_180, by omega⟩
          · simp only [w32_mod] at h_187
            refine ww_lload hX (pc := 190) dX0_join_190 rfl ?_
            refine ww_ldc2 hX (pc := 192) (x := (-1000000000)) dX0_join_192 tb_719 ?_
            refine ww_lcmp hX (pc := 195) dX0_join_195 ?_
            refine ww_if_lt hX (pc := 196) (tgt := 203) dX0_join_196 (by decide) (fun h_196 => ?_) (fun h_196 => ?_)
            · simp only [w32_mod] at h_196
              refine ww_iconst hX (pc := 203) (x := 0) dX0_join_203 rfl ?_
              refine rZ hX (pc := 204) hT (Nat.le_refl 0) (Nat.le_refl 0) dX0_join_204 (by decide) ?_
              exact ⟨rfl, kJ_180, by omega⟩
            · simp only [w32_mod] at h_196
              refine ww_iconst hX (pc := 199) (x := 1) dX0_join_199 rfl ?_
              refine ww_goto hX (pc := 200) (tgt := 204) dX0_join_200 (by decide) ?_
              refine rZ hX (pc := 204) hT (Nat.le_refl 0) (Nat.le_refl 0) dX0_join_204 (by decide) ?_
              exact ⟨rfl, kJ_180, by omega⟩
      · simp only [w32_mod] at e_39
        rcases (show i_39 = 0 ∨ i_39 = 1 ∨ i_39 = 2 ∨ i_39 = 3 ∨ i_39 = 4 ∨ i_39 = 5 ∨ i_39 = 6 by omega) with rfl | rfl | rfl | rfl | rfl | rfl | rfl
        · refine ⟨103, 142, rfl, by decide, ?_⟩
          refine ww_lload_n hX (pc := 142) dX0_join_142 rfl ?_
          refine ww_lload hX (pc := 143) dX0_join_143 rfl ?_
          refine ww_lcmp hX (pc := 145) dX0_join_145 ?_
          refine ww_if_le hX (pc := 146) (tgt := 153) dX0_join_146 (by decide) (fun h_146 => ?_) (fun h_146 => ?_)
          · simp only [w32_mod] at h_146
            refine ww_lconst hX (pc := 153) (x := 0) dX0_join_153 (by decide) ?_
            refine ww_lstore hX (pc := 154) (lv' := [some (kR (some 15)), some (kI a), some (kI b), some (kL v_6), none, some (kL v_15), none, some (kL 0), none]) dX0_join_154 (by decide) rfl rfl ?_
            refine ww_goto hX (pc := 156) (tgt := 173) dX0_join_156 (by decide) ?_
            refine ww_aload_n hX (pc := 173) dX0_join_173 rfl ?_
            refine ww_getR hX (pc := 174) fX0_17 (by decide) (xs_15 hL) (xr_15_1 hL) dX0_join_174 ?_
            refine ww_iload_n hX (pc := 177) dX0_join_177 rfl ?_
            refine ww_lload hX (pc := 178) dX0_join_178 rfl ?_
            refine ww_last hX (pc := 180) (xs_17 hL) (by decide) (by omega) (by omega) dX0_join_180 ?_
            refine ww_nmK (fun J_180 eJ_180 => ?_)
            have kJ_180 : Kp 15 18 Ja J_180 := by rw [eJ_180]; exact Kp_up (Kp_rf (a := 15) (b := 18)) _ _ (by decide)
            refine ww_lload hX (pc := 181) dX0_join_181 rfl ?_
            refine ww_ldc2 hX (pc := 183) (x := 1000000000) dX0_join_183 tb_718 ?_
            refine ww_lcmp hX (pc := 186) dX0_join_186 ?_
            refine ww_if_gt hX (pc := 187) (tgt := 203) dX0_join_187 (by decide) (fun h_187 => ?_) (fun h_187 => ?_)
            · simp only [w32_mod] at h_187
              refine ww_iconst hX (pc := 203) (x := 0) dX0_join_203 rfl ?_
              refine rZ hX (pc := 204) hT (Nat.le_refl 0) (Nat.le_refl 0) dX0_join_204 (by decide) ?_
              exact ⟨rfl, kJ_180, by omega⟩
            · simp only [w32_mod] at h_187
              refine ww_lload hX (pc := 190) dX0_join_190 rfl ?_
              refine ww_ldc2 hX (pc := 192) (x := (-1000000000)) dX0_join_192 tb_719 ?_
              refine ww_lcmp hX (pc := 195) dX0_join_195 ?_
              refine ww_if_lt hX (pc := 196) (tgt := 203) dX0_join_196 (by decide) (fun h_196 => ?_) (fun h_196 => ?_)
              · simp only [w32_mod] at h_196
                refine ww_iconst hX (pc := 203) (x := 0) dX0_join_203 rfl ?_
                refine rZ hX (pc := 204) hT (Nat.le_refl 0) (Nat.le_refl 0) dX0_join_204 (by decide) ?_
                exact ⟨rfl, kJ_180, by omega⟩
              · simp only [w32_mod] at h_196
                refine ww_iconst hX (pc := 199) (x := 1) dX0_join_199 rfl ?_
                refine ww_goto hX (pc := 200) (tgt := 204) dX0_join_200 (by decide) ?_
                refine rZ hX (pc := 204) hT (Nat.le_refl 0) (Nat.le_refl 0) dX0_join_204 (by decide) ?_
                exact ⟨rfl, kJ_180, by omega⟩
          · simp only [w32_mod] at h_146
            refine ww_lconst hX (pc := 149) (x := 1) dX0_join_149 (by decide) ?_
            refine ww_goto hX (pc := 150) (tgt := 154) dX0_join_150 (by decide) ?_
            refine ww_lstore hX (pc := 154) (lv' := [some (kR (some 15)), some (kI a), some (kI b), some (kL v_6), none, some (kL v_15), none, some (kL 1), none]) dX0_join_154 (by decide) rfl rfl ?_
            refine ww_goto hX (pc := 156) (tgt := 173) dX0_join_156 (by decide) ?_
            refine ww_aload_n hX (pc := 173) dX0_join_173 rfl ?_
            refine ww_getR hX (pc := 174) fX0_17 (by decide) (xs_15 hL) (xr_15_1 hL) dX0_join_174 ?_
            refine ww_iload_n hX (pc := 177) dX0_join_177 rfl ?_
            refine ww_lload hX (pc := 178) dX0_join_178 rfl ?_
            refine ww_last hX (pc := 180) (xs_17 hL) (by decide) (by omega) (by omega) dX0_join_180 ?_
            refine ww_nmK (fun J_180 eJ_180 => ?_)
            have kJ_180 : Kp 15 18 Ja J_180 := by rw [eJ_180]; exact Kp_up (Kp_rf (a := 15) (b := 18)) _ _ (by decide)
            refine ww_lload hX (pc := 181) dX0_join_181 rfl ?_
            refine ww_ldc2 hX (pc := 183) (x := 1000000000) dX0_join_183 tb_718 ?_
            refine ww_lcmp hX (pc := 186) dX0_join_186 ?_
            refine ww_if_gt hX (pc := 187) (tgt := 203) dX0_join_187 (by decide) (fun h_187 => ?_) (fun h_187 => ?_)
            · simp only [w32_mod] at h_187
              refine ww_iconst hX (pc := 203) (x := 0) dX0_join_203 rfl ?_
              refine rZ hX (pc := 204) hT (Nat.le_refl 0) (Nat.le_refl 0) dX0_join_204 (by decide) ?_
              exact ⟨rfl, kJ_180, by omega⟩
            · simp only [w32_mod] at h_187
              refine ww_lload hX (pc := 190) dX0_join_190 rfl ?_
              refine ww_ldc2 hX (pc := 192) (x := (-1000000000)) dX0_join_192 tb_719 ?_
              refine ww_lcmp hX (pc := 195) dX0_join_195 ?_
              refine ww_if_lt hX (pc := 196) (tgt := 203) dX0_join_196 (by decide) (fun h_196 => ?_) (fun h_196 => ?_)
              · simp only [w32_mod] at h_196
                refine ww_iconst hX (pc := 203) (x := 0) dX0_join_203 rfl ?_
                refine rZ hX (pc := 204) hT (Nat.le_refl 0) (Nat.le_refl 0) dX0_join_204 (by decide) ?_
                exact ⟨rfl, kJ_180, by omega⟩
              · simp only [w32_mod] at h_196
                refine ww_iconst hX (pc := 199) (x := 1) dX0_join_199 rfl ?_
                refine ww_goto hX (pc := 200) (tgt := 204) dX0_join_200 (by decide) ?_
                refine rZ hX (pc := 204) hT (Nat.le_refl 0) (Nat.le_refl 0) dX0_join_204 (by decide) ?_
                exact ⟨rfl, kJ_180, by omega⟩
        · refine ⟨86, 125, rfl, by decide, ?_⟩
          refine ww_lload_n hX (pc := 125) dX0_join_125 rfl ?_
          refine ww_lload hX (pc := 126) dX0_join_126 rfl ?_
          refine ww_lcmp hX (pc := 128) dX0_join_128 ?_
          refine ww_if_ge hX (pc := 129) (tgt := 136) dX0_join_129 (by decide) (fun h_129 => ?_) (fun h_129 => ?_)
          · simp only [w32_mod] at h_129
            refine ww_lconst hX (pc := 136) (x := 0) dX0_join_136 (by decide) ?_
            refine ww_lstore hX (pc := 137) (lv' := [some (kR (some 15)), some (kI a), some (kI b), some (kL v_6), none, some (kL v_15), none, some (kL 0), none]) dX0_join_137 (by decide) rfl rfl ?_
            refine ww_goto hX (pc := 139) (tgt := 173) dX0_join_139 (by decide) ?_
            refine ww_aload_n hX (pc := 173) dX0_join_173 rfl ?_
            refine ww_getR hX (pc := 174) fX0_17 (by decide) (xs_15 hL) (xr_15_1 hL) dX0_join_174 ?_
            refine ww_iload_n hX (pc := 177) dX0_join_177 rfl ?_
            refine ww_lload hX (pc := 178) dX0_join_178 rfl ?_
            refine ww_last hX (pc := 180) (xs_17 hL) (by decide) (by omega) (by omega) dX0_join_180 ?_
            refine ww_nmK (fun J_180 eJ_180 => ?_)
            have kJ_180 : Kp 15 18 Ja J_180 := by rw [eJ_180]; exact Kp_up (Kp_rf (a := 15) (b := 18)) _ _ (by decide)
            refine ww_lload hX (pc := 181) dX0_join_181 rfl ?_
            refine ww_ldc2 hX (pc := 183) (x := 1000000000) dX0_join_183 tb_718 ?_
            refine ww_lcmp hX (pc := 186) dX0_join_186 ?_
            refine ww_if_gt hX (pc := 187) (tgt := 203) dX0_join_187 (by decide) (fun h_187 => ?_) (fun h_187 => ?_)
            · simp only [w32_mod] at h_187
              refine ww_iconst hX (pc := 203) (x := 0) dX0_join_203 rfl ?_
              refine rZ hX (pc := 204) hT (Nat.le_refl 0) (Nat.le_refl 0) dX0_join_204 (by decide) ?_
              exact ⟨rfl, kJ_180, by omega⟩
            · simp only [w32_mod] at h_187
              refine ww_lload hX (pc := 190) dX0_join_190 rfl ?_
              refine ww_ldc2 hX (pc := 192) (x := (-1000000000)) dX0_join_192 tb_719 ?_
              refine ww_lcmp hX (pc := 195) dX0_join_195 ?_
              refine ww_if_lt hX (pc := 196) (tgt := 203) dX0_join_196 (by decide) (fun h_196 => ?_) (fun h_196 => ?_)
              · simp only [w32_mod] at h_196
                refine ww_iconst hX (pc := 203) (x := 0) dX0_join_203 rfl ?_
                refine rZ hX (pc := 204) hT (Nat.le_refl 0) (Nat.le_refl 0) dX0_join_204 (by decide) ?_
                exact ⟨rfl, kJ_180, by omega⟩
              · simp only [w32_mod] at h_196
                refine ww_iconst hX (pc := 199) (x := 1) dX0_join_199 rfl ?_
                refine ww_goto hX (pc := 200) (tgt := 204) dX0_join_200 (by decide) ?_
                refine rZ hX (pc := 204) hT (Nat.le_refl 0) (Nat.le_refl 0) dX0_join_204 (by decide) ?_
                exact ⟨rfl, kJ_180, by omega⟩
          · simp only [w32_mod] at h_129
            refine ww_lconst hX (pc := 132) (x := 1) dX0_join_132 (by decide) ?_
            refine ww_goto hX (pc := 133) (tgt := 137) dX0_join_133 (by decide) ?_
            refine ww_lstore hX (pc := 137) (lv' := [some (kR (some 15)), some (kI a), some (kI b), some (kL v_6), none, some (kL v_15), none, some (kL 1), none]) dX0_join_137 (by decide) rfl rfl ?_
            refine ww_goto hX (pc := 139) (tgt := 173) dX0_join_139 (by decide) ?_
            refine ww_aload_n hX (pc := 173) dX0_join_173 rfl ?_
            refine ww_getR hX (pc := 174) fX0_17 (by decide) (xs_15 hL) (xr_15_1 hL) dX0_join_174 ?_
            refine ww_iload_n hX (pc := 177) dX0_join_177 rfl ?_
            refine ww_lload hX (pc := 178) dX0_join_178 rfl ?_
            refine ww_last hX (pc := 180) (xs_17 hL) (by decide) (by omega) (by omega) dX0_join_180 ?_
            refine ww_nmK (fun J_180 eJ_180 => ?_)
            have kJ_180 : Kp 15 18 Ja J_180 := by rw [eJ_180]; exact Kp_up (Kp_rf (a := 15) (b := 18)) _ _ (by decide)
            refine ww_lload hX (pc := 181) dX0_join_181 rfl ?_
            refine ww_ldc2 hX (pc := 183) (x := 1000000000) dX0_join_183 tb_718 ?_
            refine ww_lcmp hX (pc := 186) dX0_join_186 ?_
            refine ww_if_gt hX (pc := 187) (tgt := 203) dX0_join_187 (by decide) (fun h_187 => ?_) (fun h_187 => ?_)
            · simp only [w32_mod] at h_187
              refine ww_iconst hX (pc := 203) (x := 0) dX0_join_203 rfl ?_
              refine rZ hX (pc := 204) hT (Nat.le_refl 0) (Nat.le_refl 0) dX0_join_204 (by decide) ?_
              exact ⟨rfl, kJ_180, by omega⟩
            · simp only [w32_mod] at h_187
              refine ww_lload hX (pc := 190) dX0_join_190 rfl ?_
              refine ww_ldc2 hX (pc := 192) (x := (-1000000000)) dX0_join_192 tb_719 ?_
              refine ww_lcmp hX (pc := 195) dX0_join_195 ?_
              refine ww_if_lt hX (pc := 196) (tgt := 203) dX0_join_196 (by decide) (fun h_196 => ?_) (fun h_196 => ?_)
              · simp only [w32_mod] at h_196
                refine ww_iconst hX (pc := 203) (x := 0) dX0_join_203 rfl ?_
                refine rZ hX (pc := 204) hT (Nat.le_refl 0) (Nat.le_refl 0) dX0_join_204 (by decide) ?_
                exact ⟨rfl, kJ_180, by omega⟩
              · simp only [w32_mod] at h_196
                refine ww_iconst hX (pc := 199) (x := 1) dX0_join_199 rfl ?_
                refine ww_goto hX (pc := 200) (tgt := 204) dX0_join_200 (by decide) ?_
                refine rZ hX (pc := 204) hT (Nat.le_refl 0) (Nat.le_refl 0) dX0_join_204 (by decide) ?_
                exact ⟨rfl, kJ_180, by omega⟩
        · refine ⟨77, 116, rfl, by decide, ?_⟩
          refine ww_lload_n hX (pc := 116) dX0_join_116 rfl ?_
          refine ww_lload hX (pc := 117) dX0_join_117 rfl ?_
          refine ww_lrem hX (pc := 119) dX0_join_119 (by first | exact l_cmp_ne0 h_33 | (exfalso; omega)) ?_
          refine ww_nmL (fun v_120 hv_120 => ?_)
          refine ww_lstore hX (pc := 120) (lv' := [some (kR (some 15)), some (kI a), some (kI b), some (kL v_6), none, some (kL v_15), none, some (kL v_120), none]) dX0_join_120 (by decide) rfl rfl ?_
          refine ww_goto hX (pc := 122) (tgt := 173) dX0_join_122 (by decide) ?_
          refine ww_aload_n hX (pc := 173) dX0_join_173 rfl ?_
          refine ww_getR hX (pc := 174) fX0_17 (by decide) (xs_15 hL) (xr_15_1 hL) dX0_join_174 ?_
          refine ww_iload_n hX (pc := 177) dX0_join_177 rfl ?_
          refine ww_lload hX (pc := 178) dX0_join_178 rfl ?_
          refine ww_last hX (pc := 180) (xs_17 hL) (by decide) (by omega) (by omega) dX0_join_180 ?_
          refine ww_nmK (fun J_180 eJ_180 => ?_)
          have kJ_180 : Kp 15 18 Ja J_180 := by rw [eJ_180]; exact Kp_up (Kp_rf (a := 15) (b := 18)) _ _ (by decide)
          refine ww_lload hX (pc := 181) dX0_join_181 rfl ?_
          refine ww_ldc2 hX (pc := 183) (x := 1000000000) dX0_join_183 tb_718 ?_
          refine ww_lcmp hX (pc := 186) dX0_join_186 ?_
          refine ww_if_gt hX (pc := 187) (tgt := 203) dX0_join_187 (by decide) (fun h_187 => ?_) (fun h_187 => ?_)
          · simp only [w32_mod] at h_187
            refine ww_iconst hX (pc := 203) (x := 0) dX0_join_203 rfl ?_
            refine rZ hX (pc := 204) hT (Nat.le_refl 0) (Nat.le_refl 0) dX0_join_204 (by decide) ?_
            exact ⟨rfl, kJ_180, by omega⟩
          · simp only [w32_mod] at h_187
            refine ww_lload hX (pc := 190) dX0_join_190 rfl ?_
            refine ww_ldc2 hX (pc := 192) (x := (-1000000000)) dX0_join_192 tb_719 ?_
            refine ww_lcmp hX (pc := 195) dX0_join_195 ?_
            refine ww_if_lt hX (pc := 196) (tgt := 203) dX0_join_196 (by decide) (fun h_196 => ?_) (fun h_196 => ?_)
            · simp only [w32_mod] at h_196
              refine ww_iconst hX (pc := 203) (x := 0) dX0_join_203 rfl ?_
              refine rZ hX (pc := 204) hT (Nat.le_refl 0) (Nat.le_refl 0) dX0_join_204 (by decide) ?_
              exact ⟨rfl, kJ_180, by omega⟩
            · simp only [w32_mod] at h_196
              refine ww_iconst hX (pc := 199) (x := 1) dX0_join_199 rfl ?_
              refine ww_goto hX (pc := 200) (tgt := 204) dX0_join_200 (by decide) ?_
              refine rZ hX (pc := 204) hT (Nat.le_refl 0) (Nat.le_refl 0) dX0_join_204 (by decide) ?_
              exact ⟨rfl, kJ_180, by omega⟩
        · refine ⟨68, 107, rfl, by decide, ?_⟩
          refine ww_lload_n hX (pc := 107) dX0_join_107 rfl ?_
          refine ww_lload hX (pc := 108) dX0_join_108 rfl ?_
          refine ww_ldiv hX (pc := 110) dX0_join_110 (by first | exact l_cmp_ne0 h_33 | (exfalso; omega)) ?_
          refine ww_nmL (fun v_111 hv_111 => ?_)
          refine ww_lstore hX (pc := 111) (lv' := [some (kR (some 15)), some (kI a), some (kI b), some (kL v_6), none, some (kL v_15), none, some (kL v_111), none]) dX0_join_111 (by decide) rfl rfl ?_
          refine ww_goto hX (pc := 113) (tgt := 173) dX0_join_113 (by decide) ?_
          refine ww_aload_n hX (pc := 173) dX0_join_173 rfl ?_
          refine ww_getR hX (pc := 174) fX0_17 (by decide) (xs_15 hL) (xr_15_1 hL) dX0_join_174 ?_
          refine ww_iload_n hX (pc := 177) dX0_join_177 rfl ?_
          refine ww_lload hX (pc := 178) dX0_join_178 rfl ?_
          refine ww_last hX (pc := 180) (xs_17 hL) (by decide) (by omega) (by omega) dX0_join_180 ?_
          refine ww_nmK (fun J_180 eJ_180 => ?_)
          have kJ_180 : Kp 15 18 Ja J_180 := by rw [eJ_180]; exact Kp_up (Kp_rf (a := 15) (b := 18)) _ _ (by decide)
          refine ww_lload hX (pc := 181) dX0_join_181 rfl ?_
          refine ww_ldc2 hX (pc := 183) (x := 1000000000) dX0_join_183 tb_718 ?_
          refine ww_lcmp hX (pc := 186) dX0_join_186 ?_
          refine ww_if_gt hX (pc := 187) (tgt := 203) dX0_join_187 (by decide) (fun h_187 => ?_) (fun h_187 => ?_)
          · simp only [w32_mod] at h_187
            refine ww_iconst hX (pc := 203) (x := 0) dX0_join_203 rfl ?_
            refine rZ hX (pc := 204) hT (Nat.le_refl 0) (Nat.le_refl 0) dX0_join_204 (by decide) ?_
            exact ⟨rfl, kJ_180, by omega⟩
          · simp only [w32_mod] at h_187
            refine ww_lload hX (pc := 190) dX0_join_190 rfl ?_
            refine ww_ldc2 hX (pc := 192) (x := (-1000000000)) dX0_join_192 tb_719 ?_
            refine ww_lcmp hX (pc := 195) dX0_join_195 ?_
            refine ww_if_lt hX (pc := 196) (tgt := 203) dX0_join_196 (by decide) (fun h_196 => ?_) (fun h_196 => ?_)
            · simp only [w32_mod] at h_196
              refine ww_iconst hX (pc := 203) (x := 0) dX0_join_203 rfl ?_
              refine rZ hX (pc := 204) hT (Nat.le_refl 0) (Nat.le_refl 0) dX0_join_204 (by decide) ?_
              exact ⟨rfl, kJ_180, by omega⟩
            · simp only [w32_mod] at h_196
              refine ww_iconst hX (pc := 199) (x := 1) dX0_join_199 rfl ?_
              refine ww_goto hX (pc := 200) (tgt := 204) dX0_join_200 (by decide) ?_
              refine rZ hX (pc := 204) hT (Nat.le_refl 0) (Nat.le_refl 0) dX0_join_204 (by decide) ?_
              exact ⟨rfl, kJ_180, by omega⟩
        · refine ⟨59, 98, rfl, by decide, ?_⟩
          refine ww_lload_n hX (pc := 98) dX0_join_98 rfl ?_
          refine ww_lload hX (pc := 99) dX0_join_99 rfl ?_
          refine ww_lmul hX (pc := 101) dX0_join_101 ?_
          refine ww_nmL (fun v_102 hv_102 => ?_)
          refine ww_lstore hX (pc := 102) (lv' := [some (kR (some 15)), some (kI a), some (kI b), some (kL v_6), none, some (kL v_15), none, some (kL v_102), none]) dX0_join_102 (by decide) rfl rfl ?_
          refine ww_goto hX (pc := 104) (tgt := 173) dX0_join_104 (by decide) ?_
          refine ww_aload_n hX (pc := 173) dX0_join_173 rfl ?_
          refine ww_getR hX (pc := 174) fX0_17 (by decide) (xs_15 hL) (xr_15_1 hL) dX0_join_174 ?_
          refine ww_iload_n hX (pc := 177) dX0_join_177 rfl ?_
          refine ww_lload hX (pc := 178) dX0_join_178 rfl ?_
          refine ww_last hX (pc := 180) (xs_17 hL) (by decide) (by omega) (by omega) dX0_join_180 ?_
          refine ww_nmK (fun J_180 eJ_180 => ?_)
          have kJ_180 : Kp 15 18 Ja J_180 := by rw [eJ_180]; exact Kp_up (Kp_rf (a := 15) (b := 18)) _ _ (by decide)
          refine ww_lload hX (pc := 181) dX0_join_181 rfl ?_
          refine ww_ldc2 hX (pc := 183) (x := 1000000000) dX0_join_183 tb_718 ?_
          refine ww_lcmp hX (pc := 186) dX0_join_186 ?_
          refine ww_if_gt hX (pc := 187) (tgt := 203) dX0_join_187 (by decide) (fun h_187 => ?_) (fun h_187 => ?_)
          · simp only [w32_mod] at h_187
            refine ww_iconst hX (pc := 203) (x := 0) dX0_join_203 rfl ?_
            refine rZ hX (pc := 204) hT (Nat.le_refl 0) (Nat.le_refl 0) dX0_join_204 (by decide) ?_
            exact ⟨rfl, kJ_180, by omega⟩
          · simp only [w32_mod] at h_187
            refine ww_lload hX (pc := 190) dX0_join_190 rfl ?_
            refine ww_ldc2 hX (pc := 192) (x := (-1000000000)) dX0_join_192 tb_719 ?_
            refine ww_lcmp hX (pc := 195) dX0_join_195 ?_
            refine ww_if_lt hX (pc := 196) (tgt := 203) dX0_join_196 (by decide) (fun h_196 => ?_) (fun h_196 => ?_)
            · simp only [w32_mod] at h_196
              refine ww_iconst hX (pc := 203) (x := 0) dX0_join_203 rfl ?_
              refine rZ hX (pc := 204) hT (Nat.le_refl 0) (Nat.le_refl 0) dX0_join_204 (by decide) ?_
              exact ⟨rfl, kJ_180, by omega⟩
            · simp only [w32_mod] at h_196
              refine ww_iconst hX (pc := 199) (x := 1) dX0_join_199 rfl ?_
              refine ww_goto hX (pc := 200) (tgt := 204) dX0_join_200 (by decide) ?_
              refine rZ hX (pc := 204) hT (Nat.le_refl 0) (Nat.le_refl 0) dX0_join_204 (by decide) ?_
              exact ⟨rfl, kJ_180, by omega⟩
        · refine ⟨50, 89, rfl, by decide, ?_⟩
          refine ww_lload_n hX (pc := 89) dX0_join_89 rfl ?_
          refine ww_lload hX (pc := 90) dX0_join_90 rfl ?_
          refine ww_lsub hX (pc := 92) dX0_join_92 ?_
          refine ww_nmL (fun v_93 hv_93 => ?_)
          refine ww_lstore hX (pc := 93) (lv' := [some (kR (some 15)), some (kI a), some (kI b), some (kL v_6), none, some (kL v_15), none, some (kL v_93), none]) dX0_join_93 (by decide) rfl rfl ?_
          refine ww_goto hX (pc := 95) (tgt := 173) dX0_join_95 (by decide) ?_
          refine ww_aload_n hX (pc := 173) dX0_join_173 rfl ?_
          refine ww_getR hX (pc := 174) fX0_17 (by decide) (xs_15 hL) (xr_15_1 hL) dX0_join_174 ?_
          refine ww_iload_n hX (pc := 177) dX0_join_177 rfl ?_
          refine ww_lload hX (pc := 178) dX0_join_178 rfl ?_
          refine ww_last hX (pc := 180) (xs_17 hL) (by decide) (by omega) (by omega) dX0_join_180 ?_
          refine ww_nmK (fun J_180 eJ_180 => ?_)
          have kJ_180 : Kp 15 18 Ja J_180 := by rw [eJ_180]; exact Kp_up (Kp_rf (a := 15) (b := 18)) _ _ (by decide)
          refine ww_lload hX (pc := 181) dX0_join_181 rfl ?_
          refine ww_ldc2 hX (pc := 183) (x := 1000000000) dX0_join_183 tb_718 ?_
          refine ww_lcmp hX (pc := 186) dX0_join_186 ?_
          refine ww_if_gt hX (pc := 187) (tgt := 203) dX0_join_187 (by decide) (fun h_187 => ?_) (fun h_187 => ?_)
          · simp only [w32_mod] at h_187
            refine ww_iconst hX (pc := 203) (x := 0) dX0_join_203 rfl ?_
            refine rZ hX (pc := 204) hT (Nat.le_refl 0) (Nat.le_refl 0) dX0_join_204 (by decide) ?_
            exact ⟨rfl, kJ_180, by omega⟩
          · simp only [w32_mod] at h_187
            refine ww_lload hX (pc := 190) dX0_join_190 rfl ?_
            refine ww_ldc2 hX (pc := 192) (x := (-1000000000)) dX0_join_192 tb_719 ?_
            refine ww_lcmp hX (pc := 195) dX0_join_195 ?_
            refine ww_if_lt hX (pc := 196) (tgt := 203) dX0_join_196 (by decide) (fun h_196 => ?_) (fun h_196 => ?_)
            · simp only [w32_mod] at h_196
              refine ww_iconst hX (pc := 203) (x := 0) dX0_join_203 rfl ?_
              refine rZ hX (pc := 204) hT (Nat.le_refl 0) (Nat.le_refl 0) dX0_join_204 (by decide) ?_
              exact ⟨rfl, kJ_180, by omega⟩
            · simp only [w32_mod] at h_196
              refine ww_iconst hX (pc := 199) (x := 1) dX0_join_199 rfl ?_
              refine ww_goto hX (pc := 200) (tgt := 204) dX0_join_200 (by decide) ?_
              refine rZ hX (pc := 204) hT (Nat.le_refl 0) (Nat.le_refl 0) dX0_join_204 (by decide) ?_
              exact ⟨rfl, kJ_180, by omega⟩
        · refine ⟨41, 80, rfl, by decide, ?_⟩
          refine ww_lload_n hX (pc := 80) dX0_join_80 rfl ?_
          refine ww_lload hX (pc := 81) dX0_join_81 rfl ?_
          refine ww_ladd hX (pc := 83) dX0_join_83 ?_
          refine ww_nmL (fun v_84 hv_84 => ?_)
          refine ww_lstore hX (pc := 84) (lv' := [some (kR (some 15)), some (kI a), some (kI b), some (kL v_6), none, some (kL v_15), none, some (kL v_84), none]) dX0_join_84 (by decide) rfl rfl ?_
          refine ww_goto hX (pc := 86) (tgt := 173) dX0_join_86 (by decide) ?_
          refine ww_aload_n hX (pc := 173) dX0_join_173 rfl ?_
          refine ww_getR hX (pc := 174) fX0_17 (by decide) (xs_15 hL) (xr_15_1 hL) dX0_join_174 ?_
          refine ww_iload_n hX (pc := 177) dX0_join_177 rfl ?_
          refine ww_lload hX (pc := 178) dX0_join_178 rfl ?_
          refine ww_last hX (pc := 180) (xs_17 hL) (by decide) (by omega) (by omega) dX0_join_180 ?_
          refine ww_nmK (fun J_180 eJ_180 => ?_)
          have kJ_180 : Kp 15 18 Ja J_180 := by rw [eJ_180]; exact Kp_up (Kp_rf (a := 15) (b := 18)) _ _ (by decide)
          refine ww_lload hX (pc := 181) dX0_join_181 rfl ?_
          refine ww_ldc2 hX (pc := 183) (x := 1000000000) dX0_join_183 tb_718 ?_
          refine ww_lcmp hX (pc := 186) dX0_join_186 ?_
          refine ww_if_gt hX (pc := 187) (tgt := 203) dX0_join_187 (by decide) (fun h_187 => ?_) (fun h_187 => ?_)
          · simp only [w32_mod] at h_187
            refine ww_iconst hX (pc := 203) (x := 0) dX0_join_203 rfl ?_
            refine rZ hX (pc := 204) hT (Nat.le_refl 0) (Nat.le_refl 0) dX0_join_204 (by decide) ?_
            exact ⟨rfl, kJ_180, by omega⟩
          · simp only [w32_mod] at h_187
            refine ww_lload hX (pc := 190) dX0_join_190 rfl ?_
            refine ww_ldc2 hX (pc := 192) (x := (-1000000000)) dX0_join_192 tb_719 ?_
            refine ww_lcmp hX (pc := 195) dX0_join_195 ?_
            refine ww_if_lt hX (pc := 196) (tgt := 203) dX0_join_196 (by decide) (fun h_196 => ?_) (fun h_196 => ?_)
            · simp only [w32_mod] at h_196
              refine ww_iconst hX (pc := 203) (x := 0) dX0_join_203 rfl ?_
              refine rZ hX (pc := 204) hT (Nat.le_refl 0) (Nat.le_refl 0) dX0_join_204 (by decide) ?_
              exact ⟨rfl, kJ_180, by omega⟩
            · simp only [w32_mod] at h_196
              refine ww_iconst hX (pc := 199) (x := 1) dX0_join_199 rfl ?_
              refine ww_goto hX (pc := 200) (tgt := 204) dX0_join_200 (by decide) ?_
              refine rZ hX (pc := 204) hT (Nat.le_refl 0) (Nat.le_refl 0) dX0_join_204 (by decide) ?_
              exact ⟨rfl, kJ_180, by omega⟩
    · simp only [w32_mod] at h_26
      refine ww_lload hX (pc := 29) dX0_join_29 rfl ?_
      refine ww_lconst hX (pc := 31) (x := 0) dX0_join_31 (by decide) ?_
      refine ww_lcmp hX (pc := 32) dX0_join_32 ?_
      refine ww_if_ne hX (pc := 33) (tgt := 38) dX0_join_33 (by decide) (fun h_33 => ?_) (fun h_33 => ?_)
      · simp only [w32_mod] at h_33
        refine ww_iload_n hX (pc := 38) dX0_join_38 rfl ?_
        refine ww_table hX (pc := 39) dX0_join_39 159 (by decide) (fun h_39 => ?_) (fun i_39 h_39 e_39 => ?_)
        · simp only [w32_mod] at h_39
          refine ww_lload_n hX (pc := 159) dX0_join_159 rfl ?_
          refine ww_lload hX (pc := 160) dX0_join_160 rfl ?_
          refine ww_lcmp hX (pc := 162) dX0_join_162 ?_
          refine ww_if_ne hX (pc := 163) (tgt := 170) dX0_join_163 (by decide) (fun h_163 => ?_) (fun h_163 => ?_)
          · simp only [w32_mod] at h_163
            refine ww_lconst hX (pc := 170) (x := 0) dX0_join_170 (by decide) ?_
            refine ww_lstore hX (pc := 171) (lv' := [some (kR (some 15)), some (kI a), some (kI b), some (kL v_6), none, some (kL v_15), none, some (kL 0), none]) dX0_join_171 (by decide) rfl rfl ?_
            refine ww_aload_n hX (pc := 173) dX0_join_173 rfl ?_
            refine ww_getR hX (pc := 174) fX0_17 (by decide) (xs_15 hL) (xr_15_1 hL) dX0_join_174 ?_
            refine ww_iload_n hX (pc := 177) dX0_join_177 rfl ?_
            refine ww_lload hX (pc := 178) dX0_join_178 rfl ?_
            refine ww_last hX (pc := 180) (xs_17 hL) (by decide) (by omega) (by omega) dX0_join_180 ?_
            refine ww_nmK (fun J_180 eJ_180 => ?_)
            have kJ_180 : Kp 15 18 Ja J_180 := by rw [eJ_180]; exact Kp_up (Kp_rf (a := 15) (b := 18)) _ _ (by decide)
            refine ww_lload hX (pc := 181) dX0_join_181 rfl ?_
            refine ww_ldc2 hX (pc := 183) (x := 1000000000) dX0_join_183 tb_718 ?_
            refine ww_lcmp hX (pc := 186) dX0_join_186 ?_
            refine ww_if_gt hX (pc := 187) (tgt := 203) dX0_join_187 (by decide) (fun h_187 => ?_) (fun h_187 => ?_)
            · simp only [w32_mod] at h_187
              refine ww_iconst hX (pc := 203) (x := 0) dX0_join_203 rfl ?_
              refine rZ hX (pc := 204) hT (Nat.le_refl 0) (Nat.le_refl 0) dX0_join_204 (by decide) ?_
              exact ⟨rfl, kJ_180, by omega⟩
            · simp only [w32_mod] at h_187
              refine ww_lload hX (pc := 190) dX0_join_190 rfl ?_
              refine ww_ldc2 hX (pc := 192) (x := (-1000000000)) dX0_join_192 tb_719 ?_
              refine ww_lcmp hX (pc := 195) dX0_join_195 ?_
              refine ww_if_lt hX (pc := 196) (tgt := 203) dX0_join_196 (by decide) (fun h_196 => ?_) (fun h_196 => ?_)
              · simp only [w32_mod] at h_196
                refine ww_iconst hX (pc := 203) (x := 0) dX0_join_203 rfl ?_
                refine rZ hX (pc := 204) hT (Nat.le_refl 0) (Nat.le_refl 0) dX0_join_204 (by decide) ?_
                exact ⟨rfl, kJ_180, by omega⟩
              · simp only [w32_mod] at h_196
                refine ww_iconst hX (pc := 199) (x := 1) dX0_join_199 rfl ?_
                refine ww_goto hX (pc := 200) (tgt := 204) dX0_join_200 (by decide) ?_
                refine rZ hX (pc := 204) hT (Nat.le_refl 0) (Nat.le_refl 0) dX0_join_204 (by decide) ?_
                exact ⟨rfl, kJ_180, by omega⟩
          · simp only [w32_mod] at h_163
            refine ww_lconst hX (pc := 166) (x := 1) dX0_join_166 (by decide) ?_
            refine ww_goto hX (pc := 167) (tgt := 171) dX0_join_167 (by decide) ?_
            refine ww_lstore hX (pc := 171) (lv' := [some (kR (some 15)), some (kI a), some (kI b), some (kL v_6), none, some (kL v_15), none, some (kL 1), none]) dX0_join_171 (by decide) rfl rfl ?_
            refine ww_aload_n hX (pc := 173) dX0_join_173 rfl ?_
            refine ww_getR hX (pc := 174) fX0_17 (by decide) (xs_15 hL) (xr_15_1 hL) dX0_join_174 ?_
            refine ww_iload_n hX (pc := 177) dX0_join_177 rfl ?_
            refine ww_lload hX (pc := 178) dX0_join_178 rfl ?_
            refine ww_last hX (pc := 180) (xs_17 hL) (by decide) (by omega) (by omega) dX0_join_180 ?_
            refine ww_nmK (fun J_180 eJ_180 => ?_)
            have kJ_180 : Kp 15 18 Ja J_180 := by rw [eJ_180]; exact Kp_up (Kp_rf (a := 15) (b := 18)) _ _ (by decide)
            refine ww_lload hX (pc := 181) dX0_join_181 rfl ?_
            refine ww_ldc2 hX (pc := 183) (x := 1000000000) dX0_join_183 tb_718 ?_
            refine ww_lcmp hX (pc := 186) dX0_join_186 ?_
            refine ww_if_gt hX (pc := 187) (tgt := 203) dX0_join_187 (by decide) (fun h_187 => ?_) (fun h_187 => ?_)
            · simp only [w32_mod] at h_187
              refine ww_iconst hX (pc := 203) (x := 0) dX0_join_203 rfl ?_
              refine rZ hX (pc := 204) hT (Nat.le_refl 0) (Nat.le_refl 0) dX0_join_204 (by decide) ?_
              exact ⟨rfl, kJ_180, by omega⟩
            · simp only [w32_mod] at h_187
              refine ww_lload hX (pc := 190) dX0_join_190 rfl ?_
              refine ww_ldc2 hX (pc := 192) (x := (-1000000000)) dX0_join_192 tb_719 ?_
              refine ww_lcmp hX (pc := 195) dX0_join_195 ?_
              refine ww_if_lt hX (pc := 196) (tgt := 203) dX0_join_196 (by decide) (fun h_196 => ?_) (fun h_196 => ?_)
              · simp only [w32_mod] at h_196
                refine ww_iconst hX (pc := 203) (x := 0) dX0_join_203 rfl ?_
                refine rZ hX (pc := 204) hT (Nat.le_refl 0) (Nat.le_refl 0) dX0_join_204 (by decide) ?_
                exact ⟨rfl, kJ_180, by omega⟩
              · simp only [w32_mod] at h_196
                refine ww_iconst hX (pc := 199) (x := 1) dX0_join_199 rfl ?_
                refine ww_goto hX (pc := 200) (tgt := 204) dX0_join_200 (by decide) ?_
                refine rZ hX (pc := 204) hT (Nat.le_refl 0) (Nat.le_refl 0) dX0_join_204 (by decide) ?_
                exact ⟨rfl, kJ_180, by omega⟩
        · simp only [w32_mod] at e_39
          rcases (show i_39 = 0 ∨ i_39 = 1 ∨ i_39 = 2 ∨ i_39 = 3 ∨ i_39 = 4 ∨ i_39 = 5 ∨ i_39 = 6 by omega) with rfl | rfl | rfl | rfl | rfl | rfl | rfl
          · refine ⟨103, 142, rfl, by decide, ?_⟩
            refine ww_lload_n hX (pc := 142) dX0_join_142 rfl ?_
            refine ww_lload hX (pc := 143) dX0_join_143 rfl ?_
            refine ww_lcmp hX (pc := 145) dX0_join_145 ?_
            refine ww_if_le hX (pc := 146) (tgt := 153) dX0_join_146 (by decide) (fun h_146 => ?_) (fun h_146 => ?_)
            · simp only [w32_mod] at h_146
              refine ww_lconst hX (pc := 153) (x := 0) dX0_join_153 (by decide) ?_
              refine ww_lstore hX (pc := 154) (lv' := [some (kR (some 15)), some (kI a), some (kI b), some (kL v_6), none, some (kL v_15), none, some (kL 0), none]) dX0_join_154 (by decide) rfl rfl ?_
              refine ww_goto hX (pc := 156) (tgt := 173) dX0_join_156 (by decide) ?_
              refine ww_aload_n hX (pc := 173) dX0_join_173 rfl ?_
              refine ww_getR hX (pc := 174) fX0_17 (by decide) (xs_15 hL) (xr_15_1 hL) dX0_join_174 ?_
              refine ww_iload_n hX (pc := 177) dX0_join_177 rfl ?_
              refine ww_lload hX (pc := 178) dX0_join_178 rfl ?_
              refine ww_last hX (pc := 180) (xs_17 hL) (by decide) (by omega) (by omega) dX0_join_180 ?_
              refine ww_nmK (fun J_180 eJ_180 => ?_)
              have kJ_180 : Kp 15 18 Ja J_180 := by rw [eJ_180]; exact Kp_up (Kp_rf (a := 15) (b := 18)) _ _ (by decide)
              refine ww_lload hX (pc := 181) dX0_join_181 rfl ?_
              refine ww_ldc2 hX (pc := 183) (x := 1000000000) dX0_join_183 tb_718 ?_
              refine ww_lcmp hX (pc := 186) dX0_join_186 ?_
              refine ww_if_gt hX (pc := 187) (tgt := 203) dX0_join_187 (by decide) (fun h_187 => ?_) (fun h_187 => ?_)
              · simp only [w32_mod] at h_187
                refine ww_iconst hX (pc := 203) (x := 0) dX0_join_203 rfl ?_
                refine rZ hX (pc := 204) hT (Nat.le_refl 0) (Nat.le_refl 0) dX0_join_204 (by decide) ?_
                exact ⟨rfl, kJ_180, by omega⟩
              · simp only [w32_mod] at h_187
                refine ww_lload hX (pc := 190) dX0_join_190 rfl ?_
                refine ww_ldc2 hX (pc := 192) (x := (-1000000000)) dX0_join_192 tb_719 ?_
                refine ww_lcmp hX (pc := 195) dX0_join_195 ?_
                refine ww_if_lt hX (pc := 196) (tgt := 203) dX0_join_196 (by decide) (fun h_196 => ?_) (fun h_196 => ?_)
                · simp only [w32_mod] at h_196
                  refine ww_iconst hX (pc := 203) (x := 0) dX0_join_203 rfl ?_
                  refine rZ hX (pc := 204) hT (Nat.le_refl 0) (Nat.le_refl 0) dX0_join_204 (by decide) ?_
                  exact ⟨rfl, kJ_180, by omega⟩
                · simp only [w32_mod] at h_196
                  refine ww_iconst hX (pc := 199) (x := 1) dX0_join_199 rfl ?_
                  refine ww_goto hX (pc := 200) (tgt := 204) dX0_join_200 (by decide) ?_
                  refine rZ hX (pc := 204) hT (Nat.le_refl 0) (Nat.le_refl 0) dX0_join_204 (by decide) ?_
                  exact ⟨rfl, kJ_180, by omega⟩
            · simp only [w32_mod] at h_146
              refine ww_lconst hX (pc := 149) (x := 1) dX0_join_149 (by decide) ?_
              refine ww_goto hX (pc := 150) (tgt := 154) dX0_join_150 (by decide) ?_
              refine ww_lstore hX (pc := 154) (lv' := [some (kR (some 15)), some (kI a), some (kI b), some (kL v_6), none, some (kL v_15), none, some (kL 1), none]) dX0_join_154 (by decide) rfl rfl ?_
              refine ww_goto hX (pc := 156) (tgt := 173) dX0_join_156 (by decide) ?_
              refine ww_aload_n hX (pc := 173) dX0_join_173 rfl ?_
              refine ww_getR hX (pc := 174) fX0_17 (by decide) (xs_15 hL) (xr_15_1 hL) dX0_join_174 ?_
              refine ww_iload_n hX (pc := 177) dX0_join_177 rfl ?_
              refine ww_lload hX (pc := 178) dX0_join_178 rfl ?_
              refine ww_last hX (pc := 180) (xs_17 hL) (by decide) (by omega) (by omega) dX0_join_180 ?_
              refine ww_nmK (fun J_180 eJ_180 => ?_)
              have kJ_180 : Kp 15 18 Ja J_180 := by rw [eJ_180]; exact Kp_up (Kp_rf (a := 15) (b := 18)) _ _ (by decide)
              refine ww_lload hX (pc := 181) dX0_join_181 rfl ?_
              refine ww_ldc2 hX (pc := 183) (x := 1000000000) dX0_join_183 tb_718 ?_
              refine ww_lcmp hX (pc := 186) dX0_join_186 ?_
              refine ww_if_gt hX (pc := 187) (tgt := 203) dX0_join_187 (by decide) (fun h_187 => ?_) (fun h_187 => ?_)
              · simp only [w32_mod] at h_187
                refine ww_iconst hX (pc := 203) (x := 0) dX0_join_203 rfl ?_
                refine rZ hX (pc := 204) hT (Nat.le_refl 0) (Nat.le_refl 0) dX0_join_204 (by decide) ?_
                exact ⟨rfl, kJ_180, by omega⟩
              · simp only [w32_mod] at h_187
                refine ww_lload hX (pc := 190) dX0_join_190 rfl ?_
                refine ww_ldc2 hX (pc := 192) (x := (-1000000000)) dX0_join_192 tb_719 ?_
                refine ww_lcmp hX (pc := 195) dX0_join_195 ?_
                refine ww_if_lt hX (pc := 196) (tgt := 203) dX0_join_196 (by decide) (fun h_196 => ?_) (fun h_196 => ?_)
                · simp only [w32_mod] at h_196
                  refine ww_iconst hX (pc := 203) (x := 0) dX0_join_203 rfl ?_
                  refine rZ hX (pc := 204) hT (Nat.le_refl 0) (Nat.le_refl 0) dX0_join_204 (by decide) ?_
                  exact ⟨rfl, kJ_180, by omega⟩
                · simp only [w32_mod] at h_196
                  refine ww_iconst hX (pc := 199) (x := 1) dX0_join_199 rfl ?_
                  refine ww_goto hX (pc := 200) (tgt := 204) dX0_join_200 (by decide) ?_
                  refine rZ hX (pc := 204) hT (Nat.le_refl 0) (Nat.le_refl 0) dX0_join_204 (by decide) ?_
                  exact ⟨rfl, kJ_180, by omega⟩
          · refine ⟨86, 125, rfl, by decide, ?_⟩
            refine ww_lload_n hX (pc := 125) dX0_join_125 rfl ?_
            refine ww_lload hX (pc := 126) dX0_join_126 rfl ?_
            refine ww_lcmp hX (pc := 128) dX0_join_128 ?_
            refine ww_if_ge hX (pc := 129) (tgt := 136) dX0_join_129 (by decide) (fun h_129 => ?_) (fun h_129 => ?_)
            · simp only [w32_mod] at h_129
              refine ww_lconst hX (pc := 136) (x := 0) dX0_join_136 (by decide) ?_
              refine ww_lstore hX (pc := 137) (lv' := [some (kR (some 15)), some (kI a), some (kI b), some (kL v_6), none, some (kL v_15), none, some (kL 0), none]) dX0_join_137 (by decide) rfl rfl ?_
              refine ww_goto hX (pc := 139) (tgt := 173) dX0_join_139 (by decide) ?_
              refine ww_aload_n hX (pc := 173) dX0_join_173 rfl ?_
              refine ww_getR hX (pc := 174) fX0_17 (by decide) (xs_15 hL) (xr_15_1 hL) dX0_join_174 ?_
              refine ww_iload_n hX (pc := 177) dX0_join_177 rfl ?_
              refine ww_lload hX (pc := 178) dX0_join_178 rfl ?_
              refine ww_last hX (pc := 180) (xs_17 hL) (by decide) (by omega) (by omega) dX0_join_180 ?_
              refine ww_nmK (fun J_180 eJ_180 => ?_)
              have kJ_180 : Kp 15 18 Ja J_180 := by rw [eJ_180]; exact Kp_up (Kp_rf (a := 15) (b := 18)) _ _ (by decide)
              refine ww_lload hX (pc := 181) dX0_join_181 rfl ?_
              refine ww_ldc2 hX (pc := 183) (x := 1000000000) dX0_join_183 tb_718 ?_
              refine ww_lcmp hX (pc := 186) dX0_join_186 ?_
              refine ww_if_gt hX (pc := 187) (tgt := 203) dX0_join_187 (by decide) (fun h_187 => ?_) (fun h_187 => ?_)
              · simp only [w32_mod] at h_187
                refine ww_iconst hX (pc := 203) (x := 0) dX0_join_203 rfl ?_
                refine rZ hX (pc := 204) hT (Nat.le_refl 0) (Nat.le_refl 0) dX0_join_204 (by decide) ?_
                exact ⟨rfl, kJ_180, by omega⟩
              · simp only [w32_mod] at h_187
                refine ww_lload hX (pc := 190) dX0_join_190 rfl ?_
                refine ww_ldc2 hX (pc := 192) (x := (-1000000000)) dX0_join_192 tb_719 ?_
                refine ww_lcmp hX (pc := 195) dX0_join_195 ?_
                refine ww_if_lt hX (pc := 196) (tgt := 203) dX0_join_196 (by decide) (fun h_196 => ?_) (fun h_196 => ?_)
                · simp only [w32_mod] at h_196
                  refine ww_iconst hX (pc := 203) (x := 0) dX0_join_203 rfl ?_
                  refine rZ hX (pc := 204) hT (Nat.le_refl 0) (Nat.le_refl 0) dX0_join_204 (by decide) ?_
                  exact ⟨rfl, kJ_180, by omega⟩
                · simp only [w32_mod] at h_196
                  refine ww_iconst hX (pc := 199) (x := 1) dX0_join_199 rfl ?_
                  refine ww_goto hX (pc := 200) (tgt := 204) dX0_join_200 (by decide) ?_
                  refine rZ hX (pc := 204) hT (Nat.le_refl 0) (Nat.le_refl 0) dX0_join_204 (by decide) ?_
                  exact ⟨rfl, kJ_180, by omega⟩
            · simp only [w32_mod] at h_129
              refine ww_lconst hX (pc := 132) (x := 1) dX0_join_132 (by decide) ?_
              refine ww_goto hX (pc := 133) (tgt := 137) dX0_join_133 (by decide) ?_
              refine ww_lstore hX (pc := 137) (lv' := [some (kR (some 15)), some (kI a), some (kI b), some (kL v_6), none, some (kL v_15), none, some (kL 1), none]) dX0_join_137 (by decide) rfl rfl ?_
              refine ww_goto hX (pc := 139) (tgt := 173) dX0_join_139 (by decide) ?_
              refine ww_aload_n hX (pc := 173) dX0_join_173 rfl ?_
              refine ww_getR hX (pc := 174) fX0_17 (by decide) (xs_15 hL) (xr_15_1 hL) dX0_join_174 ?_
              refine ww_iload_n hX (pc := 177) dX0_join_177 rfl ?_
              refine ww_lload hX (pc := 178) dX0_join_178 rfl ?_
              refine ww_last hX (pc := 180) (xs_17 hL) (by decide) (by omega) (by omega) dX0_join_180 ?_
              refine ww_nmK (fun J_180 eJ_180 => ?_)
              have kJ_180 : Kp 15 18 Ja J_180 := by rw [eJ_180]; exact Kp_up (Kp_rf (a := 15) (b := 18)) _ _ (by decide)
              refine ww_lload hX (pc := 181) dX0_join_181 rfl ?_
              refine ww_ldc2 hX (pc := 183) (x := 1000000000) dX0_join_183 tb_718 ?_
              refine ww_lcmp hX (pc := 186) dX0_join_186 ?_
              refine ww_if_gt hX (pc := 187) (tgt := 203) dX0_join_187 (by decide) (fun h_187 => ?_) (fun h_187 => ?_)
              · simp only [w32_mod] at h_187
                refine ww_iconst hX (pc := 203) (x := 0) dX0_join_203 rfl ?_
                refine rZ hX (pc := 204) hT (Nat.le_refl 0) (Nat.le_refl 0) dX0_join_204 (by decide) ?_
                exact ⟨rfl, kJ_180, by omega⟩
              · simp only [w32_mod] at h_187
                refine ww_lload hX (pc := 190) dX0_join_190 rfl ?_
                refine ww_ldc2 hX (pc := 192) (x := (-1000000000)) dX0_join_192 tb_719 ?_
                refine ww_lcmp hX (pc := 195) dX0_join_195 ?_
                refine ww_if_lt hX (pc := 196) (tgt := 203) dX0_join_196 (by decide) (fun h_196 => ?_) (fun h_196 => ?_)
                · simp only [w32_mod] at h_196
                  refine ww_iconst hX (pc := 203) (x := 0) dX0_join_203 rfl ?_
                  refine rZ hX (pc := 204) hT (Nat.le_refl 0) (Nat.le_refl 0) dX0_join_204 (by decide) ?_
                  exact ⟨rfl, kJ_180, by omega⟩
                · simp only [w32_mod] at h_196
                  refine ww_iconst hX (pc := 199) (x := 1) dX0_join_199 rfl ?_
                  refine ww_goto hX (pc := 200) (tgt := 204) dX0_join_200 (by decide) ?_
                  refine rZ hX (pc := 204) hT (Nat.le_refl 0) (Nat.le_refl 0) dX0_join_204 (by decide) ?_
                  exact ⟨rfl, kJ_180, by omega⟩
          · refine ⟨77, 116, rfl, by decide, ?_⟩
            refine ww_lload_n hX (pc := 116) dX0_join_116 rfl ?_
            refine ww_lload hX (pc := 117) dX0_join_117 rfl ?_
            refine ww_lrem hX (pc := 119) dX0_join_119 (by first | exact l_cmp_ne0 h_33 | (exfalso; omega)) ?_
            refine ww_nmL (fun v_120 hv_120 => ?_)
            refine ww_lstore hX (pc := 120) (lv' := [some (kR (some 15)), some (kI a), some (kI b), some (kL v_6), none, some (kL v_15), none, some (kL v_120), none]) dX0_join_120 (by decide) rfl rfl ?_
            refine ww_goto hX (pc := 122) (tgt := 173) dX0_join_122 (by decide) ?_
            refine ww_aload_n hX (pc := 173) dX0_join_173 rfl ?_
            refine ww_getR hX (pc := 174) fX0_17 (by decide) (xs_15 hL) (xr_15_1 hL) dX0_join_174 ?_
            refine ww_iload_n hX (pc := 177) dX0_join_177 rfl ?_
            refine ww_lload hX (pc := 178) dX0_join_178 rfl ?_
            refine ww_last hX (pc := 180) (xs_17 hL) (by decide) (by omega) (by omega) dX0_join_180 ?_
            refine ww_nmK (fun J_180 eJ_180 => ?_)
            have kJ_180 : Kp 15 18 Ja J_180 := by rw [eJ_180]; exact Kp_up (Kp_rf (a := 15) (b := 18)) _ _ (by decide)
            refine ww_lload hX (pc := 181) dX0_join_181 rfl ?_
            refine ww_ldc2 hX (pc := 183) (x := 1000000000) dX0_join_183 tb_718 ?_
            refine ww_lcmp hX (pc := 186) dX0_join_186 ?_
            refine ww_if_gt hX (pc := 187) (tgt := 203) dX0_join_187 (by decide) (fun h_187 => ?_) (fun h_187 => ?_)
            · simp only [w32_mod] at h_187
              refine ww_iconst hX (pc := 203) (x := 0) dX0_join_203 rfl ?_
              refine rZ hX (pc := 204) hT (Nat.le_refl 0) (Nat.le_refl 0) dX0_join_204 (by decide) ?_
              exact ⟨rfl, kJ_180, by omega⟩
            · simp only [w32_mod] at h_187
              refine ww_lload hX (pc := 190) dX0_join_190 rfl ?_
              refine ww_ldc2 hX (pc := 192) (x := (-1000000000)) dX0_join_192 tb_719 ?_
              refine ww_lcmp hX (pc := 195) dX0_join_195 ?_
              refine ww_if_lt hX (pc := 196) (tgt := 203) dX0_join_196 (by decide) (fun h_196 => ?_) (fun h_196 => ?_)
              · simp only [w32_mod] at h_196
                refine ww_iconst hX (pc := 203) (x := 0) dX0_join_203 rfl ?_
                refine rZ hX (pc := 204) hT (Nat.le_refl 0) (Nat.le_refl 0) dX0_join_204 (by decide) ?_
                exact ⟨rfl, kJ_180, by omega⟩
              · simp only [w32_mod] at h_196
                refine ww_iconst hX (pc := 199) (x := 1) dX0_join_199 rfl ?_
                refine ww_goto hX (pc := 200) (tgt := 204) dX0_join_200 (by decide) ?_
                refine rZ hX (pc := 204) hT (Nat.le_refl 0) (Nat.le_refl 0) dX0_join_204 (by decide) ?_
                exact ⟨rfl, kJ_180, by omega⟩
          · refine ⟨68, 107, rfl, by decide, ?_⟩
            refine ww_lload_n hX (pc := 107) dX0_join_107 rfl ?_
            refine ww_lload hX (pc := 108) dX0_join_108 rfl ?_
            refine ww_ldiv hX (pc := 110) dX0_join_110 (by first | exact l_cmp_ne0 h_33 | (exfalso; omega)) ?_
            refine ww_nmL (fun v_111 hv_111 => ?_)
            refine ww_lstore hX (pc := 111) (lv' := [some (kR (some 15)), some (kI a), some (kI b), some (kL v_6), none, some (kL v_15), none, some (kL v_111), none]) dX0_join_111 (by decide) rfl rfl ?_
            refine ww_goto hX (pc := 113) (tgt := 173) dX0_join_113 (by decide) ?_
            refine ww_aload_n hX (pc := 173) dX0_join_173 rfl ?_
            refine ww_getR hX (pc := 174) fX0_17 (by decide) (xs_15 hL) (xr_15_1 hL) dX0_join_174 ?_
            refine ww_iload_n hX (pc := 177) dX0_join_177 rfl ?_
            refine ww_lload hX (pc := 178) dX0_join_178 rfl ?_
            refine ww_last hX (pc := 180) (xs_17 hL) (by decide) (by omega) (by omega) dX0_join_180 ?_
            refine ww_nmK (fun J_180 eJ_180 => ?_)
            have kJ_180 : Kp 15 18 Ja J_180 := by rw [eJ_180]; exact Kp_up (Kp_rf (a := 15) (b := 18)) _ _ (by decide)
            refine ww_lload hX (pc := 181) dX0_join_181 rfl ?_
            refine ww_ldc2 hX (pc := 183) (x := 1000000000) dX0_join_183 tb_718 ?_
            refine ww_lcmp hX (pc := 186) dX0_join_186 ?_
            refine ww_if_gt hX (pc := 187) (tgt := 203) dX0_join_187 (by decide) (fun h_187 => ?_) (fun h_187 => ?_)
            · simp only [w32_mod] at h_187
              refine ww_iconst hX (pc := 203) (x := 0) dX0_join_203 rfl ?_
              refine rZ hX (pc := 204) hT (Nat.le_refl 0) (Nat.le_refl 0) dX0_join_204 (by decide) ?_
              exact ⟨rfl, kJ_180, by omega⟩
            · simp only [w32_mod] at h_187
              refine ww_lload hX (pc := 190) dX0_join_190 rfl ?_
              refine ww_ldc2 hX (pc := 192) (x := (-1000000000)) dX0_join_192 tb_719 ?_
              refine ww_lcmp hX (pc := 195) dX0_join_195 ?_
              refine ww_if_lt hX (pc := 196) (tgt := 203) dX0_join_196 (by decide) (fun h_196 => ?_) (fun h_196 => ?_)
              · simp only [w32_mod] at h_196
                refine ww_iconst hX (pc := 203) (x := 0) dX0_join_203 rfl ?_
                refine rZ hX (pc := 204) hT (Nat.le_refl 0) (Nat.le_refl 0) dX0_join_204 (by decide) ?_
                exact ⟨rfl, kJ_180, by omega⟩
              · simp only [w32_mod] at h_196
                refine ww_iconst hX (pc := 199) (x := 1) dX0_join_199 rfl ?_
                refine ww_goto hX (pc := 200) (tgt := 204) dX0_join_200 (by decide) ?_
                refine rZ hX (pc := 204) hT (Nat.le_refl 0) (Nat.le_refl 0) dX0_join_204 (by decide) ?_
                exact ⟨rfl, kJ_180, by omega⟩
          · refine ⟨59, 98, rfl, by decide, ?_⟩
            refine ww_lload_n hX (pc := 98) dX0_join_98 rfl ?_
            refine ww_lload hX (pc := 99) dX0_join_99 rfl ?_
            refine ww_lmul hX (pc := 101) dX0_join_101 ?_
            refine ww_nmL (fun v_102 hv_102 => ?_)
            refine ww_lstore hX (pc := 102) (lv' := [some (kR (some 15)), some (kI a), some (kI b), some (kL v_6), none, some (kL v_15), none, some (kL v_102), none]) dX0_join_102 (by decide) rfl rfl ?_
            refine ww_goto hX (pc := 104) (tgt := 173) dX0_join_104 (by decide) ?_
            refine ww_aload_n hX (pc := 173) dX0_join_173 rfl ?_
            refine ww_getR hX (pc := 174) fX0_17 (by decide) (xs_15 hL) (xr_15_1 hL) dX0_join_174 ?_
            refine ww_iload_n hX (pc := 177) dX0_join_177 rfl ?_
            refine ww_lload hX (pc := 178) dX0_join_178 rfl ?_
            refine ww_last hX (pc := 180) (xs_17 hL) (by decide) (by omega) (by omega) dX0_join_180 ?_
            refine ww_nmK (fun J_180 eJ_180 => ?_)
            have kJ_180 : Kp 15 18 Ja J_180 := by rw [eJ_180]; exact Kp_up (Kp_rf (a := 15) (b := 18)) _ _ (by decide)
            refine ww_lload hX (pc := 181) dX0_join_181 rfl ?_
            refine ww_ldc2 hX (pc := 183) (x := 1000000000) dX0_join_183 tb_718 ?_
            refine ww_lcmp hX (pc := 186) dX0_join_186 ?_
            refine ww_if_gt hX (pc := 187) (tgt := 203) dX0_join_187 (by decide) (fun h_187 => ?_) (fun h_187 => ?_)
            · simp only [w32_mod] at h_187
              refine ww_iconst hX (pc := 203) (x := 0) dX0_join_203 rfl ?_
              refine rZ hX (pc := 204) hT (Nat.le_refl 0) (Nat.le_refl 0) dX0_join_204 (by decide) ?_
              exact ⟨rfl, kJ_180, by omega⟩
            · simp only [w32_mod] at h_187
              refine ww_lload hX (pc := 190) dX0_join_190 rfl ?_
              refine ww_ldc2 hX (pc := 192) (x := (-1000000000)) dX0_join_192 tb_719 ?_
              refine ww_lcmp hX (pc := 195) dX0_join_195 ?_
              refine ww_if_lt hX (pc := 196) (tgt := 203) dX0_join_196 (by decide) (fun h_196 => ?_) (fun h_196 => ?_)
              · simp only [w32_mod] at h_196
                refine ww_iconst hX (pc := 203) (x := 0) dX0_join_203 rfl ?_
                refine rZ hX (pc := 204) hT (Nat.le_refl 0) (Nat.le_refl 0) dX0_join_204 (by decide) ?_
                exact ⟨rfl, kJ_180, by omega⟩
              · simp only [w32_mod] at h_196
                refine ww_iconst hX (pc := 199) (x := 1) dX0_join_199 rfl ?_
                refine ww_goto hX (pc := 200) (tgt := 204) dX0_join_200 (by decide) ?_
                refine rZ hX (pc := 204) hT (Nat.le_refl 0) (Nat.le_refl 0) dX0_join_204 (by decide) ?_
                exact ⟨rfl, kJ_180, by omega⟩
          · refine ⟨50, 89, rfl, by decide, ?_⟩
            refine ww_lload_n hX (pc := 89) dX0_join_89 rfl ?_
            refine ww_lload hX (pc := 90) dX0_join_90 rfl ?_
            refine ww_lsub hX (pc := 92) dX0_join_92 ?_
            refine ww_nmL (fun v_93 hv_93 => ?_)
            refine ww_lstore hX (pc := 93) (lv' := [some (kR (some 15)), some (kI a), some (kI b), some (kL v_6), none, some (kL v_15), none, some (kL v_93), none]) dX0_join_93 (by decide) rfl rfl ?_
            refine ww_goto hX (pc := 95) (tgt := 173) dX0_join_95 (by decide) ?_
            refine ww_aload_n hX (pc := 173) dX0_join_173 rfl ?_
            refine ww_getR hX (pc := 174) fX0_17 (by decide) (xs_15 hL) (xr_15_1 hL) dX0_join_174 ?_
            refine ww_iload_n hX (pc := 177) dX0_join_177 rfl ?_
            refine ww_lload hX (pc := 178) dX0_join_178 rfl ?_
            refine ww_last hX (pc := 180) (xs_17 hL) (by decide) (by omega) (by omega) dX0_join_180 ?_
            refine ww_nmK (fun J_180 eJ_180 => ?_)
            have kJ_180 : Kp 15 18 Ja J_180 := by rw [eJ_180]; exact Kp_up (Kp_rf (a := 15) (b := 18)) _ _ (by decide)
            refine ww_lload hX (pc := 181) dX0_join_181 rfl ?_
            refine ww_ldc2 hX (pc := 183) (x := 1000000000) dX0_join_183 tb_718 ?_
            refine ww_lcmp hX (pc := 186) dX0_join_186 ?_
            refine ww_if_gt hX (pc := 187) (tgt := 203) dX0_join_187 (by decide) (fun h_187 => ?_) (fun h_187 => ?_)
            · simp only [w32_mod] at h_187
              refine ww_iconst hX (pc := 203) (x := 0) dX0_join_203 rfl ?_
              refine rZ hX (pc := 204) hT (Nat.le_refl 0) (Nat.le_refl 0) dX0_join_204 (by decide) ?_
              exact ⟨rfl, kJ_180, by omega⟩
            · simp only [w32_mod] at h_187
              refine ww_lload hX (pc := 190) dX0_join_190 rfl ?_
              refine ww_ldc2 hX (pc := 192) (x := (-1000000000)) dX0_join_192 tb_719 ?_
              refine ww_lcmp hX (pc := 195) dX0_join_195 ?_
              refine ww_if_lt hX (pc := 196) (tgt := 203) dX0_join_196 (by decide) (fun h_196 => ?_) (fun h_196 => ?_)
              · simp only [w32_mod] at h_196
                refine ww_iconst hX (pc := 203) (x := 0) dX0_join_203 rfl ?_
                refine rZ hX (pc := 204) hT (Nat.le_refl 0) (Nat.le_refl 0) dX0_join_204 (by decide) ?_
                exact ⟨rfl, kJ_180, by omega⟩
              · simp only [w32_mod] at h_196
                refine ww_iconst hX (pc := 199) (x := 1) dX0_join_199 rfl ?_
                refine ww_goto hX (pc := 200) (tgt := 204) dX0_join_200 (by decide) ?_
                refine rZ hX (pc := 204) hT (Nat.le_refl 0) (Nat.le_refl 0) dX0_join_204 (by decide) ?_
                exact ⟨rfl, kJ_180, by omega⟩
          · refine ⟨41, 80, rfl, by decide, ?_⟩
            refine ww_lload_n hX (pc := 80) dX0_join_80 rfl ?_
            refine ww_lload hX (pc := 81) dX0_join_81 rfl ?_
            refine ww_ladd hX (pc := 83) dX0_join_83 ?_
            refine ww_nmL (fun v_84 hv_84 => ?_)
            refine ww_lstore hX (pc := 84) (lv' := [some (kR (some 15)), some (kI a), some (kI b), some (kL v_6), none, some (kL v_15), none, some (kL v_84), none]) dX0_join_84 (by decide) rfl rfl ?_
            refine ww_goto hX (pc := 86) (tgt := 173) dX0_join_86 (by decide) ?_
            refine ww_aload_n hX (pc := 173) dX0_join_173 rfl ?_
            refine ww_getR hX (pc := 174) fX0_17 (by decide) (xs_15 hL) (xr_15_1 hL) dX0_join_174 ?_
            refine ww_iload_n hX (pc := 177) dX0_join_177 rfl ?_
            refine ww_lload hX (pc := 178) dX0_join_178 rfl ?_
            refine ww_last hX (pc := 180) (xs_17 hL) (by decide) (by omega) (by omega) dX0_join_180 ?_
            refine ww_nmK (fun J_180 eJ_180 => ?_)
            have kJ_180 : Kp 15 18 Ja J_180 := by rw [eJ_180]; exact Kp_up (Kp_rf (a := 15) (b := 18)) _ _ (by decide)
            refine ww_lload hX (pc := 181) dX0_join_181 rfl ?_
            refine ww_ldc2 hX (pc := 183) (x := 1000000000) dX0_join_183 tb_718 ?_
            refine ww_lcmp hX (pc := 186) dX0_join_186 ?_
            refine ww_if_gt hX (pc := 187) (tgt := 203) dX0_join_187 (by decide) (fun h_187 => ?_) (fun h_187 => ?_)
            · simp only [w32_mod] at h_187
              refine ww_iconst hX (pc := 203) (x := 0) dX0_join_203 rfl ?_
              refine rZ hX (pc := 204) hT (Nat.le_refl 0) (Nat.le_refl 0) dX0_join_204 (by decide) ?_
              exact ⟨rfl, kJ_180, by omega⟩
            · simp only [w32_mod] at h_187
              refine ww_lload hX (pc := 190) dX0_join_190 rfl ?_
              refine ww_ldc2 hX (pc := 192) (x := (-1000000000)) dX0_join_192 tb_719 ?_
              refine ww_lcmp hX (pc := 195) dX0_join_195 ?_
              refine ww_if_lt hX (pc := 196) (tgt := 203) dX0_join_196 (by decide) (fun h_196 => ?_) (fun h_196 => ?_)
              · simp only [w32_mod] at h_196
                refine ww_iconst hX (pc := 203) (x := 0) dX0_join_203 rfl ?_
                refine rZ hX (pc := 204) hT (Nat.le_refl 0) (Nat.le_refl 0) dX0_join_204 (by decide) ?_
                exact ⟨rfl, kJ_180, by omega⟩
              · simp only [w32_mod] at h_196
                refine ww_iconst hX (pc := 199) (x := 1) dX0_join_199 rfl ?_
                refine ww_goto hX (pc := 200) (tgt := 204) dX0_join_200 (by decide) ?_
                refine rZ hX (pc := 204) hT (Nat.le_refl 0) (Nat.le_refl 0) dX0_join_204 (by decide) ?_
                exact ⟨rfl, kJ_180, by omega⟩
      · simp only [w32_mod] at h_33
        refine ww_iconst hX (pc := 36) (x := 0) dX0_join_36 rfl ?_
        refine rZ hX (pc := 37) hT (Nat.le_refl 0) (Nat.le_refl 0) dX0_join_37 (by decide) ?_
        exact ⟨rfl, (Kp_rf (a := 15) (b := 18)), by omega⟩
set_option maxHeartbeats 4000000 in
set_option maxRecDepth 20000 in
theorem c_X0_works (l0 : Launch) {Ia Ja : aI1} {Ra : aR1} {Sa : aS1} (hL : LY Ra Sa) {k n : Nat} (hsk : Sa[k]? = some (0, n)) (hn : n ≤ 65536) (hst : (∀ j, j < n → -10000 ≤ Ia k j ∧ Ia k j ≤ 10000)) {a b : Int} (ha0 : -2147483648 ≤ a) (ha1 : a < 2147483648) (hb0 : -2147483648 ≤ b) (hb1 : b < 2147483648)  : CT l0 1 0 0 mX0_works [kR (some 15), kR (some k), kI a, kI b] Ia Ja Ra Sa (cI (fun x I' J' => Ia = I' ∧ Kp 15 18 Ja J' ∧ (x = 0 ∨ x = 1)) Ra Sa) := by
  refine ct_in pn_X0 (Nat.le_of_ble_eq_true rfl) (fun X hX hT hIn => ?_)
  have hX : aK l0 X cX0_works 9 RX0 (some .boolean) 1 0 0 := hX
  change WW X 0 [some (kR (some 15)), some (kR (some k)), some (kI a), some (kI b), none, none, none, none, none] [] Ia Ja Ra Sa 0 0
  refine ww_iconst hX (pc := 0) (x := 0) dX0_works_0 rfl ?_
  refine ww_istore hX (pc := 1) (lv' := [some (kR (some 15)), some (kR (some k)), some (kI a), some (kI b), some (kI 0), none, none, none, none]) dX0_works_1 (by decide) rfl rfl ?_
  refine ww_iload_n hX (pc := 3) dX0_works_3 rfl ?_
  refine ww_aload_n hX (pc := 4) dX0_works_4 rfl ?_
  refine ww_alen hX (pc := 5) (by decide) hsk dX0_works_5 ?_
  refine ww_mmin hX (pc := 6) tb_712 tb_579 tb_13 tb_580 (by decide) (Nat.le_refl 0) (Nat.le_refl 0) (Nat.le_of_ble_eq_true rfl) dX0_works_6 ?_
  refine ww_nmI (fun v_9 hv_9 => ?_)
  refine ww_istore hX (pc := 9) (lv' := [some (kR (some 15)), some (kR (some k)), some (kI a), some (kI b), some (kI 0), some (kI v_9), none, none, none]) dX0_works_9 (by decide) rfl rfl ?_
  rw [i_min_r (by omega) (by omega) (by omega) (by omega)] at hv_9
  refine ww_iconst hX (pc := 11) (x := 0) dX0_works_11 rfl ?_
  refine ww_iload_n hX (pc := 12) dX0_works_12 rfl ?_
  refine ww_mmax hX (pc := 13) tb_713 tb_460 tb_13 tb_461 (by decide) (Nat.le_refl 0) (Nat.le_refl 0) (Nat.le_of_ble_eq_true rfl) dX0_works_13 ?_
  refine ww_nmI (fun v_16 hv_16 => ?_)
  refine ww_istore hX (pc := 16) (lv' := [some (kR (some 15)), some (kR (some k)), some (kI a), some (kI b), some (kI 0), some (kI v_9), some (kI v_16), none, none]) dX0_works_16 (by decide) rfl rfl ?_
  rw [i_max_r (by omega) (by omega) (by omega) (by omega)] at hv_16
  have hl_18 : ∀ (n_18 : Nat) (hh : Int) (at_ : Int) (J2 : aI1), ((n : Int) - at_).toNat = n_18 → (Kp 15 18 Ja J2 ∧ 0 ≤ hh ∧ hh ≤ 64 ∧ 0 ≤ at_ ∧ at_ ≤ 2147483647) → WW X 18 [some (kR (some 15)), some (kR (some k)), some (kI a), some (kI b), some (kI hh), some (kI v_9), some (kI at_), none, none] [] Ia J2 Ra Sa 0 0 := by
    intro n_18
    induction n_18 using Nat.strongRecOn with
    | ind n_18 ih_18 =>
      intro hh at_ J2 hm_18 hv_18
      have hq_18 := Sh0_i hm_18
      clear hm_18
      obtain ⟨kJ2, hh0, hh1, ha2, ha3⟩ := hv_18
      refine ww_iload hX (pc := 18) dX0_works_18 rfl ?_
      refine ww_iload hX (pc := 20) dX0_works_20 rfl ?_
      refine ww_icmp_ge hX (pc := 22) (tgt := 241) dX0_works_22 (by decide) (fun h_22 => ?_) (fun h_22 => ?_)
      · simp only [w32_mod] at h_22
        refine ww_iload hX (pc := 241) dX0_works_241 rfl ?_
        refine ww_iconst hX (pc := 243) (x := 1) dX0_works_243 rfl ?_
        refine ww_icmp_ne hX (pc := 244) (tgt := 251) dX0_works_244 (by decide) (fun h_244 => ?_) (fun h_244 => ?_)
        · simp only [w32_mod] at h_244
          refine ww_iconst hX (pc := 251) (x := 0) dX0_works_251 rfl ?_
          refine rZ hX (pc := 252) hT (Nat.le_refl 0) (Nat.le_refl 0) dX0_works_252 (by decide) ?_
          exact ⟨rfl, kJ2, by omega⟩
        · simp only [w32_mod] at h_244
          refine ww_iconst hX (pc := 247) (x := 1) dX0_works_247 rfl ?_
          refine ww_goto hX (pc := 248) (tgt := 252) dX0_works_248 (by decide) ?_
          refine rZ hX (pc := 252) hT (Nat.le_refl 0) (Nat.le_refl 0) dX0_works_252 (by decide) ?_
          exact ⟨rfl, kJ2, by omega⟩
      · simp only [w32_mod] at h_22
        refine ww_aload_n hX (pc := 25) dX0_works_25 rfl ?_
        refine ww_iload hX (pc := 26) dX0_works_26 rfl ?_
        refine ww_iald hX (pc := 28) hsk (by omega) (by omega) (by omega) dX0_works_28 ?_
        refine ww_nmI (fun v_29 hv_29 => ?_)
        refine ww_istore hX (pc := 29) (lv' := [some (kR (some 15)), some (kR (some k)), some (kI a), some (kI b), some (kI hh), some (kI v_9), some (kI at_), some (kI v_29), none]) dX0_works_29 (by decide) rfl rfl ?_
        have hs1 := hst at_.toNat (by omega)
        refine ww_iload hX (pc := 31) dX0_works_31 rfl ?_
        refine ww_bipush hX (pc := 33) (x := (-8)) dX0_works_33 (by decide) ?_
        refine ww_icmp_lt hX (pc := 35) (tgt := 81) dX0_works_35 (by decide) (fun h_35 => ?_) (fun h_35 => ?_)
        · simp only [w32_mod] at h_35
          refine ww_iload hX (pc := 81) dX0_works_81 rfl ?_
          refine ww_iconst hX (pc := 83) (x := 1) dX0_works_83 rfl ?_
          refine ww_icmp_ge hX (pc := 84) (tgt := 89) dX0_works_84 (by decide) (fun h_84 => ?_) (fun h_84 => ?_)
          · simp only [w32_mod] at h_84
            refine ww_iload hX (pc := 89) dX0_works_89 rfl ?_
            refine ww_bipush hX (pc := 91) (x := (-19)) dX0_works_91 (by decide) ?_
            refine ww_icmp_ne hX (pc := 93) (tgt := 119) dX0_works_93 (by decide) (fun h_93 => ?_) (fun h_93 => ?_)
            · simp only [w32_mod] at h_93
              refine ww_iload hX (pc := 119) dX0_works_119 rfl ?_
              refine ww_bipush hX (pc := 121) (x := (-20)) dX0_works_121 (by decide) ?_
              refine ww_icmp_eq hX (pc := 123) (tgt := 133) dX0_works_123 (by decide) (fun h_123 => ?_) (fun h_123 => ?_)
              · simp only [w32_mod] at h_123
                refine ww_iinc hX (pc := 133) (lv' := [some (kR (some 15)), some (kR (some k)), some (kI a), some (kI b), some (kI hh), some (kI v_9), some (kI (at_ + 1)), some (kI v_29), none]) dX0_works_133 rfl (by decide) rfl rfl ?_
                refine ww_aload_n hX (pc := 136) dX0_works_136 rfl ?_
                refine ww_getR hX (pc := 137) fX0_17 (by decide) (xs_15 hL) (xr_15_1 hL) dX0_works_137 ?_
                refine ww_iload hX (pc := 140) dX0_works_140 rfl ?_
                refine ww_iconst hX (pc := 142) (x := 1) dX0_works_142 rfl ?_
                refine ww_isub hX (pc := 143) dX0_works_143 ?_
                refine ww_lald hX (pc := 144) (xs_17 hL) (by decide) (by omega) (by omega) dX0_works_144 ?_
                refine ww_lconst hX (pc := 145) (x := 0) dX0_works_145 (by decide) ?_
                refine ww_lcmp hX (pc := 146) dX0_works_146 ?_
                refine ww_if_eq hX (pc := 147) (tgt := 154) dX0_works_147 (by decide) (fun h_147 => ?_) (fun h_147 => ?_)
                · simp only [w32_mod] at h_147
                  refine ww_iconst hX (pc := 154) (x := 0) dX0_works_154 rfl ?_
                  refine ww_iload hX (pc := 155) dX0_works_155 rfl ?_
                  refine ww_bipush hX (pc := 157) (x := (-20)) dX0_works_157 (by decide) ?_
                  refine ww_icmp_ne hX (pc := 159) (tgt := 166) dX0_works_159 (by decide) (fun h_159 => ?_) (fun h_159 => ?_)
                  · simp only [w32_mod] at h_159
                    refine ww_iconst hX (pc := 166) (x := 0) dX0_works_166 rfl ?_
                    refine ww_icmp_ne hX (pc := 167) (tgt := 174) dX0_works_167 (by decide) (fun h_167 => ?_) (fun h_167 => ?_)
                    · simp only [w32_mod] at h_167
                      refine ww_iconst hX (pc := 174) (x := 0) dX0_works_174 rfl ?_
                      refine ww_istore hX (pc := 175) (lv' := [some (kR (some 15)), some (kR (some k)), some (kI a), some (kI b), some (kI hh), some (kI v_9), some (kI (at_ + 1)), some (kI v_29), some (kI 0)]) dX0_works_175 (by decide) rfl rfl ?_
                      refine ww_iload hX (pc := 177) dX0_works_177 rfl ?_
                      refine ww_if_ne hX (pc := 179) (tgt := 188) dX0_works_179 (by decide) (fun h_179 => ?_) (fun h_179 => ?_)
                      · simp only [w32_mod] at h_179
                        refine ww_iload hX (pc := 188) dX0_works_188 rfl ?_
                        refine ww_iload hX (pc := 190) dX0_works_190 rfl ?_
                        refine ww_icmp_ge hX (pc := 192) (tgt := 208) dX0_works_192 (by decide) (fun h_192 => ?_) (fun h_192 => ?_)
                        · simp only [w32_mod] at h_192
                          refine ww_goto hX (pc := 208) (tgt := 235) dX0_works_208 (by decide) ?_
                          refine ww_iinc hX (pc := 235) (lv' := [some (kR (some 15)), some (kR (some k)), some (kI a), some (kI b), some (kI hh), some (kI v_9), some (kI ((at_ + 1) + 1)), some (kI v_29), some (kI 0)]) dX0_works_235 rfl (by decide) rfl rfl ?_
                          refine ww_goto hX (pc := 238) (tgt := 18) dX0_works_238 (by decide) ?_
                          refine ww_sub [some (kR (some 15)), some (kR (some k)), some (kI a), some (kI b), some (kI hh), some (kI v_9), some (kI ((at_ + 1) + 1)), none, none] (aLe_s (aLe_s (aLe_s (aLe_s (aLe_s (aLe_s (aLe_s (aLe_n (aLe_n aLe_0))))))))) ?_
                          exact ih_18 _ (by have hm9 := Sh0_e hq_18; omega) hh ((at_ + 1) + 1) J2 rfl ⟨kJ2, by omega, by omega, by omega, by omega⟩
                        · simp only [w32_mod] at h_192
                          have hs2 := hst (at_ + 1).toNat (by omega)
                          refine ww_iload hX (pc := 195) dX0_works_195 rfl ?_
                          refine ww_aload_n hX (pc := 197) dX0_works_197 rfl ?_
                          refine ww_iload hX (pc := 198) dX0_works_198 rfl ?_
                          refine ww_iald hX (pc := 200) hsk (by omega) (by omega) (by omega) dX0_works_200 ?_
                          refine ww_iconst hX (pc := 201) (x := 1) dX0_works_201 rfl ?_
                          refine ww_isub hX (pc := 202) dX0_works_202 ?_
                          refine ww_mmax hX (pc := 203) tb_713 tb_460 tb_13 tb_461 (by decide) (Nat.le_refl 0) (Nat.le_refl 0) (Nat.le_of_ble_eq_true rfl) dX0_works_203 ?_
                          refine ww_nmI (fun v_206 hv_206 => ?_)
                          refine ww_istore hX (pc := 206) (lv' := [some (kR (some 15)), some (kR (some k)), some (kI a), some (kI b), some (kI hh), some (kI v_9), some (kI v_206), some (kI v_29), some (kI 0)]) dX0_works_206 (by decide) rfl rfl ?_
                          rw [i_max_r (by omega) (by omega) (by omega) (by omega)] at hv_206
                          refine ww_goto hX (pc := 208) (tgt := 235) dX0_works_208 (by decide) ?_
                          refine ww_iinc hX (pc := 235) (lv' := [some (kR (some 15)), some (kR (some k)), some (kI a), some (kI b), some (kI hh), some (kI v_9), some (kI (v_206 + 1)), some (kI v_29), some (kI 0)]) dX0_works_235 rfl (by decide) rfl rfl ?_
                          refine ww_goto hX (pc := 238) (tgt := 18) dX0_works_238 (by decide) ?_
                          refine ww_sub [some (kR (some 15)), some (kR (some k)), some (kI a), some (kI b), some (kI hh), some (kI v_9), some (kI (v_206 + 1)), none, none] (aLe_s (aLe_s (aLe_s (aLe_s (aLe_s (aLe_s (aLe_s (aLe_n (aLe_n aLe_0))))))))) ?_
                          exact ih_18 _ (by have hm9 := Sh0_e hq_18; omega) hh (v_206 + 1) J2 rfl ⟨kJ2, by omega, by omega, by omega, by omega⟩
                      · simp only [w32_mod] at h_179
                        refine ww_iinc hX (pc := 182) (lv' := [some (kR (some 15)), some (kR (some k)), some (kI a), some (kI b), some (kI (hh + (-1))), some (kI v_9), some (kI (at_ + 1)), some (kI v_29), some (kI 0)]) dX0_works_182 rfl (by decide) rfl rfl ?_
                        refine ww_goto hX (pc := 185) (tgt := 208) dX0_works_185 (by decide) ?_
                        refine ww_goto hX (pc := 208) (tgt := 235) dX0_works_208 (by decide) ?_
                        refine ww_iinc hX (pc := 235) (lv' := [some (kR (some 15)), some (kR (some k)), some (kI a), some (kI b), some (kI (hh + (-1))), some (kI v_9), some (kI ((at_ + 1) + 1)), some (kI v_29), some (kI 0)]) dX0_works_235 rfl (by decide) rfl rfl ?_
                        refine ww_goto hX (pc := 238) (tgt := 18) dX0_works_238 (by decide) ?_
                        refine ww_sub [some (kR (some 15)), some (kR (some k)), some (kI a), some (kI b), some (kI (hh + (-1))), some (kI v_9), some (kI ((at_ + 1) + 1)), none, none] (aLe_s (aLe_s (aLe_s (aLe_s (aLe_s (aLe_s (aLe_s (aLe_n (aLe_n aLe_0))))))))) ?_
                        exact ih_18 _ (by have hm9 := Sh0_e hq_18; omega) (hh + (-1)) ((at_ + 1) + 1) J2 rfl ⟨kJ2, by omega, by omega, by omega, by omega⟩
                    · simp only [w32_mod] at h_167
                      refine ww_iconst hX (pc := 170) (x := 1) dX0_works_170 rfl ?_
                      refine ww_goto hX (pc := 171) (tgt := 175) dX0_works_171 (by decide) ?_
                      refine ww_istore hX (pc := 175) (lv' := [some (kR (some 15)), some (kR (some k)), some (kI a), some (kI b), some (kI hh), some (kI v_9), some (kI (at_ + 1)), some (kI v_29), some (kI 1)]) dX0_works_175 (by decide) rfl rfl ?_
                      refine ww_iload hX (pc := 177) dX0_works_177 rfl ?_
                      refine ww_if_ne hX (pc := 179) (tgt := 188) dX0_works_179 (by decide) (fun h_179 => ?_) (fun h_179 => ?_)
                      · simp only [w32_mod] at h_179
                        refine ww_iload hX (pc := 188) dX0_works_188 rfl ?_
                        refine ww_iload hX (pc := 190) dX0_works_190 rfl ?_
                        refine ww_icmp_ge hX (pc := 192) (tgt := 208) dX0_works_192 (by decide) (fun h_192 => ?_) (fun h_192 => ?_)
                        · simp only [w32_mod] at h_192
                          refine ww_goto hX (pc := 208) (tgt := 235) dX0_works_208 (by decide) ?_
                          refine ww_iinc hX (pc := 235) (lv' := [some (kR (some 15)), some (kR (some k)), some (kI a), some (kI b), some (kI hh), some (kI v_9), some (kI ((at_ + 1) + 1)), some (kI v_29), some (kI 1)]) dX0_works_235 rfl (by decide) rfl rfl ?_
                          refine ww_goto hX (pc := 238) (tgt := 18) dX0_works_238 (by decide) ?_
                          refine ww_sub [some (kR (some 15)), some (kR (some k)), some (kI a), some (kI b), some (kI hh), some (kI v_9), some (kI ((at_ + 1) + 1)), none, none] (aLe_s (aLe_s (aLe_s (aLe_s (aLe_s (aLe_s (aLe_s (aLe_n (aLe_n aLe_0))))))))) ?_
                          exact ih_18 _ (by have hm9 := Sh0_e hq_18; omega) hh ((at_ + 1) + 1) J2 rfl ⟨kJ2, by omega, by omega, by omega, by omega⟩
                        · simp only [w32_mod] at h_192
                          have hs2 := hst (at_ + 1).toNat (by omega)
                          refine ww_iload hX (pc := 195) dX0_works_195 rfl ?_
                          refine ww_aload_n hX (pc := 197) dX0_works_197 rfl ?_
                          refine ww_iload hX (pc := 198) dX0_works_198 rfl ?_
                          refine ww_iald hX (pc := 200) hsk (by omega) (by omega) (by omega) dX0_works_200 ?_
                          refine ww_iconst hX (pc := 201) (x := 1) dX0_works_201 rfl ?_
                          refine ww_isub hX (pc := 202) dX0_works_202 ?_
                          refine ww_mmax hX (pc := 203) tb_713 tb_460 tb_13 tb_461 (by decide) (Nat.le_refl 0) (Nat.le_refl 0) (Nat.le_of_ble_eq_true rfl) dX0_works_203 ?_
                          refine ww_nmI (fun v_206 hv_206 => ?_)
                          refine ww_istore hX (pc := 206) (lv' := [some (kR (some 15)), some (kR (some k)), some (kI a), some (kI b), some (kI hh), some (kI v_9), some (kI v_206), some (kI v_29), some (kI 1)]) dX0_works_206 (by decide) rfl rfl ?_
                          rw [i_max_r (by omega) (by omega) (by omega) (by omega)] at hv_206
                          refine ww_goto hX (pc := 208) (tgt := 235) dX0_works_208 (by decide) ?_
                          refine ww_iinc hX (pc := 235) (lv' := [some (kR (some 15)), some (kR (some k)), some (kI a), some (kI b), some (kI hh), some (kI v_9), some (kI (v_206 + 1)), some (kI v_29), some (kI 1)]) dX0_works_235 rfl (by decide) rfl rfl ?_
                          refine ww_goto hX (pc := 238) (tgt := 18) dX0_works_238 (by decide) ?_
                          refine ww_sub [some (kR (some 15)), some (kR (some k)), some (kI a), some (kI b), some (kI hh), some (kI v_9), some (kI (v_206 + 1)), none, none] (aLe_s (aLe_s (aLe_s (aLe_s (aLe_s (aLe_s (aLe_s (aLe_n (aLe_n aLe_0))))))))) ?_
                          exact ih_18 _ (by have hm9 := Sh0_e hq_18; omega) hh (v_206 + 1) J2 rfl ⟨kJ2, by omega, by omega, by omega, by omega⟩
                      · simp only [w32_mod] at h_179
                        refine ww_iinc hX (pc := 182) (lv' := [some (kR (some 15)), some (kR (some k)), some (kI a), some (kI b), some (kI (hh + (-1))), some (kI v_9), some (kI (at_ + 1)), some (kI v_29), some (kI 1)]) dX0_works_182 rfl (by decide) rfl rfl ?_
                        refine ww_goto hX (pc := 185) (tgt := 208) dX0_works_185 (by decide) ?_
                        refine ww_goto hX (pc := 208) (tgt := 235) dX0_works_208 (by decide) ?_
                        refine ww_iinc hX (pc := 235) (lv' := [some (kR (some 15)), some (kR (some k)), some (kI a), some (kI b), some (kI (hh + (-1))), some (kI v_9), some (kI ((at_ + 1) + 1)), some (kI v_29), some (kI 1)]) dX0_works_235 rfl (by decide) rfl rfl ?_
                        refine ww_goto hX (pc := 238) (tgt := 18) dX0_works_238 (by decide) ?_
                        refine ww_sub [some (kR (some 15)), some (kR (some k)), some (kI a), some (kI b), some (kI (hh + (-1))), some (kI v_9), some (kI ((at_ + 1) + 1)), none, none] (aLe_s (aLe_s (aLe_s (aLe_s (aLe_s (aLe_s (aLe_s (aLe_n (aLe_n aLe_0))))))))) ?_
                        exact ih_18 _ (by have hm9 := Sh0_e hq_18; omega) (hh + (-1)) ((at_ + 1) + 1) J2 rfl ⟨kJ2, by omega, by omega, by omega, by omega⟩
                  · simp only [w32_mod] at h_159
                    refine ww_iconst hX (pc := 162) (x := 1) dX0_works_162 rfl ?_
                    refine ww_goto hX (pc := 163) (tgt := 167) dX0_works_163 (by decide) ?_
                    refine ww_icmp_ne hX (pc := 167) (tgt := 174) dX0_works_167 (by decide) (fun h_167 => ?_) (fun h_167 => ?_)
                    · simp only [w32_mod] at h_167
                      refine ww_iconst hX (pc := 174) (x := 0) dX0_works_174 rfl ?_
                      refine ww_istore hX (pc := 175) (lv' := [some (kR (some 15)), some (kR (some k)), some (kI a), some (kI b), some (kI hh), some (kI v_9), some (kI (at_ + 1)), some (kI v_29), some (kI 0)]) dX0_works_175 (by decide) rfl rfl ?_
                      refine ww_iload hX (pc := 177) dX0_works_177 rfl ?_
                      refine ww_if_ne hX (pc := 179) (tgt := 188) dX0_works_179 (by decide) (fun h_179 => ?_) (fun h_179 => ?_)
                      · simp only [w32_mod] at h_179
                        refine ww_iload hX (pc := 188) dX0_works_188 rfl ?_
                        refine ww_iload hX (pc := 190) dX0_works_190 rfl ?_
                        refine ww_icmp_ge hX (pc := 192) (tgt := 208) dX0_works_192 (by decide) (fun h_192 => ?_) (fun h_192 => ?_)
                        · simp only [w32_mod] at h_192
                          refine ww_goto hX (pc := 208) (tgt := 235) dX0_works_208 (by decide) ?_
                          refine ww_iinc hX (pc := 235) (lv' := [some (kR (some 15)), some (kR (some k)), some (kI a), some (kI b), some (kI hh), some (kI v_9), some (kI ((at_ + 1) + 1)), some (kI v_29), some (kI 0)]) dX0_works_235 rfl (by decide) rfl rfl ?_
                          refine ww_goto hX (pc := 238) (tgt := 18) dX0_works_238 (by decide) ?_
                          refine ww_sub [some (kR (some 15)), some (kR (some k)), some (kI a), some (kI b), some (kI hh), some (kI v_9), some (kI ((at_ + 1) + 1)), none, none] (aLe_s (aLe_s (aLe_s (aLe_s (aLe_s (aLe_s (aLe_s (aLe_n (aLe_n aLe_0))))))))) ?_
                          exact ih_18 _ (by have hm9 := Sh0_e hq_18; omega) hh ((at_ + 1) + 1) J2 rfl ⟨kJ2, by omega, by omega, by omega, by omega⟩
                        · simp only [w32_mod] at h_192
                          have hs2 := hst (at_ + 1).toNat (by omega)
                          refine ww_iload hX (pc := 195) dX0_works_195 rfl ?_
                          refine ww_aload_n hX (pc := 197) dX0_works_197 rfl ?_
                          refine ww_iload hX (pc := 198) dX0_works_198 rfl ?_
                          refine ww_iald hX (pc := 200) hsk (by omega) (by omega) (by omega) dX0_works_200 ?_
                          refine ww_iconst hX (pc := 201) (x := 1) dX0_works_201 rfl ?_
                          refine ww_isub hX (pc := 202) dX0_works_202 ?_
                          refine ww_mmax hX (pc := 203) tb_713 tb_460 tb_13 tb_461 (by decide) (Nat.le_refl 0) (Nat.le_refl 0) (Nat.le_of_ble_eq_true rfl) dX0_works_203 ?_
                          refine ww_nmI (fun v_206 hv_206 => ?_)
                          refine ww_istore hX (pc := 206) (lv' := [some (kR (some 15)), some (kR (some k)), some (kI a), some (kI b), some (kI hh), some (kI v_9), some (kI v_206), some (kI v_29), some (kI 0)]) dX0_works_206 (by decide) rfl rfl ?_
                          rw [i_max_r (by omega) (by omega) (by omega) (by omega)] at hv_206
                          refine ww_goto hX (pc := 208) (tgt := 235) dX0_works_208 (by decide) ?_
                          refine ww_iinc hX (pc := 235) (lv' := [some (kR (some 15)), some (kR (some k)), some (kI a), some (kI b), some (kI hh), some (kI v_9), some (kI (v_206 + 1)), some (kI v_29), some (kI 0)]) dX0_works_235 rfl (by decide) rfl rfl ?_
                          refine ww_goto hX (pc := 238) (tgt := 18) dX0_works_238 (by decide) ?_
                          refine ww_sub [some (kR (some 15)), some (kR (some k)), some (kI a), some (kI b), some (kI hh), some (kI v_9), some (kI (v_206 + 1)), none, none] (aLe_s (aLe_s (aLe_s (aLe_s (aLe_s (aLe_s (aLe_s (aLe_n (aLe_n aLe_0))))))))) ?_
                          exact ih_18 _ (by have hm9 := Sh0_e hq_18; omega) hh (v_206 + 1) J2 rfl ⟨kJ2, by omega, by omega, by omega, by omega⟩
                      · simp only [w32_mod] at h_179
                        refine ww_iinc hX (pc := 182) (lv' := [some (kR (some 15)), some (kR (some k)), some (kI a), some (kI b), some (kI (hh + (-1))), some (kI v_9), some (kI (at_ + 1)), some (kI v_29), some (kI 0)]) dX0_works_182 rfl (by decide) rfl rfl ?_
                        refine ww_goto hX (pc := 185) (tgt := 208) dX0_works_185 (by decide) ?_
                        refine ww_goto hX (pc := 208) (tgt := 235) dX0_works_208 (by decide) ?_
                        refine ww_iinc hX (pc := 235) (lv' := [some (kR (some 15)), some (kR (some k)), some (kI a), some (kI b), some (kI (hh + (-1))), some (kI v_9), some (kI ((at_ + 1) + 1)), some (kI v_29), some (kI 0)]) dX0_works_235 rfl (by decide) rfl rfl ?_
                        refine ww_goto hX (pc := 238) (tgt := 18) dX0_works_238 (by decide) ?_
                        refine ww_sub [some (kR (some 15)), some (kR (some k)), some (kI a), some (kI b), some (kI (hh + (-1))), some (kI v_9), some (kI ((at_ + 1) + 1)), none, none] (aLe_s (aLe_s (aLe_s (aLe_s (aLe_s (aLe_s (aLe_s (aLe_n (aLe_n aLe_0))))))))) ?_
                        exact ih_18 _ (by have hm9 := Sh0_e hq_18; omega) (hh + (-1)) ((at_ + 1) + 1) J2 rfl ⟨kJ2, by omega, by omega, by omega, by omega⟩
                    · simp only [w32_mod] at h_167
                      refine ww_iconst hX (pc := 170) (x := 1) dX0_works_170 rfl ?_
                      refine ww_goto hX (pc := 171) (tgt := 175) dX0_works_171 (by decide) ?_
                      refine ww_istore hX (pc := 175) (lv' := [some (kR (some 15)), some (kR (some k)), some (kI a), some (kI b), some (kI hh), some (kI v_9), some (kI (at_ + 1)), some (kI v_29), some (kI 1)]) dX0_works_175 (by decide) rfl rfl ?_
                      refine ww_iload hX (pc := 177) dX0_works_177 rfl ?_
                      refine ww_if_ne hX (pc := 179) (tgt := 188) dX0_works_179 (by decide) (fun h_179 => ?_) (fun h_179 => ?_)
                      · simp only [w32_mod] at h_179
                        refine ww_iload hX (pc := 188) dX0_works_188 rfl ?_
                        refine ww_iload hX (pc := 190) dX0_works_190 rfl ?_
                        refine ww_icmp_ge hX (pc := 192) (tgt := 208) dX0_works_192 (by decide) (fun h_192 => ?_) (fun h_192 => ?_)
                        · simp only [w32_mod] at h_192
                          refine ww_goto hX (pc := 208) (tgt := 235) dX0_works_208 (by decide) ?_
                          refine ww_iinc hX (pc := 235) (lv' := [some (kR (some 15)), some (kR (some k)), some (kI a), some (kI b), some (kI hh), some (kI v_9), some (kI ((at_ + 1) + 1)), some (kI v_29), some (kI 1)]) dX0_works_235 rfl (by decide) rfl rfl ?_
                          refine ww_goto hX (pc := 238) (tgt := 18) dX0_works_238 (by decide) ?_
                          refine ww_sub [some (kR (some 15)), some (kR (some k)), some (kI a), some (kI b), some (kI hh), some (kI v_9), some (kI ((at_ + 1) + 1)), none, none] (aLe_s (aLe_s (aLe_s (aLe_s (aLe_s (aLe_s (aLe_s (aLe_n (aLe_n aLe_0))))))))) ?_
                          exact ih_18 _ (by have hm9 := Sh0_e hq_18; omega) hh ((at_ + 1) + 1) J2 rfl ⟨kJ2, by omega, by omega, by omega, by omega⟩
                        · simp only [w32_mod] at h_192
                          have hs2 := hst (at_ + 1).toNat (by omega)
                          refine ww_iload hX (pc := 195) dX0_works_195 rfl ?_
                          refine ww_aload_n hX (pc := 197) dX0_works_197 rfl ?_
                          refine ww_iload hX (pc := 198) dX0_works_198 rfl ?_
                          refine ww_iald hX (pc := 200) hsk (by omega) (by omega) (by omega) dX0_works_200 ?_
                          refine ww_iconst hX (pc := 201) (x := 1) dX0_works_201 rfl ?_
                          refine ww_isub hX (pc := 202) dX0_works_202 ?_
                          refine ww_mmax hX (pc := 203) tb_713 tb_460 tb_13 tb_461 (by decide) (Nat.le_refl 0) (Nat.le_refl 0) (Nat.le_of_ble_eq_true rfl) dX0_works_203 ?_
                          refine ww_nmI (fun v_206 hv_206 => ?_)
                          refine ww_istore hX (pc := 206) (lv' := [some (kR (some 15)), some (kR (some k)), some (kI a), some (kI b), some (kI hh), some (kI v_9), some (kI v_206), some (kI v_29), some (kI 1)]) dX0_works_206 (by decide) rfl rfl ?_
                          rw [i_max_r (by omega) (by omega) (by omega) (by omega)] at hv_206
                          refine ww_goto hX (pc := 208) (tgt := 235) dX0_works_208 (by decide) ?_
                          refine ww_iinc hX (pc := 235) (lv' := [some (kR (some 15)), some (kR (some k)), some (kI a), some (kI b), some (kI hh), some (kI v_9), some (kI (v_206 + 1)), some (kI v_29), some (kI 1)]) dX0_works_235 rfl (by decide) rfl rfl ?_
                          refine ww_goto hX (pc := 238) (tgt := 18) dX0_works_238 (by decide) ?_
                          refine ww_sub [some (kR (some 15)), some (kR (some k)), some (kI a), some (kI b), some (kI hh), some (kI v_9), some (kI (v_206 + 1)), none, none] (aLe_s (aLe_s (aLe_s (aLe_s (aLe_s (aLe_s (aLe_s (aLe_n (aLe_n aLe_0))))))))) ?_
                          exact ih_18 _ (by have hm9 := Sh0_e hq_18; omega) hh (v_206 + 1) J2 rfl ⟨kJ2, by omega, by omega, by omega, by omega⟩
                      · simp only [w32_mod] at h_179
                        refine ww_iinc hX (pc := 182) (lv' := [some (kR (some 15)), some (kR (some k)), some (kI a), some (kI b), some (kI (hh + (-1))), some (kI v_9), some (kI (at_ + 1)), some (kI v_29), some (kI 1)]) dX0_works_182 rfl (by decide) rfl rfl ?_
                        refine ww_goto hX (pc := 185) (tgt := 208) dX0_works_185 (by decide) ?_
                        refine ww_goto hX (pc := 208) (tgt := 235) dX0_works_208 (by decide) ?_
                        refine ww_iinc hX (pc := 235) (lv' := [some (kR (some 15)), some (kR (some k)), some (kI a), some (kI b), some (kI (hh + (-1))), some (kI v_9), some (kI ((at_ + 1) + 1)), some (kI v_29), some (kI 1)]) dX0_works_235 rfl (by decide) rfl rfl ?_
                        refine ww_goto hX (pc := 238) (tgt := 18) dX0_works_238 (by decide) ?_
                        refine ww_sub [some (kR (some 15)), some (kR (some k)), some (kI a), some (kI b), some (kI (hh + (-1))), some (kI v_9), some (kI ((at_ + 1) + 1)), none, none] (aLe_s (aLe_s (aLe_s (aLe_s (aLe_s (aLe_s (aLe_s (aLe_n (aLe_n aLe_0))))))))) ?_
                        exact ih_18 _ (by have hm9 := Sh0_e hq_18; omega) (hh + (-1)) ((at_ + 1) + 1) J2 rfl ⟨kJ2, by omega, by omega, by omega, by omega⟩
                · simp only [w32_mod] at h_147
                  refine ww_iconst hX (pc := 150) (x := 1) dX0_works_150 rfl ?_
                  refine ww_goto hX (pc := 151) (tgt := 155) dX0_works_151 (by decide) ?_
                  refine ww_iload hX (pc := 155) dX0_works_155 rfl ?_
                  refine ww_bipush hX (pc := 157) (x := (-20)) dX0_works_157 (by decide) ?_
                  refine ww_icmp_ne hX (pc := 159) (tgt := 166) dX0_works_159 (by decide) (fun h_159 => ?_) (fun h_159 => ?_)
                  · simp only [w32_mod] at h_159
                    refine ww_iconst hX (pc := 166) (x := 0) dX0_works_166 rfl ?_
                    refine ww_icmp_ne hX (pc := 167) (tgt := 174) dX0_works_167 (by decide) (fun h_167 => ?_) (fun h_167 => ?_)
                    · simp only [w32_mod] at h_167
                      refine ww_iconst hX (pc := 174) (x := 0) dX0_works_174 rfl ?_
                      refine ww_istore hX (pc := 175) (lv' := [some (kR (some 15)), some (kR (some k)), some (kI a), some (kI b), some (kI hh), some (kI v_9), some (kI (at_ + 1)), some (kI v_29), some (kI 0)]) dX0_works_175 (by decide) rfl rfl ?_
                      refine ww_iload hX (pc := 177) dX0_works_177 rfl ?_
                      refine ww_if_ne hX (pc := 179) (tgt := 188) dX0_works_179 (by decide) (fun h_179 => ?_) (fun h_179 => ?_)
                      · simp only [w32_mod] at h_179
                        refine ww_iload hX (pc := 188) dX0_works_188 rfl ?_
                        refine ww_iload hX (pc := 190) dX0_works_190 rfl ?_
                        refine ww_icmp_ge hX (pc := 192) (tgt := 208) dX0_works_192 (by decide) (fun h_192 => ?_) (fun h_192 => ?_)
                        · simp only [w32_mod] at h_192
                          refine ww_goto hX (pc := 208) (tgt := 235) dX0_works_208 (by decide) ?_
                          refine ww_iinc hX (pc := 235) (lv' := [some (kR (some 15)), some (kR (some k)), some (kI a), some (kI b), some (kI hh), some (kI v_9), some (kI ((at_ + 1) + 1)), some (kI v_29), some (kI 0)]) dX0_works_235 rfl (by decide) rfl rfl ?_
                          refine ww_goto hX (pc := 238) (tgt := 18) dX0_works_238 (by decide) ?_
                          refine ww_sub [some (kR (some 15)), some (kR (some k)), some (kI a), some (kI b), some (kI hh), some (kI v_9), some (kI ((at_ + 1) + 1)), none, none] (aLe_s (aLe_s (aLe_s (aLe_s (aLe_s (aLe_s (aLe_s (aLe_n (aLe_n aLe_0))))))))) ?_
                          exact ih_18 _ (by have hm9 := Sh0_e hq_18; omega) hh ((at_ + 1) + 1) J2 rfl ⟨kJ2, by omega, by omega, by omega, by omega⟩
                        · simp only [w32_mod] at h_192
                          have hs2 := hst (at_ + 1).toNat (by omega)
                          refine ww_iload hX (pc := 195) dX0_works_195 rfl ?_
                          refine ww_aload_n hX (pc := 197) dX0_works_197 rfl ?_
                          refine ww_iload hX (pc := 198) dX0_works_198 rfl ?_
                          refine ww_iald hX (pc := 200) hsk (by omega) (by omega) (by omega) dX0_works_200 ?_
                          refine ww_iconst hX (pc := 201) (x := 1) dX0_works_201 rfl ?_
                          refine ww_isub hX (pc := 202) dX0_works_202 ?_
                          refine ww_mmax hX (pc := 203) tb_713 tb_460 tb_13 tb_461 (by decide) (Nat.le_refl 0) (Nat.le_refl 0) (Nat.le_of_ble_eq_true rfl) dX0_works_203 ?_
                          refine ww_nmI (fun v_206 hv_206 => ?_)
                          refine ww_istore hX (pc := 206) (lv' := [some (kR (some 15)), some (kR (some k)), some (kI a), some (kI b), some (kI hh), some (kI v_9), some (kI v_206), some (kI v_29), some (kI 0)]) dX0_works_206 (by decide) rfl rfl ?_
                          rw [i_max_r (by omega) (by omega) (by omega) (by omega)] at hv_206
                          refine ww_goto hX (pc := 208) (tgt := 235) dX0_works_208 (by decide) ?_
                          refine ww_iinc hX (pc := 235) (lv' := [some (kR (some 15)), some (kR (some k)), some (kI a), some (kI b), some (kI hh), some (kI v_9), some (kI (v_206 + 1)), some (kI v_29), some (kI 0)]) dX0_works_235 rfl (by decide) rfl rfl ?_
                          refine ww_goto hX (pc := 238) (tgt := 18) dX0_works_238 (by decide) ?_
                          refine ww_sub [some (kR (some 15)), some (kR (some k)), some (kI a), some (kI b), some (kI hh), some (kI v_9), some (kI (v_206 + 1)), none, none] (aLe_s (aLe_s (aLe_s (aLe_s (aLe_s (aLe_s (aLe_s (aLe_n (aLe_n aLe_0))))))))) ?_
                          exact ih_18 _ (by have hm9 := Sh0_e hq_18; omega) hh (v_206 + 1) J2 rfl ⟨kJ2, by omega, by omega, by omega, by omega⟩
                      · simp only [w32_mod] at h_179
                        refine ww_iinc hX (pc := 182) (lv' := [some (kR (some 15)), some (kR (some k)), some (kI a), some (kI b), some (kI (hh + (-1))), some (kI v_9), some (kI (at_ + 1)), some (kI v_29), some (kI 0)]) dX0_works_182 rfl (by decide) rfl rfl ?_
                        refine ww_goto hX (pc := 185) (tgt := 208) dX0_works_185 (by decide) ?_
                        refine ww_goto hX (pc := 208) (tgt := 235) dX0_works_208 (by decide) ?_
                        refine ww_iinc hX (pc := 235) (lv' := [some (kR (some 15)), some (kR (some k)), some (kI a), some (kI b), some (kI (hh + (-1))), some (kI v_9), some (kI ((at_ + 1) + 1)), some (kI v_29), some (kI 0)]) dX0_works_235 rfl (by decide) rfl rfl ?_
                        refine ww_goto hX (pc := 238) (tgt := 18) dX0_works_238 (by decide) ?_
                        refine ww_sub [some (kR (some 15)), some (kR (some k)), some (kI a), some (kI b), some (kI (hh + (-1))), some (kI v_9), some (kI ((at_ + 1) + 1)), none, none] (aLe_s (aLe_s (aLe_s (aLe_s (aLe_s (aLe_s (aLe_s (aLe_n (aLe_n aLe_0))))))))) ?_
                        exact ih_18 _ (by have hm9 := Sh0_e hq_18; omega) (hh + (-1)) ((at_ + 1) + 1) J2 rfl ⟨kJ2, by omega, by omega, by omega, by omega⟩
                    · simp only [w32_mod] at h_167
                      refine ww_iconst hX (pc := 170) (x := 1) dX0_works_170 rfl ?_
                      refine ww_goto hX (pc := 171) (tgt := 175) dX0_works_171 (by decide) ?_
                      refine ww_istore hX (pc := 175) (lv' := [some (kR (some 15)), some (kR (some k)), some (kI a), some (kI b), some (kI hh), some (kI v_9), some (kI (at_ + 1)), some (kI v_29), some (kI 1)]) dX0_works_175 (by decide) rfl rfl ?_
                      refine ww_iload hX (pc := 177) dX0_works_177 rfl ?_
                      refine ww_if_ne hX (pc := 179) (tgt := 188) dX0_works_179 (by decide) (fun h_179 => ?_) (fun h_179 => ?_)
                      · simp only [w32_mod] at h_179
                        refine ww_iload hX (pc := 188) dX0_works_188 rfl ?_
                        refine ww_iload hX (pc := 190) dX0_works_190 rfl ?_
                        refine ww_icmp_ge hX (pc := 192) (tgt := 208) dX0_works_192 (by decide) (fun h_192 => ?_) (fun h_192 => ?_)
                        · simp only [w32_mod] at h_192
                          refine ww_goto hX (pc := 208) (tgt := 235) dX0_works_208 (by decide) ?_
                          refine ww_iinc hX (pc := 235) (lv' := [some (kR (some 15)), some (kR (some k)), some (kI a), some (kI b), some (kI hh), some (kI v_9), some (kI ((at_ + 1) + 1)), some (kI v_29), some (kI 1)]) dX0_works_235 rfl (by decide) rfl rfl ?_
                          refine ww_goto hX (pc := 238) (tgt := 18) dX0_works_238 (by decide) ?_
                          refine ww_sub [some (kR (some 15)), some (kR (some k)), some (kI a), some (kI b), some (kI hh), some (kI v_9), some (kI ((at_ + 1) + 1)), none, none] (aLe_s (aLe_s (aLe_s (aLe_s (aLe_s (aLe_s (aLe_s (aLe_n (aLe_n aLe_0))))))))) ?_
                          exact ih_18 _ (by have hm9 := Sh0_e hq_18; omega) hh ((at_ + 1) + 1) J2 rfl ⟨kJ2, by omega, by omega, by omega, by omega⟩
                        · simp only [w32_mod] at h_192
                          have hs2 := hst (at_ + 1).toNat (by omega)
                          refine ww_iload hX (pc := 195) dX0_works_195 rfl ?_
                          refine ww_aload_n hX (pc := 197) dX0_works_197 rfl ?_
                          refine ww_iload hX (pc := 198) dX0_works_198 rfl ?_
                          refine ww_iald hX (pc := 200) hsk (by omega) (by omega) (by omega) dX0_works_200 ?_
                          refine ww_iconst hX (pc := 201) (x := 1) dX0_works_201 rfl ?_
                          refine ww_isub hX (pc := 202) dX0_works_202 ?_
                          refine ww_mmax hX (pc := 203) tb_713 tb_460 tb_13 tb_461 (by decide) (Nat.le_refl 0) (Nat.le_refl 0) (Nat.le_of_ble_eq_true rfl) dX0_works_203 ?_
                          refine ww_nmI (fun v_206 hv_206 => ?_)
                          refine ww_istore hX (pc := 206) (lv' := [some (kR (some 15)), some (kR (some k)), some (kI a), some (kI b), some (kI hh), some (kI v_9), some (kI v_206), some (kI v_29), some (kI 1)]) dX0_works_206 (by decide) rfl rfl ?_
                          rw [i_max_r (by omega) (by omega) (by omega) (by omega)] at hv_206
                          refine ww_goto hX (pc := 208) (tgt := 235) dX0_works_208 (by decide) ?_
                          refine ww_iinc hX (pc := 235) (lv' := [some (kR (some 15)), some (kR (some k)), some (kI a), some (kI b), some (kI hh), some (kI v_9), some (kI (v_206 + 1)), some (kI v_29), some (kI 1)]) dX0_works_235 rfl (by decide) rfl rfl ?_
                          refine ww_goto hX (pc := 238) (tgt := 18) dX0_works_238 (by decide) ?_
                          refine ww_sub [some (kR (some 15)), some (kR (some k)), some (kI a), some (kI b), some (kI hh), some (kI v_9), some (kI (v_206 + 1)), none, none] (aLe_s (aLe_s (aLe_s (aLe_s (aLe_s (aLe_s (aLe_s (aLe_n (aLe_n aLe_0))))))))) ?_
                          exact ih_18 _ (by have hm9 := Sh0_e hq_18; omega) hh (v_206 + 1) J2 rfl ⟨kJ2, by omega, by omega, by omega, by omega⟩
                      · simp only [w32_mod] at h_179
                        refine ww_iinc hX (pc := 182) (lv' := [some (kR (some 15)), some (kR (some k)), some (kI a), some (kI b), some (kI (hh + (-1))), some (kI v_9), some (kI (at_ + 1)), some (kI v_29), some (kI 1)]) dX0_works_182 rfl (by decide) rfl rfl ?_
                        refine ww_goto hX (pc := 185) (tgt := 208) dX0_works_185 (by decide) ?_
                        refine ww_goto hX (pc := 208) (tgt := 235) dX0_works_208 (by decide) ?_
                        refine ww_iinc hX (pc := 235) (lv' := [some (kR (some 15)), some (kR (some k)), some (kI a), some (kI b), some (kI (hh + (-1))), some (kI v_9), some (kI ((at_ + 1) + 1)), some (kI v_29), some (kI 1)]) dX0_works_235 rfl (by decide) rfl rfl ?_
                        refine ww_goto hX (pc := 238) (tgt := 18) dX0_works_238 (by decide) ?_
                        refine ww_sub [some (kR (some 15)), some (kR (some k)), some (kI a), some (kI b), some (kI (hh + (-1))), some (kI v_9), some (kI ((at_ + 1) + 1)), none, none] (aLe_s (aLe_s (aLe_s (aLe_s (aLe_s (aLe_s (aLe_s (aLe_n (aLe_n aLe_0))))))))) ?_
                        exact ih_18 _ (by have hm9 := Sh0_e hq_18; omega) (hh + (-1)) ((at_ + 1) + 1) J2 rfl ⟨kJ2, by omega, by omega, by omega, by omega⟩
                  · simp only [w32_mod] at h_159
                    refine ww_iconst hX (pc := 162) (x := 1) dX0_works_162 rfl ?_
                    refine ww_goto hX (pc := 163) (tgt := 167) dX0_works_163 (by decide) ?_
                    refine ww_icmp_ne hX (pc := 167) (tgt := 174) dX0_works_167 (by decide) (fun h_167 => ?_) (fun h_167 => ?_)
                    · simp only [w32_mod] at h_167
                      refine ww_iconst hX (pc := 174) (x := 0) dX0_works_174 rfl ?_
                      refine ww_istore hX (pc := 175) (lv' := [some (kR (some 15)), some (kR (some k)), some (kI a), some (kI b), some (kI hh), some (kI v_9), some (kI (at_ + 1)), some (kI v_29), some (kI 0)]) dX0_works_175 (by decide) rfl rfl ?_
                      refine ww_iload hX (pc := 177) dX0_works_177 rfl ?_
                      refine ww_if_ne hX (pc := 179) (tgt := 188) dX0_works_179 (by decide) (fun h_179 => ?_) (fun h_179 => ?_)
                      · simp only [w32_mod] at h_179
                        refine ww_iload hX (pc := 188) dX0_works_188 rfl ?_
                        refine ww_iload hX (pc := 190) dX0_works_190 rfl ?_
                        refine ww_icmp_ge hX (pc := 192) (tgt := 208) dX0_works_192 (by decide) (fun h_192 => ?_) (fun h_192 => ?_)
                        · simp only [w32_mod] at h_192
                          refine ww_goto hX (pc := 208) (tgt := 235) dX0_works_208 (by decide) ?_
                          refine ww_iinc hX (pc := 235) (lv' := [some (kR (some 15)), some (kR (some k)), some (kI a), some (kI b), some (kI hh), some (kI v_9), some (kI ((at_ + 1) + 1)), some (kI v_29), some (kI 0)]) dX0_works_235 rfl (by decide) rfl rfl ?_
                          refine ww_goto hX (pc := 238) (tgt := 18) dX0_works_238 (by decide) ?_
                          refine ww_sub [some (kR (some 15)), some (kR (some k)), some (kI a), some (kI b), some (kI hh), some (kI v_9), some (kI ((at_ + 1) + 1)), none, none] (aLe_s (aLe_s (aLe_s (aLe_s (aLe_s (aLe_s (aLe_s (aLe_n (aLe_n aLe_0))))))))) ?_
                          exact ih_18 _ (by have hm9 := Sh0_e hq_18; omega) hh ((at_ + 1) + 1) J2 rfl ⟨kJ2, by omega, by omega, by omega, by omega⟩
                        · simp only [w32_mod] at h_192
                          have hs2 := hst (at_ + 1).toNat (by omega)
                          refine ww_iload hX (pc := 195) dX0_works_195 rfl ?_
                          refine ww_aload_n hX (pc := 197) dX0_works_197 rfl ?_
                          refine ww_iload hX (pc := 198) dX0_works_198 rfl ?_
                          refine ww_iald hX (pc := 200) hsk (by omega) (by omega) (by omega) dX0_works_200 ?_
                          refine ww_iconst hX (pc := 201) (x := 1) dX0_works_201 rfl ?_
                          refine ww_isub hX (pc := 202) dX0_works_202 ?_
                          refine ww_mmax hX (pc := 203) tb_713 tb_460 tb_13 tb_461 (by decide) (Nat.le_refl 0) (Nat.le_refl 0) (Nat.le_of_ble_eq_true rfl) dX0_works_203 ?_
                          refine ww_nmI (fun v_206 hv_206 => ?_)
                          refine ww_istore hX (pc := 206) (lv' := [some (kR (some 15)), some (kR (some k)), some (kI a), some (kI b), some (kI hh), some (kI v_9), some (kI v_206), some (kI v_29), some (kI 0)]) dX0_works_206 (by decide) rfl rfl ?_
                          rw [i_max_r (by omega) (by omega) (by omega) (by omega)] at hv_206
                          refine ww_goto hX (pc := 208) (tgt := 235) dX0_works_208 (by decide) ?_
                          refine ww_iinc hX (pc := 235) (lv' := [some (kR (some 15)), some (kR (some k)), some (kI a), some (kI b), some (kI hh), some (kI v_9), some (kI (v_206 + 1)), some (kI v_29), some (kI 0)]) dX0_works_235 rfl (by decide) rfl rfl ?_
                          refine ww_goto hX (pc := 238) (tgt := 18) dX0_works_238 (by decide) ?_
                          refine ww_sub [some (kR (some 15)), some (kR (some k)), some (kI a), some (kI b), some (kI hh), some (kI v_9), some (kI (v_206 + 1)), none, none] (aLe_s (aLe_s (aLe_s (aLe_s (aLe_s (aLe_s (aLe_s (aLe_n (aLe_n aLe_0))))))))) ?_
                          exact ih_18 _ (by have hm9 := Sh0_e hq_18; omega) hh (v_206 + 1) J2 rfl ⟨kJ2, by omega, by omega, by omega, by omega⟩
                      · simp only [w32_mod] at h_179
                        refine ww_iinc hX (pc := 182) (lv' := [some (kR (some 15)), some (kR (some k)), some (kI a), some (kI b), some (kI (hh + (-1))), some (kI v_9), some (kI (at_ + 1)), some (kI v_29), some (kI 0)]) dX0_works_182 rfl (by decide) rfl rfl ?_
                        refine ww_goto hX (pc := 185) (tgt := 208) dX0_works_185 (by decide) ?_
                        refine ww_goto hX (pc := 208) (tgt := 235) dX0_works_208 (by decide) ?_
                        refine ww_iinc hX (pc := 235) (lv' := [some (kR (some 15)), some (kR (some k)), some (kI a), some (kI b), some (kI (hh + (-1))), some (kI v_9), some (kI ((at_ + 1) + 1)), some (kI v_29), some (kI 0)]) dX0_works_235 rfl (by decide) rfl rfl ?_
                        refine ww_goto hX (pc := 238) (tgt := 18) dX0_works_238 (by decide) ?_
                        refine ww_sub [some (kR (some 15)), some (kR (some k)), some (kI a), some (kI b), some (kI (hh + (-1))), some (kI v_9), some (kI ((at_ + 1) + 1)), none, none] (aLe_s (aLe_s (aLe_s (aLe_s (aLe_s (aLe_s (aLe_s (aLe_n (aLe_n aLe_0))))))))) ?_
                        exact ih_18 _ (by have hm9 := Sh0_e hq_18; omega) (hh + (-1)) ((at_ + 1) + 1) J2 rfl ⟨kJ2, by omega, by omega, by omega, by omega⟩
                    · simp only [w32_mod] at h_167
                      refine ww_iconst hX (pc := 170) (x := 1) dX0_works_170 rfl ?_
                      refine ww_goto hX (pc := 171) (tgt := 175) dX0_works_171 (by decide) ?_
                      refine ww_istore hX (pc := 175) (lv' := [some (kR (some 15)), some (kR (some k)), some (kI a), some (kI b), some (kI hh), some (kI v_9), some (kI (at_ + 1)), some (kI v_29), some (kI 1)]) dX0_works_175 (by decide) rfl rfl ?_
                      refine ww_iload hX (pc := 177) dX0_works_177 rfl ?_
                      refine ww_if_ne hX (pc := 179) (tgt := 188) dX0_works_179 (by decide) (fun h_179 => ?_) (fun h_179 => ?_)
                      · simp only [w32_mod] at h_179
                        refine ww_iload hX (pc := 188) dX0_works_188 rfl ?_
                        refine ww_iload hX (pc := 190) dX0_works_190 rfl ?_
                        refine ww_icmp_ge hX (pc := 192) (tgt := 208) dX0_works_192 (by decide) (fun h_192 => ?_) (fun h_192 => ?_)
                        · simp only [w32_mod] at h_192
                          refine ww_goto hX (pc := 208) (tgt := 235) dX0_works_208 (by decide) ?_
                          refine ww_iinc hX (pc := 235) (lv' := [some (kR (some 15)), some (kR (some k)), some (kI a), some (kI b), some (kI hh), some (kI v_9), some (kI ((at_ + 1) + 1)), some (kI v_29), some (kI 1)]) dX0_works_235 rfl (by decide) rfl rfl ?_
                          refine ww_goto hX (pc := 238) (tgt := 18) dX0_works_238 (by decide) ?_
                          refine ww_sub [some (kR (some 15)), some (kR (some k)), some (kI a), some (kI b), some (kI hh), some (kI v_9), some (kI ((at_ + 1) + 1)), none, none] (aLe_s (aLe_s (aLe_s (aLe_s (aLe_s (aLe_s (aLe_s (aLe_n (aLe_n aLe_0))))))))) ?_
                          exact ih_18 _ (by have hm9 := Sh0_e hq_18; omega) hh ((at_ + 1) + 1) J2 rfl ⟨kJ2, by omega, by omega, by omega, by omega⟩
                        · simp only [w32_mod] at h_192
                          have hs2 := hst (at_ + 1).toNat (by omega)
                          refine ww_iload hX (pc := 195) dX0_works_195 rfl ?_
                          refine ww_aload_n hX (pc := 197) dX0_works_197 rfl ?_
                          refine ww_iload hX (pc := 198) dX0_works_198 rfl ?_
                          refine ww_iald hX (pc := 200) hsk (by omega) (by omega) (by omega) dX0_works_200 ?_
                          refine ww_iconst hX (pc := 201) (x := 1) dX0_works_201 rfl ?_
                          refine ww_isub hX (pc := 202) dX0_works_202 ?_
                          refine ww_mmax hX (pc := 203) tb_713 tb_460 tb_13 tb_461 (by decide) (Nat.le_refl 0) (Nat.le_refl 0) (Nat.le_of_ble_eq_true rfl) dX0_works_203 ?_
                          refine ww_nmI (fun v_206 hv_206 => ?_)
                          refine ww_istore hX (pc := 206) (lv' := [some (kR (some 15)), some (kR (some k)), some (kI a), some (kI b), some (kI hh), some (kI v_9), some (kI v_206), some (kI v_29), some (kI 1)]) dX0_works_206 (by decide) rfl rfl ?_
                          rw [i_max_r (by omega) (by omega) (by omega) (by omega)] at hv_206
                          refine ww_goto hX (pc := 208) (tgt := 235) dX0_works_208 (by decide) ?_
                          refine ww_iinc hX (pc := 235) (lv' := [some (kR (some 15)), some (kR (some k)), some (kI a), some (kI b), some (kI hh), some (kI v_9), some (kI (v_206 + 1)), some (kI v_29), some (kI 1)]) dX0_works_235 rfl (by decide) rfl rfl ?_
                          refine ww_goto hX (pc := 238) (tgt := 18) dX0_works_238 (by decide) ?_
                          refine ww_sub [some (kR (some 15)), some (kR (some k)), some (kI a), some (kI b), some (kI hh), some (kI v_9), some (kI (v_206 + 1)), none, none] (aLe_s (aLe_s (aLe_s (aLe_s (aLe_s (aLe_s (aLe_s (aLe_n (aLe_n aLe_0))))))))) ?_
                          exact ih_18 _ (by have hm9 := Sh0_e hq_18; omega) hh (v_206 + 1) J2 rfl ⟨kJ2, by omega, by omega, by omega, by omega⟩
                      · simp only [w32_mod] at h_179
                        refine ww_iinc hX (pc := 182) (lv' := [some (kR (some 15)), some (kR (some k)), some (kI a), some (kI b), some (kI (hh + (-1))), some (kI v_9), some (kI (at_ + 1)), some (kI v_29), some (kI 1)]) dX0_works_182 rfl (by decide) rfl rfl ?_
                        refine ww_goto hX (pc := 185) (tgt := 208) dX0_works_185 (by decide) ?_
                        refine ww_goto hX (pc := 208) (tgt := 235) dX0_works_208 (by decide) ?_
                        refine ww_iinc hX (pc := 235) (lv' := [some (kR (some 15)), some (kR (some k)), some (kI a), some (kI b), some (kI (hh + (-1))), some (kI v_9), some (kI ((at_ + 1) + 1)), some (kI v_29), some (kI 1)]) dX0_works_235 rfl (by decide) rfl rfl ?_
                        refine ww_goto hX (pc := 238) (tgt := 18) dX0_works_238 (by decide) ?_
                        refine ww_sub [some (kR (some 15)), some (kR (some k)), some (kI a), some (kI b), some (kI (hh + (-1))), some (kI v_9), some (kI ((at_ + 1) + 1)), none, none] (aLe_s (aLe_s (aLe_s (aLe_s (aLe_s (aLe_s (aLe_s (aLe_n (aLe_n aLe_0))))))))) ?_
                        exact ih_18 _ (by have hm9 := Sh0_e hq_18; omega) (hh + (-1)) ((at_ + 1) + 1) J2 rfl ⟨kJ2, by omega, by omega, by omega, by omega⟩
              · simp only [w32_mod] at h_123
                refine ww_iload hX (pc := 126) dX0_works_126 rfl ?_
                refine ww_bipush hX (pc := 128) (x := (-21)) dX0_works_128 (by decide) ?_
                refine ww_icmp_ne hX (pc := 130) (tgt := 211) dX0_works_130 (by decide) (fun h_130 => ?_) (fun h_130 => ?_)
                · simp only [w32_mod] at h_130
                  refine ww_iinc hX (pc := 211) (lv' := [some (kR (some 15)), some (kR (some k)), some (kI a), some (kI b), some (kI (hh + (-1))), some (kI v_9), some (kI at_), some (kI v_29), none]) dX0_works_211 rfl (by decide) rfl rfl ?_
                  refine ww_iload hX (pc := 214) dX0_works_214 rfl ?_
                  refine ww_iconst hX (pc := 216) (x := 1) dX0_works_216 rfl ?_
                  refine ww_icmp_lt hX (pc := 217) (tgt := 233) dX0_works_217 (by decide) (fun h_217 => ?_) (fun h_217 => ?_)
                  · simp only [w32_mod] at h_217
                    refine ww_iconst hX (pc := 233) (x := 0) dX0_works_233 rfl ?_
                    refine rZ hX (pc := 234) hT (Nat.le_refl 0) (Nat.le_refl 0) dX0_works_234 (by decide) ?_
                    exact ⟨rfl, kJ2, by omega⟩
                  · simp only [w32_mod] at h_217
                    refine ww_aload_n hX (pc := 220) dX0_works_220 rfl ?_
                    refine ww_iload hX (pc := 221) dX0_works_221 rfl ?_
                    refine ww_iload hX (pc := 223) dX0_works_223 rfl ?_
                    refine ww_iconst hX (pc := 225) (x := 1) dX0_works_225 rfl ?_
                    refine ww_isub hX (pc := 226) dX0_works_226 ?_
                    refine vI2 hX (pc := 227) sX0_56 (xs_15 hL) (c_X0_join l0 hL (by omega) (by omega)) (by decide) (Nat.le_refl 0) (Nat.le_refl 0) (Nat.le_of_ble_eq_true rfl) dX0_works_227 (fun x_227 I_227 J_227 h_227 => ?_)
                    obtain ⟨rfl, kj_227, h_227⟩ := h_227
                    have kJ_227 : Kp 15 18 Ja J_227 := Kp_tr kJ2 kj_227
                    refine ww_if_ne hX (pc := 230) (tgt := 235) dX0_works_230 (by decide) (fun h_230 => ?_) (fun h_230 => ?_)
                    · simp only [w32_mod] at h_230
                      refine ww_iinc hX (pc := 235) (lv' := [some (kR (some 15)), some (kR (some k)), some (kI a), some (kI b), some (kI (hh + (-1))), some (kI v_9), some (kI (at_ + 1)), some (kI v_29), none]) dX0_works_235 rfl (by decide) rfl rfl ?_
                      refine ww_goto hX (pc := 238) (tgt := 18) dX0_works_238 (by decide) ?_
                      refine ww_sub [some (kR (some 15)), some (kR (some k)), some (kI a), some (kI b), some (kI (hh + (-1))), some (kI v_9), some (kI (at_ + 1)), none, none] (aLe_s (aLe_s (aLe_s (aLe_s (aLe_s (aLe_s (aLe_s (aLe_n (aLe_n aLe_0))))))))) ?_
                      exact ih_18 _ (by have hm9 := Sh0_e hq_18; omega) (hh + (-1)) (at_ + 1) J_227 rfl ⟨kJ_227, by omega, by omega, by omega, by omega⟩
                    · simp only [w32_mod] at h_230
                      refine ww_iconst hX (pc := 233) (x := 0) dX0_works_233 rfl ?_
                      refine rZ hX (pc := 234) hT (Nat.le_refl 0) (Nat.le_refl 0) dX0_works_234 (by decide) ?_
                      exact ⟨rfl, kJ_227, by omega⟩
                · simp only [w32_mod] at h_130
                  refine ww_iinc hX (pc := 133) (lv' := [some (kR (some 15)), some (kR (some k)), some (kI a), some (kI b), some (kI hh), some (kI v_9), some (kI (at_ + 1)), some (kI v_29), none]) dX0_works_133 rfl (by decide) rfl rfl ?_
                  refine ww_aload_n hX (pc := 136) dX0_works_136 rfl ?_
                  refine ww_getR hX (pc := 137) fX0_17 (by decide) (xs_15 hL) (xr_15_1 hL) dX0_works_137 ?_
                  refine ww_iload hX (pc := 140) dX0_works_140 rfl ?_
                  refine ww_iconst hX (pc := 142) (x := 1) dX0_works_142 rfl ?_
                  refine ww_isub hX (pc := 143) dX0_works_143 ?_
                  refine ww_lald hX (pc := 144) (xs_17 hL) (by decide) (by omega) (by omega) dX0_works_144 ?_
                  refine ww_lconst hX (pc := 145) (x := 0) dX0_works_145 (by decide) ?_
                  refine ww_lcmp hX (pc := 146) dX0_works_146 ?_
                  refine ww_if_eq hX (pc := 147) (tgt := 154) dX0_works_147 (by decide) (fun h_147 => ?_) (fun h_147 => ?_)
                  · simp only [w32_mod] at h_147
                    refine ww_iconst hX (pc := 154) (x := 0) dX0_works_154 rfl ?_
                    refine ww_iload hX (pc := 155) dX0_works_155 rfl ?_
                    refine ww_bipush hX (pc := 157) (x := (-20)) dX0_works_157 (by decide) ?_
                    refine ww_icmp_ne hX (pc := 159) (tgt := 166) dX0_works_159 (by decide) (fun h_159 => ?_) (fun h_159 => ?_)
                    · simp only [w32_mod] at h_159
                      refine ww_iconst hX (pc := 166) (x := 0) dX0_works_166 rfl ?_
                      refine ww_icmp_ne hX (pc := 167) (tgt := 174) dX0_works_167 (by decide) (fun h_167 => ?_) (fun h_167 => ?_)
                      · simp only [w32_mod] at h_167
                        refine ww_iconst hX (pc := 174) (x := 0) dX0_works_174 rfl ?_
                        refine ww_istore hX (pc := 175) (lv' := [some (kR (some 15)), some (kR (some k)), some (kI a), some (kI b), some (kI hh), some (kI v_9), some (kI (at_ + 1)), some (kI v_29), some (kI 0)]) dX0_works_175 (by decide) rfl rfl ?_
                        refine ww_iload hX (pc := 177) dX0_works_177 rfl ?_
                        refine ww_if_ne hX (pc := 179) (tgt := 188) dX0_works_179 (by decide) (fun h_179 => ?_) (fun h_179 => ?_)
                        · simp only [w32_mod] at h_179
                          refine ww_iload hX (pc := 188) dX0_works_188 rfl ?_
                          refine ww_iload hX (pc := 190) dX0_works_190 rfl ?_
                          refine ww_icmp_ge hX (pc := 192) (tgt := 208) dX0_works_192 (by decide) (fun h_192 => ?_) (fun h_192 => ?_)
                          · simp only [w32_mod] at h_192
                            refine ww_goto hX (pc := 208) (tgt := 235) dX0_works_208 (by decide) ?_
                            refine ww_iinc hX (pc := 235) (lv' := [some (kR (some 15)), some (kR (some k)), some (kI a), some (kI b), some (kI hh), some (kI v_9), some (kI ((at_ + 1) + 1)), some (kI v_29), some (kI 0)]) dX0_works_235 rfl (by decide) rfl rfl ?_
                            refine ww_goto hX (pc := 238) (tgt := 18) dX0_works_238 (by decide) ?_
                            refine ww_sub [some (kR (some 15)), some (kR (some k)), some (kI a), some (kI b), some (kI hh), some (kI v_9), some (kI ((at_ + 1) + 1)), none, none] (aLe_s (aLe_s (aLe_s (aLe_s (aLe_s (aLe_s (aLe_s (aLe_n (aLe_n aLe_0))))))))) ?_
                            exact ih_18 _ (by have hm9 := Sh0_e hq_18; omega) hh ((at_ + 1) + 1) J2 rfl ⟨kJ2, by omega, by omega, by omega, by omega⟩
                          · simp only [w32_mod] at h_192
                            have hs2 := hst (at_ + 1).toNat (by omega)
                            refine ww_iload hX (pc := 195) dX0_works_195 rfl ?_
                            refine ww_aload_n hX (pc := 197) dX0_works_197 rfl ?_
                            refine ww_iload hX (pc := 198) dX0_works_198 rfl ?_
                            refine ww_iald hX (pc := 200) hsk (by omega) (by omega) (by omega) dX0_works_200 ?_
                            refine ww_iconst hX (pc := 201) (x := 1) dX0_works_201 rfl ?_
                            refine ww_isub hX (pc := 202) dX0_works_202 ?_
                            refine ww_mmax hX (pc := 203) tb_713 tb_460 tb_13 tb_461 (by decide) (Nat.le_refl 0) (Nat.le_refl 0) (Nat.le_of_ble_eq_true rfl) dX0_works_203 ?_
                            refine ww_nmI (fun v_206 hv_206 => ?_)
                            refine ww_istore hX (pc := 206) (lv' := [some (kR (some 15)), some (kR (some k)), some (kI a), some (kI b), some (kI hh), some (kI v_9), some (kI v_206), some (kI v_29), some (kI 0)]) dX0_works_206 (by decide) rfl rfl ?_
                            rw [i_max_r (by omega) (by omega) (by omega) (by omega)] at hv_206
                            refine ww_goto hX (pc := 208) (tgt := 235) dX0_works_208 (by decide) ?_
                            refine ww_iinc hX (pc := 235) (lv' := [some (kR (some 15)), some (kR (some k)), some (kI a), some (kI b), some (kI hh), some (kI v_9), some (kI (v_206 + 1)), some (kI v_29), some (kI 0)]) dX0_works_235 rfl (by decide) rfl rfl ?_
                            refine ww_goto hX (pc := 238) (tgt := 18) dX0_works_238 (by decide) ?_
                            refine ww_sub [some (kR (some 15)), some (kR (some k)), some (kI a), some (kI b), some (kI hh), some (kI v_9), some (kI (v_206 + 1)), none, none] (aLe_s (aLe_s (aLe_s (aLe_s (aLe_s (aLe_s (aLe_s (aLe_n (aLe_n aLe_0))))))))) ?_
                            exact ih_18 _ (by have hm9 := Sh0_e hq_18; omega) hh (v_206 + 1) J2 rfl ⟨kJ2, by omega, by omega, by omega, by omega⟩
                        · simp only [w32_mod] at h_179
                          refine ww_iinc hX (pc := 182) (lv' := [some (kR (some 15)), some (kR (some k)), some (kI a), some (kI b), some (kI (hh + (-1))), some (kI v_9), some (kI (at_ + 1)), some (kI v_29), some (kI 0)]) dX0_works_182 rfl (by decide) rfl rfl ?_
                          refine ww_goto hX (pc := 185) (tgt := 208) dX0_works_185 (by decide) ?_
                          refine ww_goto hX (pc := 208) (tgt := 235) dX0_works_208 (by decide) ?_
                          refine ww_iinc hX (pc := 235) (lv' := [some (kR (some 15)), some (kR (some k)), some (kI a), some (kI b), some (kI (hh + (-1))), some (kI v_9), some (kI ((at_ + 1) + 1)), some (kI v_29), some (kI 0)]) dX0_works_235 rfl (by decide) rfl rfl ?_
                          refine ww_goto hX (pc := 238) (tgt := 18) dX0_works_238 (by decide) ?_
                          refine ww_sub [some (kR (some 15)), some (kR (some k)), some (kI a), some (kI b), some (kI (hh + (-1))), some (kI v_9), some (kI ((at_ + 1) + 1)), none, none] (aLe_s (aLe_s (aLe_s (aLe_s (aLe_s (aLe_s (aLe_s (aLe_n (aLe_n aLe_0))))))))) ?_
                          exact ih_18 _ (by have hm9 := Sh0_e hq_18; omega) (hh + (-1)) ((at_ + 1) + 1) J2 rfl ⟨kJ2, by omega, by omega, by omega, by omega⟩
                      · simp only [w32_mod] at h_167
                        refine ww_iconst hX (pc := 170) (x := 1) dX0_works_170 rfl ?_
                        refine ww_goto hX (pc := 171) (tgt := 175) dX0_works_171 (by decide) ?_
                        refine ww_istore hX (pc := 175) (lv' := [some (kR (some 15)), some (kR (some k)), some (kI a), some (kI b), some (kI hh), some (kI v_9), some (kI (at_ + 1)), some (kI v_29), some (kI 1)]) dX0_works_175 (by decide) rfl rfl ?_
                        refine ww_iload hX (pc := 177) dX0_works_177 rfl ?_
                        refine ww_if_ne hX (pc := 179) (tgt := 188) dX0_works_179 (by decide) (fun h_179 => ?_) (fun h_179 => ?_)
                        · simp only [w32_mod] at h_179
                          refine ww_iload hX (pc := 188) dX0_works_188 rfl ?_
                          refine ww_iload hX (pc := 190) dX0_works_190 rfl ?_
                          refine ww_icmp_ge hX (pc := 192) (tgt := 208) dX0_works_192 (by decide) (fun h_192 => ?_) (fun h_192 => ?_)
                          · simp only [w32_mod] at h_192
                            refine ww_goto hX (pc := 208) (tgt := 235) dX0_works_208 (by decide) ?_
                            refine ww_iinc hX (pc := 235) (lv' := [some (kR (some 15)), some (kR (some k)), some (kI a), some (kI b), some (kI hh), some (kI v_9), some (kI ((at_ + 1) + 1)), some (kI v_29), some (kI 1)]) dX0_works_235 rfl (by decide) rfl rfl ?_
                            refine ww_goto hX (pc := 238) (tgt := 18) dX0_works_238 (by decide) ?_
                            refine ww_sub [some (kR (some 15)), some (kR (some k)), some (kI a), some (kI b), some (kI hh), some (kI v_9), some (kI ((at_ + 1) + 1)), none, none] (aLe_s (aLe_s (aLe_s (aLe_s (aLe_s (aLe_s (aLe_s (aLe_n (aLe_n aLe_0))))))))) ?_
                            exact ih_18 _ (by have hm9 := Sh0_e hq_18; omega) hh ((at_ + 1) + 1) J2 rfl ⟨kJ2, by omega, by omega, by omega, by omega⟩
                          · simp only [w32_mod] at h_192
                            have hs2 := hst (at_ + 1).toNat (by omega)
                            refine ww_iload hX (pc := 195) dX0_works_195 rfl ?_
                            refine ww_aload_n hX (pc := 197) dX0_works_197 rfl ?_
                            refine ww_iload hX (pc := 198) dX0_works_198 rfl ?_
                            refine ww_iald hX (pc := 200) hsk (by omega) (by omega) (by omega) dX0_works_200 ?_
                            refine ww_iconst hX (pc := 201) (x := 1) dX0_works_201 rfl ?_
                            refine ww_isub hX (pc := 202) dX0_works_202 ?_
                            refine ww_mmax hX (pc := 203) tb_713 tb_460 tb_13 tb_461 (by decide) (Nat.le_refl 0) (Nat.le_refl 0) (Nat.le_of_ble_eq_true rfl) dX0_works_203 ?_
                            refine ww_nmI (fun v_206 hv_206 => ?_)
                            refine ww_istore hX (pc := 206) (lv' := [some (kR (some 15)), some (kR (some k)), some (kI a), some (kI b), some (kI hh), some (kI v_9), some (kI v_206), some (kI v_29), some (kI 1)]) dX0_works_206 (by decide) rfl rfl ?_
                            rw [i_max_r (by omega) (by omega) (by omega) (by omega)] at hv_206
                            refine ww_goto hX (pc := 208) (tgt := 235) dX0_works_208 (by decide) ?_
                            refine ww_iinc hX (pc := 235) (lv' := [some (kR (some 15)), some (kR (some k)), some (kI a), some (kI b), some (kI hh), some (kI v_9), some (kI (v_206 + 1)), some (kI v_29), some (kI 1)]) dX0_works_235 rfl (by decide) rfl rfl ?_
                            refine ww_goto hX (pc := 238) (tgt := 18) dX0_works_238 (by decide) ?_
                            refine ww_sub [some (kR (some 15)), some (kR (some k)), some (kI a), some (kI b), some (kI hh), some (kI v_9), some (kI (v_206 + 1)), none, none] (aLe_s (aLe_s (aLe_s (aLe_s (aLe_s (aLe_s (aLe_s (aLe_n (aLe_n aLe_0))))))))) ?_
                            exact ih_18 _ (by have hm9 := Sh0_e hq_18; omega) hh (v_206 + 1) J2 rfl ⟨kJ2, by omega, by omega, by omega, by omega⟩
                        · simp only [w32_mod] at h_179
                          refine ww_iinc hX (pc := 182) (lv' := [some (kR (some 15)), some (kR (some k)), some (kI a), some (kI b), some (kI (hh + (-1))), some (kI v_9), some (kI (at_ + 1)), some (kI v_29), some (kI 1)]) dX0_works_182 rfl (by decide) rfl rfl ?_
                          refine ww_goto hX (pc := 185) (tgt := 208) dX0_works_185 (by decide) ?_
                          refine ww_goto hX (pc := 208) (tgt := 235) dX0_works_208 (by decide) ?_
                          refine ww_iinc hX (pc := 235) (lv' := [some (kR (some 15)), some (kR (some k)), some (kI a), some (kI b), some (kI (hh + (-1))), some (kI v_9), some (kI ((at_ + 1) + 1)), some (kI v_29), some (kI 1)]) dX0_works_235 rfl (by decide) rfl rfl ?_
                          refine ww_goto hX (pc := 238) (tgt := 18) dX0_works_238 (by decide) ?_
                          refine ww_sub [some (kR (some 15)), some (kR (some k)), some (kI a), some (kI b), some (kI (hh + (-1))), some (kI v_9), some (kI ((at_ + 1) + 1)), none, none] (aLe_s (aLe_s (aLe_s (aLe_s (aLe_s (aLe_s (aLe_s (aLe_n (aLe_n aLe_0))))))))) ?_
                          exact ih_18 _ (by have hm9 := Sh0_e hq_18; omega) (hh + (-1)) ((at_ + 1) + 1) J2 rfl ⟨kJ2, by omega, by omega, by omega, by omega⟩
                    · simp only [w32_mod] at h_159
                      refine ww_iconst hX (pc := 162) (x := 1) dX0_works_162 rfl ?_
                      refine ww_goto hX (pc := 163) (tgt := 167) dX0_works_163 (by decide) ?_
                      refine ww_icmp_ne hX (pc := 167) (tgt := 174) dX0_works_167 (by decide) (fun h_167 => ?_) (fun h_167 => ?_)
                      · simp only [w32_mod] at h_167
                        refine ww_iconst hX (pc := 174) (x := 0) dX0_works_174 rfl ?_
                        refine ww_istore hX (pc := 175) (lv' := [some (kR (some 15)), some (kR (some k)), some (kI a), some (kI b), some (kI hh), some (kI v_9), some (kI (at_ + 1)), some (kI v_29), some (kI 0)]) dX0_works_175 (by decide) rfl rfl ?_
                        refine ww_iload hX (pc := 177) dX0_works_177 rfl ?_
                        refine ww_if_ne hX (pc := 179) (tgt := 188) dX0_works_179 (by decide) (fun h_179 => ?_) (fun h_179 => ?_)
                        · simp only [w32_mod] at h_179
                          refine ww_iload hX (pc := 188) dX0_works_188 rfl ?_
                          refine ww_iload hX (pc := 190) dX0_works_190 rfl ?_
                          refine ww_icmp_ge hX (pc := 192) (tgt := 208) dX0_works_192 (by decide) (fun h_192 => ?_) (fun h_192 => ?_)
                          · simp only [w32_mod] at h_192
                            refine ww_goto hX (pc := 208) (tgt := 235) dX0_works_208 (by decide) ?_
                            refine ww_iinc hX (pc := 235) (lv' := [some (kR (some 15)), some (kR (some k)), some (kI a), some (kI b), some (kI hh), some (kI v_9), some (kI ((at_ + 1) + 1)), some (kI v_29), some (kI 0)]) dX0_works_235 rfl (by decide) rfl rfl ?_
                            refine ww_goto hX (pc := 238) (tgt := 18) dX0_works_238 (by decide) ?_
                            refine ww_sub [some (kR (some 15)), some (kR (some k)), some (kI a), some (kI b), some (kI hh), some (kI v_9), some (kI ((at_ + 1) + 1)), none, none] (aLe_s (aLe_s (aLe_s (aLe_s (aLe_s (aLe_s (aLe_s (aLe_n (aLe_n aLe_0))))))))) ?_
                            exact ih_18 _ (by have hm9 := Sh0_e hq_18; omega) hh ((at_ + 1) + 1) J2 rfl ⟨kJ2, by omega, by omega, by omega, by omega⟩
                          · simp only [w32_mod] at h_192
                            have hs2 := hst (at_ + 1).toNat (by omega)
                            refine ww_iload hX (pc := 195) dX0_works_195 rfl ?_
                            refine ww_aload_n hX (pc := 197) dX0_works_197 rfl ?_
                            refine ww_iload hX (pc := 198) dX0_works_198 rfl ?_
                            refine ww_iald hX (pc := 200) hsk (by omega) (by omega) (by omega) dX0_works_200 ?_
                            refine ww_iconst hX (pc := 201) (x := 1) dX0_works_201 rfl ?_
                            refine ww_isub hX (pc := 202) dX0_works_202 ?_
                            refine ww_mmax hX (pc := 203) tb_713 tb_460 tb_13 tb_461 (by decide) (Nat.le_refl 0) (Nat.le_refl 0) (Nat.le_of_ble_eq_true rfl) dX0_works_203 ?_
                            refine ww_nmI (fun v_206 hv_206 => ?_)
                            refine ww_istore hX (pc := 206) (lv' := [some (kR (some 15)), some (kR (some k)), some (kI a), some (kI b), some (kI hh), some (kI v_9), some (kI v_206), some (kI v_29), some (kI 0)]) dX0_works_206 (by decide) rfl rfl ?_
                            rw [i_max_r (by omega) (by omega) (by omega) (by omega)] at hv_206
                            refine ww_goto hX (pc := 208) (tgt := 235) dX0_works_208 (by decide) ?_
                            refine ww_iinc hX (pc := 235) (lv' := [some (kR (some 15)), some (kR (some k)), some (kI a), some (kI b), some (kI hh), some (kI v_9), some (kI (v_206 + 1)), some (kI v_29), some (kI 0)]) dX0_works_235 rfl (by decide) rfl rfl ?_
                            refine ww_goto hX (pc := 238) (tgt := 18) dX0_works_238 (by decide) ?_
                            refine ww_sub [some (kR (some 15)), some (kR (some k)), some (kI a), some (kI b), some (kI hh), some (kI v_9), some (kI (v_206 + 1)), none, none] (aLe_s (aLe_s (aLe_s (aLe_s (aLe_s (aLe_s (aLe_s (aLe_n (aLe_n aLe_0))))))))) ?_
                            exact ih_18 _ (by have hm9 := Sh0_e hq_18; omega) hh (v_206 + 1) J2 rfl ⟨kJ2, by omega, by omega, by omega, by omega⟩
                        · simp only [w32_mod] at h_179
                          refine ww_iinc hX (pc := 182) (lv' := [some (kR (some 15)), some (kR (some k)), some (kI a), some (kI b), some (kI (hh + (-1))), some (kI v_9), some (kI (at_ + 1)), some (kI v_29), some (kI 0)]) dX0_works_182 rfl (by decide) rfl rfl ?_
                          refine ww_goto hX (pc := 185) (tgt := 208) dX0_works_185 (by decide) ?_
                          refine ww_goto hX (pc := 208) (tgt := 235) dX0_works_208 (by decide) ?_
                          refine ww_iinc hX (pc := 235) (lv' := [some (kR (some 15)), some (kR (some k)), some (kI a), some (kI b), some (kI (hh + (-1))), some (kI v_9), some (kI ((at_ + 1) + 1)), some (kI v_29), some (kI 0)]) dX0_works_235 rfl (by decide) rfl rfl ?_
                          refine ww_goto hX (pc := 238) (tgt := 18) dX0_works_238 (by decide) ?_
                          refine ww_sub [some (kR (some 15)), some (kR (some k)), some (kI a), some (kI b), some (kI (hh + (-1))), some (kI v_9), some (kI ((at_ + 1) + 1)), none, none] (aLe_s (aLe_s (aLe_s (aLe_s (aLe_s (aLe_s (aLe_s (aLe_n (aLe_n aLe_0))))))))) ?_
                          exact ih_18 _ (by have hm9 := Sh0_e hq_18; omega) (hh + (-1)) ((at_ + 1) + 1) J2 rfl ⟨kJ2, by omega, by omega, by omega, by omega⟩
                      · simp only [w32_mod] at h_167
                        refine ww_iconst hX (pc := 170) (x := 1) dX0_works_170 rfl ?_
                        refine ww_goto hX (pc := 171) (tgt := 175) dX0_works_171 (by decide) ?_
                        refine ww_istore hX (pc := 175) (lv' := [some (kR (some 15)), some (kR (some k)), some (kI a), some (kI b), some (kI hh), some (kI v_9), some (kI (at_ + 1)), some (kI v_29), some (kI 1)]) dX0_works_175 (by decide) rfl rfl ?_
                        refine ww_iload hX (pc := 177) dX0_works_177 rfl ?_
                        refine ww_if_ne hX (pc := 179) (tgt := 188) dX0_works_179 (by decide) (fun h_179 => ?_) (fun h_179 => ?_)
                        · simp only [w32_mod] at h_179
                          refine ww_iload hX (pc := 188) dX0_works_188 rfl ?_
                          refine ww_iload hX (pc := 190) dX0_works_190 rfl ?_
                          refine ww_icmp_ge hX (pc := 192) (tgt := 208) dX0_works_192 (by decide) (fun h_192 => ?_) (fun h_192 => ?_)
                          · simp only [w32_mod] at h_192
                            refine ww_goto hX (pc := 208) (tgt := 235) dX0_works_208 (by decide) ?_
                            refine ww_iinc hX (pc := 235) (lv' := [some (kR (some 15)), some (kR (some k)), some (kI a), some (kI b), some (kI hh), some (kI v_9), some (kI ((at_ + 1) + 1)), some (kI v_29), some (kI 1)]) dX0_works_235 rfl (by decide) rfl rfl ?_
                            refine ww_goto hX (pc := 238) (tgt := 18) dX0_works_238 (by decide) ?_
                            refine ww_sub [some (kR (some 15)), some (kR (some k)), some (kI a), some (kI b), some (kI hh), some (kI v_9), some (kI ((at_ + 1) + 1)), none, none] (aLe_s (aLe_s (aLe_s (aLe_s (aLe_s (aLe_s (aLe_s (aLe_n (aLe_n aLe_0))))))))) ?_
                            exact ih_18 _ (by have hm9 := Sh0_e hq_18; omega) hh ((at_ + 1) + 1) J2 rfl ⟨kJ2, by omega, by omega, by omega, by omega⟩
                          · simp only [w32_mod] at h_192
                            have hs2 := hst (at_ + 1).toNat (by omega)
                            refine ww_iload hX (pc := 195) dX0_works_195 rfl ?_
                            refine ww_aload_n hX (pc := 197) dX0_works_197 rfl ?_
                            refine ww_iload hX (pc := 198) dX0_works_198 rfl ?_
                            refine ww_iald hX (pc := 200) hsk (by omega) (by omega) (by omega) dX0_works_200 ?_
                            refine ww_iconst hX (pc := 201) (x := 1) dX0_works_201 rfl ?_
                            refine ww_isub hX (pc := 202) dX0_works_202 ?_
                            refine ww_mmax hX (pc := 203) tb_713 tb_460 tb_13 tb_461 (by decide) (Nat.le_refl 0) (Nat.le_refl 0) (Nat.le_of_ble_eq_true rfl) dX0_works_203 ?_
                            refine ww_nmI (fun v_206 hv_206 => ?_)
                            refine ww_istore hX (pc := 206) (lv' := [some (kR (some 15)), some (kR (some k)), some (kI a), some (kI b), some (kI hh), some (kI v_9), some (kI v_206), some (kI v_29), some (kI 1)]) dX0_works_206 (by decide) rfl rfl ?_
                            rw [i_max_r (by omega) (by omega) (by omega) (by omega)] at hv_206
                            refine ww_goto hX (pc := 208) (tgt := 235) dX0_works_208 (by decide) ?_
                            refine ww_iinc hX (pc := 235) (lv' := [some (kR (some 15)), some (kR (some k)), some (kI a), some (kI b), some (kI hh), some (kI v_9), some (kI (v_206 + 1)), some (kI v_29), some (kI 1)]) dX0_works_235 rfl (by decide) rfl rfl ?_
                            refine ww_goto hX (pc := 238) (tgt := 18) dX0_works_238 (by decide) ?_
                            refine ww_sub [some (kR (some 15)), some (kR (some k)), some (kI a), some (kI b), some (kI hh), some (kI v_9), some (kI (v_206 + 1)), none, none] (aLe_s (aLe_s (aLe_s (aLe_s (aLe_s (aLe_s (aLe_s (aLe_n (aLe_n aLe_0))))))))) ?_
                            exact ih_18 _ (by have hm9 := Sh0_e hq_18; omega) hh (v_206 + 1) J2 rfl ⟨kJ2, by omega, by omega, by omega, by omega⟩
                        · simp only [w32_mod] at h_179
                          refine ww_iinc hX (pc := 182) (lv' := [some (kR (some 15)), some (kR (some k)), some (kI a), some (kI b), some (kI (hh + (-1))), some (kI v_9), some (kI (at_ + 1)), some (kI v_29), some (kI 1)]) dX0_works_182 rfl (by decide) rfl rfl ?_
                          refine ww_goto hX (pc := 185) (tgt := 208) dX0_works_185 (by decide) ?_
                          refine ww_goto hX (pc := 208) (tgt := 235) dX0_works_208 (by decide) ?_
                          refine ww_iinc hX (pc := 235) (lv' := [some (kR (some 15)), some (kR (some k)), some (kI a), some (kI b), some (kI (hh + (-1))), some (kI v_9), some (kI ((at_ + 1) + 1)), some (kI v_29), some (kI 1)]) dX0_works_235 rfl (by decide) rfl rfl ?_
                          refine ww_goto hX (pc := 238) (tgt := 18) dX0_works_238 (by decide) ?_
                          refine ww_sub [some (kR (some 15)), some (kR (some k)), some (kI a), some (kI b), some (kI (hh + (-1))), some (kI v_9), some (kI ((at_ + 1) + 1)), none, none] (aLe_s (aLe_s (aLe_s (aLe_s (aLe_s (aLe_s (aLe_s (aLe_n (aLe_n aLe_0))))))))) ?_
                          exact ih_18 _ (by have hm9 := Sh0_e hq_18; omega) (hh + (-1)) ((at_ + 1) + 1) J2 rfl ⟨kJ2, by omega, by omega, by omega, by omega⟩
                  · simp only [w32_mod] at h_147
                    refine ww_iconst hX (pc := 150) (x := 1) dX0_works_150 rfl ?_
                    refine ww_goto hX (pc := 151) (tgt := 155) dX0_works_151 (by decide) ?_
                    refine ww_iload hX (pc := 155) dX0_works_155 rfl ?_
                    refine ww_bipush hX (pc := 157) (x := (-20)) dX0_works_157 (by decide) ?_
                    refine ww_icmp_ne hX (pc := 159) (tgt := 166) dX0_works_159 (by decide) (fun h_159 => ?_) (fun h_159 => ?_)
                    · simp only [w32_mod] at h_159
                      refine ww_iconst hX (pc := 166) (x := 0) dX0_works_166 rfl ?_
                      refine ww_icmp_ne hX (pc := 167) (tgt := 174) dX0_works_167 (by decide) (fun h_167 => ?_) (fun h_167 => ?_)
                      · simp only [w32_mod] at h_167
                        refine ww_iconst hX (pc := 174) (x := 0) dX0_works_174 rfl ?_
                        refine ww_istore hX (pc := 175) (lv' := [some (kR (some 15)), some (kR (some k)), some (kI a), some (kI b), some (kI hh), some (kI v_9), some (kI (at_ + 1)), some (kI v_29), some (kI 0)]) dX0_works_175 (by decide) rfl rfl ?_
                        refine ww_iload hX (pc := 177) dX0_works_177 rfl ?_
                        refine ww_if_ne hX (pc := 179) (tgt := 188) dX0_works_179 (by decide) (fun h_179 => ?_) (fun h_179 => ?_)
                        · simp only [w32_mod] at h_179
                          refine ww_iload hX (pc := 188) dX0_works_188 rfl ?_
                          refine ww_iload hX (pc := 190) dX0_works_190 rfl ?_
                          refine ww_icmp_ge hX (pc := 192) (tgt := 208) dX0_works_192 (by decide) (fun h_192 => ?_) (fun h_192 => ?_)
                          · simp only [w32_mod] at h_192
                            refine ww_goto hX (pc := 208) (tgt := 235) dX0_works_208 (by decide) ?_
                            refine ww_iinc hX (pc := 235) (lv' := [some (kR (some 15)), some (kR (some k)), some (kI a), some (kI b), some (kI hh), some (kI v_9), some (kI ((at_ + 1) + 1)), some (kI v_29), some (kI 0)]) dX0_works_235 rfl (by decide) rfl rfl ?_
                            refine ww_goto hX (pc := 238) (tgt := 18) dX0_works_238 (by decide) ?_
                            refine ww_sub [some (kR (some 15)), some (kR (some k)), some (kI a), some (kI b), some (kI hh), some (kI v_9), some (kI ((at_ + 1) + 1)), none, none] (aLe_s (aLe_s (aLe_s (aLe_s (aLe_s (aLe_s (aLe_s (aLe_n (aLe_n aLe_0))))))))) ?_
                            exact ih_18 _ (by have hm9 := Sh0_e hq_18; omega) hh ((at_ + 1) + 1) J2 rfl ⟨kJ2, by omega, by omega, by omega, by omega⟩
                          · simp only [w32_mod] at h_192
                            have hs2 := hst (at_ + 1).toNat (by omega)
                            refine ww_iload hX (pc := 195) dX0_works_195 rfl ?_
                            refine ww_aload_n hX (pc := 197) dX0_works_197 rfl ?_
                            refine ww_iload hX (pc := 198) dX0_works_198 rfl ?_
                            refine ww_iald hX (pc := 200) hsk (by omega) (by omega) (by omega) dX0_works_200 ?_
                            refine ww_iconst hX (pc := 201) (x := 1) dX0_works_201 rfl ?_
                            refine ww_isub hX (pc := 202) dX0_works_202 ?_
                            refine ww_mmax hX (pc := 203) tb_713 tb_460 tb_13 tb_461 (by decide) (Nat.le_refl 0) (Nat.le_refl 0) (Nat.le_of_ble_eq_true rfl) dX0_works_203 ?_
                            refine ww_nmI (fun v_206 hv_206 => ?_)
                            refine ww_istore hX (pc := 206) (lv' := [some (kR (some 15)), some (kR (some k)), some (kI a), some (kI b), some (kI hh), some (kI v_9), some (kI v_206), some (kI v_29), some (kI 0)]) dX0_works_206 (by decide) rfl rfl ?_
                            rw [i_max_r (by omega) (by omega) (by omega) (by omega)] at hv_206
                            refine ww_goto hX (pc := 208) (tgt := 235) dX0_works_208 (by decide) ?_
                            refine ww_iinc hX (pc := 235) (lv' := [some (kR (some 15)), some (kR (some k)), some (kI a), some (kI b), some (kI hh), some (kI v_9), some (kI (v_206 + 1)), some (kI v_29), some (kI 0)]) dX0_works_235 rfl (by decide) rfl rfl ?_
                            refine ww_goto hX (pc := 238) (tgt := 18) dX0_works_238 (by decide) ?_
                            refine ww_sub [some (kR (some 15)), some (kR (some k)), some (kI a), some (kI b), some (kI hh), some (kI v_9), some (kI (v_206 + 1)), none, none] (aLe_s (aLe_s (aLe_s (aLe_s (aLe_s (aLe_s (aLe_s (aLe_n (aLe_n aLe_0))))))))) ?_
                            exact ih_18 _ (by have hm9 := Sh0_e hq_18; omega) hh (v_206 + 1) J2 rfl ⟨kJ2, by omega, by omega, by omega, by omega⟩
                        · simp only [w32_mod] at h_179
                          refine ww_iinc hX (pc := 182) (lv' := [some (kR (some 15)), some (kR (some k)), some (kI a), some (kI b), some (kI (hh + (-1))), some (kI v_9), some (kI (at_ + 1)), some (kI v_29), some (kI 0)]) dX0_works_182 rfl (by decide) rfl rfl ?_
                          refine ww_goto hX (pc := 185) (tgt := 208) dX0_works_185 (by decide) ?_
                          refine ww_goto hX (pc := 208) (tgt := 235) dX0_works_208 (by decide) ?_
                          refine ww_iinc hX (pc := 235) (lv' := [some (kR (some 15)), some (kR (some k)), some (kI a), some (kI b), some (kI (hh + (-1))), some (kI v_9), some (kI ((at_ + 1) + 1)), some (kI v_29), some (kI 0)]) dX0_works_235 rfl (by decide) rfl rfl ?_
                          refine ww_goto hX (pc := 238) (tgt := 18) dX0_works_238 (by decide) ?_
                          refine ww_sub [some (kR (some 15)), some (kR (some k)), some (kI a), some (kI b), some (kI (hh + (-1))), some (kI v_9), some (kI ((at_ + 1) + 1)), none, none] (aLe_s (aLe_s (aLe_s (aLe_s (aLe_s (aLe_s (aLe_s (aLe_n (aLe_n aLe_0))))))))) ?_
                          exact ih_18 _ (by have hm9 := Sh0_e hq_18; omega) (hh + (-1)) ((at_ + 1) + 1) J2 rfl ⟨kJ2, by omega, by omega, by omega, by omega⟩
                      · simp only [w32_mod] at h_167
                        refine ww_iconst hX (pc := 170) (x := 1) dX0_works_170 rfl ?_
                        refine ww_goto hX (pc := 171) (tgt := 175) dX0_works_171 (by decide) ?_
                        refine ww_istore hX (pc := 175) (lv' := [some (kR (some 15)), some (kR (some k)), some (kI a), some (kI b), some (kI hh), some (kI v_9), some (kI (at_ + 1)), some (kI v_29), some (kI 1)]) dX0_works_175 (by decide) rfl rfl ?_
                        refine ww_iload hX (pc := 177) dX0_works_177 rfl ?_
                        refine ww_if_ne hX (pc := 179) (tgt := 188) dX0_works_179 (by decide) (fun h_179 => ?_) (fun h_179 => ?_)
                        · simp only [w32_mod] at h_179
                          refine ww_iload hX (pc := 188) dX0_works_188 rfl ?_
                          refine ww_iload hX (pc := 190) dX0_works_190 rfl ?_
                          refine ww_icmp_ge hX (pc := 192) (tgt := 208) dX0_works_192 (by decide) (fun h_192 => ?_) (fun h_192 => ?_)
                          · simp only [w32_mod] at h_192
                            refine ww_goto hX (pc := 208) (tgt := 235) dX0_works_208 (by decide) ?_
                            refine ww_iinc hX (pc := 235) (lv' := [some (kR (some 15)), some (kR (some k)), some (kI a), some (kI b), some (kI hh), some (kI v_9), some (kI ((at_ + 1) + 1)), some (kI v_29), some (kI 1)]) dX0_works_235 rfl (by decide) rfl rfl ?_
                            refine ww_goto hX (pc := 238) (tgt := 18) dX0_works_238 (by decide) ?_
                            refine ww_sub [some (kR (some 15)), some (kR (some k)), some (kI a), some (kI b), some (kI hh), some (kI v_9), some (kI ((at_ + 1) + 1)), none, none] (aLe_s (aLe_s (aLe_s (aLe_s (aLe_s (aLe_s (aLe_s (aLe_n (aLe_n aLe_0))))))))) ?_
                            exact ih_18 _ (by have hm9 := Sh0_e hq_18; omega) hh ((at_ + 1) + 1) J2 rfl ⟨kJ2, by omega, by omega, by omega, by omega⟩
                          · simp only [w32_mod] at h_192
                            have hs2 := hst (at_ + 1).toNat (by omega)
                            refine ww_iload hX (pc := 195) dX0_works_195 rfl ?_
                            refine ww_aload_n hX (pc := 197) dX0_works_197 rfl ?_
                            refine ww_iload hX (pc := 198) dX0_works_198 rfl ?_
                            refine ww_iald hX (pc := 200) hsk (by omega) (by omega) (by omega) dX0_works_200 ?_
                            refine ww_iconst hX (pc := 201) (x := 1) dX0_works_201 rfl ?_
                            refine ww_isub hX (pc := 202) dX0_works_202 ?_
                            refine ww_mmax hX (pc := 203) tb_713 tb_460 tb_13 tb_461 (by decide) (Nat.le_refl 0) (Nat.le_refl 0) (Nat.le_of_ble_eq_true rfl) dX0_works_203 ?_
                            refine ww_nmI (fun v_206 hv_206 => ?_)
                            refine ww_istore hX (pc := 206) (lv' := [some (kR (some 15)), some (kR (some k)), some (kI a), some (kI b), some (kI hh), some (kI v_9), some (kI v_206), some (kI v_29), some (kI 1)]) dX0_works_206 (by decide) rfl rfl ?_
                            rw [i_max_r (by omega) (by omega) (by omega) (by omega)] at hv_206
                            refine ww_goto hX (pc := 208) (tgt := 235) dX0_works_208 (by decide) ?_
                            refine ww_iinc hX (pc := 235) (lv' := [some (kR (some 15)), some (kR (some k)), some (kI a), some (kI b), some (kI hh), some (kI v_9), some (kI (v_206 + 1)), some (kI v_29), some (kI 1)]) dX0_works_235 rfl (by decide) rfl rfl ?_
                            refine ww_goto hX (pc := 238) (tgt := 18) dX0_works_238 (by decide) ?_
                            refine ww_sub [some (kR (some 15)), some (kR (some k)), some (kI a), some (kI b), some (kI hh), some (kI v_9), some (kI (v_206 + 1)), none, none] (aLe_s (aLe_s (aLe_s (aLe_s (aLe_s (aLe_s (aLe_s (aLe_n (aLe_n aLe_0))))))))) ?_
                            exact ih_18 _ (by have hm9 := Sh0_e hq_18; omega) hh (v_206 + 1) J2 rfl ⟨kJ2, by omega, by omega, by omega, by omega⟩
                        · simp only [w32_mod] at h_179
                          refine ww_iinc hX (pc := 182) (lv' := [some (kR (some 15)), some (kR (some k)), some (kI a), some (kI b), some (kI (hh + (-1))), some (kI v_9), some (kI (at_ + 1)), some (kI v_29), some (kI 1)]) dX0_works_182 rfl (by decide) rfl rfl ?_
                          refine ww_goto hX (pc := 185) (tgt := 208) dX0_works_185 (by decide) ?_
                          refine ww_goto hX (pc := 208) (tgt := 235) dX0_works_208 (by decide) ?_
                          refine ww_iinc hX (pc := 235) (lv' := [some (kR (some 15)), some (kR (some k)), some (kI a), some (kI b), some (kI (hh + (-1))), some (kI v_9), some (kI ((at_ + 1) + 1)), some (kI v_29), some (kI 1)]) dX0_works_235 rfl (by decide) rfl rfl ?_
                          refine ww_goto hX (pc := 238) (tgt := 18) dX0_works_238 (by decide) ?_
                          refine ww_sub [some (kR (some 15)), some (kR (some k)), some (kI a), some (kI b), some (kI (hh + (-1))), some (kI v_9), some (kI ((at_ + 1) + 1)), none, none] (aLe_s (aLe_s (aLe_s (aLe_s (aLe_s (aLe_s (aLe_s (aLe_n (aLe_n aLe_0))))))))) ?_
                          exact ih_18 _ (by have hm9 := Sh0_e hq_18; omega) (hh + (-1)) ((at_ + 1) + 1) J2 rfl ⟨kJ2, by omega, by omega, by omega, by omega⟩
                    · simp only [w32_mod] at h_159
                      refine ww_iconst hX (pc := 162) (x := 1) dX0_works_162 rfl ?_
                      refine ww_goto hX (pc := 163) (tgt := 167) dX0_works_163 (by decide) ?_
                      refine ww_icmp_ne hX (pc := 167) (tgt := 174) dX0_works_167 (by decide) (fun h_167 => ?_) (fun h_167 => ?_)
                      · simp only [w32_mod] at h_167
                        refine ww_iconst hX (pc := 174) (x := 0) dX0_works_174 rfl ?_
                        refine ww_istore hX (pc := 175) (lv' := [some (kR (some 15)), some (kR (some k)), some (kI a), some (kI b), some (kI hh), some (kI v_9), some (kI (at_ + 1)), some (kI v_29), some (kI 0)]) dX0_works_175 (by decide) rfl rfl ?_
                        refine ww_iload hX (pc := 177) dX0_works_177 rfl ?_
                        refine ww_if_ne hX (pc := 179) (tgt := 188) dX0_works_179 (by decide) (fun h_179 => ?_) (fun h_179 => ?_)
                        · simp only [w32_mod] at h_179
                          refine ww_iload hX (pc := 188) dX0_works_188 rfl ?_
                          refine ww_iload hX (pc := 190) dX0_works_190 rfl ?_
                          refine ww_icmp_ge hX (pc := 192) (tgt := 208) dX0_works_192 (by decide) (fun h_192 => ?_) (fun h_192 => ?_)
                          · simp only [w32_mod] at h_192
                            refine ww_goto hX (pc := 208) (tgt := 235) dX0_works_208 (by decide) ?_
                            refine ww_iinc hX (pc := 235) (lv' := [some (kR (some 15)), some (kR (some k)), some (kI a), some (kI b), some (kI hh), some (kI v_9), some (kI ((at_ + 1) + 1)), some (kI v_29), some (kI 0)]) dX0_works_235 rfl (by decide) rfl rfl ?_
                            refine ww_goto hX (pc := 238) (tgt := 18) dX0_works_238 (by decide) ?_
                            refine ww_sub [some (kR (some 15)), some (kR (some k)), some (kI a), some (kI b), some (kI hh), some (kI v_9), some (kI ((at_ + 1) + 1)), none, none] (aLe_s (aLe_s (aLe_s (aLe_s (aLe_s (aLe_s (aLe_s (aLe_n (aLe_n aLe_0))))))))) ?_
                            exact ih_18 _ (by have hm9 := Sh0_e hq_18; omega) hh ((at_ + 1) + 1) J2 rfl ⟨kJ2, by omega, by omega, by omega, by omega⟩
                          · simp only [w32_mod] at h_192
                            have hs2 := hst (at_ + 1).toNat (by omega)
                            refine ww_iload hX (pc := 195) dX0_works_195 rfl ?_
                            refine ww_aload_n hX (pc := 197) dX0_works_197 rfl ?_
                            refine ww_iload hX (pc := 198) dX0_works_198 rfl ?_
                            refine ww_iald hX (pc := 200) hsk (by omega) (by omega) (by omega) dX0_works_200 ?_
                            refine ww_iconst hX (pc := 201) (x := 1) dX0_works_201 rfl ?_
                            refine ww_isub hX (pc := 202) dX0_works_202 ?_
                            refine ww_mmax hX (pc := 203) tb_713 tb_460 tb_13 tb_461 (by decide) (Nat.le_refl 0) (Nat.le_refl 0) (Nat.le_of_ble_eq_true rfl) dX0_works_203 ?_
                            refine ww_nmI (fun v_206 hv_206 => ?_)
                            refine ww_istore hX (pc := 206) (lv' := [some (kR (some 15)), some (kR (some k)), some (kI a), some (kI b), some (kI hh), some (kI v_9), some (kI v_206), some (kI v_29), some (kI 0)]) dX0_works_206 (by decide) rfl rfl ?_
                            rw [i_max_r (by omega) (by omega) (by omega) (by omega)] at hv_206
                            refine ww_goto hX (pc := 208) (tgt := 235) dX0_works_208 (by decide) ?_
                            refine ww_iinc hX (pc := 235) (lv' := [some (kR (some 15)), some (kR (some k)), some (kI a), some (kI b), some (kI hh), some (kI v_9), some (kI (v_206 + 1)), some (kI v_29), some (kI 0)]) dX0_works_235 rfl (by decide) rfl rfl ?_
                            refine ww_goto hX (pc := 238) (tgt := 18) dX0_works_238 (by decide) ?_
                            refine ww_sub [some (kR (some 15)), some (kR (some k)), some (kI a), some (kI b), some (kI hh), some (kI v_9), some (kI (v_206 + 1)), none, none] (aLe_s (aLe_s (aLe_s (aLe_s (aLe_s (aLe_s (aLe_s (aLe_n (aLe_n aLe_0))))))))) ?_
                            exact ih_18 _ (by have hm9 := Sh0_e hq_18; omega) hh (v_206 + 1) J2 rfl ⟨kJ2, by omega, by omega, by omega, by omega⟩
                        · simp only [w32_mod] at h_179
                          refine ww_iinc hX (pc := 182) (lv' := [some (kR (some 15)), some (kR (some k)), some (kI a), some (kI b), some (kI (hh + (-1))), some (kI v_9), some (kI (at_ + 1)), some (kI v_29), some (kI 0)]) dX0_works_182 rfl (by decide) rfl rfl ?_
                          refine ww_goto hX (pc := 185) (tgt := 208) dX0_works_185 (by decide) ?_
                          refine ww_goto hX (pc := 208) (tgt := 235) dX0_works_208 (by decide) ?_
                          refine ww_iinc hX (pc := 235) (lv' := [some (kR (some 15)), some (kR (some k)), some (kI a), some (kI b), some (kI (hh + (-1))), some (kI v_9), some (kI ((at_ + 1) + 1)), some (kI v_29), some (kI 0)]) dX0_works_235 rfl (by decide) rfl rfl ?_
                          refine ww_goto hX (pc := 238) (tgt := 18) dX0_works_238 (by decide) ?_
                          refine ww_sub [some (kR (some 15)), some (kR (some k)), some (kI a), some (kI b), some (kI (hh + (-1))), some (kI v_9), some (kI ((at_ + 1) + 1)), none, none] (aLe_s (aLe_s (aLe_s (aLe_s (aLe_s (aLe_s (aLe_s (aLe_n (aLe_n aLe_0))))))))) ?_
                          exact ih_18 _ (by have hm9 := Sh0_e hq_18; omega) (hh + (-1)) ((at_ + 1) + 1) J2 rfl ⟨kJ2, by omega, by omega, by omega, by omega⟩
                      · simp only [w32_mod] at h_167
                        refine ww_iconst hX (pc := 170) (x := 1) dX0_works_170 rfl ?_
                        refine ww_goto hX (pc := 171) (tgt := 175) dX0_works_171 (by decide) ?_
                        refine ww_istore hX (pc := 175) (lv' := [some (kR (some 15)), some (kR (some k)), some (kI a), some (kI b), some (kI hh), some (kI v_9), some (kI (at_ + 1)), some (kI v_29), some (kI 1)]) dX0_works_175 (by decide) rfl rfl ?_
                        refine ww_iload hX (pc := 177) dX0_works_177 rfl ?_
                        refine ww_if_ne hX (pc := 179) (tgt := 188) dX0_works_179 (by decide) (fun h_179 => ?_) (fun h_179 => ?_)
                        · simp only [w32_mod] at h_179
                          refine ww_iload hX (pc := 188) dX0_works_188 rfl ?_
                          refine ww_iload hX (pc := 190) dX0_works_190 rfl ?_
                          refine ww_icmp_ge hX (pc := 192) (tgt := 208) dX0_works_192 (by decide) (fun h_192 => ?_) (fun h_192 => ?_)
                          · simp only [w32_mod] at h_192
                            refine ww_goto hX (pc := 208) (tgt := 235) dX0_works_208 (by decide) ?_
                            refine ww_iinc hX (pc := 235) (lv' := [some (kR (some 15)), some (kR (some k)), some (kI a), some (kI b), some (kI hh), some (kI v_9), some (kI ((at_ + 1) + 1)), some (kI v_29), some (kI 1)]) dX0_works_235 rfl (by decide) rfl rfl ?_
                            refine ww_goto hX (pc := 238) (tgt := 18) dX0_works_238 (by decide) ?_
                            refine ww_sub [some (kR (some 15)), some (kR (some k)), some (kI a), some (kI b), some (kI hh), some (kI v_9), some (kI ((at_ + 1) + 1)), none, none] (aLe_s (aLe_s (aLe_s (aLe_s (aLe_s (aLe_s (aLe_s (aLe_n (aLe_n aLe_0))))))))) ?_
                            exact ih_18 _ (by have hm9 := Sh0_e hq_18; omega) hh ((at_ + 1) + 1) J2 rfl ⟨kJ2, by omega, by omega, by omega, by omega⟩
                          · simp only [w32_mod] at h_192
                            have hs2 := hst (at_ + 1).toNat (by omega)
                            refine ww_iload hX (pc := 195) dX0_works_195 rfl ?_
                            refine ww_aload_n hX (pc := 197) dX0_works_197 rfl ?_
                            refine ww_iload hX (pc := 198) dX0_works_198 rfl ?_
                            refine ww_iald hX (pc := 200) hsk (by omega) (by omega) (by omega) dX0_works_200 ?_
                            refine ww_iconst hX (pc := 201) (x := 1) dX0_works_201 rfl ?_
                            refine ww_isub hX (pc := 202) dX0_works_202 ?_
                            refine ww_mmax hX (pc := 203) tb_713 tb_460 tb_13 tb_461 (by decide) (Nat.le_refl 0) (Nat.le_refl 0) (Nat.le_of_ble_eq_true rfl) dX0_works_203 ?_
                            refine ww_nmI (fun v_206 hv_206 => ?_)
                            refine ww_istore hX (pc := 206) (lv' := [some (kR (some 15)), some (kR (some k)), some (kI a), some (kI b), some (kI hh), some (kI v_9), some (kI v_206), some (kI v_29), some (kI 1)]) dX0_works_206 (by decide) rfl rfl ?_
                            rw [i_max_r (by omega) (by omega) (by omega) (by omega)] at hv_206
                            refine ww_goto hX (pc := 208) (tgt := 235) dX0_works_208 (by decide) ?_
                            refine ww_iinc hX (pc := 235) (lv' := [some (kR (some 15)), some (kR (some k)), some (kI a), some (kI b), some (kI hh), some (kI v_9), some (kI (v_206 + 1)), some (kI v_29), some (kI 1)]) dX0_works_235 rfl (by decide) rfl rfl ?_
                            refine ww_goto hX (pc := 238) (tgt := 18) dX0_works_238 (by decide) ?_
                            refine ww_sub [some (kR (some 15)), some (kR (some k)), some (kI a), some (kI b), some (kI hh), some (kI v_9), some (kI (v_206 + 1)), none, none] (aLe_s (aLe_s (aLe_s (aLe_s (aLe_s (aLe_s (aLe_s (aLe_n (aLe_n aLe_0))))))))) ?_
                            exact ih_18 _ (by have hm9 := Sh0_e hq_18; omega) hh (v_206 + 1) J2 rfl ⟨kJ2, by omega, by omega, by omega, by omega⟩
                        · simp only [w32_mod] at h_179
                          refine ww_iinc hX (pc := 182) (lv' := [some (kR (some 15)), some (kR (some k)), some (kI a), some (kI b), some (kI (hh + (-1))), some (kI v_9), some (kI (at_ + 1)), some (kI v_29), some (kI 1)]) dX0_works_182 rfl (by decide) rfl rfl ?_
                          refine ww_goto hX (pc := 185) (tgt := 208) dX0_works_185 (by decide) ?_
                          refine ww_goto hX (pc := 208) (tgt := 235) dX0_works_208 (by decide) ?_
                          refine ww_iinc hX (pc := 235) (lv' := [some (kR (some 15)), some (kR (some k)), some (kI a), some (kI b), some (kI (hh + (-1))), some (kI v_9), some (kI ((at_ + 1) + 1)), some (kI v_29), some (kI 1)]) dX0_works_235 rfl (by decide) rfl rfl ?_
                          refine ww_goto hX (pc := 238) (tgt := 18) dX0_works_238 (by decide) ?_
                          refine ww_sub [some (kR (some 15)), some (kR (some k)), some (kI a), some (kI b), some (kI (hh + (-1))), some (kI v_9), some (kI ((at_ + 1) + 1)), none, none] (aLe_s (aLe_s (aLe_s (aLe_s (aLe_s (aLe_s (aLe_s (aLe_n (aLe_n aLe_0))))))))) ?_
                          exact ih_18 _ (by have hm9 := Sh0_e hq_18; omega) (hh + (-1)) ((at_ + 1) + 1) J2 rfl ⟨kJ2, by omega, by omega, by omega, by omega⟩
            · simp only [w32_mod] at h_93
              refine ww_aload_n hX (pc := 96) dX0_works_96 rfl ?_
              refine ww_getR hX (pc := 97) fX0_17 (by decide) (xs_15 hL) (xr_15_1 hL) dX0_works_97 ?_
              refine ww_iload hX (pc := 100) dX0_works_100 rfl ?_
              refine ww_iconst hX (pc := 102) (x := 1) dX0_works_102 rfl ?_
              refine ww_isub hX (pc := 103) dX0_works_103 ?_
              refine ww_lconst hX (pc := 104) (x := 1) dX0_works_104 (by decide) ?_
              refine ww_aload_n hX (pc := 105) dX0_works_105 rfl ?_
              refine ww_getR hX (pc := 106) fX0_17 (by decide) (xs_15 hL) (xr_15_1 hL) dX0_works_106 ?_
              refine ww_iload hX (pc := 109) dX0_works_109 rfl ?_
              refine ww_iconst hX (pc := 111) (x := 1) dX0_works_111 rfl ?_
              refine ww_isub hX (pc := 112) dX0_works_112 ?_
              refine ww_lald hX (pc := 113) (xs_17 hL) (by decide) (by omega) (by omega) dX0_works_113 ?_
              refine ww_lsub hX (pc := 114) dX0_works_114 ?_
              refine ww_last hX (pc := 115) (xs_17 hL) (by decide) (by omega) (by omega) dX0_works_115 ?_
              refine ww_nmK (fun J_115 eJ_115 => ?_)
              have kJ_115 : Kp 15 18 Ja J_115 := by rw [eJ_115]; exact Kp_up kJ2 _ _ (by decide)
              refine ww_goto hX (pc := 116) (tgt := 235) dX0_works_116 (by decide) ?_
              refine ww_iinc hX (pc := 235) (lv' := [some (kR (some 15)), some (kR (some k)), some (kI a), some (kI b), some (kI hh), some (kI v_9), some (kI (at_ + 1)), some (kI v_29), none]) dX0_works_235 rfl (by decide) rfl rfl ?_
              refine ww_goto hX (pc := 238) (tgt := 18) dX0_works_238 (by decide) ?_
              refine ww_sub [some (kR (some 15)), some (kR (some k)), some (kI a), some (kI b), some (kI hh), some (kI v_9), some (kI (at_ + 1)), none, none] (aLe_s (aLe_s (aLe_s (aLe_s (aLe_s (aLe_s (aLe_s (aLe_n (aLe_n aLe_0))))))))) ?_
              exact ih_18 _ (by have hm9 := Sh0_e hq_18; omega) hh (at_ + 1) J_115 rfl ⟨kJ_115, by omega, by omega, by omega, by omega⟩
          · simp only [w32_mod] at h_84
            refine ww_iconst hX (pc := 87) (x := 0) dX0_works_87 rfl ?_
            refine rZ hX (pc := 88) hT (Nat.le_refl 0) (Nat.le_refl 0) dX0_works_88 (by decide) ?_
            exact ⟨rfl, kJ2, by omega⟩
        · simp only [w32_mod] at h_35
          refine ww_iload hX (pc := 38) dX0_works_38 rfl ?_
          refine ww_bipush hX (pc := 40) (x := 64) dX0_works_40 (by decide) ?_
          refine ww_icmp_lt hX (pc := 42) (tgt := 47) dX0_works_42 (by decide) (fun h_42 => ?_) (fun h_42 => ?_)
          · simp only [w32_mod] at h_42
            refine ww_aload_n hX (pc := 47) dX0_works_47 rfl ?_
            refine ww_getR hX (pc := 48) fX0_17 (by decide) (xs_15 hL) (xr_15_1 hL) dX0_works_48 ?_
            refine ww_iload hX (pc := 51) dX0_works_51 rfl ?_
            refine ww_iload hX (pc := 53) dX0_works_53 rfl ?_
            refine ww_if_lt hX (pc := 55) (tgt := 64) dX0_works_55 (by decide) (fun h_55 => ?_) (fun h_55 => ?_)
            · simp only [w32_mod] at h_55
              refine ww_aload_n hX (pc := 64) dX0_works_64 rfl ?_
              refine ww_getR hX (pc := 65) fX0_11 (by decide) (xs_15 hL) (xr_15_0 hL) dX0_works_65 ?_
              refine ww_iconst hX (pc := 68) (x := (-1)) dX0_works_68 rfl ?_
              refine ww_iload hX (pc := 69) dX0_works_69 rfl ?_
              refine ww_isub hX (pc := 71) dX0_works_71 ?_
              refine ww_iald hX (pc := 72) (xs_16 hL) (by decide) (by omega) (by omega) dX0_works_72 ?_
              refine ww_i2l hX (pc := 73) dX0_works_73 ?_
              refine ww_last hX (pc := 74) (xs_17 hL) (by decide) (by omega) (by omega) dX0_works_74 ?_
              refine ww_nmK (fun J_74 eJ_74 => ?_)
              have kJ_74 : Kp 15 18 Ja J_74 := by rw [eJ_74]; exact Kp_up kJ2 _ _ (by decide)
              refine ww_iinc hX (pc := 75) (lv' := [some (kR (some 15)), some (kR (some k)), some (kI a), some (kI b), some (kI (hh + 1)), some (kI v_9), some (kI at_), some (kI v_29), none]) dX0_works_75 rfl (by decide) rfl rfl ?_
              refine ww_goto hX (pc := 78) (tgt := 235) dX0_works_78 (by decide) ?_
              refine ww_iinc hX (pc := 235) (lv' := [some (kR (some 15)), some (kR (some k)), some (kI a), some (kI b), some (kI (hh + 1)), some (kI v_9), some (kI (at_ + 1)), some (kI v_29), none]) dX0_works_235 rfl (by decide) rfl rfl ?_
              refine ww_goto hX (pc := 238) (tgt := 18) dX0_works_238 (by decide) ?_
              refine ww_sub [some (kR (some 15)), some (kR (some k)), some (kI a), some (kI b), some (kI (hh + 1)), some (kI v_9), some (kI (at_ + 1)), none, none] (aLe_s (aLe_s (aLe_s (aLe_s (aLe_s (aLe_s (aLe_s (aLe_n (aLe_n aLe_0))))))))) ?_
              exact ih_18 _ (by have hm9 := Sh0_e hq_18; omega) (hh + 1) (at_ + 1) J_74 rfl ⟨kJ_74, by omega, by omega, by omega, by omega⟩
            · simp only [w32_mod] at h_55
              refine ww_iload hX (pc := 58) dX0_works_58 rfl ?_
              refine ww_i2l hX (pc := 60) dX0_works_60 ?_
              refine ww_goto hX (pc := 61) (tgt := 74) dX0_works_61 (by decide) ?_
              refine ww_last hX (pc := 74) (xs_17 hL) (by decide) (by omega) (by omega) dX0_works_74 ?_
              refine ww_nmK (fun J_74 eJ_74 => ?_)
              have kJ_74 : Kp 15 18 Ja J_74 := by rw [eJ_74]; exact Kp_up kJ2 _ _ (by decide)
              refine ww_iinc hX (pc := 75) (lv' := [some (kR (some 15)), some (kR (some k)), some (kI a), some (kI b), some (kI (hh + 1)), some (kI v_9), some (kI at_), some (kI v_29), none]) dX0_works_75 rfl (by decide) rfl rfl ?_
              refine ww_goto hX (pc := 78) (tgt := 235) dX0_works_78 (by decide) ?_
              refine ww_iinc hX (pc := 235) (lv' := [some (kR (some 15)), some (kR (some k)), some (kI a), some (kI b), some (kI (hh + 1)), some (kI v_9), some (kI (at_ + 1)), some (kI v_29), none]) dX0_works_235 rfl (by decide) rfl rfl ?_
              refine ww_goto hX (pc := 238) (tgt := 18) dX0_works_238 (by decide) ?_
              refine ww_sub [some (kR (some 15)), some (kR (some k)), some (kI a), some (kI b), some (kI (hh + 1)), some (kI v_9), some (kI (at_ + 1)), none, none] (aLe_s (aLe_s (aLe_s (aLe_s (aLe_s (aLe_s (aLe_s (aLe_n (aLe_n aLe_0))))))))) ?_
              exact ih_18 _ (by have hm9 := Sh0_e hq_18; omega) (hh + 1) (at_ + 1) J_74 rfl ⟨kJ_74, by omega, by omega, by omega, by omega⟩
          · simp only [w32_mod] at h_42
            refine ww_iconst hX (pc := 45) (x := 0) dX0_works_45 rfl ?_
            refine rZ hX (pc := 46) hT (Nat.le_refl 0) (Nat.le_refl 0) dX0_works_46 (by decide) ?_
            exact ⟨rfl, kJ2, by omega⟩
  exact hl_18 _ 0 v_16 Ja rfl ⟨(Kp_rf (a := 15) (b := 18)), by omega, by omega, by omega, by omega⟩
set_option maxHeartbeats 4000000 in
set_option maxRecDepth 20000 in
theorem c_X0_isSo (l0 : Launch) {Ia Ja : aI1} {Ra : aR1} {Sa : aS1} (hL : LY Ra Sa) {k n : Nat} (hsk : Sa[k]? = some (0, n)) (hn : n ≤ 65536) (hst : (∀ j, j < n → -10000 ≤ Ia k j ∧ Ia k j ≤ 10000)) {a b : Int} (ha0 : -2147483648 ≤ a) (ha1 : a < 2147483648) (hb0 : -2147483648 ≤ b) (hb1 : b < 2147483648)  : CT l0 2 0 0 mX0_isSo [kR (some 15), kR (some k), kI a, kI b] Ia Ja Ra Sa (cI (fun x I' J' => Ia = I' ∧ Kp 15 18 Ja J' ∧ (x = 0 ∨ x = 1)) Ra Sa) := by
  refine ct_in pn_X0 (Nat.le_of_ble_eq_true rfl) (fun X hX hT hIn => ?_)
  have hX : aK l0 X cX0_isSo 4 RX0 (some .boolean) 2 0 0 := hX
  change WW X 0 [some (kR (some 15)), some (kR (some k)), some (kI a), some (kI b)] [] Ia Ja Ra Sa 0 0
  refine ww_iload_n hX (pc := 0) dX0_isSo_0 rfl ?_
  refine ww_iload_n hX (pc := 1) dX0_isSo_1 rfl ?_
  refine ww_icmp_eq hX (pc := 2) (tgt := 26) dX0_isSo_2 (by decide) (fun h_2 => ?_) (fun h_2 => ?_)
  · simp only [w32_mod] at h_2
    refine ww_iconst hX (pc := 26) (x := 1) dX0_isSo_26 rfl ?_
    refine ww_goto hX (pc := 27) (tgt := 31) dX0_isSo_27 (by decide) ?_
    refine rZ hX (pc := 31) hT (Nat.le_refl 0) (Nat.le_refl 0) dX0_isSo_31 (by decide) ?_
    exact ⟨rfl, (Kp_rf (a := 15) (b := 18)), by omega⟩
  · simp only [w32_mod] at h_2
    refine ww_aload_n hX (pc := 5) dX0_isSo_5 rfl ?_
    refine ww_aload_n hX (pc := 6) dX0_isSo_6 rfl ?_
    refine ww_iload_n hX (pc := 7) dX0_isSo_7 rfl ?_
    refine ww_iload_n hX (pc := 8) dX0_isSo_8 rfl ?_
    refine vI3 hX (pc := 9) sX0_39 (xs_15 hL) (c_X0_works l0 hL hsk hn hst (by omega) (by omega) (by omega) (by omega)) (by decide) (Nat.le_refl 0) (Nat.le_refl 0) (Nat.le_of_ble_eq_true rfl) dX0_isSo_9 (fun x_9 I_9 J_9 h_9 => ?_)
    obtain ⟨rfl, kj_9, h_9⟩ := h_9
    have kJ_9 : Kp 15 18 Ja J_9 := Kp_tr (Kp_rf (a := 15) (b := 18)) kj_9
    refine ww_if_eq hX (pc := 12) (tgt := 30) dX0_isSo_12 (by decide) (fun h_12 => ?_) (fun h_12 => ?_)
    · simp only [w32_mod] at h_12
      refine ww_iconst hX (pc := 30) (x := 0) dX0_isSo_30 rfl ?_
      refine rZ hX (pc := 31) hT (Nat.le_refl 0) (Nat.le_refl 0) dX0_isSo_31 (by decide) ?_
      exact ⟨rfl, kJ_9, by omega⟩
    · simp only [w32_mod] at h_12
      refine ww_aload_n hX (pc := 15) dX0_isSo_15 rfl ?_
      refine ww_getR hX (pc := 16) fX0_17 (by decide) (xs_15 hL) (xr_15_1 hL) dX0_isSo_16 ?_
      refine ww_iconst hX (pc := 19) (x := 0) dX0_isSo_19 rfl ?_
      refine ww_lald hX (pc := 20) (xs_17 hL) (by decide) (by omega) (by omega) dX0_isSo_20 ?_
      refine ww_lconst hX (pc := 21) (x := 0) dX0_isSo_21 (by decide) ?_
      refine ww_lcmp hX (pc := 22) dX0_isSo_22 ?_
      refine ww_if_eq hX (pc := 23) (tgt := 30) dX0_isSo_23 (by decide) (fun h_23 => ?_) (fun h_23 => ?_)
      · simp only [w32_mod] at h_23
        refine ww_iconst hX (pc := 30) (x := 0) dX0_isSo_30 rfl ?_
        refine rZ hX (pc := 31) hT (Nat.le_refl 0) (Nat.le_refl 0) dX0_isSo_31 (by decide) ?_
        exact ⟨rfl, kJ_9, by omega⟩
      · simp only [w32_mod] at h_23
        refine ww_iconst hX (pc := 26) (x := 1) dX0_isSo_26 rfl ?_
        refine ww_goto hX (pc := 27) (tgt := 31) dX0_isSo_27 (by decide) ?_
        refine rZ hX (pc := 31) hT (Nat.le_refl 0) (Nat.le_refl 0) dX0_isSo_31 (by decide) ?_
        exact ⟨rfl, kJ_9, by omega⟩
set_option maxHeartbeats 4000000 in
set_option maxRecDepth 20000 in
theorem c_X0_ask (l0 : Launch) {Ia Ja : aI1} {Ra : aR1} {Sa : aS1} (hL : LY Ra Sa) (hI : XI Ia) {w k m n nm : Nat} (hlw : Sa[w]? = some (12, 0)) (hw0 : Ra w 0 = some k) (hw1 : Ra w 1 = some m) (hsk : Sa[k]? = some (0, n)) (hsm : Sa[m]? = some (0, nm)) (hn : n ≤ 65536) (hnm : nm ≤ 65536) (hk18 : 18 ≤ k) (hm18 : 18 ≤ m) (hw18 : 18 ≤ w) (hst : (∀ j, j < n → -10000 ≤ Ia k j ∧ Ia k j ≤ 10000)) (hmt : ∀ j, j < nm → -10000 ≤ Ia m j ∧ Ia m j ≤ 10000) (hcl : 0 ≤ Ia w 2 ∧ Ia w 2 ≤ 1000) {e : Int}  : CT l0 3 0 0 mX0_ask [kR (some 15), kR (some w), kR (some 1), kI e] Ia Ja Ra Sa (cI (fun x I' J' => Kp 15 18 Ia I' ∧ Kp 15 18 Ja J' ∧ (-1 ≤ x ∧ x ≤ 7)) Ra Sa) := by
  refine ct_in pn_X0 (Nat.le_of_ble_eq_true rfl) (fun X hX hT hIn => ?_)
  have hX : aK l0 X cX0_ask 10 RX0 (some .int) 3 0 0 := hX
  change WW X 0 [some (kR (some 15)), some (kR (some w)), some (kR (some 1)), some (kI e), none, none, none, none, none, none] [] Ia Ja Ra Sa 0 0
  obtain ⟨hn1, hn2⟩ := hI.1
  obtain ⟨hk1, hk2⟩ := hI.2.1
  obtain ⟨hf1, hf2⟩ := hI.fu
  refine ww_aload_n hX (pc := 0) dX0_ask_0 rfl ?_
  refine ww_aload_n hX (pc := 1) dX0_ask_1 rfl ?_
  refine ww_iload_n hX (pc := 2) dX0_ask_2 rfl ?_
  refine vV2 hX (pc := 3) sX0_21 (xs_15 hL) (c_X0_fillWords l0 hL hI) (by decide) (Nat.le_refl 0) (Nat.le_refl 0) (Nat.le_of_ble_eq_true rfl) dX0_ask_3 (fun I_3 J_3 h_3 => ?_)
  have kI_3 : Kp 15 18 Ia I_3 := Kp_tr (Kp_rf (a := 15) (b := 18)) (Kp_wd h_3.1 (by decide) (by decide))
  have kJ_3 : Kp 15 18 Ja J_3 := Kp_tr (Kp_rf (a := 15) (b := 18)) (Kp_wd h_3.2.1 (by decide) (by decide))
  have r1_5_I_3 : I_3 1 5 = Ia 1 5 := Kp_at kI_3 1 5 (by decide)
  have r1_6_I_3 : I_3 1 6 = Ia 1 6 := Kp_at kI_3 1 6 (by decide)
  have rf_I_3 : FU (I_3 1 5) = FU (Ia 1 5) := by rw [r1_5_I_3]
  have hcl3 : I_3 w 2 = Ia w 2 := by rw [h_3.1 w (by omega)]
  have hst3 : (∀ j, j < n → -10000 ≤ I_3 k j ∧ I_3 k j ≤ 10000) := by rw [h_3.1 k (by omega)]; exact hst
  have hmt3 : ∀ j, j < nm → -10000 ≤ I_3 m j ∧ I_3 m j ≤ 10000 := by rw [h_3.1 m (by omega)]; exact hmt
  refine ww_aload_n hX (pc := 6) dX0_ask_6 rfl ?_
  refine ww_getI hX (pc := 7) fX0_25 (by decide) hlw dX0_ask_7 ?_
  refine ww_iconst hX (pc := 10) (x := 1) dX0_ask_10 rfl ?_
  refine ww_isub hX (pc := 11) dX0_ask_11 ?_
  refine ww_nmI (fun v_12 hv_12 => ?_)
  refine ww_istore hX (pc := 12) (lv' := [some (kR (some 15)), some (kR (some w)), some (kR (some 1)), some (kI e), some (kI v_12), none, none, none, none, none]) dX0_ask_12 (by decide) rfl rfl ?_
  have hl_14 : ∀ (n_14 : Nat) (c9 : Int) (J2 : aI1), (c9 + 1).toNat = n_14 → (Kp 15 18 Ja J2 ∧ -1 ≤ c9 ∧ c9 ≤ 1000) → WW X 14 [some (kR (some 15)), some (kR (some w)), some (kR (some 1)), some (kI e), some (kI c9), none, none, none, none, none] [] I_3 J2 Ra Sa 0 0 := by
    intro n_14
    induction n_14 using Nat.strongRecOn with
    | ind n_14 ih_14 =>
      intro c9 J2 hm_14 hv_14
      have hq_14 := Sh0_i hm_14
      clear hm_14
      obtain ⟨kJ2, hc0, hc1⟩ := hv_14
      refine ww_iload hX (pc := 14) dX0_ask_14 rfl ?_
      refine ww_if_lt hX (pc := 16) (tgt := 140) dX0_ask_16 (by decide) (fun h_16 => ?_) (fun h_16 => ?_)
      · simp only [w32_mod] at h_16
        refine ww_iconst hX (pc := 140) (x := (-1)) dX0_ask_140 rfl ?_
        refine rI hX (pc := 141) hT (Nat.le_refl 0) (Nat.le_refl 0) dX0_ask_141 ?_
        exact ⟨kI_3, kJ2, by omega⟩
      · simp only [w32_mod] at h_16
        refine ww_iconst hX (pc := 19) (x := 2) dX0_ask_19 rfl ?_
        refine ww_iload hX (pc := 20) dX0_ask_20 rfl ?_
        refine ww_imul hX (pc := 22) dX0_ask_22 ?_
        refine ww_iconst hX (pc := 23) (x := 2) dX0_ask_23 rfl ?_
        refine ww_iadd hX (pc := 24) dX0_ask_24 ?_
        refine ww_aload_n hX (pc := 25) dX0_ask_25 rfl ?_
        refine ww_getR hX (pc := 26) fX0_29 (by decide) hlw hw1 dX0_ask_26 ?_
        refine ww_alen hX (pc := 29) (by decide) hsm dX0_ask_29 ?_
        refine ww_icmp_ge hX (pc := 30) (tgt := 140) dX0_ask_30 (by decide) (fun h_30 => ?_) (fun h_30 => ?_)
        · simp only [w32_mod] at h_30
          refine ww_iconst hX (pc := 140) (x := (-1)) dX0_ask_140 rfl ?_
          refine rI hX (pc := 141) hT (Nat.le_refl 0) (Nat.le_refl 0) dX0_ask_141 ?_
          exact ⟨kI_3, kJ2, by omega⟩
        · simp only [w32_mod] at h_30
          have hm1 := hmt3 (2 * c9).toNat (by omega)
          have hm2 := hmt3 (2 * c9 + 1).toNat (by omega)
          have hm3 := hmt3 (2 * c9 + 2).toNat (by omega)
          refine ww_aload_n hX (pc := 33) dX0_ask_33 rfl ?_
          refine ww_getR hX (pc := 34) fX0_29 (by decide) hlw hw1 dX0_ask_34 ?_
          refine ww_iconst hX (pc := 37) (x := 2) dX0_ask_37 rfl ?_
          refine ww_iload hX (pc := 38) dX0_ask_38 rfl ?_
          refine ww_imul hX (pc := 40) dX0_ask_40 ?_
          refine ww_iald hX (pc := 41) hsm (by omega) (by omega) (by omega) dX0_ask_41 ?_
          refine ww_nmI (fun v_42 hv_42 => ?_)
          refine ww_istore hX (pc := 42) (lv' := [some (kR (some 15)), some (kR (some w)), some (kR (some 1)), some (kI e), some (kI c9), some (kI v_42), none, none, none, none]) dX0_ask_42 (by decide) rfl rfl ?_
          refine ww_aload_n hX (pc := 44) dX0_ask_44 rfl ?_
          refine ww_getR hX (pc := 45) fX0_29 (by decide) hlw hw1 dX0_ask_45 ?_
          refine ww_iconst hX (pc := 48) (x := 2) dX0_ask_48 rfl ?_
          refine ww_iload hX (pc := 49) dX0_ask_49 rfl ?_
          refine ww_imul hX (pc := 51) dX0_ask_51 ?_
          refine ww_iconst hX (pc := 52) (x := 1) dX0_ask_52 rfl ?_
          refine ww_iadd hX (pc := 53) dX0_ask_53 ?_
          refine ww_iald hX (pc := 54) hsm (by omega) (by omega) (by omega) dX0_ask_54 ?_
          refine ww_nmI (fun v_55 hv_55 => ?_)
          refine ww_istore hX (pc := 55) (lv' := [some (kR (some 15)), some (kR (some w)), some (kR (some 1)), some (kI e), some (kI c9), some (kI v_42), some (kI v_55), none, none, none]) dX0_ask_55 (by decide) rfl rfl ?_
          refine ww_aload_n hX (pc := 57) dX0_ask_57 rfl ?_
          refine ww_getR hX (pc := 58) fX0_29 (by decide) hlw hw1 dX0_ask_58 ?_
          refine ww_iconst hX (pc := 61) (x := 2) dX0_ask_61 rfl ?_
          refine ww_iload hX (pc := 62) dX0_ask_62 rfl ?_
          refine ww_imul hX (pc := 64) dX0_ask_64 ?_
          refine ww_iconst hX (pc := 65) (x := 2) dX0_ask_65 rfl ?_
          refine ww_iadd hX (pc := 66) dX0_ask_66 ?_
          refine ww_iald hX (pc := 67) hsm (by omega) (by omega) (by omega) dX0_ask_67 ?_
          refine ww_nmI (fun v_68 hv_68 => ?_)
          refine ww_istore hX (pc := 68) (lv' := [some (kR (some 15)), some (kR (some w)), some (kR (some 1)), some (kI e), some (kI c9), some (kI v_42), some (kI v_55), some (kI v_68), none, none]) dX0_ask_68 (by decide) rfl rfl ?_
          refine ww_aload_n hX (pc := 70) dX0_ask_70 rfl ?_
          refine ww_aload_n hX (pc := 71) dX0_ask_71 rfl ?_
          refine ww_getR hX (pc := 72) fX0_32 (by decide) hlw hw0 dX0_ask_72 ?_
          refine ww_iload hX (pc := 75) dX0_ask_75 rfl ?_
          refine ww_iload hX (pc := 77) dX0_ask_77 rfl ?_
          refine vI3 hX (pc := 79) sX0_35 (xs_15 hL) (c_X0_isSo l0 hL hsk hn hst3 (by omega) (by omega) (by omega) (by omega)) (by decide) (Nat.le_refl 0) (Nat.le_refl 0) (Nat.le_of_ble_eq_true rfl) dX0_ask_79 (fun x_79 I_79 J_79 h_79 => ?_)
          obtain ⟨rfl, kj_79, h_79⟩ := h_79
          have kJ_79 : Kp 15 18 Ja J_79 := Kp_tr kJ2 kj_79
          refine ww_if_eq hX (pc := 82) (tgt := 134) dX0_ask_82 (by decide) (fun h_82 => ?_) (fun h_82 => ?_)
          · simp only [w32_mod] at h_82
            refine ww_iinc hX (pc := 134) (lv' := [some (kR (some 15)), some (kR (some w)), some (kR (some 1)), some (kI e), some (kI (c9 + (-1))), some (kI v_42), some (kI v_55), some (kI v_68), none, none]) dX0_ask_134 rfl (by decide) rfl rfl ?_
            refine ww_goto hX (pc := 137) (tgt := 14) dX0_ask_137 (by decide) ?_
            refine ww_sub [some (kR (some 15)), some (kR (some w)), some (kR (some 1)), some (kI e), some (kI (c9 + (-1))), none, none, none, none, none] (aLe_s (aLe_s (aLe_s (aLe_s (aLe_s (aLe_n (aLe_n (aLe_n (aLe_n (aLe_n aLe_0)))))))))) ?_
            exact ih_14 _ (by have hm9 := Sh0_e hq_14; omega) (c9 + (-1)) J_79 rfl ⟨kJ_79, by omega, by omega⟩
          · simp only [w32_mod] at h_82
            refine ww_aload_n hX (pc := 85) dX0_ask_85 rfl ?_
            refine ww_aload_n hX (pc := 86) dX0_ask_86 rfl ?_
            refine ww_getR hX (pc := 87) fX0_32 (by decide) hlw hw0 dX0_ask_87 ?_
            refine ww_iload hX (pc := 90) dX0_ask_90 rfl ?_
            refine ww_iload hX (pc := 92) dX0_ask_92 rfl ?_
            refine vI3 hX (pc := 94) sX0_39 (xs_15 hL) (c_X0_works l0 hL hsk hn hst3 (by omega) (by omega) (by omega) (by omega)) (by decide) (Nat.le_refl 0) (Nat.le_refl 0) (Nat.le_of_ble_eq_true rfl) dX0_ask_94 (fun x_94 I_94 J_94 h_94 => ?_)
            obtain ⟨rfl, kj_94, h_94⟩ := h_94
            have kJ_94 : Kp 15 18 Ja J_94 := Kp_tr kJ_79 kj_94
            refine ww_if_eq hX (pc := 97) (tgt := 134) dX0_ask_97 (by decide) (fun h_97 => ?_) (fun h_97 => ?_)
            · simp only [w32_mod] at h_97
              refine ww_iinc hX (pc := 134) (lv' := [some (kR (some 15)), some (kR (some w)), some (kR (some 1)), some (kI e), some (kI (c9 + (-1))), some (kI v_42), some (kI v_55), some (kI v_68), none, none]) dX0_ask_134 rfl (by decide) rfl rfl ?_
              refine ww_goto hX (pc := 137) (tgt := 14) dX0_ask_137 (by decide) ?_
              refine ww_sub [some (kR (some 15)), some (kR (some w)), some (kR (some 1)), some (kI e), some (kI (c9 + (-1))), none, none, none, none, none] (aLe_s (aLe_s (aLe_s (aLe_s (aLe_s (aLe_n (aLe_n (aLe_n (aLe_n (aLe_n aLe_0)))))))))) ?_
              exact ih_14 _ (by have hm9 := Sh0_e hq_14; omega) (c9 + (-1)) J_94 rfl ⟨kJ_94, by omega, by omega⟩
            · simp only [w32_mod] at h_97
              refine ww_aload_n hX (pc := 100) dX0_ask_100 rfl ?_
              refine ww_getR hX (pc := 101) fX0_17 (by decide) (xs_15 hL) (xr_15_1 hL) dX0_ask_101 ?_
              refine ww_iconst hX (pc := 104) (x := 0) dX0_ask_104 rfl ?_
              refine ww_lald hX (pc := 105) (xs_17 hL) (by decide) (by omega) (by omega) dX0_ask_105 ?_
              refine ww_nmL (fun v_106 hv_106 => ?_)
              refine ww_lstore hX (pc := 106) (lv' := [some (kR (some 15)), some (kR (some w)), some (kR (some 1)), some (kI e), some (kI c9), some (kI v_42), some (kI v_55), some (kI v_68), some (kL v_106), none]) dX0_ask_106 (by decide) rfl rfl ?_
              have hq1 := l_cmp_v v_106 0
              have hq0 : w64 0 = 0 := rfl
              refine ww_lload hX (pc := 108) dX0_ask_108 rfl ?_
              refine ww_lconst hX (pc := 110) (x := 0) dX0_ask_110 (by decide) ?_
              refine ww_lcmp hX (pc := 111) dX0_ask_111 ?_
              refine ww_if_lt hX (pc := 112) (tgt := 132) dX0_ask_112 (by decide) (fun h_112 => ?_) (fun h_112 => ?_)
              · simp only [w32_mod] at h_112
                refine ww_iconst hX (pc := 132) (x := (-1)) dX0_ask_132 rfl ?_
                refine rI hX (pc := 133) hT (Nat.le_refl 0) (Nat.le_refl 0) dX0_ask_133 ?_
                exact ⟨kI_3, kJ_94, by omega⟩
              · simp only [w32_mod] at h_112
                have hq2 := l_cmp_v v_106 (I_3 1 6)
                have hq3 : w64 (I_3 1 6) = I_3 1 6 := w64_id (by omega) (by omega)
                refine ww_lload hX (pc := 115) dX0_ask_115 rfl ?_
                refine ww_aload_n hX (pc := 117) dX0_ask_117 rfl ?_
                refine ww_getI hX (pc := 118) fX0_42 (by decide) (xs_1 hL) dX0_ask_118 ?_
                refine ww_i2l hX (pc := 121) dX0_ask_121 ?_
                refine ww_toL (w32_id (by omega) (by omega)) ?_
                refine ww_lcmp hX (pc := 122) dX0_ask_122 ?_
                refine ww_if_ge hX (pc := 123) (tgt := 132) dX0_ask_123 (by decide) (fun h_123 => ?_) (fun h_123 => ?_)
                · simp only [w32_mod] at h_123
                  refine ww_iconst hX (pc := 132) (x := (-1)) dX0_ask_132 rfl ?_
                  refine rI hX (pc := 133) hT (Nat.le_refl 0) (Nat.le_refl 0) dX0_ask_133 ?_
                  exact ⟨kI_3, kJ_94, by omega⟩
                · simp only [w32_mod] at h_123
                  refine ww_lload hX (pc := 126) dX0_ask_126 rfl ?_
                  refine ww_l2i hX (pc := 128) dX0_ask_128 ?_
                  have hq4 := w32_of64 (v := v_106) (by omega) (by omega)
                  refine ww_w32 ?_
                  refine ww_goto hX (pc := 129) (tgt := 133) dX0_ask_129 (by decide) ?_
                  refine rI hX (pc := 133) hT (Nat.le_refl 0) (Nat.le_refl 0) dX0_ask_133 ?_
                  exact ⟨kI_3, kJ_94, by omega⟩
  exact hl_14 _ v_12 J_3 rfl ⟨kJ_3, by omega, by omega⟩
