theorem wyF_y {code : Nat → Int} {g s N x v to : Int} (h0 : 0 ≤ to) (h1 : to < N) (h2 : s.toNat &&& to.toNat = s.toNat) (h3 : i_and (i_xor to s) g = 0) (h4 : code to.toNat = x) : wyF code g s N x v to.toNat = v + 1 :=
  if_pos ⟨by omega, h2, by rw [show ((to.toNat : Nat) : Int) = to by omega]; exact h3, h4⟩
theorem wyF_x {code : Nat → Int} {g s N x v to : Int} (h0 : 0 ≤ to) (h : ¬ (i_and (i_xor to s) g = 0 ∧ code to.toNat = x)) : wyF code g s N x v to.toNat = v :=
  if_neg (fun h2 => h ⟨by have h3 := h2.2.2.1; rw [show ((to.toNat : Nat) : Int) = to by omega] at h3; exact h3, h2.2.2.2⟩)
theorem bcx_pcn {s to : Int} (h0 : 0 ≤ to) (h1 : to < 256) (h2 : 0 ≤ s) (h3 : s < 256) : bc (i_xor to s) = pcn (to.toNat ^^^ s.toNat) := by
  have hx : to.toNat ^^^ s.toNat < 2 ^ 8 := Nat.xor_lt_two_pow (by omega) (by omega)
  rw [ixor_N h2 h3 h0 h1, bc_pcn (by omega) (by omega), Int.toNat_natCast]
theorem mbF_x {code : Nat → Int} {g s N m v to : Int} (h0 : 0 ≤ to) (h1 : to < 256) (h2 : 0 ≤ s) (h3 : s < 256) (h : ¬ bc (i_xor to s) ≤ m) : mbF code g s N m v to.toNat = v :=
  if_neg (fun h9 => h (by rw [bcx_pcn h0 h1 h2 h3]; exact h9.2.2.2.2))
theorem mbF_y {code : Nat → Int} {g s N m v to : Int} (h0 : 0 ≤ to) (h1 : to < 256) (h2 : 0 ≤ s) (h3 : s < 256) (hN : to < N) (hs : s.toNat &&& to.toNat = s.toNat) (hv0 : -2147483648 ≤ v) (hv1 : v < 2147483648) (h : bc (i_xor to s) ≤ m) : i_or v (nbT code g to) = mbF code g s N m v to.toNat := by
  have hc : ((to.toNat : Nat) : Int) = to := by omega
  rw [bcx_pcn h0 h1 h2 h3] at h
  unfold nbT mbF
  rw [hc]
  by_cases g1 : ¬ code to.toNat = -1 ∧ i_and to g = 0
  · rw [if_pos g1, if_pos ⟨hN, hs, g1.1, g1.2, h⟩]
  · rw [if_neg g1, if_neg (fun h9 => g1 ⟨h9.2.2.1, h9.2.2.2.1⟩), ior_z hv0 hv1]
theorem BT_st {code : Nat → Int} {g a N to : Int} {F : Nat → Int} (h : ∀ d : Nat, d < 9 → BT code (fun t => SN code g a N t ∧ pcn (t ^^^ a.toNat) = d ∧ (t : Int) < to) (F d)) (h0 : 0 ≤ to) (h1 : to < 256) (hN : to < N) (a0 : 0 ≤ a) (a1 : a < 256) (hs : a.toNat &&& to.toNat = a.toNat) (hc : -1 ≤ code to.toNat ∧ code to.toNat ≤ 7) : ∀ d : Nat, d < 9 → BT code (fun t => SN code g a N t ∧ pcn (t ^^^ a.toNat) = d ∧ (t : Int) < i_or (to + 1) a) (up1 F (bc (i_xor to a)).toNat (i_or (F (bc (i_xor to a)).toNat) (nbT code g to)) d) := by
  intro d hd
  have hcc : ((to.toNat : Nat) : Int) = to := by omega
  have hor := i_or_ge (a := to + 1) (b := a) (by omega) (by omega) (by omega) (by omega)
  have key : ∀ t : Nat, a.toNat &&& t = a.toNat → ((t : Int) < i_or (to + 1) a ↔ (t : Int) < to ∨ t = to.toNat) := fun t ht => by
    constructor
    · intro h2
      by_cases h3 : (t : Int) < to
      · exact Or.inl h3
      · right
        refine Decidable.byContradiction (fun h4 => ?_)
        have := or_nx_le h0 (by omega) a0 (by omega) hs ht (by omega)
        omega
    · rintro (h2 | h2) <;> omega
  have hb := bcx_pcn h0 h1 a0 a1
  by_cases e : d = (bc (i_xor to a)).toNat
  · subst e
    have hp := pcn_r (to.toNat ^^^ a.toNat)
    have he : ((bc (i_xor to a)).toNat : Int) = pcn (to.toNat ^^^ a.toNat) := by omega
    rw [up1_s]
    by_cases hn : ¬ code to.toNat = -1 ∧ i_and to g = 0
    · rw [show nbT code g to = i_shl 1 (code to.toNat) from if_pos hn]
      refine BT_cg (BT_or (h _ hd) (BT_1 (by omega) (by omega))) (fun t => ?_)
      constructor
      · rintro (⟨b1, b2, b3⟩ | rfl)
        · exact ⟨b1, b2, (key t b1.2).mpr (Or.inl b3)⟩
        · exact ⟨⟨⟨by omega, hn.1, by rw [hcc]; exact hn.2⟩, hs⟩, he.symm, (key _ hs).mpr (Or.inr rfl)⟩
      · rintro ⟨b1, b2, b3⟩
        rcases (key t b1.2).mp b3 with b4 | b4
        · exact Or.inl ⟨b1, b2, b4⟩
        · exact Or.inr b4
    · rw [show nbT code g to = 0 from if_neg hn]
      have hF := (h _ hd).1
      rw [ior_z (by omega) (by omega)]
      refine BT_cg (h _ hd) (fun t => ?_)
      constructor
      · rintro ⟨b1, b2, b3⟩
        exact ⟨b1, b2, (key t b1.2).mpr (Or.inl b3)⟩
      · rintro ⟨b1, b2, b3⟩
        rcases (key t b1.2).mp b3 with b4 | rfl
        · exact ⟨b1, b2, b4⟩
        · exfalso
          have b5 := b1.1.2.2
          rw [hcc] at b5
          exact hn ⟨b1.1.2.1, b5⟩
  · rw [up1_n _ _ e]
    refine BT_cg (h _ hd) (fun t => ?_)
    constructor
    · rintro ⟨b1, b2, b3⟩
      exact ⟨b1, b2, (key t b1.2).mpr (Or.inl b3)⟩
    · rintro ⟨b1, b2, b3⟩
      rcases (key t b1.2).mp b3 with b4 | rfl
      · exact ⟨b1, b2, b4⟩
      · exfalso
        have hp := pcn_r (to.toNat ^^^ a.toNat)
        omega

set_option maxHeartbeats 4000000 in
set_option maxRecDepth 20000 in
theorem c7_X1_canLight (l0 : Launch) {Ia Ja : aI1} {Ra : aR1} {Sa : aS1} (hL : LY Ra Sa) (hI : XI Ia) {a b : Int}  : CT l0 0 0 0 mX1_canLight [kR (some 1), kI a, kI b] Ia Ja Ra Sa (cI (fun x I' J' => Ia = I' ∧ Ja = J' ∧ (x = 0 ∨ x = 1) ∧ (x = 1 ↔ i_and (i_xor b a) (Ia 1 7) = 0)) Ra Sa) := by
  refine ct_in pn_X1 (Nat.le_of_ble_eq_true rfl) (fun X hX hT hIn => ?_)
  have hX : aK l0 X cX1_canLight 3 RX1 (some .boolean) 0 0 0 := hX
  change WW X 0 [some (kR (some 1)), some (kI a), some (kI b)] [] Ia Ja Ra Sa 0 0
  obtain ⟨hn1, hn2⟩ := hI.1
  obtain ⟨hk1, hk2⟩ := hI.2.1
  obtain ⟨hf1, hf2⟩ := hI.fu
  have har := iand_r (i_xor b a) (Ia 1 7)
  refine ww_iload_n hX (pc := 0) dX1_canLight_0 rfl ?_
  refine ww_iload_n hX (pc := 1) dX1_canLight_1 rfl ?_
  refine ww_ixor hX (pc := 2) dX1_canLight_2 ?_
  refine ww_aload_n hX (pc := 3) dX1_canLight_3 rfl ?_
  refine ww_getI hX (pc := 4) fX1_47 (by decide) (xs_1 hL) dX1_canLight_4 ?_
  refine ww_iand hX (pc := 7) dX1_canLight_7 ?_
  refine ww_if_ne hX (pc := 8) (tgt := 15) dX1_canLight_8 (by decide) (fun h_8 => ?_) (fun h_8 => ?_)
  · simp only [w32_mod] at h_8
    refine ww_iconst hX (pc := 15) (x := 0) dX1_canLight_15 rfl ?_
    refine rZ hX (pc := 16) hT (Nat.le_refl 0) (Nat.le_refl 0) dX1_canLight_16 (by decide) ?_
    exact ⟨rfl, rfl, by omega, by omega⟩
  · simp only [w32_mod] at h_8
    refine ww_iconst hX (pc := 11) (x := 1) dX1_canLight_11 rfl ?_
    refine ww_goto hX (pc := 12) (tgt := 16) dX1_canLight_12 (by decide) ?_
    refine rZ hX (pc := 16) hT (Nat.le_refl 0) (Nat.le_refl 0) dX1_canLight_16 (by decide) ?_
    exact ⟨rfl, rfl, by omega, by omega⟩
set_option maxHeartbeats 4000000 in
set_option maxRecDepth 20000 in
theorem c7_X1_isReached (l0 : Launch) {Ia Ja : aI1} {Ra : aR1} {Sa : aS1} (hL : LY Ra Sa) (hI : XI Ia) {a : Int} (ha0 : 0 ≤ a) (ha1 : a ≤ 255)  : CT l0 0 0 0 mX1_isReached [kR (some 1), kI a] Ia Ja Ra Sa (cI (fun x I' J' => Ia = I' ∧ Ja = J' ∧ (x = 0 ∨ x = 1) ∧ (x = 1 ↔ RC (Ia 3) (Ia 1 7) a.toNat)) Ra Sa) := by
  refine ct_in pn_X1 (Nat.le_of_ble_eq_true rfl) (fun X hX hT hIn => ?_)
  have hX : aK l0 X cX1_isReached 2 RX1 (some .boolean) 0 0 0 := hX
  change WW X 0 [some (kR (some 1)), some (kI a)] [] Ia Ja Ra Sa 0 0
  obtain ⟨hn1, hn2⟩ := hI.1
  obtain ⟨hk1, hk2⟩ := hI.2.1
  obtain ⟨hf1, hf2⟩ := hI.fu
  have har := iand_r a (Ia 1 7)
  have hca : ((a.toNat : Nat) : Int) = a := by omega
  have hcd := hI.2.2.2.2.2.2.2.2.2.1 a.toNat (by omega)
  refine ww_iload_n hX (pc := 0) dX1_isReached_0 rfl ?_
  refine ww_if_eq hX (pc := 1) (tgt := 23) dX1_isReached_1 (by decide) (fun h_1 => ?_) (fun h_1 => ?_)
  · simp only [w32_mod] at h_1
    have hrc : RC (Ia 3) (Ia 1 7) a.toNat := Or.inl (by omega)
    refine ww_iconst hX (pc := 23) (x := 1) dX1_isReached_23 rfl ?_
    refine ww_goto hX (pc := 24) (tgt := 28) dX1_isReached_24 (by decide) ?_
    refine rZ hX (pc := 28) hT (Nat.le_refl 0) (Nat.le_refl 0) dX1_isReached_28 (by decide) ?_
    exact ⟨rfl, rfl, by omega, fun _ => hrc, fun _ => rfl⟩
  · simp only [w32_mod] at h_1
    refine ww_aload_n hX (pc := 4) dX1_isReached_4 rfl ?_
    refine ww_getR hX (pc := 5) fX1_15 (by decide) (xs_1 hL) (xr_1_1 hL) dX1_isReached_5 ?_
    refine ww_iload_n hX (pc := 8) dX1_isReached_8 rfl ?_
    refine ww_iald hX (pc := 9) (xs_3 hL) (by decide) (by omega) (by omega) dX1_isReached_9 ?_
    refine ww_iconst hX (pc := 10) (x := (-1)) dX1_isReached_10 rfl ?_
    refine ww_icmp_eq hX (pc := 11) (tgt := 27) dX1_isReached_11 (by decide) (fun h_11 => ?_) (fun h_11 => ?_)
    · simp only [w32_mod] at h_11
      have hrc : ¬ RC (Ia 3) (Ia 1 7) a.toNat := fun h9 => by
        unfold RC at h9
        omega
      refine ww_iconst hX (pc := 27) (x := 0) dX1_isReached_27 rfl ?_
      refine rZ hX (pc := 28) hT (Nat.le_refl 0) (Nat.le_refl 0) dX1_isReached_28 (by decide) ?_
      exact ⟨rfl, rfl, by omega, fun h9 => absurd h9 (by decide), fun h9 => absurd h9 hrc⟩
    · simp only [w32_mod] at h_11
      refine ww_iload_n hX (pc := 14) dX1_isReached_14 rfl ?_
      refine ww_aload_n hX (pc := 15) dX1_isReached_15 rfl ?_
      refine ww_getI hX (pc := 16) fX1_47 (by decide) (xs_1 hL) dX1_isReached_16 ?_
      refine ww_iand hX (pc := 19) dX1_isReached_19 ?_
      refine ww_if_ne hX (pc := 20) (tgt := 27) dX1_isReached_20 (by decide) (fun h_20 => ?_) (fun h_20 => ?_)
      · simp only [w32_mod] at h_20
        have hrc : ¬ RC (Ia 3) (Ia 1 7) a.toNat := fun h9 => by
          unfold RC at h9
          rw [hca] at h9
          omega
        refine ww_iconst hX (pc := 27) (x := 0) dX1_isReached_27 rfl ?_
        refine rZ hX (pc := 28) hT (Nat.le_refl 0) (Nat.le_refl 0) dX1_isReached_28 (by decide) ?_
        exact ⟨rfl, rfl, by omega, fun h9 => absurd h9 (by decide), fun h9 => absurd h9 hrc⟩
      · simp only [w32_mod] at h_20
        have hrc : RC (Ia 3) (Ia 1 7) a.toNat := Or.inr ⟨by omega, by rw [hca]; omega⟩
        refine ww_iconst hX (pc := 23) (x := 1) dX1_isReached_23 rfl ?_
        refine ww_goto hX (pc := 24) (tgt := 28) dX1_isReached_24 (by decide) ?_
        refine rZ hX (pc := 28) hT (Nat.le_refl 0) (Nat.le_refl 0) dX1_isReached_28 (by decide) ?_
        exact ⟨rfl, rfl, by omega, fun _ => hrc, fun _ => rfl⟩
set_option maxHeartbeats 4000000 in
set_option maxRecDepth 20000 in
theorem c7_X1_newsBit (l0 : Launch) {Ia Ja : aI1} {Ra : aR1} {Sa : aS1} (hL : LY Ra Sa) (hI : XI Ia) {a : Int} (ha0 : 0 ≤ a) (ha1 : a ≤ 255)  : CT l0 1 0 0 mX1_newsBit [kR (some 1), kI a] Ia Ja Ra Sa (cI (fun x I' J' => Ia = I' ∧ Ja = J' ∧ x = nbT (Ia 3) (Ia 1 7) a) Ra Sa) := by
  refine ct_in pn_X1 (Nat.le_of_ble_eq_true rfl) (fun X hX hT hIn => ?_)
  have hX : aK l0 X cX1_newsBit 2 RX1 (some .int) 1 0 0 := hX
  change WW X 0 [some (kR (some 1)), some (kI a)] [] Ia Ja Ra Sa 0 0
  obtain ⟨hn1, hn2⟩ := hI.1
  obtain ⟨hk1, hk2⟩ := hI.2.1
  obtain ⟨hf1, hf2⟩ := hI.fu
  have hca : ((a.toNat : Nat) : Int) = a := by omega
  have hcd := hI.2.2.2.2.2.2.2.2.2.1 a.toNat (by omega)
  refine ww_aload_n hX (pc := 0) dX1_newsBit_0 rfl ?_
  refine ww_getR hX (pc := 1) fX1_15 (by decide) (xs_1 hL) (xr_1_1 hL) dX1_newsBit_1 ?_
  refine ww_iload_n hX (pc := 4) dX1_newsBit_4 rfl ?_
  refine ww_iald hX (pc := 5) (xs_3 hL) (by decide) (by omega) (by omega) dX1_newsBit_5 ?_
  refine ww_iconst hX (pc := 6) (x := (-1)) dX1_newsBit_6 rfl ?_
  refine ww_icmp_eq hX (pc := 7) (tgt := 29) dX1_newsBit_7 (by decide) (fun h_7 => ?_) (fun h_7 => ?_)
  · simp only [w32_mod] at h_7
    have hnb : ¬ (¬ Ia 3 a.toNat = -1 ∧ i_and a (Ia 1 7) = 0) := fun h9 => by have := h9.1; omega
    refine ww_iconst hX (pc := 29) (x := 0) dX1_newsBit_29 rfl ?_
    refine rI hX (pc := 30) hT (Nat.le_refl 0) (Nat.le_refl 0) dX1_newsBit_30 ?_
    exact ⟨rfl, rfl, (if_neg hnb).symm⟩
  · simp only [w32_mod] at h_7
    refine ww_aload_n hX (pc := 10) dX1_newsBit_10 rfl ?_
    refine ww_iload_n hX (pc := 11) dX1_newsBit_11 rfl ?_
    refine vI1 hX (pc := 12) sX1_50 (xs_1 hL) (c7_X1_isReached l0 hL hI (by omega) (by omega)) (by decide) (Nat.le_refl 0) (Nat.le_refl 0) (Nat.le_of_ble_eq_true rfl) dX1_newsBit_12 (fun x_12 I_12 J_12 h_12 => ?_)
    obtain ⟨rfl, rfl, h_12⟩ := h_12
    refine ww_if_eq hX (pc := 15) (tgt := 29) dX1_newsBit_15 (by decide) (fun h_15 => ?_) (fun h_15 => ?_)
    · simp only [w32_mod] at h_15
      have hnb : ¬ (¬ Ia 3 a.toNat = -1 ∧ i_and a (Ia 1 7) = 0) := fun h9 => by
        have h8 : x_12 = 1 := h_12.2.mpr (Or.inr ⟨h9.1, by rw [hca]; exact h9.2⟩)
        omega
      refine ww_iconst hX (pc := 29) (x := 0) dX1_newsBit_29 rfl ?_
      refine rI hX (pc := 30) hT (Nat.le_refl 0) (Nat.le_refl 0) dX1_newsBit_30 ?_
      exact ⟨rfl, rfl, (if_neg hnb).symm⟩
    · simp only [w32_mod] at h_15
      have hnb : (¬ Ia 3 a.toNat = -1 ∧ i_and a (Ia 1 7) = 0) := by
        refine ⟨by omega, ?_⟩
        rcases h_12.2.mp (by omega) with h9 | h9
        · rw [show a = 0 by omega]; exact zand_i _
        · rw [← hca]; exact h9.2
      refine ww_iconst hX (pc := 18) (x := 1) dX1_newsBit_18 rfl ?_
      refine ww_aload_n hX (pc := 19) dX1_newsBit_19 rfl ?_
      refine ww_getR hX (pc := 20) fX1_15 (by decide) (xs_1 hL) (xr_1_1 hL) dX1_newsBit_20 ?_
      refine ww_iload_n hX (pc := 23) dX1_newsBit_23 rfl ?_
      refine ww_iald hX (pc := 24) (xs_3 hL) (by decide) (by omega) (by omega) dX1_newsBit_24 ?_
      refine ww_ishl hX (pc := 25) dX1_newsBit_25 ?_
      refine ww_goto hX (pc := 26) (tgt := 30) dX1_newsBit_26 (by decide) ?_
      refine rI hX (pc := 30) hT (Nat.le_refl 0) (Nat.le_refl 0) dX1_newsBit_30 ?_
      exact ⟨rfl, rfl, (if_pos hnb).symm⟩
set_option maxHeartbeats 4000000 in
set_option maxRecDepth 20000 in
theorem c7_X1_countReached (l0 : Launch) {Ia Ja : aI1} {Ra : aR1} {Sa : aS1} (hL : LY Ra Sa) (hI : XI Ia)  : CT l0 1 0 0 mX1_countReached [kR (some 1)] Ia Ja Ra Sa (cI (fun x I' J' => Ia = I' ∧ Ja = J' ∧ x = fW (rcF (Ia 3) (Ia 1 7)) 0 (FU (Ia 1 5) + 1).toNat) Ra Sa) := by
  refine ct_in pn_X1 (Nat.le_of_ble_eq_true rfl) (fun X hX hT hIn => ?_)
  have hX : aK l0 X cX1_countReached 4 RX1 (some .int) 1 0 0 := hX
  change WW X 0 [some (kR (some 1)), none, none, none] [] Ia Ja Ra Sa 0 0
  obtain ⟨hn1, hn2⟩ := hI.1
  obtain ⟨hk1, hk2⟩ := hI.2.1
  obtain ⟨hf1, hf2⟩ := hI.fu
  refine ww_iconst hX (pc := 0) (x := 0) dX1_countReached_0 rfl ?_
  refine ww_istore_n hX (pc := 1) (lv' := [some (kR (some 1)), some (kI 0), none, none]) dX1_countReached_1 (by decide) rfl rfl ?_
  refine ww_aload_n hX (pc := 2) dX1_countReached_2 rfl ?_
  refine vI0 hX (pc := 3) sX1_43 (xs_1 hL) (c_X1_full l0 hL hI) (by decide) (Nat.le_refl 0) (Nat.le_refl 0) (Nat.le_of_ble_eq_true rfl) dX1_countReached_3 (fun x_3 I_3 J_3 h_3 => ?_)
  obtain ⟨rfl, rfl, h_3⟩ := h_3
  refine ww_istore_n hX (pc := 6) (lv' := [some (kR (some 1)), some (kI 0), some (kI x_3), none]) dX1_countReached_6 (by decide) rfl rfl ?_
  refine ww_iconst hX (pc := 7) (x := 0) dX1_countReached_7 rfl ?_
  refine ww_istore_n hX (pc := 8) (lv' := [some (kR (some 1)), some (kI 0), some (kI x_3), some (kI 0)]) dX1_countReached_8 (by decide) rfl rfl ?_
  have hl_9 : ∀ (n_9 : Nat) (mn : Int) (q : Int), (x_3 + 1 - q).toNat = n_9 → ((0 ≤ q ∧ q ≤ x_3 + 1) ∧ mn = fW (rcF (Ia 3) (Ia 1 7)) 0 q.toNat) → WW X 9 [some (kR (some 1)), some (kI mn), some (kI x_3), some (kI q)] [] Ia Ja Ra Sa 0 0 := by
    intro n_9
    induction n_9 using Nat.strongRecOn with
    | ind n_9 ih_9 =>
      intro mn q hm_9 hv_9
      obtain ⟨⟨hq0, hq1⟩, hmn⟩ := hv_9
      refine ww_iload_n hX (pc := 9) dX1_countReached_9 rfl ?_
      refine ww_iload_n hX (pc := 10) dX1_countReached_10 rfl ?_
      refine ww_icmp_gt hX (pc := 11) (tgt := 36) dX1_countReached_11 (by decide) (fun h_11 => ?_) (fun h_11 => ?_)
      · simp only [w32_mod] at h_11
        refine ww_iload_n hX (pc := 36) dX1_countReached_36 rfl ?_
        refine rI hX (pc := 37) hT (Nat.le_refl 0) (Nat.le_refl 0) dX1_countReached_37 ?_
        exact ⟨rfl, rfl, by rw [hmn, show q = FU (Ia 1 5) + 1 by omega]⟩
      · simp only [w32_mod] at h_11
        refine ww_iload_n hX (pc := 14) dX1_countReached_14 rfl ?_
        refine ww_aload_n hX (pc := 15) dX1_countReached_15 rfl ?_
        refine ww_iload_n hX (pc := 16) dX1_countReached_16 rfl ?_
        refine vI1 hX (pc := 17) sX1_50 (xs_1 hL) (c7_X1_isReached l0 hL hI (by omega) (by omega)) (by decide) (Nat.le_refl 0) (Nat.le_refl 0) (Nat.le_of_ble_eq_true rfl) dX1_countReached_17 (fun x_17 I_17 J_17 h_17 => ?_)
        obtain ⟨rfl, rfl, h_17⟩ := h_17
        refine ww_if_eq hX (pc := 20) (tgt := 27) dX1_countReached_20 (by decide) (fun h_20 => ?_) (fun h_20 => ?_)
        · simp only [w32_mod] at h_20
          have hst : rcF (Ia 3) (Ia 1 7) mn q.toNat = mn + 0 := by
            rw [rcF_0 (fun h9 => by have := h_17.2.mpr h9; omega), Int.add_zero]
          refine ww_iconst hX (pc := 27) (x := 0) dX1_countReached_27 rfl ?_
          refine ww_iadd hX (pc := 28) dX1_countReached_28 ?_
          refine ww_nmI (fun v_29 hv_29 => ?_)
          refine ww_istore_n hX (pc := 29) (lv' := [some (kR (some 1)), some (kI v_29), some (kI x_3), some (kI q)]) dX1_countReached_29 (by decide) rfl rfl ?_
          refine ww_iinc hX (pc := 30) (lv' := [some (kR (some 1)), some (kI v_29), some (kI x_3), some (kI (q + 1))]) dX1_countReached_30 rfl (by decide) rfl rfl ?_
          refine ww_goto hX (pc := 33) (tgt := 9) dX1_countReached_33 (by decide) ?_
          exact ih_9 _ (by omega) v_29 (q + 1) rfl ⟨⟨by omega, by omega⟩, by rw [fW_s _ _ (by omega), ← hmn, hst]; omega⟩
        · simp only [w32_mod] at h_20
          have hst : rcF (Ia 3) (Ia 1 7) mn q.toNat = mn + 1 := rcF_1 (h_17.2.mp (by omega))
          refine ww_iconst hX (pc := 23) (x := 1) dX1_countReached_23 rfl ?_
          refine ww_goto hX (pc := 24) (tgt := 28) dX1_countReached_24 (by decide) ?_
          refine ww_iadd hX (pc := 28) dX1_countReached_28 ?_
          refine ww_nmI (fun v_29 hv_29 => ?_)
          refine ww_istore_n hX (pc := 29) (lv' := [some (kR (some 1)), some (kI v_29), some (kI x_3), some (kI q)]) dX1_countReached_29 (by decide) rfl rfl ?_
          refine ww_iinc hX (pc := 30) (lv' := [some (kR (some 1)), some (kI v_29), some (kI x_3), some (kI (q + 1))]) dX1_countReached_30 rfl (by decide) rfl rfl ?_
          refine ww_goto hX (pc := 33) (tgt := 9) dX1_countReached_33 (by decide) ?_
          exact ih_9 _ (by omega) v_29 (q + 1) rfl ⟨⟨by omega, by omega⟩, by rw [fW_s _ _ (by omega), ← hmn, hst]; omega⟩
  exact hl_9 _ 0 0 rfl ⟨⟨by omega, by omega⟩, rfl⟩
set_option maxHeartbeats 4000000 in
set_option maxRecDepth 20000 in
theorem c7_X1_countWays (l0 : Launch) {Ia Ja : aI1} {Ra : aR1} {Sa : aS1} (hL : LY Ra Sa) (hI : XI Ia) {a b : Int} (ha0 : 0 ≤ a) (ha1 : a ≤ FU (Ia 1 5)) (hb0 : 0 ≤ b) (hb1 : b ≤ 7)  : CT l0 1 0 0 mX1_countWays [kR (some 1), kI a, kI b] Ia Ja Ra Sa (cI (fun x I' J' => Ia = I' ∧ Ja = J' ∧ x = fW (wyF (Ia 3) (Ia 1 7) a (FU (Ia 1 5) + 1) b) 0 (FU (Ia 1 5) + 1).toNat) Ra Sa) := by
  refine ct_in pn_X1 (Nat.le_of_ble_eq_true rfl) (fun X hX hT hIn => ?_)
  have hX : aK l0 X cX1_countWays 6 RX1 (some .int) 1 0 0 := hX
  change WW X 0 [some (kR (some 1)), some (kI a), some (kI b), none, none, none] [] Ia Ja Ra Sa 0 0
  obtain ⟨hn1, hn2⟩ := hI.1
  obtain ⟨hk1, hk2⟩ := hI.2.1
  obtain ⟨hf1, hf2⟩ := hI.fu
  refine ww_iconst hX (pc := 0) (x := 0) dX1_countWays_0 rfl ?_
  refine ww_istore_n hX (pc := 1) (lv' := [some (kR (some 1)), some (kI a), some (kI b), some (kI 0), none, none]) dX1_countWays_1 (by decide) rfl rfl ?_
  refine ww_aload_n hX (pc := 2) dX1_countWays_2 rfl ?_
  refine vI0 hX (pc := 3) sX1_43 (xs_1 hL) (c_X1_full l0 hL hI) (by decide) (Nat.le_refl 0) (Nat.le_refl 0) (Nat.le_of_ble_eq_true rfl) dX1_countWays_3 (fun x_3 I_3 J_3 h_3 => ?_)
  obtain ⟨rfl, rfl, h_3⟩ := h_3
  refine ww_istore hX (pc := 6) (lv' := [some (kR (some 1)), some (kI a), some (kI b), some (kI 0), some (kI x_3), none]) dX1_countWays_6 (by decide) rfl rfl ?_
  refine ww_iload_n hX (pc := 8) dX1_countWays_8 rfl ?_
  refine ww_istore hX (pc := 9) (lv' := [some (kR (some 1)), some (kI a), some (kI b), some (kI 0), some (kI x_3), some (kI a)]) dX1_countWays_9 (by decide) rfl rfl ?_
  have hl_11 : ∀ (n_11 : Nat) (mn : Int) (to : Int), (x_3 + 1 - to).toNat = n_11 → ((0 ≤ to ∧ to < 2147483648) ∧ a.toNat &&& to.toNat = a.toNat ∧ mn = fW (wyF (Ia 3) (Ia 1 7) a (FU (Ia 1 5) + 1) b) 0 to.toNat) → WW X 11 [some (kR (some 1)), some (kI a), some (kI b), some (kI mn), some (kI x_3), some (kI to)] [] Ia Ja Ra Sa 0 0 := by
    intro n_11
    induction n_11 using Nat.strongRecOn with
    | ind n_11 ih_11 =>
      intro mn to hm_11 hv_11
      obtain ⟨⟨hto0, hto1⟩, hsu, hmn⟩ := hv_11
      refine ww_iload hX (pc := 11) dX1_countWays_11 rfl ?_
      refine ww_iload hX (pc := 13) dX1_countWays_13 rfl ?_
      refine ww_icmp_gt hX (pc := 15) (tgt := 58) dX1_countWays_15 (by decide) (fun h_15 => ?_) (fun h_15 => ?_)
      · simp only [w32_mod] at h_15
        refine ww_iload_n hX (pc := 58) dX1_countWays_58 rfl ?_
        refine rI hX (pc := 59) hT (Nat.le_refl 0) (Nat.le_refl 0) dX1_countWays_59 ?_
        exact ⟨rfl, rfl, by rw [hmn]; exact fW_N (by omega) (fun v t h => wyF_N v t (by omega))⟩
      · simp only [w32_mod] at h_15
        refine ww_iload_n hX (pc := 18) dX1_countWays_18 rfl ?_
        refine ww_aload_n hX (pc := 19) dX1_countWays_19 rfl ?_
        refine ww_getR hX (pc := 20) fX1_15 (by decide) (xs_1 hL) (xr_1_1 hL) dX1_countWays_20 ?_
        refine ww_iload hX (pc := 23) dX1_countWays_23 rfl ?_
        have hcd := hI.2.2.2.2.2.2.2.2.2.1 to.toNat (by omega)
        have hnx := fW_nx (f := wyF (Ia 3) (Ia 1 7) a (FU (Ia 1 5) + 1) b) (z := 0) (to := to) (e := a) (by omega) (by omega) (by omega) (by omega) hsu wyF_n
        refine ww_iald hX (pc := 25) (xs_3 hL) (by decide) (by omega) (by omega) dX1_countWays_25 ?_
        refine ww_iload_n hX (pc := 26) dX1_countWays_26 rfl ?_
        refine ww_icmp_ne hX (pc := 27) (tgt := 44) dX1_countWays_27 (by decide) (fun h_27 => ?_) (fun h_27 => ?_)
        · simp only [w32_mod] at h_27
          have hst : wyF (Ia 3) (Ia 1 7) a (FU (Ia 1 5) + 1) b mn to.toNat = mn + 0 := by
            rw [wyF_x (by omega) (fun h9 => by have := h9.2; omega), Int.add_zero]
          refine ww_iconst hX (pc := 44) (x := 0) dX1_countWays_44 rfl ?_
          refine ww_iadd hX (pc := 45) dX1_countWays_45 ?_
          refine ww_nmI (fun v_46 hv_46 => ?_)
          refine ww_istore_n hX (pc := 46) (lv' := [some (kR (some 1)), some (kI a), some (kI b), some (kI v_46), some (kI x_3), some (kI to)]) dX1_countWays_46 (by decide) rfl rfl ?_
          refine ww_iload hX (pc := 47) dX1_countWays_47 rfl ?_
          refine ww_iconst hX (pc := 49) (x := 1) dX1_countWays_49 rfl ?_
          refine ww_iadd hX (pc := 50) dX1_countWays_50 ?_
          refine ww_iload_n hX (pc := 51) dX1_countWays_51 rfl ?_
          refine ww_ior hX (pc := 52) dX1_countWays_52 ?_
          refine ww_nmI (fun v_53 hv_53 => ?_)
          refine ww_istore hX (pc := 53) (lv' := [some (kR (some 1)), some (kI a), some (kI b), some (kI v_46), some (kI x_3), some (kI v_53)]) dX1_countWays_53 (by decide) rfl rfl ?_
          refine ww_goto hX (pc := 55) (tgt := 11) dX1_countWays_55 (by decide) ?_
          have hor := i_or_ge (a := to + 1) (b := a) (by omega) (by omega) (by omega) (by omega)
          exact ih_11 _ (by omega) v_46 v_53 rfl ⟨⟨by omega, by omega⟩, by rw [hv_53]; exact or_nx_sub (by omega) (by omega) (by omega) (by omega), by rw [hv_53, hnx, ← hmn, hst]; omega⟩
        · simp only [w32_mod] at h_27
          refine ww_aload_n hX (pc := 30) dX1_countWays_30 rfl ?_
          refine ww_iload_n hX (pc := 31) dX1_countWays_31 rfl ?_
          refine ww_iload hX (pc := 32) dX1_countWays_32 rfl ?_
          refine vI2 hX (pc := 34) sX1_54 (xs_1 hL) (c7_X1_canLight l0 hL hI) (by decide) (Nat.le_refl 0) (Nat.le_refl 0) (Nat.le_of_ble_eq_true rfl) dX1_countWays_34 (fun x_34 I_34 J_34 h_34 => ?_)
          obtain ⟨rfl, rfl, h_34⟩ := h_34
          refine ww_if_eq hX (pc := 37) (tgt := 44) dX1_countWays_37 (by decide) (fun h_37 => ?_) (fun h_37 => ?_)
          · simp only [w32_mod] at h_37
            have hst : wyF (Ia 3) (Ia 1 7) a (FU (Ia 1 5) + 1) b mn to.toNat = mn + 0 := by
              rw [wyF_x (by omega) (fun h9 => by have := h_34.2.mpr h9.1; omega), Int.add_zero]
            refine ww_iconst hX (pc := 44) (x := 0) dX1_countWays_44 rfl ?_
            refine ww_iadd hX (pc := 45) dX1_countWays_45 ?_
            refine ww_nmI (fun v_46 hv_46 => ?_)
            refine ww_istore_n hX (pc := 46) (lv' := [some (kR (some 1)), some (kI a), some (kI b), some (kI v_46), some (kI x_3), some (kI to)]) dX1_countWays_46 (by decide) rfl rfl ?_
            refine ww_iload hX (pc := 47) dX1_countWays_47 rfl ?_
            refine ww_iconst hX (pc := 49) (x := 1) dX1_countWays_49 rfl ?_
            refine ww_iadd hX (pc := 50) dX1_countWays_50 ?_
            refine ww_iload_n hX (pc := 51) dX1_countWays_51 rfl ?_
            refine ww_ior hX (pc := 52) dX1_countWays_52 ?_
            refine ww_nmI (fun v_53 hv_53 => ?_)
            refine ww_istore hX (pc := 53) (lv' := [some (kR (some 1)), some (kI a), some (kI b), some (kI v_46), some (kI x_3), some (kI v_53)]) dX1_countWays_53 (by decide) rfl rfl ?_
            refine ww_goto hX (pc := 55) (tgt := 11) dX1_countWays_55 (by decide) ?_
            have hor := i_or_ge (a := to + 1) (b := a) (by omega) (by omega) (by omega) (by omega)
            exact ih_11 _ (by omega) v_46 v_53 rfl ⟨⟨by omega, by omega⟩, by rw [hv_53]; exact or_nx_sub (by omega) (by omega) (by omega) (by omega), by rw [hv_53, hnx, ← hmn, hst]; omega⟩
          · simp only [w32_mod] at h_37
            have hst : wyF (Ia 3) (Ia 1 7) a (FU (Ia 1 5) + 1) b mn to.toNat = mn + 1 := wyF_y (by omega) (by omega) hsu (h_34.2.mp (by omega)) (by omega)
            refine ww_iconst hX (pc := 40) (x := 1) dX1_countWays_40 rfl ?_
            refine ww_goto hX (pc := 41) (tgt := 45) dX1_countWays_41 (by decide) ?_
            refine ww_iadd hX (pc := 45) dX1_countWays_45 ?_
            refine ww_nmI (fun v_46 hv_46 => ?_)
            refine ww_istore_n hX (pc := 46) (lv' := [some (kR (some 1)), some (kI a), some (kI b), some (kI v_46), some (kI x_3), some (kI to)]) dX1_countWays_46 (by decide) rfl rfl ?_
            refine ww_iload hX (pc := 47) dX1_countWays_47 rfl ?_
            refine ww_iconst hX (pc := 49) (x := 1) dX1_countWays_49 rfl ?_
            refine ww_iadd hX (pc := 50) dX1_countWays_50 ?_
            refine ww_iload_n hX (pc := 51) dX1_countWays_51 rfl ?_
            refine ww_ior hX (pc := 52) dX1_countWays_52 ?_
            refine ww_nmI (fun v_53 hv_53 => ?_)
            refine ww_istore hX (pc := 53) (lv' := [some (kR (some 1)), some (kI a), some (kI b), some (kI v_46), some (kI x_3), some (kI v_53)]) dX1_countWays_53 (by decide) rfl rfl ?_
            refine ww_goto hX (pc := 55) (tgt := 11) dX1_countWays_55 (by decide) ?_
            have hor := i_or_ge (a := to + 1) (b := a) (by omega) (by omega) (by omega) (by omega)
            exact ih_11 _ (by omega) v_46 v_53 rfl ⟨⟨by omega, by omega⟩, by rw [hv_53]; exact or_nx_sub (by omega) (by omega) (by omega) (by omega), by rw [hv_53, hnx, ← hmn, hst]; omega⟩
  exact hl_11 _ 0 a rfl ⟨⟨by omega, by omega⟩, Nat.and_self _, (fW_e wyF_n).symm⟩
set_option maxHeartbeats 4000000 in
set_option maxRecDepth 20000 in
theorem c7_X4_lastingWithout (l0 : Launch) {Ia Ja : aI1} {Ra : aR1} {Sa : aS1} (hL : LY Ra Sa) (hI : XI Ia) {a : Int}  : CT l0 3 0 0 mX4_lastingWithout [kR (some 18), kI a] Ia Ja Ra Sa (cI (fun x I' J' => Kp 18 37 Ia I' ∧ Kp 18 37 Ja J' ∧ ∃ L, zLV (Ia 3) (i_or (Ia 1 7) (i_shl 1 a)) (FU (Ia 1 5) + 1) (Ia 1 6) (-1) L ∧ x = L 0) Ra Sa) := by
  refine ct_in pn_X4 (Nat.le_of_ble_eq_true rfl) (fun X hX hT hIn => ?_)
  have hX : aK l0 X cX4_lastingWithout 2 RX4 (some .int) 3 0 0 := hX
  change WW X 0 [some (kR (some 18)), some (kI a)] [] Ia Ja Ra Sa 0 0
  obtain ⟨hn1, hn2⟩ := hI.1
  obtain ⟨hk1, hk2⟩ := hI.2.1
  obtain ⟨hf1, hf2⟩ := hI.fu
  refine ww_aload_n hX (pc := 0) dX4_lastingWithout_0 rfl ?_
  refine ww_getR hX (pc := 1) fX4_30 (by decide) (xs_18 hL) (xr_18_5 hL) dX4_lastingWithout_1 ?_
  refine ww_aload_n hX (pc := 4) dX4_lastingWithout_4 rfl ?_
  refine ww_getR hX (pc := 5) fX4_47 (by decide) (xs_18 hL) (xr_18_0 hL) dX4_lastingWithout_5 ?_
  refine ww_getR hX (pc := 8) fX4_70 (by decide) (xs_1 hL) (xr_1_1 hL) dX4_lastingWithout_8 ?_
  refine ww_aload_n hX (pc := 11) dX4_lastingWithout_11 rfl ?_
  refine ww_getR hX (pc := 12) fX4_47 (by decide) (xs_18 hL) (xr_18_0 hL) dX4_lastingWithout_12 ?_
  refine vI0 hX (pc := 15) sX4_75 (xs_1 hL) (c_X1_full l0 hL hI) (by decide) (Nat.le_refl 0) (Nat.le_refl 0) (Nat.le_of_ble_eq_true rfl) dX4_lastingWithout_15 (fun x_15 I_15 J_15 h_15 => ?_)
  obtain ⟨rfl, rfl, h_15⟩ := h_15
  refine ww_aload_n hX (pc := 18) dX4_lastingWithout_18 rfl ?_
  refine ww_getR hX (pc := 19) fX4_47 (by decide) (xs_18 hL) (xr_18_0 hL) dX4_lastingWithout_19 ?_
  refine ww_getI hX (pc := 22) fX4_79 (by decide) (xs_1 hL) dX4_lastingWithout_22 ?_
  refine ww_iconst hX (pc := 25) (x := 1) dX4_lastingWithout_25 rfl ?_
  refine ww_iload_n hX (pc := 26) dX4_lastingWithout_26 rfl ?_
  refine ww_ishl hX (pc := 27) dX4_lastingWithout_27 ?_
  refine ww_ior hX (pc := 28) dX4_lastingWithout_28 ?_
  refine ww_aload_n hX (pc := 29) dX4_lastingWithout_29 rfl ?_
  refine ww_getR hX (pc := 30) fX4_47 (by decide) (xs_18 hL) (xr_18_0 hL) dX4_lastingWithout_30 ?_
  refine ww_getI hX (pc := 33) fX4_83 (by decide) (xs_1 hL) dX4_lastingWithout_33 ?_
  refine vV4 hX (pc := 36) sX4_86 (xs_25 hL) (c5_X5_fill l0 (Ia := Ia) (xs_25 hL) (xr_25_0 hL) (xr_25_1 hL) (xs_27 hL) (xs_26 hL) (xs_3 hL) (by decide) (by decide) (by decide) (by decide) (fun j hj => by have := hI.2.2.2.2.2.2.2.2.2.1 j hj; omega) (by decide) (by omega) (by omega) (by omega) (by decide) (by omega) (by omega)) (by decide) (Nat.le_refl 0) (Nat.le_refl 0) (Nat.le_of_ble_eq_true rfl) dX4_lastingWithout_36 (fun I_36 J_36 h_36 => ?_)
  obtain ⟨rfl, h_36, hz_36⟩ := h_36
  have kI_36 : Kp 18 37 Ia I_36 := Kp_tr (Kp_rf (a := 18) (b := 37)) (Kq_kp h_36 (by decide) (by decide))
  have r1_5_I_36 : I_36 1 5 = Ia 1 5 := Kp_at kI_36 1 5 (by decide)
  have r1_6_I_36 : I_36 1 6 = Ia 1 6 := Kp_at kI_36 1 6 (by decide)
  have rf_I_36 : FU (I_36 1 5) = FU (Ia 1 5) := by rw [r1_5_I_36]
  refine ww_aload_n hX (pc := 39) dX4_lastingWithout_39 rfl ?_
  refine ww_getR hX (pc := 40) fX4_30 (by decide) (xs_18 hL) (xr_18_5 hL) dX4_lastingWithout_40 ?_
  refine ww_getR hX (pc := 43) fX4_67 (by decide) (xs_25 hL) (xr_25_0 hL) dX4_lastingWithout_43 ?_
  refine ww_iconst hX (pc := 46) (x := 0) dX4_lastingWithout_46 rfl ?_
  refine ww_iald hX (pc := 47) (xs_27 hL) (by decide) (by omega) (by omega) dX4_lastingWithout_47 ?_
  refine rI hX (pc := 48) hT (Nat.le_refl 0) (Nat.le_refl 0) dX4_lastingWithout_48 ?_
  rw [h_15] at hz_36
  exact ⟨kI_36, (Kp_rf (a := 18) (b := 37)), _, hz_36, rfl⟩
set_option maxHeartbeats 4000000 in
set_option maxRecDepth 20000 in
theorem c7_X4_firstDoubt (l0 : Launch) {Ia Ja : aI1} {Ra : aR1} {Sa : aS1} (hL : LY Ra Sa) (hI : XI Ia) {a b : Int} (ha0 : 0 ≤ a) (ha1 : a ≤ 255) (hbF : b = FU (Ia 1 5))  : CT l0 2 0 0 mX4_firstDoubt [kR (some 18), kI a, kI b] Ia Ja Ra Sa (cI (fun x I' J' => Kp 18 37 Ia I' ∧ Kp 18 37 Ja J' ∧ FDt (Ia 3) (Ia 1 7) a (FU (Ia 1 5) + 1) x) Ra Sa) := by
  refine ct_in pn_X4 (Nat.le_of_ble_eq_true rfl) (fun X hX hT hIn => ?_)
  have hX : aK l0 X cX4_firstDoubt 5 RX4 (some .int) 2 0 0 := hX
  change WW X 0 [some (kR (some 18)), some (kI a), some (kI b), none, none] [] Ia Ja Ra Sa 0 0
  obtain ⟨hn1, hn2⟩ := hI.1
  obtain ⟨hk1, hk2⟩ := hI.2.1
  obtain ⟨hf1, hf2⟩ := hI.fu
  have hrg : (∀ t : Nat, SN (Ia 3) (Ia 1 7) a (FU (Ia 1 5) + 1) t → 0 ≤ Ia 3 t ∧ Ia 3 t < 8) := fun t ht => by
    have h1 := ht.1.1
    have h2 := ht.1.2.1
    have h3 := hI.2.2.2.2.2.2.2.2.2.1 t (by omega)
    omega
  refine ww_aload_n hX (pc := 0) dX4_firstDoubt_0 rfl ?_
  refine ww_getR hX (pc := 1) fX4_40 (by decide) (xs_18 hL) (xr_18_8 hL) dX4_firstDoubt_1 ?_
  refine ww_iconst hX (pc := 4) (x := 0) dX4_firstDoubt_4 rfl ?_
  refine sV2 hX (pc := 5) sX4_106 (c_J7_fill_53178 l0 (xs_30 hL) (by decide)) (by decide) (Nat.le_refl 0) (Nat.le_refl 0) (Nat.le_of_ble_eq_true rfl) dX4_firstDoubt_5 (fun I_5 J_5 h_5 => ?_)
  obtain ⟨rfl, eI_5⟩ := h_5
  have kI_5 : Kp 18 37 Ia I_5 := by rw [eI_5]; exact Kp_upR (Kp_rf (a := 18) (b := 37)) _ (by decide)
  have r1_5_I_5 : I_5 1 5 = Ia 1 5 := Kp_at kI_5 1 5 (by decide)
  have r1_6_I_5 : I_5 1 6 = Ia 1 6 := Kp_at kI_5 1 6 (by decide)
  have rf_I_5 : FU (I_5 1 5) = FU (Ia 1 5) := by rw [r1_5_I_5]
  refine ww_iload_n hX (pc := 8) dX4_firstDoubt_8 rfl ?_
  refine ww_istore_n hX (pc := 9) (lv' := [some (kR (some 18)), some (kI a), some (kI b), some (kI a), none]) dX4_firstDoubt_9 (by decide) rfl rfl ?_
  have hl_10 : ∀ (n_10 : Nat) (to : Int) (I2 : aI1) (J2 : aI1), (b + 1 - to).toNat = n_10 → (Kp 18 37 Ia I2 ∧ Kp 18 37 Ja J2 ∧ (0 ≤ to ∧ to < 2147483648) ∧ a.toNat &&& to.toNat = a.toNat ∧ (∀ d : Nat, d < 9 → BT (Ia 3) (fun t => SN (Ia 3) (Ia 1 7) a (FU (Ia 1 5) + 1) t ∧ pcn (t ^^^ a.toNat) = d ∧ (t : Int) < to) (I2 30 d))) → WW X 10 [some (kR (some 18)), some (kI a), some (kI b), some (kI to), none] [] I2 J2 Ra Sa 0 0 := by
    intro n_10
    induction n_10 using Nat.strongRecOn with
    | ind n_10 ih_10 =>
      intro to I2 J2 hm_10 hv_10
      obtain ⟨kI2, kJ2, hto, hsu, hrow⟩ := hv_10
      have r1_5_I2 : I2 1 5 = Ia 1 5 := Kp_at kI2 1 5 (by decide)
      have r1_6_I2 : I2 1 6 = Ia 1 6 := Kp_at kI2 1 6 (by decide)
      have rf_I2 : FU (I2 1 5) = FU (Ia 1 5) := by rw [r1_5_I2]
      refine ww_iload_n hX (pc := 10) dX4_firstDoubt_10 rfl ?_
      refine ww_iload_n hX (pc := 11) dX4_firstDoubt_11 rfl ?_
      refine ww_icmp_gt hX (pc := 12) (tgt := 46) dX4_firstDoubt_12 (by decide) (fun h_12 => ?_) (fun h_12 => ?_)
      · simp only [w32_mod] at h_12
        refine ww_iconst hX (pc := 46) (x := 0) dX4_firstDoubt_46 rfl ?_
        refine ww_istore_n hX (pc := 47) (lv' := [some (kR (some 18)), some (kI a), some (kI b), some (kI 0), none]) dX4_firstDoubt_47 (by decide) rfl rfl ?_
        refine ww_iconst hX (pc := 48) (x := 0) dX4_firstDoubt_48 rfl ?_
        refine ww_istore hX (pc := 49) (lv' := [some (kR (some 18)), some (kI a), some (kI b), some (kI 0), some (kI 0)]) dX4_firstDoubt_49 (by decide) rfl rfl ?_
        have hrow9 : (∀ d : Nat, d < 9 → BT (Ia 3) (fun t => SN (Ia 3) (Ia 1 7) a (FU (Ia 1 5) + 1) t ∧ pcn (t ^^^ a.toNat) = d) (I2 30 d)) := fun d hd => BT_cg (hrow d hd) (fun t => ⟨fun h9 => ⟨h9.1, h9.2.1⟩, fun h9 => ⟨h9.1, h9.2, by have := h9.1.1.1; omega⟩⟩)
        have hl_51 : ∀ (n_51 : Nat) (bt : Int) (ms9 : Int), (9 - ms9).toNat = n_51 → ((0 ≤ ms9 ∧ ms9 ≤ 9) ∧ BT (Ia 3) (fun t => SN (Ia 3) (Ia 1 7) a (FU (Ia 1 5) + 1) t ∧ pcn (t ^^^ a.toNat) < ms9) bt ∧ (∀ s t, SN (Ia 3) (Ia 1 7) a (FU (Ia 1 5) + 1) s → SN (Ia 3) (Ia 1 7) a (FU (Ia 1 5) + 1) t → ¬ Ia 3 s = Ia 3 t → ms9 ≤ max (pcn (s ^^^ a.toNat)) (pcn (t ^^^ a.toNat)))) → WW X 51 [some (kR (some 18)), some (kI a), some (kI b), some (kI bt), some (kI ms9)] [] I2 J2 Ra Sa 0 0 := by
          intro n_51
          induction n_51 using Nat.strongRecOn with
          | ind n_51 ih_51 =>
            intro bt ms9 hm_51 hv_51
            obtain ⟨hm, hbt, hmx⟩ := hv_51
            refine ww_iload hX (pc := 51) dX4_firstDoubt_51 rfl ?_
            refine ww_bipush hX (pc := 53) (x := 8) dX4_firstDoubt_53 (by decide) ?_
            refine ww_icmp_gt hX (pc := 55) (tgt := 85) dX4_firstDoubt_55 (by decide) (fun h_55 => ?_) (fun h_55 => ?_)
            · simp only [w32_mod] at h_55
              refine ww_bipush hX (pc := 85) (x := 9) dX4_firstDoubt_85 (by decide) ?_
              refine rI hX (pc := 87) hT (Nat.le_refl 0) (Nat.le_refl 0) dX4_firstDoubt_87 ?_
              exact ⟨kI2, kJ2, by omega, fun h9 => absurd h9 (by omega), fun s9 t9 q1 q2 q3 => by have := hmx s9 t9 q1 q2 q3; omega⟩
            · simp only [w32_mod] at h_55
              refine ww_iload_n hX (pc := 58) dX4_firstDoubt_58 rfl ?_
              refine ww_aload_n hX (pc := 59) dX4_firstDoubt_59 rfl ?_
              refine ww_getR hX (pc := 60) fX4_40 (by decide) (xs_18 hL) (xr_18_8 hL) dX4_firstDoubt_60 ?_
              refine ww_iload hX (pc := 63) dX4_firstDoubt_63 rfl ?_
              refine ww_iald hX (pc := 65) (xs_30 hL) (by decide) (by omega) (by omega) dX4_firstDoubt_65 ?_
              refine ww_ior hX (pc := 66) dX4_firstDoubt_66 ?_
              have hbn : BT (Ia 3) (fun t => SN (Ia 3) (Ia 1 7) a (FU (Ia 1 5) + 1) t ∧ pcn (t ^^^ a.toNat) < ms9 + 1) (i_or bt (I2 30 ms9.toNat)) := BT_cg (BT_or hbt (hrow9 ms9.toNat (by omega))) (fun t => ⟨fun h9 => h9.elim (fun h8 => ⟨h8.1, by have := h8.2; omega⟩) (fun h8 => ⟨h8.1, by have := h8.2; omega⟩), fun h9 => (by
                by_cases h8 : pcn (t ^^^ a.toNat) < ms9
                · exact Or.inl ⟨h9.1, h8⟩
                · exact Or.inr ⟨h9.1, by have := h9.2; omega⟩)⟩)
              refine ww_nmI (fun v_67 hv_67 => ?_)
              refine ww_istore_n hX (pc := 67) (lv' := [some (kR (some 18)), some (kI a), some (kI b), some (kI v_67), some (kI ms9)]) dX4_firstDoubt_67 (by decide) rfl rfl ?_
              refine ww_iload_n hX (pc := 68) dX4_firstDoubt_68 rfl ?_
              refine sI1 hX (pc := 69) sX4_138 (c_J6_bitCount_0f7a4 l0) (by decide) (Nat.le_refl 0) (Nat.le_refl 0) (Nat.le_of_ble_eq_true rfl) dX4_firstDoubt_69 (fun x_69 I_69 J_69 h_69 => ?_)
              obtain ⟨rfl, rfl, h_69⟩ := h_69
              rw [hv_67] at h_69
              have hbr := hbn.1
              have hb2 := bc_r (a := i_or bt (I2 30 ms9.toNat)) (by omega) (by omega)
              refine ww_iconst hX (pc := 72) (x := 1) dX4_firstDoubt_72 rfl ?_
              refine ww_icmp_le hX (pc := 73) (tgt := 79) dX4_firstDoubt_73 (by decide) (fun h_73 => ?_) (fun h_73 => ?_)
              · simp only [w32_mod] at h_73
                have hm2 : ∀ s t, SN (Ia 3) (Ia 1 7) a (FU (Ia 1 5) + 1) s → SN (Ia 3) (Ia 1 7) a (FU (Ia 1 5) + 1) t → ¬ Ia 3 s = Ia 3 t → ms9 + 1 ≤ max (pcn (s ^^^ a.toNat)) (pcn (t ^^^ a.toNat)) := fun s9 t9 q1 q2 q3 => by
                  refine Decidable.byContradiction (fun h9 => ?_)
                  have := (BT_2 hbn (fun t ht => hrg t ht.1)).mpr ⟨s9, t9, ⟨q1, by omega⟩, ⟨q2, by omega⟩, q3⟩
                  omega
                refine ww_iinc hX (pc := 79) (lv' := [some (kR (some 18)), some (kI a), some (kI b), some (kI v_67), some (kI (ms9 + 1))]) dX4_firstDoubt_79 rfl (by decide) rfl rfl ?_
                refine ww_goto hX (pc := 82) (tgt := 51) dX4_firstDoubt_82 (by decide) ?_
                exact ih_51 _ (by omega) v_67 (ms9 + 1) rfl ⟨⟨by omega, by omega⟩, by rw [hv_67]; exact hbn, hm2⟩
              · simp only [w32_mod] at h_73
                refine ww_iload hX (pc := 76) dX4_firstDoubt_76 rfl ?_
                refine rI hX (pc := 78) hT (Nat.le_refl 0) (Nat.le_refl 0) dX4_firstDoubt_78 ?_
                refine ⟨kI2, kJ2, by omega, fun _ => ?_, hmx⟩
                obtain ⟨s9, t9, q1, q2, q3⟩ := (BT_2 hbn (fun t ht => hrg t ht.1)).mp (by omega)
                exact ⟨s9, t9, q1.1, q2.1, q3, by have := q1.2; omega, by have := q2.2; omega⟩
        exact hl_51 _ 0 0 rfl ⟨⟨by omega, by omega⟩, BT_0 (fun t ht => by have := ht.2; have := pcn_r (t ^^^ a.toNat); omega), fun s t _ _ _ => by have := pcn_r (s ^^^ a.toNat); omega⟩
      · simp only [w32_mod] at h_12
        have hxr := i_xor_256 (a := to) (b := a) (by omega) (by omega) (by omega) (by omega)
        have hbc := bc_r hxr.1 hxr.2
        have hcd := hI.2.2.2.2.2.2.2.2.2.1 to.toNat (by omega)
        refine ww_aload_n hX (pc := 15) dX4_firstDoubt_15 rfl ?_
        refine ww_getR hX (pc := 16) fX4_40 (by decide) (xs_18 hL) (xr_18_8 hL) dX4_firstDoubt_16 ?_
        refine ww_iload_n hX (pc := 19) dX4_firstDoubt_19 rfl ?_
        refine ww_iload_n hX (pc := 20) dX4_firstDoubt_20 rfl ?_
        refine ww_ixor hX (pc := 21) dX4_firstDoubt_21 ?_
        refine sI1 hX (pc := 22) sX4_138 (c_J6_bitCount_0f7a4 l0) (by decide) (Nat.le_refl 0) (Nat.le_refl 0) (Nat.le_of_ble_eq_true rfl) dX4_firstDoubt_22 (fun x_22 I_22 J_22 h_22 => ?_)
        obtain ⟨rfl, rfl, h_22⟩ := h_22
        refine ww_dup2 hX (pc := 25) dX4_firstDoubt_25 ?_
        refine ww_iald hX (pc := 26) (xs_30 hL) (by decide) (by omega) (by omega) dX4_firstDoubt_26 ?_
        refine ww_aload_n hX (pc := 27) dX4_firstDoubt_27 rfl ?_
        refine ww_getR hX (pc := 28) fX4_47 (by decide) (xs_18 hL) (xr_18_0 hL) dX4_firstDoubt_28 ?_
        refine ww_iload_n hX (pc := 31) dX4_firstDoubt_31 rfl ?_
        refine vI1 hX (pc := 32) sX4_143 (xs_1 hL) (c7_X1_newsBit l0 hL (XI_kp hI kI2 (by decide)) (by omega) (by omega)) (by decide) (Nat.le_refl 0) (Nat.le_refl 0) (Nat.le_of_ble_eq_true rfl) dX4_firstDoubt_32 (fun x_32 I_32 J_32 h_32 => ?_)
        obtain ⟨rfl, rfl, h_32⟩ := h_32
        refine ww_ior hX (pc := 35) dX4_firstDoubt_35 ?_
        refine ww_iast hX (pc := 36) (xs_30 hL) (by decide) (by omega) (by omega) dX4_firstDoubt_36 ?_
        refine ww_nmH (fun I_36 eI_36 => ?_)
        have kI_36 : Kp 18 37 Ia I_36 := by rw [eI_36]; exact Kp_up kI2 _ _ (by decide)
        have r1_5_I_36 : I_36 1 5 = Ia 1 5 := Kp_at kI_36 1 5 (by decide)
        have r1_6_I_36 : I_36 1 6 = Ia 1 6 := Kp_at kI_36 1 6 (by decide)
        have rf_I_36 : FU (I_36 1 5) = FU (Ia 1 5) := by rw [r1_5_I_36]
        have hrow2 : (∀ d : Nat, d < 9 → BT (Ia 3) (fun t => SN (Ia 3) (Ia 1 7) a (FU (Ia 1 5) + 1) t ∧ pcn (t ^^^ a.toNat) = d ∧ (t : Int) < i_or (to + 1) a) (I_36 30 d)) := by
          rw [eI_36, up2_row, h_22, h_32, kI2 3 (by decide), kI2 1 (by decide)]
          exact BT_st hrow (by omega) (by omega) (by omega) (by omega) (by omega) hsu (by omega)
        refine ww_iload_n hX (pc := 37) dX4_firstDoubt_37 rfl ?_
        refine ww_iconst hX (pc := 38) (x := 1) dX4_firstDoubt_38 rfl ?_
        refine ww_iadd hX (pc := 39) dX4_firstDoubt_39 ?_
        refine ww_iload_n hX (pc := 40) dX4_firstDoubt_40 rfl ?_
        refine ww_ior hX (pc := 41) dX4_firstDoubt_41 ?_
        refine ww_nmI (fun v_42 hv_42 => ?_)
        refine ww_istore_n hX (pc := 42) (lv' := [some (kR (some 18)), some (kI a), some (kI b), some (kI v_42), none]) dX4_firstDoubt_42 (by decide) rfl rfl ?_
        refine ww_goto hX (pc := 43) (tgt := 10) dX4_firstDoubt_43 (by decide) ?_
        have hor := i_or_ge (a := to + 1) (b := a) (by omega) (by omega) (by omega) (by omega)
        exact ih_10 _ (by omega) v_42 I_36 J2 rfl ⟨kI_36, kJ2, ⟨by omega, by omega⟩, by rw [hv_42]; exact or_nx_sub (by omega) (by omega) (by omega) (by omega), by rw [hv_42]; exact hrow2⟩
  exact hl_10 _ a I_5 Ja rfl ⟨kI_5, (Kp_rf (a := 18) (b := 37)), ⟨by omega, by omega⟩, Nat.and_self _, fun d hd => by
      rw [eI_5, upR_s, if_pos hd]
      exact BT_0 (fun t ht => by
        have h1 := ht.1.2
        have h2 : a.toNat &&& t ≤ t := Nat.and_le_right
        have h3 := ht.2.2
        omega)⟩
set_option maxHeartbeats 4000000 in
set_option maxRecDepth 20000 in
theorem c7_X4_findSafe (l0 : Launch) {Ia Ja : aI1} {Ra : aR1} {Sa : aS1} (hL : LY Ra Sa) (hI : XI Ia)  : CT l0 3 0 0 mX4_findSafe [kR (some 18)] Ia Ja Ra Sa (cI (fun x I' J' => Kp 18 37 Ia I' ∧ Kp 18 37 Ja J' ∧ SFE (Ia 3) (Ia 1 7) (FU (Ia 1 5) + 1) x) Ra Sa) := by
  refine ct_in pn_X4 (Nat.le_of_ble_eq_true rfl) (fun X hX hT hIn => ?_)
  have hX : aK l0 X cX4_findSafe 4 RX4 (some .int) 3 0 0 := hX
  change WW X 0 [some (kR (some 18)), none, none, none] [] Ia Ja Ra Sa 0 0
  obtain ⟨hn1, hn2⟩ := hI.1
  obtain ⟨hk1, hk2⟩ := hI.2.1
  obtain ⟨hf1, hf2⟩ := hI.fu
  refine ww_aload_n hX (pc := 0) dX4_findSafe_0 rfl ?_
  refine ww_getR hX (pc := 1) fX4_47 (by decide) (xs_18 hL) (xr_18_0 hL) dX4_findSafe_1 ?_
  refine vI0 hX (pc := 4) sX4_75 (xs_1 hL) (c_X1_full l0 hL hI) (by decide) (Nat.le_refl 0) (Nat.le_refl 0) (Nat.le_of_ble_eq_true rfl) dX4_findSafe_4 (fun x_4 I_4 J_4 h_4 => ?_)
  obtain ⟨rfl, rfl, h_4⟩ := h_4
  refine ww_istore_n hX (pc := 7) (lv' := [some (kR (some 18)), some (kI x_4), none, none]) dX4_findSafe_7 (by decide) rfl rfl ?_
  refine ww_bipush hX (pc := 8) (x := 8) dX4_findSafe_8 (by decide) ?_
  refine ww_istore_n hX (pc := 10) (lv' := [some (kR (some 18)), some (kI x_4), some (kI 8), none]) dX4_findSafe_10 (by decide) rfl rfl ?_
  refine ww_iconst hX (pc := 11) (x := 0) dX4_findSafe_11 rfl ?_
  refine ww_istore_n hX (pc := 12) (lv' := [some (kR (some 18)), some (kI x_4), some (kI 8), some (kI 0)]) dX4_findSafe_12 (by decide) rfl rfl ?_
  have hl_13 : ∀ (n_13 : Nat) (sf : Int) (q : Int) (I2 : aI1) (J2 : aI1), (x_4 + 1 - q).toNat = n_13 → (Kp 18 37 Ia I2 ∧ Kp 18 37 Ja J2 ∧ ((0 ≤ q ∧ q ≤ x_4 + 1) ∧ (-1 ≤ sf ∧ sf ≤ 8)) ∧ SFq (Ia 3) (Ia 1 7) (FU (Ia 1 5) + 1) q sf) → WW X 13 [some (kR (some 18)), some (kI x_4), some (kI sf), some (kI q)] [] I2 J2 Ra Sa 0 0 := by
    intro n_13
    induction n_13 using Nat.strongRecOn with
    | ind n_13 ih_13 =>
      intro sf q I2 J2 hm_13 hv_13
      obtain ⟨kI2, kJ2, hq, hsf⟩ := hv_13
      have r1_5_I2 : I2 1 5 = Ia 1 5 := Kp_at kI2 1 5 (by decide)
      have r1_6_I2 : I2 1 6 = Ia 1 6 := Kp_at kI2 1 6 (by decide)
      have rf_I2 : FU (I2 1 5) = FU (Ia 1 5) := by rw [r1_5_I2]
      refine ww_iload_n hX (pc := 13) dX4_findSafe_13 rfl ?_
      refine ww_iload_n hX (pc := 14) dX4_findSafe_14 rfl ?_
      refine ww_icmp_gt hX (pc := 15) (tgt := 37) dX4_findSafe_15 (by decide) (fun h_15 => ?_) (fun h_15 => ?_)
      · simp only [w32_mod] at h_15
        refine ww_iload_n hX (pc := 37) dX4_findSafe_37 rfl ?_
        refine rI hX (pc := 38) hT (Nat.le_refl 0) (Nat.le_refl 0) dX4_findSafe_38 ?_
        exact ⟨kI2, kJ2, SFq_e ((show q = FU (Ia 1 5) + 1 by omega) ▸ hsf)⟩
      · simp only [w32_mod] at h_15
        refine ww_iload_n hX (pc := 18) dX4_findSafe_18 rfl ?_
        refine ww_aload_n hX (pc := 19) dX4_findSafe_19 rfl ?_
        refine ww_iload_n hX (pc := 20) dX4_findSafe_20 rfl ?_
        refine ww_iload_n hX (pc := 21) dX4_findSafe_21 rfl ?_
        refine vI2 hX (pc := 22) sX4_131 (xs_18 hL) (c7_X4_firstDoubt l0 hL (XI_kp hI kI2 (by decide)) (by omega) (by omega) (by omega)) (by decide) (Nat.le_refl 0) (Nat.le_refl 0) (Nat.le_of_ble_eq_true rfl) dX4_findSafe_22 (fun x_22 I_22 J_22 h_22 => ?_)
        have kI_22 : Kp 18 37 Ia I_22 := Kp_tr kI2 (Kp_wd h_22.1 (by decide) (by decide))
        have kJ_22 : Kp 18 37 Ja J_22 := Kp_tr kJ2 (Kp_wd h_22.2.1 (by decide) (by decide))
        have r1_5_I_22 : I_22 1 5 = Ia 1 5 := Kp_at kI_22 1 5 (by decide)
        have r1_6_I_22 : I_22 1 6 = Ia 1 6 := Kp_at kI_22 1 6 (by decide)
        have rf_I_22 : FU (I_22 1 5) = FU (Ia 1 5) := by rw [r1_5_I_22]
        have hfd := h_22.2.2
        rw [kI2 3 (by decide), kI2 1 (by decide)] at hfd
        have hfr := hfd.1
        have hs8 := hsf.1
        refine ww_iconst hX (pc := 25) (x := 1) dX4_findSafe_25 rfl ?_
        refine ww_isub hX (pc := 26) dX4_findSafe_26 ?_
        refine ww_mmin hX (pc := 27) tb_984 tb_579 tb_13 tb_580 (by decide) (Nat.le_refl 0) (Nat.le_refl 0) (Nat.le_of_ble_eq_true rfl) dX4_findSafe_27 ?_
        refine ww_toI (b := min sf (x_22 - 1)) (i_min_r (by omega) (by omega) (by omega) (by omega)) ?_
        have hsf2 := SFq_s hsf hfd (by omega)
        refine ww_nmI (fun v_30 hv_30 => ?_)
        refine ww_istore_n hX (pc := 30) (lv' := [some (kR (some 18)), some (kI x_4), some (kI v_30), some (kI q)]) dX4_findSafe_30 (by decide) rfl rfl ?_
        refine ww_iinc hX (pc := 31) (lv' := [some (kR (some 18)), some (kI x_4), some (kI v_30), some (kI (q + 1))]) dX4_findSafe_31 rfl (by decide) rfl rfl ?_
        refine ww_goto hX (pc := 34) (tgt := 13) dX4_findSafe_34 (by decide) ?_
        exact ih_13 _ (by omega) v_30 (q + 1) I_22 J_22 rfl ⟨kI_22, kJ_22, by omega, by rw [hv_30]; exact hsf2⟩
  exact hl_13 _ 8 0 Ia Ja rfl ⟨(Kp_rf (a := 18) (b := 37)), (Kp_rf (a := 18) (b := 37)), by omega, SFq_0⟩
set_option maxHeartbeats 4000000 in
set_option maxRecDepth 20000 in
theorem c7_X10_of (l0 : Launch) {Ia Ja : aI1} {Ra : aR1} {Sa : aS1} (hL : LY Ra Sa) (hC : CX Ia) {a : Int} (ha0 : -2147483648 ≤ a) (ha1 : a < 2147483648)  : CT l0 10 0 0 mX10_of [kR (some 0), kI a] Ia Ja Ra Sa (cI (fun x I' J' => Kp 0 49 Ia I' ∧ Kp 0 49 Ja J' ∧ CX I' ∧ Fw [] [] Ia I' ∧ ((0 ≤ a ∧ a ≤ FU (Ia 1 5)) → x = Ia 3 a.toNat) ∧ (¬ (0 ≤ a ∧ a ≤ FU (Ia 1 5)) → x = -1)) Ra Sa) := by
  refine ct_in pn_X10 (Nat.le_of_ble_eq_true rfl) (fun X hX hT hIn => ?_)
  have hX : aK l0 X cX10_of 2 RX10 (some .int) 10 0 0 := hX
  change WW X 0 [some (kR (some 0)), some (kI a)] [] Ia Ja Ra Sa 0 0
  have hI := hC.1
  have hq := XI_o hI
  refine ww_aload_n hX (pc := 0) dX10_of_0 rfl ?_
  refine ww_getR hX (pc := 1) fX10_10 (by decide) (xs_0 hL) (xr_0_0 hL) dX10_of_1 ?_
  refine ww_iload_n hX (pc := 4) dX10_of_4 rfl ?_
  refine vI1 hX (pc := 5) sX10_131 (xs_1 hL) (c_X1_isState l0 hL hC.1 (by omega)) (by decide) (Nat.le_refl 0) (Nat.le_refl 0) (Nat.le_of_ble_eq_true rfl) dX10_of_5 (fun x_5 I_5 J_5 h_5 => ?_)
  obtain ⟨rfl, rfl, h_5⟩ := h_5
  refine ww_if_eq hX (pc := 8) (tgt := 23) dX10_of_8 (by decide) (fun h_8 => ?_) (fun h_8 => ?_)
  · simp only [w32_mod] at h_8
    refine ww_iconst hX (pc := 23) (x := (-1)) dX10_of_23 rfl ?_
    refine rI hX (pc := 24) hT (Nat.le_refl 0) (Nat.le_refl 0) dX10_of_24 ?_
    exact ⟨(Kp_rf (a := 0) (b := 49)), (Kp_rf (a := 0) (b := 49)), hC, Fw_rf, by omega, by omega⟩
  · simp only [w32_mod] at h_8
    refine ww_aload_n hX (pc := 11) dX10_of_11 rfl ?_
    refine ww_getR hX (pc := 12) fX10_10 (by decide) (xs_0 hL) (xr_0_0 hL) dX10_of_12 ?_
    refine ww_getR hX (pc := 15) fX10_137 (by decide) (xs_1 hL) (xr_1_1 hL) dX10_of_15 ?_
    refine ww_iload_n hX (pc := 18) dX10_of_18 rfl ?_
    refine ww_iald hX (pc := 19) (xs_3 hL) (by decide) (by omega) (by omega) dX10_of_19 ?_
    refine ww_goto hX (pc := 20) (tgt := 24) dX10_of_20 (by decide) ?_
    refine rI hX (pc := 24) hT (Nat.le_refl 0) (Nat.le_refl 0) dX10_of_24 ?_
    exact ⟨(Kp_rf (a := 0) (b := 49)), (Kp_rf (a := 0) (b := 49)), hC, Fw_rf, by omega, by omega⟩
set_option maxHeartbeats 4000000 in
set_option maxRecDepth 20000 in
theorem c7_X10_ways (l0 : Launch) {Ia Ja : aI1} {Ra : aR1} {Sa : aS1} (hL : LY Ra Sa) (hC : CX Ia) {a b : Int} (ha0 : -2147483648 ≤ a) (ha1 : a < 2147483648) (hb0 : -2147483648 ≤ b) (hb1 : b < 2147483648)  : CT l0 10 0 0 mX10_ways [kR (some 0), kI a, kI b] Ia Ja Ra Sa (cI (fun x I' J' => Kp 0 49 Ia I' ∧ Kp 0 49 Ja J' ∧ CX I' ∧ Fw [] [] Ia I' ∧ ((0 ≤ a ∧ a ≤ FU (Ia 1 5) ∧ 0 ≤ b ∧ b < Ia 1 6) → x = fW (wyF (Ia 3) (Ia 1 7) a (FU (Ia 1 5) + 1) b) 0 (FU (Ia 1 5) + 1).toNat) ∧ (¬ (0 ≤ a ∧ a ≤ FU (Ia 1 5) ∧ 0 ≤ b ∧ b < Ia 1 6) → x = -1)) Ra Sa) := by
  refine ct_in pn_X10 (Nat.le_of_ble_eq_true rfl) (fun X hX hT hIn => ?_)
  have hX : aK l0 X cX10_ways 3 RX10 (some .int) 10 0 0 := hX
  change WW X 0 [some (kR (some 0)), some (kI a), some (kI b)] [] Ia Ja Ra Sa 0 0
  have hI := hC.1
  have hq := XI_o hI
  refine ww_aload_n hX (pc := 0) dX10_ways_0 rfl ?_
  refine ww_getR hX (pc := 1) fX10_10 (by decide) (xs_0 hL) (xr_0_0 hL) dX10_ways_1 ?_
  refine ww_iload_n hX (pc := 4) dX10_ways_4 rfl ?_
  refine vI1 hX (pc := 5) sX10_131 (xs_1 hL) (c_X1_isState l0 hL hC.1 (by omega)) (by decide) (Nat.le_refl 0) (Nat.le_refl 0) (Nat.le_of_ble_eq_true rfl) dX10_ways_5 (fun x_5 I_5 J_5 h_5 => ?_)
  obtain ⟨rfl, rfl, h_5⟩ := h_5
  refine ww_if_eq hX (pc := 8) (tgt := 22) dX10_ways_8 (by decide) (fun h_8 => ?_) (fun h_8 => ?_)
  · simp only [w32_mod] at h_8
    refine ww_iconst hX (pc := 22) (x := (-1)) dX10_ways_22 rfl ?_
    refine rI hX (pc := 23) hT (Nat.le_refl 0) (Nat.le_refl 0) dX10_ways_23 ?_
    exact ⟨(Kp_rf (a := 0) (b := 49)), (Kp_rf (a := 0) (b := 49)), hC, Fw_rf, (fun h9 => absurd h9 (by omega)), (fun _ => rfl)⟩
  · simp only [w32_mod] at h_8
    refine ww_aload_n hX (pc := 11) dX10_ways_11 rfl ?_
    refine ww_getR hX (pc := 12) fX10_10 (by decide) (xs_0 hL) (xr_0_0 hL) dX10_ways_12 ?_
    refine ww_iload_n hX (pc := 15) dX10_ways_15 rfl ?_
    refine vI1 hX (pc := 16) sX10_134 (xs_1 hL) (c_X1_isNews l0 hL hC.1 (by omega)) (by decide) (Nat.le_refl 0) (Nat.le_refl 0) (Nat.le_of_ble_eq_true rfl) dX10_ways_16 (fun x_16 I_16 J_16 h_16 => ?_)
    obtain ⟨rfl, rfl, h_16⟩ := h_16
    refine ww_if_ne hX (pc := 19) (tgt := 24) dX10_ways_19 (by decide) (fun h_19 => ?_) (fun h_19 => ?_)
    · simp only [w32_mod] at h_19
      refine ww_aload_n hX (pc := 24) dX10_ways_24 rfl ?_
      refine ww_getR hX (pc := 25) fX10_10 (by decide) (xs_0 hL) (xr_0_0 hL) dX10_ways_25 ?_
      refine ww_iload_n hX (pc := 28) dX10_ways_28 rfl ?_
      refine ww_iload_n hX (pc := 29) dX10_ways_29 rfl ?_
      refine vI2 hX (pc := 30) sX10_198 (xs_1 hL) (c7_X1_countWays l0 hL hC.1 (by omega) (by omega) (by omega) (by omega)) (by decide) (Nat.le_refl 0) (Nat.le_refl 0) (Nat.le_of_ble_eq_true rfl) dX10_ways_30 (fun x_30 I_30 J_30 h_30 => ?_)
      obtain ⟨rfl, rfl, h_30⟩ := h_30
      refine rI hX (pc := 33) hT (Nat.le_refl 0) (Nat.le_refl 0) dX10_ways_33 ?_
      exact ⟨(Kp_rf (a := 0) (b := 49)), (Kp_rf (a := 0) (b := 49)), hC, Fw_rf, (fun _ => h_30), (fun h9 => absurd (by omega) h9)⟩
    · simp only [w32_mod] at h_19
      refine ww_iconst hX (pc := 22) (x := (-1)) dX10_ways_22 rfl ?_
      refine rI hX (pc := 23) hT (Nat.le_refl 0) (Nat.le_refl 0) dX10_ways_23 ?_
      exact ⟨(Kp_rf (a := 0) (b := 49)), (Kp_rf (a := 0) (b := 49)), hC, Fw_rf, (fun h9 => absurd h9 (by omega)), (fun _ => rfl)⟩
set_option maxHeartbeats 4000000 in
set_option maxRecDepth 20000 in
theorem c7_X10_reached (l0 : Launch) {Ia Ja : aI1} {Ra : aR1} {Sa : aS1} (hL : LY Ra Sa) (hC : CX Ia) {a : Int} (ha0 : -2147483648 ≤ a) (ha1 : a < 2147483648)  : CT l0 10 0 0 mX10_reached [kR (some 0), kI a] Ia Ja Ra Sa (cI (fun x I' J' => Kp 0 49 Ia I' ∧ Kp 0 49 Ja J' ∧ CX I' ∧ Fw [] [] Ia I' ∧ (a = -1 → x = fW (rcF (Ia 3) (Ia 1 7)) 0 (FU (Ia 1 5) + 1).toNat) ∧ (¬ a = -1 → 0 ≤ a ∧ a ≤ FU (Ia 1 5) → (x = 0 ∨ x = 1) ∧ (x = 1 ↔ RC (Ia 3) (Ia 1 7) a.toNat)) ∧ (¬ a = -1 → ¬ (0 ≤ a ∧ a ≤ FU (Ia 1 5)) → x = -1)) Ra Sa) := by
  refine ct_in pn_X10 (Nat.le_of_ble_eq_true rfl) (fun X hX hT hIn => ?_)
  have hX : aK l0 X cX10_reached 2 RX10 (some .int) 10 0 0 := hX
  change WW X 0 [some (kR (some 0)), some (kI a)] [] Ia Ja Ra Sa 0 0
  have hI := hC.1
  have hq := XI_o hI
  refine ww_iload_n hX (pc := 0) dX10_reached_0 rfl ?_
  refine ww_iconst hX (pc := 1) (x := (-1)) dX10_reached_1 rfl ?_
  refine ww_icmp_ne hX (pc := 2) (tgt := 13) dX10_reached_2 (by decide) (fun h_2 => ?_) (fun h_2 => ?_)
  · simp only [w32_mod] at h_2
    refine ww_aload_n hX (pc := 13) dX10_reached_13 rfl ?_
    refine ww_getR hX (pc := 14) fX10_10 (by decide) (xs_0 hL) (xr_0_0 hL) dX10_reached_14 ?_
    refine ww_iload_n hX (pc := 17) dX10_reached_17 rfl ?_
    refine vI1 hX (pc := 18) sX10_131 (xs_1 hL) (c_X1_isState l0 hL hC.1 (by omega)) (by decide) (Nat.le_refl 0) (Nat.le_refl 0) (Nat.le_of_ble_eq_true rfl) dX10_reached_18 (fun x_18 I_18 J_18 h_18 => ?_)
    obtain ⟨rfl, rfl, h_18⟩ := h_18
    refine ww_if_ne hX (pc := 21) (tgt := 26) dX10_reached_21 (by decide) (fun h_21 => ?_) (fun h_21 => ?_)
    · simp only [w32_mod] at h_21
      refine ww_aload_n hX (pc := 26) dX10_reached_26 rfl ?_
      refine ww_getR hX (pc := 27) fX10_10 (by decide) (xs_0 hL) (xr_0_0 hL) dX10_reached_27 ?_
      refine ww_iload_n hX (pc := 30) dX10_reached_30 rfl ?_
      refine vI1 hX (pc := 31) sX10_213 (xs_1 hL) (c7_X1_isReached l0 hL hC.1 (by omega) (by omega)) (by decide) (Nat.le_refl 0) (Nat.le_refl 0) (Nat.le_of_ble_eq_true rfl) dX10_reached_31 (fun x_31 I_31 J_31 h_31 => ?_)
      obtain ⟨rfl, rfl, h_31⟩ := h_31
      refine ww_if_eq hX (pc := 34) (tgt := 41) dX10_reached_34 (by decide) (fun h_34 => ?_) (fun h_34 => ?_)
      · simp only [w32_mod] at h_34
        refine ww_iconst hX (pc := 41) (x := 0) dX10_reached_41 rfl ?_
        refine rI hX (pc := 42) hT (Nat.le_refl 0) (Nat.le_refl 0) dX10_reached_42 ?_
        exact ⟨(Kp_rf (a := 0) (b := 49)), (Kp_rf (a := 0) (b := 49)), hC, Fw_rf, (fun h9 => absurd h9 (by omega)), (fun _ _ => ⟨by omega, fun h9 => absurd h9 (by decide), fun h9 => absurd (h_31.2.mpr h9) (by omega)⟩), (fun _ h9 => absurd (by omega) h9)⟩
      · simp only [w32_mod] at h_34
        refine ww_iconst hX (pc := 37) (x := 1) dX10_reached_37 rfl ?_
        refine ww_goto hX (pc := 38) (tgt := 42) dX10_reached_38 (by decide) ?_
        refine rI hX (pc := 42) hT (Nat.le_refl 0) (Nat.le_refl 0) dX10_reached_42 ?_
        exact ⟨(Kp_rf (a := 0) (b := 49)), (Kp_rf (a := 0) (b := 49)), hC, Fw_rf, (fun h9 => absurd h9 (by omega)), (fun _ _ => ⟨by omega, fun _ => h_31.2.mp (by omega), fun _ => rfl⟩), (fun _ h9 => absurd (by omega) h9)⟩
    · simp only [w32_mod] at h_21
      refine ww_iconst hX (pc := 24) (x := (-1)) dX10_reached_24 rfl ?_
      refine rI hX (pc := 25) hT (Nat.le_refl 0) (Nat.le_refl 0) dX10_reached_25 ?_
      exact ⟨(Kp_rf (a := 0) (b := 49)), (Kp_rf (a := 0) (b := 49)), hC, Fw_rf, (fun h9 => absurd h9 (by omega)), (fun _ h9 => absurd h9 (by omega)), (fun _ _ => rfl)⟩
  · simp only [w32_mod] at h_2
    refine ww_aload_n hX (pc := 5) dX10_reached_5 rfl ?_
    refine ww_getR hX (pc := 6) fX10_10 (by decide) (xs_0 hL) (xr_0_0 hL) dX10_reached_6 ?_
    refine vI0 hX (pc := 9) sX10_210 (xs_1 hL) (c7_X1_countReached l0 hL hC.1) (by decide) (Nat.le_refl 0) (Nat.le_refl 0) (Nat.le_of_ble_eq_true rfl) dX10_reached_9 (fun x_9 I_9 J_9 h_9 => ?_)
    obtain ⟨rfl, rfl, h_9⟩ := h_9
    refine rI hX (pc := 12) hT (Nat.le_refl 0) (Nat.le_refl 0) dX10_reached_12 ?_
    exact ⟨(Kp_rf (a := 0) (b := 49)), (Kp_rf (a := 0) (b := 49)), hC, Fw_rf, (fun _ => h_9), (fun h9 => absurd (by omega) h9), (fun h9 => absurd (by omega) h9)⟩
set_option maxHeartbeats 4000000 in
set_option maxRecDepth 20000 in
theorem c7_X10_hurts (l0 : Launch) {Ia Ja : aI1} {Ra : aR1} {Sa : aS1} (hL : LY Ra Sa) (hC : CX Ia) {a : Int} (ha0 : -2147483648 ≤ a) (ha1 : a < 2147483648)  : CT l0 10 0 0 mX10_hurts [kR (some 0), kI a] Ia Ja Ra Sa (cI (fun x I' J' => Kp 0 49 Ia I' ∧ Kp 0 49 Ja J' ∧ CX I' ∧ Fw [18, 19, 20, 21, 22, 23, 24, 25, 26, 27, 28, 29, 30, 31, 32, 33, 34, 35, 36] [] Ia I' ∧ ((0 ≤ a ∧ a < Ia 1 5) → ∃ L, zLV (Ia 3) (i_or (Ia 1 7) (i_shl 1 a)) (FU (Ia 1 5) + 1) (Ia 1 6) (-1) L ∧ x = L 0) ∧ (¬ (0 ≤ a ∧ a < Ia 1 5) → x = -1)) Ra Sa) := by
  refine ct_in pn_X10 (Nat.le_of_ble_eq_true rfl) (fun X hX hT hIn => ?_)
  have hX : aK l0 X cX10_hurts 2 RX10 (some .int) 10 0 0 := hX
  change WW X 0 [some (kR (some 0)), some (kI a)] [] Ia Ja Ra Sa 0 0
  have hI := hC.1
  have hq := XI_o hI
  refine ww_aload_n hX (pc := 0) dX10_hurts_0 rfl ?_
  refine ww_getR hX (pc := 1) fX10_10 (by decide) (xs_0 hL) (xr_0_0 hL) dX10_hurts_1 ?_
  refine ww_iload_n hX (pc := 4) dX10_hurts_4 rfl ?_
  refine vI1 hX (pc := 5) sX10_120 (xs_1 hL) (c_X1_isLamp l0 hL hC.1 (by omega)) (by decide) (Nat.le_refl 0) (Nat.le_refl 0) (Nat.le_of_ble_eq_true rfl) dX10_hurts_5 (fun x_5 I_5 J_5 h_5 => ?_)
  obtain ⟨rfl, rfl, h_5⟩ := h_5
  refine ww_if_eq hX (pc := 8) (tgt := 22) dX10_hurts_8 (by decide) (fun h_8 => ?_) (fun h_8 => ?_)
  · simp only [w32_mod] at h_8
    refine ww_iconst hX (pc := 22) (x := (-1)) dX10_hurts_22 rfl ?_
    refine rI hX (pc := 23) hT (Nat.le_refl 0) (Nat.le_refl 0) dX10_hurts_23 ?_
    exact ⟨(Kp_rf (a := 0) (b := 49)), (Kp_rf (a := 0) (b := 49)), hC, Fw_rf, (fun h9 => absurd h9 (by omega)), (fun _ => rfl)⟩
  · simp only [w32_mod] at h_8
    refine ww_aload_n hX (pc := 11) dX10_hurts_11 rfl ?_
    refine ww_getR hX (pc := 12) fX10_48 (by decide) (xs_0 hL) (xr_0_5 hL) dX10_hurts_12 ?_
    refine ww_iload_n hX (pc := 15) dX10_hurts_15 rfl ?_
    refine vI1 hX (pc := 16) sX10_222 (xs_18 hL) (c7_X4_lastingWithout l0 hL hC.1) (by decide) (Nat.le_refl 0) (Nat.le_refl 0) (Nat.le_of_ble_eq_true rfl) dX10_hurts_16 (fun x_16 I_16 J_16 h_16 => ?_)
    have kI_16 : Kp 0 49 Ia I_16 := Kp_tr (Kp_rf (a := 0) (b := 49)) (Kp_wd h_16.1 (by decide) (by decide))
    have kJ_16 : Kp 0 49 Ja J_16 := Kp_tr (Kp_rf (a := 0) (b := 49)) (Kp_wd h_16.2.1 (by decide) (by decide))
    have cI_16 : CX I_16 := CX_kp hC h_16.1 (by decide) (by decide)
    have qI_16 := XI_o cI_16.1
    have r5_I_16 : I_16 1 5 = Ia 1 5 := by rw [h_16.1 1 (by decide)]
    have r6_I_16 : I_16 1 6 = Ia 1 6 := by rw [h_16.1 1 (by decide)]
    have r8_I_16 : I_16 1 8 = Ia 1 8 := by rw [h_16.1 1 (by decide)]
    have r9_I_16 : I_16 1 9 = Ia 1 9 := by rw [h_16.1 1 (by decide)]
    have r10_I_16 : I_16 1 10 = Ia 1 10 := by rw [h_16.1 1 (by decide)]
    have r11_I_16 : I_16 1 11 = Ia 1 11 := by rw [h_16.1 1 (by decide)]
    have rf_I_16 : FU (I_16 1 5) = FU (Ia 1 5) := by rw [r5_I_16]
    have wI_16 : Fw [18, 19, 20, 21, 22, 23, 24, 25, 26, 27, 28, 29, 30, 31, 32, 33, 34, 35, 36] [] Ia I_16 := Fw_kp Fw_rf h_16.1 (by decide)
    have r7_I_16 : I_16 1 7 = Ia 1 7 := by rw [h_16.1 1 (by decide)]
    refine ww_goto hX (pc := 19) (tgt := 23) dX10_hurts_19 (by decide) ?_
    refine rI hX (pc := 23) hT (Nat.le_refl 0) (Nat.le_refl 0) dX10_hurts_23 ?_
    exact ⟨kI_16, kJ_16, cI_16, (Fw_wd wI_16 (by decide) (by decide)), (fun _ => h_16.2.2), (fun h9 => absurd (by omega) h9)⟩
set_option maxHeartbeats 4000000 in
set_option maxRecDepth 20000 in
theorem c7_X10_maybe (l0 : Launch) {Ia Ja : aI1} {Ra : aR1} {Sa : aS1} (hL : LY Ra Sa) (hC : CX Ia) {a b : Int} (ha0 : -2147483648 ≤ a) (ha1 : a < 2147483648) (hb0 : -2147483648 ≤ b) (hb1 : b < 2147483648)  : CT l0 10 0 0 mX10_maybe [kR (some 0), kI a, kI b] Ia Ja Ra Sa (cI (fun x I' J' => Kp 0 49 Ia I' ∧ Kp 0 49 Ja J' ∧ CX I' ∧ Fw [] [] Ia I' ∧ ((0 ≤ a ∧ a ≤ FU (Ia 1 5) ∧ 0 ≤ b ∧ b ≤ 8) → x = fW (mbF (Ia 3) (Ia 1 7) a (FU (Ia 1 5) + 1) b) 0 (FU (Ia 1 5) + 1).toNat) ∧ (¬ (0 ≤ a ∧ a ≤ FU (Ia 1 5) ∧ 0 ≤ b ∧ b ≤ 8) → x = -1)) Ra Sa) := by
  refine ct_in pn_X10 (Nat.le_of_ble_eq_true rfl) (fun X hX hT hIn => ?_)
  have hX : aK l0 X cX10_maybe 6 RX10 (some .int) 10 0 0 := hX
  change WW X 0 [some (kR (some 0)), some (kI a), some (kI b), none, none, none] [] Ia Ja Ra Sa 0 0
  have hI := hC.1
  have hq := XI_o hI
  refine ww_aload_n hX (pc := 0) dX10_maybe_0 rfl ?_
  refine ww_getR hX (pc := 1) fX10_10 (by decide) (xs_0 hL) (xr_0_0 hL) dX10_maybe_1 ?_
  refine ww_iload_n hX (pc := 4) dX10_maybe_4 rfl ?_
  refine vI1 hX (pc := 5) sX10_131 (xs_1 hL) (c_X1_isState l0 hL hC.1 (by omega)) (by decide) (Nat.le_refl 0) (Nat.le_refl 0) (Nat.le_of_ble_eq_true rfl) dX10_maybe_5 (fun x_5 I_5 J_5 h_5 => ?_)
  obtain ⟨rfl, rfl, h_5⟩ := h_5
  refine ww_if_eq hX (pc := 8) (tgt := 21) dX10_maybe_8 (by decide) (fun h_8 => ?_) (fun h_8 => ?_)
  · simp only [w32_mod] at h_8
    refine ww_iconst hX (pc := 21) (x := (-1)) dX10_maybe_21 rfl ?_
    refine rI hX (pc := 22) hT (Nat.le_refl 0) (Nat.le_refl 0) dX10_maybe_22 ?_
    exact ⟨(Kp_rf (a := 0) (b := 49)), (Kp_rf (a := 0) (b := 49)), hC, Fw_rf, (fun h9 => absurd h9 (by omega)), (fun _ => rfl)⟩
  · simp only [w32_mod] at h_8
    refine ww_iload_n hX (pc := 11) dX10_maybe_11 rfl ?_
    refine ww_if_lt hX (pc := 12) (tgt := 21) dX10_maybe_12 (by decide) (fun h_12 => ?_) (fun h_12 => ?_)
    · simp only [w32_mod] at h_12
      refine ww_iconst hX (pc := 21) (x := (-1)) dX10_maybe_21 rfl ?_
      refine rI hX (pc := 22) hT (Nat.le_refl 0) (Nat.le_refl 0) dX10_maybe_22 ?_
      exact ⟨(Kp_rf (a := 0) (b := 49)), (Kp_rf (a := 0) (b := 49)), hC, Fw_rf, (fun h9 => absurd h9 (by omega)), (fun _ => rfl)⟩
    · simp only [w32_mod] at h_12
      refine ww_iload_n hX (pc := 15) dX10_maybe_15 rfl ?_
      refine ww_bipush hX (pc := 16) (x := 8) dX10_maybe_16 (by decide) ?_
      refine ww_icmp_le hX (pc := 18) (tgt := 23) dX10_maybe_18 (by decide) (fun h_18 => ?_) (fun h_18 => ?_)
      · simp only [w32_mod] at h_18
        refine ww_iconst hX (pc := 23) (x := 0) dX10_maybe_23 rfl ?_
        refine ww_istore_n hX (pc := 24) (lv' := [some (kR (some 0)), some (kI a), some (kI b), some (kI 0), none, none]) dX10_maybe_24 (by decide) rfl rfl ?_
        refine ww_aload_n hX (pc := 25) dX10_maybe_25 rfl ?_
        refine ww_getR hX (pc := 26) fX10_10 (by decide) (xs_0 hL) (xr_0_0 hL) dX10_maybe_26 ?_
        refine vI0 hX (pc := 29) sX10_151 (xs_1 hL) (c_X1_full l0 hL hC.1) (by decide) (Nat.le_refl 0) (Nat.le_refl 0) (Nat.le_of_ble_eq_true rfl) dX10_maybe_29 (fun x_29 I_29 J_29 h_29 => ?_)
        obtain ⟨rfl, rfl, h_29⟩ := h_29
        refine ww_istore hX (pc := 32) (lv' := [some (kR (some 0)), some (kI a), some (kI b), some (kI 0), some (kI x_29), none]) dX10_maybe_32 (by decide) rfl rfl ?_
        refine ww_iload_n hX (pc := 34) dX10_maybe_34 rfl ?_
        refine ww_istore hX (pc := 35) (lv' := [some (kR (some 0)), some (kI a), some (kI b), some (kI 0), some (kI x_29), some (kI a)]) dX10_maybe_35 (by decide) rfl rfl ?_
        have hl_37 : ∀ (n_37 : Nat) (g : Int) (to : Int), (x_29 + 1 - to).toNat = n_37 → ((0 ≤ to ∧ to < 2147483648) ∧ a.toNat &&& to.toNat = a.toNat ∧ (-2147483648 ≤ g ∧ g < 2147483648) ∧ g = fW (mbF (Ia 3) (Ia 1 7) a (FU (Ia 1 5) + 1) b) 0 to.toNat) → WW X 37 [some (kR (some 0)), some (kI a), some (kI b), some (kI g), some (kI x_29), some (kI to)] [] Ia Ja Ra Sa 0 0 := by
          intro n_37
          induction n_37 using Nat.strongRecOn with
          | ind n_37 ih_37 =>
            intro g to hm_37 hv_37
            obtain ⟨⟨hto0, hto1⟩, hsu, hgr, hg⟩ := hv_37
            refine ww_iload hX (pc := 37) dX10_maybe_37 rfl ?_
            refine ww_iload hX (pc := 39) dX10_maybe_39 rfl ?_
            refine ww_icmp_gt hX (pc := 41) (tgt := 78) dX10_maybe_41 (by decide) (fun h_41 => ?_) (fun h_41 => ?_)
            · simp only [w32_mod] at h_41
              refine ww_iload_n hX (pc := 78) dX10_maybe_78 rfl ?_
              refine rI hX (pc := 79) hT (Nat.le_refl 0) (Nat.le_refl 0) dX10_maybe_79 ?_
              exact ⟨(Kp_rf (a := 0) (b := 49)), (Kp_rf (a := 0) (b := 49)), hC, Fw_rf, (fun _ => by rw [hg]; exact fW_N (by omega) (fun v t h => mbF_N v t (by omega))), (fun h9 => absurd (by omega) h9)⟩
            · simp only [w32_mod] at h_41
              have hnx := fW_nx (f := mbF (Ia 3) (Ia 1 7) a (FU (Ia 1 5) + 1) b) (z := 0) (to := to) (e := a) (by omega) (by omega) (by omega) (by omega) hsu mbF_n
              have hxr := i_xor_256 (a := to) (b := a) (by omega) (by omega) (by omega) (by omega)
              have hbc := bc_r hxr.1 hxr.2
              refine ww_iload hX (pc := 44) dX10_maybe_44 rfl ?_
              refine ww_iload_n hX (pc := 46) dX10_maybe_46 rfl ?_
              refine ww_ixor hX (pc := 47) dX10_maybe_47 ?_
              refine sI1 hX (pc := 48) sX10_242 (c_J6_bitCount_0f7a4 l0) (by decide) (Nat.le_refl 0) (Nat.le_refl 0) (Nat.le_of_ble_eq_true rfl) dX10_maybe_48 (fun x_48 I_48 J_48 h_48 => ?_)
              obtain ⟨rfl, rfl, h_48⟩ := h_48
              refine ww_iload_n hX (pc := 51) dX10_maybe_51 rfl ?_
              refine ww_icmp_gt hX (pc := 52) (tgt := 67) dX10_maybe_52 (by decide) (fun h_52 => ?_) (fun h_52 => ?_)
              · simp only [w32_mod] at h_52
                have hst : mbF (Ia 3) (Ia 1 7) a (FU (Ia 1 5) + 1) b g to.toNat = g := mbF_x (by omega) (by omega) (by omega) (by omega) (by rw [← h_48]; omega)
                have hgr2 := hgr
                refine ww_iload hX (pc := 67) dX10_maybe_67 rfl ?_
                refine ww_iconst hX (pc := 69) (x := 1) dX10_maybe_69 rfl ?_
                refine ww_iadd hX (pc := 70) dX10_maybe_70 ?_
                refine ww_iload_n hX (pc := 71) dX10_maybe_71 rfl ?_
                refine ww_ior hX (pc := 72) dX10_maybe_72 ?_
                refine ww_nmI (fun v_73 hv_73 => ?_)
                refine ww_istore hX (pc := 73) (lv' := [some (kR (some 0)), some (kI a), some (kI b), some (kI g), some (kI x_29), some (kI v_73)]) dX10_maybe_73 (by decide) rfl rfl ?_
                refine ww_goto hX (pc := 75) (tgt := 37) dX10_maybe_75 (by decide) ?_
                have hor := i_or_ge (a := to + 1) (b := a) (by omega) (by omega) (by omega) (by omega)
                exact ih_37 _ (by omega) g v_73 rfl ⟨⟨by omega, by omega⟩, by rw [hv_73]; exact or_nx_sub (by omega) (by omega) (by omega) (by omega), hgr2, by rw [hv_73, hnx, ← hg, hst]⟩
              · simp only [w32_mod] at h_52
                refine ww_iload_n hX (pc := 55) dX10_maybe_55 rfl ?_
                refine ww_aload_n hX (pc := 56) dX10_maybe_56 rfl ?_
                refine ww_getR hX (pc := 57) fX10_10 (by decide) (xs_0 hL) (xr_0_0 hL) dX10_maybe_57 ?_
                refine ww_iload hX (pc := 60) dX10_maybe_60 rfl ?_
                refine vI1 hX (pc := 62) sX10_269 (xs_1 hL) (c7_X1_newsBit l0 hL hC.1 (by omega) (by omega)) (by decide) (Nat.le_refl 0) (Nat.le_refl 0) (Nat.le_of_ble_eq_true rfl) dX10_maybe_62 (fun x_62 I_62 J_62 h_62 => ?_)
                obtain ⟨rfl, rfl, h_62⟩ := h_62
                refine ww_ior hX (pc := 65) dX10_maybe_65 ?_
                refine ww_nmI (fun v_66 hv_66 => ?_)
                refine ww_istore_n hX (pc := 66) (lv' := [some (kR (some 0)), some (kI a), some (kI b), some (kI v_66), some (kI x_29), some (kI to)]) dX10_maybe_66 (by decide) rfl rfl ?_
                have hst : mbF (Ia 3) (Ia 1 7) a (FU (Ia 1 5) + 1) b g to.toNat = v_66 := by
                  rw [hv_66, h_62]
                  exact (mbF_y (by omega) (by omega) (by omega) (by omega) (by omega) hsu hgr.1 hgr.2 (by rw [← h_48]; omega)).symm
                have hgr2 := ior_r g x_62
                rw [← hv_66] at hgr2
                refine ww_iload hX (pc := 67) dX10_maybe_67 rfl ?_
                refine ww_iconst hX (pc := 69) (x := 1) dX10_maybe_69 rfl ?_
                refine ww_iadd hX (pc := 70) dX10_maybe_70 ?_
                refine ww_iload_n hX (pc := 71) dX10_maybe_71 rfl ?_
                refine ww_ior hX (pc := 72) dX10_maybe_72 ?_
                refine ww_nmI (fun v_73 hv_73 => ?_)
                refine ww_istore hX (pc := 73) (lv' := [some (kR (some 0)), some (kI a), some (kI b), some (kI v_66), some (kI x_29), some (kI v_73)]) dX10_maybe_73 (by decide) rfl rfl ?_
                refine ww_goto hX (pc := 75) (tgt := 37) dX10_maybe_75 (by decide) ?_
                have hor := i_or_ge (a := to + 1) (b := a) (by omega) (by omega) (by omega) (by omega)
                exact ih_37 _ (by omega) v_66 v_73 rfl ⟨⟨by omega, by omega⟩, by rw [hv_73]; exact or_nx_sub (by omega) (by omega) (by omega) (by omega), hgr2, by rw [hv_73, hnx, ← hg, hst]⟩
        exact hl_37 _ 0 a rfl ⟨⟨by omega, by omega⟩, Nat.and_self _, by omega, (fW_e mbF_n).symm⟩
      · simp only [w32_mod] at h_18
        refine ww_iconst hX (pc := 21) (x := (-1)) dX10_maybe_21 rfl ?_
        refine rI hX (pc := 22) hT (Nat.le_refl 0) (Nat.le_refl 0) dX10_maybe_22 ?_
        exact ⟨(Kp_rf (a := 0) (b := 49)), (Kp_rf (a := 0) (b := 49)), hC, Fw_rf, (fun h9 => absurd h9 (by omega)), (fun _ => rfl)⟩
set_option maxHeartbeats 4000000 in
set_option maxRecDepth 20000 in
theorem c7_X10_safe (l0 : Launch) {Ia Ja : aI1} {Ra : aR1} {Sa : aS1} (hL : LY Ra Sa) (hC : CX Ia)  : CT l0 10 0 0 mX10_safe [kR (some 0)] Ia Ja Ra Sa (cI (fun x I' J' => Kp 0 49 Ia I' ∧ Kp 0 49 Ja J' ∧ CX I' ∧ Fw [18, 19, 20, 21, 22, 23, 24, 25, 26, 27, 28, 29, 30, 31, 32, 33, 34, 35, 36] [] Ia I' ∧ SFE (Ia 3) (Ia 1 7) (FU (Ia 1 5) + 1) x) Ra Sa) := by
  refine ct_in pn_X10 (Nat.le_of_ble_eq_true rfl) (fun X hX hT hIn => ?_)
  have hX : aK l0 X cX10_safe 1 RX10 (some .int) 10 0 0 := hX
  change WW X 0 [some (kR (some 0))] [] Ia Ja Ra Sa 0 0
  have hI := hC.1
  have hq := XI_o hI
  refine ww_aload_n hX (pc := 0) dX10_safe_0 rfl ?_
  refine ww_getR hX (pc := 1) fX10_48 (by decide) (xs_0 hL) (xr_0_5 hL) dX10_safe_1 ?_
  refine vI0 hX (pc := 4) sX10_272 (xs_18 hL) (c7_X4_findSafe l0 hL hC.1) (by decide) (Nat.le_refl 0) (Nat.le_refl 0) (Nat.le_of_ble_eq_true rfl) dX10_safe_4 (fun x_4 I_4 J_4 h_4 => ?_)
  have kI_4 : Kp 0 49 Ia I_4 := Kp_tr (Kp_rf (a := 0) (b := 49)) (Kp_wd h_4.1 (by decide) (by decide))
  have kJ_4 : Kp 0 49 Ja J_4 := Kp_tr (Kp_rf (a := 0) (b := 49)) (Kp_wd h_4.2.1 (by decide) (by decide))
  have cI_4 : CX I_4 := CX_kp hC h_4.1 (by decide) (by decide)
  have qI_4 := XI_o cI_4.1
  have r5_I_4 : I_4 1 5 = Ia 1 5 := by rw [h_4.1 1 (by decide)]
  have r6_I_4 : I_4 1 6 = Ia 1 6 := by rw [h_4.1 1 (by decide)]
  have r8_I_4 : I_4 1 8 = Ia 1 8 := by rw [h_4.1 1 (by decide)]
  have r9_I_4 : I_4 1 9 = Ia 1 9 := by rw [h_4.1 1 (by decide)]
  have r10_I_4 : I_4 1 10 = Ia 1 10 := by rw [h_4.1 1 (by decide)]
  have r11_I_4 : I_4 1 11 = Ia 1 11 := by rw [h_4.1 1 (by decide)]
  have rf_I_4 : FU (I_4 1 5) = FU (Ia 1 5) := by rw [r5_I_4]
  have wI_4 : Fw [18, 19, 20, 21, 22, 23, 24, 25, 26, 27, 28, 29, 30, 31, 32, 33, 34, 35, 36] [] Ia I_4 := Fw_kp Fw_rf h_4.1 (by decide)
  have r7_I_4 : I_4 1 7 = Ia 1 7 := by rw [h_4.1 1 (by decide)]
  refine rI hX (pc := 7) hT (Nat.le_refl 0) (Nat.le_refl 0) dX10_safe_7 ?_
  exact ⟨kI_4, kJ_4, cI_4, (Fw_wd wI_4 (by decide) (by decide)), h_4.2.2⟩
