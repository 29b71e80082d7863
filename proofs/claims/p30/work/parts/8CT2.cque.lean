theorem wyF_y {code : Nat → Int} {g s N x v to : Int} (h0 : 0 ≤ to) (h1 : to < N) (h2 : s.toNat &&& to.toNat = s.toNat) (h3 : i_and (i_xor to s) g = 0) (h4 : code to.toNat = x) : wyF code g s N x v to.toNat = v + 1 :=
  if_pos ⟨by omega, h2, by rw [show ((to.toNat : Nat) : Int) = to by omega]; exact h3, h4⟩
theorem wyF_x {code : Nat → Int} {g s N x v to : Int} (h0 : 0 ≤ to) (h : ¬ (i_and (i_xor to s) g = 0 ∧ code to.toNat = x)) : wyF code g s N x v to.toNat = v :=
  if_neg (fun h2 => h ⟨by have h3 := h2.2.2.1; rw [show ((to.toNat : Nat) : Int) = to by omega] at h3; exact h3, h2.2.2.2⟩)
theorem bcx_pcn {s to : Int} (h0 : 0 ≤ to) (h1 : to < 256) (h2 : 0 ≤ s) (h3 : s < 256) : bc (i_xor to s) = pcn (to.toNat ^^^ s.toNat) := by
  have hx : to.toNat ^^^ s.toNat < 2 ^ 8 := Nat.xor_lt_two_pow (by omega) (by omega)
  rw [ixor_N h2 h3 h0 h1, bc_pcn (by omega) (by omega), Int.toNat_natCast]
theorem mbF_x {code : Nat → Int} {g s N m v to : Int} (h0 : 0 ≤ to) (h1 : to < 256) (h2 : 0 ≤ s) (h3 : s < 256) (h : ¬ bc (i_xor to s) ≤ m) : mbF code g s N m v to.toNat = v :=
  if_neg (fun h9 => h (by rw [bcx_pcn h0 h1 h2 h3]; exact h9.2.2.2.2))
theorem mbF_y {code : Nat → Int} {g s N m v to : Int} (h0 : 0 ≤ to) (h1 : to < 256) (h2 : 0 ≤ s) (h3 : s < 256) (hN : to < N) (hs : s.toNat &&& to.toNat = s.toNat) (hv0 : -2147483648 ≤ v) (hv1 : v < 2147483648) (h : bc (i_xor to s) ≤ m) : i_or v (nbT code g to) = mbF code g s N m v to.toNat := by
  have hc : ((to.toNat : Nat) : Int) = to := by omega
  rw [bcx_pcn h0 h1 h2 h3] at h
  unfold nbT mbF
  rw [hc]
  by_cases g1 : ¬ code to.toNat = -1 ∧ i_and to g = 0
  · rw [if_pos g1, if_pos ⟨hN, hs, g1.1, g1.2, h⟩]
  · rw [if_neg g1, if_neg (fun h9 => g1 ⟨h9.2.2.1, h9.2.2.2.1⟩), ior_z hv0 hv1]
theorem BT_st {code : Nat → Int} {g a N to : Int} {F : Nat → Int} (h : ∀ d : Nat, d < 9 → BT code (fun t => SN code g a N t ∧ pcn (t ^^^ a.toNat) = d ∧ (t : Int) < to) (F d)) (h0 : 0 ≤ to) (h1 : to < 256) (hN : to < N) (a0 : 0 ≤ a) (a1 : a < 256) (hs : a.toNat &&& to.toNat = a.toNat) (hc : -1 ≤ code to.toNat ∧ code to.toNat ≤ 7) : ∀ d : Nat, d < 9 → BT code (fun t => SN code g a N t ∧ pcn (t ^^^ a.toNat) = d ∧ (t : Int) < i_or (to + 1) a) (up1 F (bc (i_xor to a)).toNat (i_or (F (bc (i_xor to a)).toNat) (nbT code g to)) d) := by
  intro d hd
  have hcc : ((to.toNat : Nat) : Int) = to := by omega
  have hor := i_or_ge (a := to + 1) (b := a) (by omega) (by omega) (by omega) (by omega)
  have key : ∀ t : Nat, a.toNat &&& t = a.toNat → ((t : Int) < i_or (to + 1) a ↔ (t : Int) < to ∨ t = to.toNat) := fun t ht => by
    constructor
    · intro h2
      by_cases h3 : (t : Int) < to
      · exact Or.inl h3
      · right
        refine Decidable.byContradiction (fun h4 => ?_)
        have := or_nx_le h0 (by omega) a0 (by omega) hs ht (by omega)
        omega
    · rintro (h2 | h2) <;> omega
  have hb := bcx_pcn h0 h1 a0 a1
  by_cases e : d = (bc (i_xor to a)).toNat
  · subst e
    have hp := pcn_r (to.toNat ^^^ a.toNat)
    have he : ((bc (i_xor to a)).toNat : Int) = pcn (to.toNat ^^^ a.toNat) := by omega
    rw [up1_s]
    by_cases hn : ¬ code to.toNat = -1 ∧ i_and to g = 0
    · rw [show nbT code g to = i_shl 1 (code to.toNat) from if_pos hn]
      refine BT_cg (BT_or (h _ hd) (BT_1 (by omega) (by omega))) (fun t => ?_)
      constructor
      · rintro (⟨b1, b2, b3⟩ | rfl)
        · exact ⟨b1, b2, (key t b1.2).mpr (Or.inl b3)⟩
        · exact ⟨⟨⟨by omega, hn.1, by rw [hcc]; exact hn.2⟩, hs⟩, he.symm, (key _ hs).mpr (Or.inr rfl)⟩
      · rintro ⟨b1, b2, b3⟩
        rcases (key t b1.2).mp b3 with b4 | b4
        · exact Or.inl ⟨b1, b2, b4⟩
        · exact Or.inr b4
    · rw [show nbT code g to = 0 from if_neg hn]
      have hF := (h _ hd).1
      rw [ior_z (by omega) (by omega)]
      refine BT_cg (h _ hd) (fun t => ?_)
      constructor
      · rintro ⟨b1, b2, b3⟩
        exact ⟨b1, b2, (key t b1.2).mpr (Or.inl b3)⟩
      · rintro ⟨b1, b2, b3⟩
        rcases (key t b1.2).mp b3 with b4 | rfl
        · exact ⟨b1, b2, b4⟩
        · exfalso
          have b5 := b1.1.2.2
          rw [hcc] at b5
          exact hn ⟨b1.1.2.1, b5⟩
  · rw [up1_n _ _ e]
    refine BT_cg (h _ hd) (fun t => ?_)
    constructor
    · rintro ⟨b1, b2, b3⟩
      exact ⟨b1, b2, (key t b1.2).mpr (Or.inl b3)⟩
    · rintro ⟨b1, b2, b3⟩
      rcases (key t b1.2).mp b3 with b4 | rfl
      · exact ⟨b1, b2, b4⟩
      · exfalso
        have hp := pcn_r (to.toNat ^^^ a.toNat)
        omega

set_option maxHeartbeats 4000000 in
set_option maxRecDepth 20000 in
theorem c7_X1_canLight (l0 : Launch) {Ia Ja : aI1} {Ra : aR1} {Sa : aS1} (hL : LY Ra Sa) (hI : XI Ia) {a b : Int}  : CT l0 0 0 0 mX1_canLight [kR (some 1), kI a, kI b] Ia Ja Ra Sa (cI (fun x I' J' => Ia = I' ∧ Ja = J' ∧ (x = 0 ∨ x = 1) ∧ (x = 1 ↔ i_and (i_xor b a) (Ia 1 7) = 0)) Ra Sa) := by
  refine ct_in pn_X1 (Nat.le_of_ble_eq_true rfl) (fun X hX hT hIn => ?_)
  have hX : aK l0 X cX1_canLight 3 RX1 (some .boolean) 0 0 0 := hX
  change WW X 0 [some (kR (some 1)), some (kI a), some (kI b)] [] Ia Ja Ra Sa 0 0
  obtain ⟨hn1, hn2⟩ := hI.1
  obtain ⟨hk1, hk2⟩ := hI.2.1
  obtain ⟨hf1, hf2⟩ := hI.fu
  have har := iand_r (i_xor b a) (Ia 1 7)
  refine ww_iload_n hX (pc := 0) dX1_canLight_0 rfl ?_
  refine ww_iload_n hX (pc := 1) dX1_canLight_1 rfl ?_
  refine ww_ixor hX (pc := 2) dX1_canLight_2 ?_
  refine ww_aload_n hX (pc := 3) dX1_canLight_3 rfl ?_
  refine ww_getI hX (pc := 4) fX1_47 (by decide) (xs_1 hL) dX1_canLight_4 ?_
  refine ww_iand hX (pc := 7) dX1_canLight_7 ?_
  refine ww_if_ne hX (pc := 8) (tgt := 15) dX1_canLight_8 (by decide) (fun h_8 => ?_) (fun h_8 => ?_)
  · simp only [w32_mod] at h_8
    refine ww_iconst hX (pc := 15) (x := 0) dX1_canLight_15 rfl ?_
    refine rZ hX (pc := 16) hT (Nat.le_refl 0) (Nat.le_refl 0) dX1_canLight_16 (by decide) ?_
    exact ⟨rfl, rfl, by omega, by omega⟩
  · simp only [w32_mod] at h_8
    refine ww_iconst hX (pc := 11) (x := 1) dX1_canLight_11 rfl ?_
    refine ww_goto hX (pc := 12) (tgt := 16) dX1_canLight_12 (by decide) ?_
    refine rZ hX (pc := 16) hT (Nat.le_refl 0) (Nat.le_refl 0) dX1_canLight_16 (by decide) ?_
    exact ⟨rfl, rfl, by omega, by omega⟩
set_option maxHeartbeats 4000000 in
set_option maxRecDepth 20000 in
theorem c7_X1_isReached (l0 : Launch) {Ia Ja : aI1} {Ra : aR1} {Sa : aS1} (hL : LY Ra Sa) (hI : XI Ia) {a : Int} (ha0 : 0 ≤ a) (ha1 : a ≤ 255)  : CT l0 0 0 0 mX1_isReached [kR (some 1), kI a] Ia Ja Ra Sa (cI (fun x I' J' => Ia = I' ∧ Ja = J' ∧ (x = 0 ∨ x = 1) ∧ (x = 1 ↔ RC (Ia 3) (Ia 1 7) a.toNat)) Ra Sa) := by
  refine ct_in pn_X1 (Nat.le_of_ble_eq_true rfl) (fun X hX hT hIn => ?_)
  have hX : aK l0 X cX1_isReached 2 RX1 (some .boolean) 0 0 0 := hX
  change WW X 0 [some (kR (some 1)), some (kI a)] [] Ia Ja Ra Sa 0 0
  obtain ⟨hn1, hn2⟩ := hI.1
  obtain ⟨hk1, hk2⟩ := hI.2.1
  obtain ⟨hf1, hf2⟩ := hI.fu
  have har := iand_r a (Ia 1 7)
  have hca : ((a.toNat : Nat) : Int) = a := by omega
  have hcd := hI.2.2.2.2.2.2.2.2.2.1 a.toNat (by omega)
  refine ww_iload_n hX (pc := 0) dX1_isReached_0 rfl ?_
  refine ww_if_eq hX (pc := 1) (tgt := 23) dX1_isReached_1 (by decide) (fun h_1 => ?_) (fun h_1 => ?_)
  · simp only [w32_mod] at h_1
    have hrc : RC (Ia 3) (Ia 1 7) a.toNat := Or.inl (by omega)
    refine ww_iconst hX (pc := 23) (x := 1) dX1_isReached_23 rfl ?_
    refine ww_goto hX (pc := 24) (tgt := 28) dX1_isReached_24 (by decide) ?_
    refine rZ hX (pc := 28) hT (Nat.le_refl 0) (Nat.le_refl 0) dX1_isReached_28 (by decide) ?_
    exact ⟨rfl, rfl, by omega, fun _ => hrc, fun _ => rfl⟩
  · simp only [w32_mod] at h_1
    refine ww_aload_n hX (pc := 4) dX1_isReached_4 rfl ?_
    refine ww_getR hX (pc := 5) fX1_15 (by decide) (xs_1 hL) (xr_1_1 hL) dX1_isReached_5 ?_
    refine ww_iload_n hX (pc := 8) dX1_isReached_8 rfl ?_
    refine ww_iald hX (pc := 9) (xs_3 hL) (by decide) (by omega) (by omega) dX1_isReached_9 ?_
    refine ww_iconst hX (pc := 10) (x := (-1)) dX1_isReached_10 rfl ?_
    refine ww_icmp_eq hX (pc := 11) (tgt := 27) dX1_isReached_11 (by decide) (fun h_11 => ?_) (fun h_11 => ?_)
    · simp only [w32_mod] at h_11
      have hrc : ¬ RC (Ia 3) (Ia 1 7) a.toNat := fun h9 => by
        unfold RC at h9
        omega
      refine ww_iconst hX (pc := 27) (x := 0) dX1_isReached_27 rfl ?_
      refine rZ hX (pc := 28) hT (Nat.le_refl 0) (Nat.le_refl 0) dX1_isReached_28 (by decide) ?_
      exact ⟨rfl, rfl, by omega, fun h9 => absurd h9 (by decide), fun h9 => absurd h9 hrc⟩
    · simp only [w32_mod] at h_11
      refine ww_iload_n hX (pc := 14) dX1_isReached_14 rfl ?_
      refine ww_aload_n hX (pc := 15) dX1_isReached_15 rfl ?_
      refine ww_getI hX (pc := 16) fX1_47 (by decide) (xs_1 hL) dX1_isReached_16 ?_
      refine ww_iand hX (pc := 19) dX1_isReached_19 ?_
      refine ww_if_ne hX (pc := 20) (tgt := 27) dX1_isReached_20 (by decide) (fun h_20 => ?_) (fun h_20 => ?_)
      · simp only [w32_mod] at h_20
        have hrc : ¬ RC (Ia 3) (Ia 1 7) a.toNat := fun h9 => by
          unfold RC at h9
          rw [hca] at h9
          omega
        refine ww_iconst hX (pc := 27) (x := 0) dX1_isReached_27 rfl ?_
        refine rZ hX (pc := 28) hT (Nat.le_refl 0) (Nat.le_refl 0) dX1_isReached_28 (by decide) ?_
        exact ⟨rfl, rfl, by omega, fun h9 => absurd h9 (by decide), fun h9 => absurd h9 hrc⟩
      · simp only [w32_mod] at h_20
        have hrc : RC (Ia 3) (Ia 1 7) a.toNat := Or.inr ⟨by omega, by rw [hca]; omega⟩
        refine ww_iconst hX (pc := 23) (x := 1) dX1_isReached_23 rfl ?_
        refine ww_goto hX (pc := 24) (tgt := 28) dX1_isReached_24 (by decide) ?_
        refine rZ hX (pc := 28) hT (Nat.le_refl 0) (Nat.le_refl 0) dX1_isReached_28 (by decide) ?_
        exact ⟨rfl, rfl, by omega, fun _ => hrc, fun _ => rfl⟩
set_option maxHeartbeats 4000000 in
set_option maxRecDepth 20000 in
theorem c7_X1_newsBit (l0 : Launch) {Ia Ja : aI1} {Ra : aR1} {Sa : aS1} (hL : LY Ra Sa) (hI : XI Ia) {a : Int} (ha0 : 0 ≤ a) (ha1 : a ≤ 255)  : CT l0 1 0 0 mX1_newsBit [kR (some 1), kI a] Ia Ja Ra Sa (cI (fun x I' J' => Ia = I' ∧ Ja = J' ∧ x = nbT (Ia 3) (Ia 1 7) a) Ra Sa) := by
  refine ct_in pn_X1 (Nat.le_of_ble_eq_true rfl) (fun X hX hT hIn => ?_)
  have hX : aK l0 X cX1_newsBit 2 RX1 (some .int) 1 0 0 := hX
  change WW X 0 [some (kR (some 1)), some (kI a)] [] Ia Ja Ra Sa 0 0
  obtain ⟨hn1, hn2⟩ := hI.1
  obtain ⟨hk1, hk2⟩ := hI.2.1
  obtain ⟨hf1, hf2⟩ := hI.fu
  have hca : ((a.toNat : Nat) : Int) = a := by omega
  have hcd := hI.2.2.2.2.2.2.2.2.2.1 a.toNat (by omega)
  refine ww_aload_n hX (pc := 0) dX1_newsBit_0 rfl ?_
  refine ww_getR hX (pc := 1) fX1_15 (by decide) (xs_1 hL) (xr_1_1 hL) dX1_newsBit_1 ?_
  refine ww_iload_n hX (pc := 4) dX1_newsBit_4 rfl ?_
  refine ww_iald hX (pc := 5) (xs_3 hL) (by decide) (by omega) (by omega) dX1_newsBit_5 ?_
  refine ww_iconst hX (pc := 6) (x := (-1)) dX1_newsBit_6 rfl ?_
  refine ww_icmp_eq hX (pc := 7) (tgt := 29) dX1_newsBit_7 (by decide) (fun h_7 => ?_) (fun h_7 => ?_)
  · simp only [w32_mod] at h_7
    have hnb : ¬ (¬ Ia 3 a.toNat = -1 ∧ i_and a (Ia 1 7) = 0) := fun h9 => by have := h9.1; omega
    refine ww_iconst hX (pc := 29) (x := 0) dX1_newsBit_29 rfl ?_
    refine rI hX (pc := 30) hT (Nat.le_refl 0) (Nat.le_refl 0) dX1_newsBit_30 ?_
    exact ⟨rfl, rfl, (if_neg hnb).symm⟩
  · simp only [w32_mod] at h_7
    refine ww_aload_n hX (pc := 10) dX1_newsBit_10 rfl ?_
    refine ww_iload_n hX (pc := 11) dX1_newsBit_11 rfl ?_
    refine vI1 hX (pc := 12) sX1_50 (xs_1 hL) (c7_X1_isReached l0 hL hI (by omega) (by omega)) (by decide) (Nat.le_refl 0) (Nat.le_refl 0) (Nat.le_of_ble_eq_true rfl) dX1_newsBit_12 (fun x_12 I_12 J_12 h_12 => ?_)
    obtain ⟨rfl, rfl, h_12⟩ := h_12
    refine ww_if_eq hX (pc := 15) (tgt := 29) dX1_newsBit_15 (by decide) (fun h_15 => ?_) (fun h_15 => ?_)
    · simp only [w32_mod] at h_15
      have hnb : ¬ (¬ Ia 3 a.toNat = -1 ∧ i_and a (Ia 1 7) = 0) := fun h9 => by
        have h8 : x_12 = 1 := h_12.2.mpr (Or.inr ⟨h9.1, by rw [hca]; exact h9.2⟩)
        omega
      refine ww_iconst hX (pc := 29) (x := 0) dX1_newsBit_29 rfl ?_
      refine rI hX (pc := 30) hT (Nat.le_refl 0) (Nat.le_refl 0) dX1_newsBit_30 ?_
      exact ⟨rfl, rfl, (if_neg hnb).symm⟩
    · simp only [w32_mod] at h_15
      have hnb : (¬ Ia 3 a.toNat = -1 ∧ i_and a (Ia 1 7) = 0) := by
        refine ⟨by omega, ?_⟩
        rcases h_12.2.mp (by omega) with h9 | h9
        · rw [show a = 0 by omega]; exact zand_i _
        · rw [← hca]; exact h9.2
      refine ww_iconst hX (pc := 18) (x := 1) dX1_newsBit_18 rfl ?_
      refine ww_aload_n hX (pc := 19) dX1_newsBit_19 rfl ?_
      refine ww_getR hX (pc := 20) fX1_15 (by decide) (xs_1 hL) (xr_1_1 hL) dX1_newsBit_20 ?_
      refine ww_iload_n hX (pc := 23) dX1_newsBit_23 rfl ?_
      refine ww_iald hX (pc := 24) (xs_3 hL) (by decide) (by omega) (by omega) dX1_newsBit_24 ?_
      refine ww_ishl hX (pc := 25) dX1_newsBit_25 ?_
      refine ww_goto hX (pc := 26) (tgt := 30) dX1_newsBit_26 (by decide) ?_
      refine rI hX (pc := 30) hT (Nat.le_refl 0) (Nat.le_refl 0) dX1_newsBit_30 ?_
      exact ⟨rfl, rfl, (if_pos hnb).symm⟩
set_option maxHeartbeats 4000000 in
set_option maxRecDepth 20000 in
theorem c7_X1_countReached (l0 : Launch) {Ia Ja : aI1} {Ra : aR1} {Sa : aS1} (hL : LY Ra Sa) (hI : XI Ia)  : CT l0 1 0 0 mX1_countReached [kR (some 1)] Ia Ja Ra Sa (cI (fun x I' J' => Ia = I' ∧ Ja = J' ∧ x = fW (rcF (Ia 3) (Ia 1 7)) 0 (FU (Ia 1 5) + 1).toNat) Ra Sa) := by
  refine ct_in pn_X1 (Nat.le_of_ble_eq_true rfl) (fun X hX hT hIn => ?_)
  have hX : aK l0 X cX1_countReached 4 RX1 (some .int) 1 0 0 := hX
  change WW X 0 [some (kR (some 1)), none, none, none] [] Ia Ja Ra Sa 0 0
  obtain ⟨hn1, hn2⟩ := hI.1
  obtain ⟨hk1, hk2⟩ := hI.2.1
  obtain ⟨hf1, hf2⟩ := hI.fu
  refine ww_iconst hX (pc := 0) (x := 0) dX1_countReached_0 rfl ?_
  refine ww_istore_n hX (pc := 1) (lv' := [some (kR (some 1)), some (kI 0), none, none]) dX1_countReached_1 (by decide) rfl rfl ?_
  refine ww_aload_n hX (pc := 2) dX1_countReached_2 rfl ?_
  refine vI0 hX (pc := 3) sX1_43 (xs_1 hL) (c_X1_full l0 hL hI) (by decide) (Nat.le_refl 0) (Nat.le_refl 0) (Nat.le_of_ble_eq_true rfl) dX1_countReached_3 (fun x_3 I_3 J_3 h_3 => ?_)
  obtain ⟨rfl, rfl, h_3⟩ := h_3
  refine ww_istore_n hX (pc := 6) (lv' := [some (kR (some 1)), some (kI 0), some (kI x_3), none]) dX1_countReached_6 (by decide) rfl rfl ?_
  refine ww_iconst hX (pc := 7) (x := 0) dX1_countReached_7 rfl ?_
  refine ww_istore_n hX (pc := 8) (lv' := [some (kR (some 1)), some (kI 0), some (kI x_3), some (kI 0)]) dX1_countReached_8 (by decide) rfl rfl ?_
  have hl_9 : ∀ (n_9 : Nat) (mn : Int) (q : Int), (x_3 + 1 - q).toNat = n_9 → ((0 ≤ q ∧ q ≤ x_3 + 1) ∧ mn = fW (rcF (Ia 3) (Ia 1 7)) 0 q.toNat) → WW X 9 [some (kR (some 1)), some (kI mn), some (kI x_3), some (kI q)] [] Ia Ja Ra Sa 0 0 := by
    intro n_9
    induction n_9 using Nat.strongRecOn with
    | ind n_9 ih_9 =>
      intro mn q hm_9 hv_9
      have hq_9 := Sh0_i hm_9
      clear hm_9
      obtain ⟨⟨hq0, hq1⟩, hmn⟩ := hv_9
      refine ww_iload_n hX (pc := 9) dX1_countReached_9 rfl ?_
      refine ww_iload_n hX (pc := 10) dX1_countReached_10 rfl ?_
      refine ww_icmp_gt hX (pc := 11) (tgt := 36) dX1_countReached_11 (by decide) (fun h_11 => ?_) (fun h_11 => ?_)
      · simp only [w32_mod] at h_11
        refine ww_iload_n hX (pc := 36) dX1_countReached_36 rfl ?_
        refine rI hX (pc := 37) hT (Nat.le_refl 0) (Nat.le_refl 0) dX1_countReached_37 ?_
        exact ⟨rfl, rfl, by rw [hmn, show q = FU (Ia 1 5) + 1 by omega]⟩
      · simp only [w32_mod] at h_11
        refine ww_iload_n hX (pc := 14) dX1_countReached_14 rfl ?_
        refine ww_aload_n hX (pc := 15) dX1_countReached_15 rfl ?_
        refine ww_iload_n hX (pc := 16) dX1_countReached_16 rfl ?_
        refine vI1 hX (pc := 17) sX1_50 (xs_1 hL) (c7_X1_isReached l0 hL hI (by omega) (by omega)) (by decide) (Nat.le_refl 0) (Nat.le_refl 0) (Nat.le_of_ble_eq_true rfl) dX1_countReached_17 (fun x_17 I_17 J_17 h_17 => ?_)
        obtain ⟨rfl, rfl, h_17⟩ := h_17
        refine ww_if_eq hX (pc := 20) (tgt := 27) dX1_countReached_20 (by decide) (fun h_20 => ?_) (fun h_20 => ?_)
        · simp only [w32_mod] at h_20
          have hst : rcF (Ia 3) (Ia 1 7) mn q.toNat = mn + 0 := by
            rw [rcF_0 (fun h9 => by have := h_17.2.mpr h9; omega), Int.add_zero]
          refine ww_iconst hX (pc := 27) (x := 0) dX1_countReached_27 rfl ?_
          refine ww_iadd hX (pc := 28) dX1_countReached_28 ?_
          refine ww_nmI (fun v_29 hv_29 => ?_)
          refine ww_istore_n hX (pc := 29) (lv' := [some (kR (some 1)), some (kI v_29), some (kI x_3), some (kI q)]) dX1_countReached_29 (by decide) rfl rfl ?_
          refine ww_iinc hX (pc := 30) (lv' := [some (kR (some 1)), some (kI v_29), some (kI x_3), some (kI (q + 1))]) dX1_countReached_30 rfl (by decide) rfl rfl ?_
          refine ww_goto hX (pc := 33) (tgt := 9) dX1_countReached_33 (by decide) ?_
          exact ih_9 _ (by have hm9 := Sh0_e hq_9; omega) v_29 (q + 1) rfl ⟨⟨by omega, by omega⟩, by rw [fW_s _ _ (by omega), ← hmn, hst]; omega⟩
        · simp only [w32_mod] at h_20
          have hst : rcF (Ia 3) (Ia 1 7) mn q.toNat = mn + 1 := rcF_1 (h_17.2.mp (by omega))
          refine ww_iconst hX (pc := 23) (x := 1) dX1_countReached_23 rfl ?_
          refine ww_goto hX (pc := 24) (tgt := 28) dX1_countReached_24 (by decide) ?_
          refine ww_iadd hX (pc := 28) dX1_countReached_28 ?_
          refine ww_nmI (fun v_29 hv_29 => ?_)
          refine ww_istore_n hX (pc := 29) (lv' := [some (kR (some 1)), some (kI v_29), some (kI x_3), some (kI q)]) dX1_countReached_29 (by decide) rfl rfl ?_
          refine ww_iinc hX (pc := 30) (lv' := [some (kR (some 1)), some (kI v_29), some (kI x_3), some (kI (q + 1))]) dX1_countReached_30 rfl (by decide) rfl rfl ?_
          refine ww_goto hX (pc := 33) (tgt := 9) dX1_countReached_33 (by decide) ?_
          exact ih_9 _ (by have hm9 := Sh0_e hq_9; omega) v_29 (q + 1) rfl ⟨⟨by omega, by omega⟩, by rw [fW_s _ _ (by omega), ← hmn, hst]; omega⟩
  exact hl_9 _ 0 0 rfl ⟨⟨by omega, by omega⟩, rfl⟩
set_option maxHeartbeats 4000000 in
set_option maxRecDepth 20000 in
theorem c7_X1_countWays (l0 : Launch) {Ia Ja : aI1} {Ra : aR1} {Sa : aS1} (hL : LY Ra Sa) (hI : XI Ia) {a b : Int} (ha0 : 0 ≤ a) (ha1 : a ≤ FU (Ia 1 5)) (hb0 : 0 ≤ b) (hb1 : b ≤ 7)  : CT l0 1 0 0 mX1_countWays [kR (some 1), kI a, kI b] Ia Ja Ra Sa (cI (fun x I' J' => Ia = I' ∧ Ja = J' ∧ x = fW (wyF (Ia 3) (Ia 1 7) a (FU (Ia 1 5) + 1) b) 0 (FU (Ia 1 5) + 1).toNat) Ra Sa) := by
  refine ct_in pn_X1 (Nat.le_of_ble_eq_true rfl) (fun X hX hT hIn => ?_)
  have hX : aK l0 X cX1_countWays 6 RX1 (some .int) 1 0 0 := hX
  change WW X 0 [some (kR (some 1)), some (kI a), some (kI b), none, none, none] [] Ia Ja Ra Sa 0 0
  obtain ⟨hn1, hn2⟩ := hI.1
  obtain ⟨hk1, hk2⟩ := hI.2.1
  obtain ⟨hf1, hf2⟩ := hI.fu
  refine ww_iconst hX (pc := 0) (x := 0) dX1_countWays_0 rfl ?_
  refine ww_istore_n hX (pc := 1) (lv' := [some (kR (some 1)), some (kI a), some (kI b), some (kI 0), none, none]) dX1_countWays_1 (by decide) rfl rfl ?_
  refine ww_aload_n hX (pc := 2) dX1_countWays_2 rfl ?_
  refine vI0 hX (pc := 3) sX1_43 (xs_1 hL) (c_X1_full l0 hL hI) (by decide) (Nat.le_refl 0) (Nat.le_refl 0) (Nat.le_of_ble_eq_true rfl) dX1_countWays_3 (fun x_3 I_3 J_3 h_3 => ?_)
  obtain ⟨rfl, rfl, h_3⟩ := h_3
  refine ww_istore hX (pc := 6) (lv' := [some (kR (some 1)), some (kI a), some (kI b), some (kI 0), some (kI x_3), none]) dX1_countWays_6 (by decide) rfl rfl ?_
  refine ww_iload_n hX (pc := 8) dX1_countWays_8 rfl ?_
  refine ww_istore hX (pc := 9) (lv' := [some (kR (some 1)), some (kI a), some (kI b), some (kI 0), some (kI x_3), some (kI a)]) dX1_countWays_9 (by decide) rfl rfl ?_
  have hl_11 : ∀ (n_11 : Nat) (mn : Int) (to : Int), (x_3 + 1 - to).toNat = n_11 → ((0 ≤ to ∧ to < 2147483648) ∧ a.toNat &&& to.toNat = a.toNat ∧ mn = fW (wyF (Ia 3) (Ia 1 7) a (FU (Ia 1 5) + 1) b) 0 to.toNat) → WW X 11 [some (kR (some 1)), some (kI a), some (kI b), some (kI mn), some (kI x_3), some (kI to)] [] Ia Ja Ra Sa 0 0 := by
    intro n_11
    induction n_11 using Nat.strongRecOn with
    | ind n_11 ih_11 =>
      intro mn to hm_11 hv_11
      have hq_11 := Sh0_i hm_11
      clear hm_11
      obtain ⟨⟨hto0, hto1⟩, hsu, hmn⟩ := hv_11
      refine ww_iload hX (pc := 11) dX1_countWays_11 rfl ?_
      refine ww_iload hX (pc := 13) dX1_countWays_13 rfl ?_
      refine ww_icmp_gt hX (pc := 15) (tgt := 58) dX1_countWays_15 (by decide) (fun h_15 => ?_) (fun h_15 => ?_)
      · simp only [w32_mod] at h_15
        refine ww_iload_n hX (pc := 58) dX1_countWays_58 rfl ?_
        refine rI hX (pc := 59) hT (Nat.le_refl 0) (Nat.le_refl 0) dX1_countWays_59 ?_
        exact ⟨rfl, rfl, by rw [hmn]; exact fW_N (by omega) (fun v t h => wyF_N v t (by omega))⟩
      · simp only [w32_mod] at h_15
        refine ww_iload_n hX (pc := 18) dX1_countWays_18 rfl ?_
        refine ww_aload_n hX (pc := 19) dX1_countWays_19 rfl ?_
        refine ww_getR hX (pc := 20) fX1_15 (by decide) (xs_1 hL) (xr_1_1 hL) dX1_countWays_20 ?_
        refine ww_iload hX (pc := 23) dX1_countWays_23 rfl ?_
        have hcd := hI.2.2.2.2.2.2.2.2.2.1 to.toNat (by omega)
        have hnx := fW_nx (f := wyF (Ia 3) (Ia 1 7) a (FU (Ia 1 5) + 1) b) (z := 0) (to := to) (e := a) (by omega) (by omega) (by omega) (by omega) hsu wyF_n
        refine ww_iald hX (pc := 25) (xs_3 hL) (by decide) (by omega) (by omega) dX1_countWays_25 ?_
        refine ww_iload_n hX (pc := 26) dX1_countWays_26 rfl ?_
        refine ww_icmp_ne hX (pc := 27) (tgt := 44) dX1_countWays_27 (by decide) (fun h_27 => ?_) (fun h_27 => ?_)
        · simp only [w32_mod] at h_27
          have hst : wyF (Ia 3) (Ia 1 7) a (FU (Ia 1 5) + 1) b mn to.toNat = mn + 0 := by
            rw [wyF_x (by omega) (fun h9 => by have := h9.2; omega), Int.add_zero]
          refine ww_iconst hX (pc := 44) (x := 0) dX1_countWays_44 rfl ?_
          refine ww_iadd hX (pc := 45) dX1_countWays_45 ?_
          refine ww_nmI (fun v_46 hv_46 => ?_)
          refine ww_istore_n hX (pc := 46) (lv' := [some (kR (some 1)), some (kI a), some (kI b), some (kI v_46), some (kI x_3), some (kI to)]) dX1_countWays_46 (by decide) rfl rfl ?_
          refine ww_iload hX (pc := 47) dX1_countWays_47 rfl ?_
          refine ww_iconst hX (pc := 49) (x := 1) dX1_countWays_49 rfl ?_
          refine ww_iadd hX (pc := 50) dX1_countWays_50 ?_
          refine ww_iload_n hX (pc := 51) dX1_countWays_51 rfl ?_
          refine ww_ior hX (pc := 52) dX1_countWays_52 ?_
          refine ww_nmI (fun v_53 hv_53 => ?_)
          refine ww_istore hX (pc := 53) (lv' := [some (kR (some 1)), some (kI a), some (kI b), some (kI v_46), some (kI x_3), some (kI v_53)]) dX1_countWays_53 (by decide) rfl rfl ?_
          refine ww_goto hX (pc := 55) (tgt := 11) dX1_countWays_55 (by decide) ?_
          have hor := i_or_ge (a := to + 1) (b := a) (by omega) (by omega) (by omega) (by omega)
          exact ih_11 _ (by have hm9 := Sh0_e hq_11; omega) v_46 v_53 rfl ⟨⟨by omega, by omega⟩, by rw [hv_53]; exact or_nx_sub (by omega) (by omega) (by omega) (by omega), by rw [hv_53, hnx, ← hmn, hst]; omega⟩
        · simp only [w32_mod] at h_27
          refine ww_aload_n hX (pc := 30) dX1_countWays_30 rfl ?_
          refine ww_iload_n hX (pc := 31) dX1_countWays_31 rfl ?_
          refine ww_iload hX (pc := 32) dX1_countWays_32 rfl ?_
          refine vI2 hX (pc := 34) sX1_54 (xs_1 hL) (c7_X1_canLight l0 hL hI) (by decide) (Nat.le_refl 0) (Nat.le_refl 0) (Nat.le_of_ble_eq_true rfl) dX1_countWays_34 (fun x_34 I_34 J_34 h_34 => ?_)
          obtain ⟨rfl, rfl, h_34⟩ := h_34
          refine ww_if_eq hX (pc := 37) (tgt := 44) dX1_countWays_37 (by decide) (fun h_37 => ?_) (fun h_37 => ?_)
          · simp only [w32_mod] at h_37
            have hst : wyF (Ia 3) (Ia 1 7) a (FU (Ia 1 5) + 1) b mn to.toNat = mn + 0 := by
              rw [wyF_x (by omega) (fun h9 => by have := h_34.2.mpr h9.1; omega), Int.add_zero]
            refine ww_iconst hX (pc := 44) (x := 0) dX1_countWays_44 rfl ?_
            refine ww_iadd hX (pc := 45) dX1_countWays_45 ?_
            refine ww_nmI (fun v_46 hv_46 => ?_)
            refine ww_istore_n hX (pc := 46) (lv' := [some (kR (some 1)), some (kI a), some (kI b), some (kI v_46), some (kI x_3), some (kI to)]) dX1_countWays_46 (by decide) rfl rfl ?_
            refine ww_iload hX (pc := 47) dX1_countWays_47 rfl ?_
            refine ww_iconst hX (pc := 49) (x := 1) dX1_countWays_49 rfl ?_
            refine ww_iadd hX (pc := 50) dX1_countWays_50 ?_
            refine ww_iload_n hX (pc := 51) dX1_countWays_51 rfl ?_
            refine ww_ior hX (pc := 52) dX1_countWays_52 ?_
            refine ww_nmI (fun v_53 hv_53 => ?_)
            refine ww_istore hX (pc := 53) (lv' := [some (kR (some 1)), some (kI a), some (kI b), some (kI v_46), some (kI x_3), some (kI v_53)]) dX1_countWays_53 (by decide) rfl rfl ?_
            refine ww_goto hX (pc := 55) (tgt := 11) dX1_countWays_55 (by decide) ?_
            have hor := i_or_ge (a := to + 1) (b := a) (by omega) (by omega) (by omega) (by omega)
            exact ih_11 _ (by have hm9 := Sh0_e hq_11; omega) v_46 v_53 rfl ⟨⟨by omega, by omega⟩, by rw [hv_53]; exact or_nx_sub (by omega) (by omega) (by omega) (by omega), by rw [hv_53, hnx, ← hmn, hst]; omega⟩
          · simp only [w32_mod] at h_37
            have hst : wyF (Ia 3) (Ia 1 7) a (FU (Ia 1 5) + 1) b mn to.toNat = mn + 1 := wyF_y (by omega) (by omega) hsu (h_34.2.mp (by omega)) (by omega)
            refine ww_iconst hX (pc := 40) (x := 1) dX1_countWays_40 rfl ?_
            refine ww_goto hX (pc := 41) (tgt := 45) dX1_countWays_41 (by decide) ?_
            refine ww_iadd hX (pc := 45) dX1_countWays_45 ?_
            refine ww_nmI (fun v_46 hv_46 => ?_)
            refine ww_istore_n hX (pc := 46) (lv' := [some (kR (some 1)), some (kI a), some (kI b), some (kI v_46), some (kI x_3), some (kI to)]) dX1_countWays_46 (by decide) rfl rfl ?_
            refine ww_iload hX (pc := 47) dX1_countWays_47 rfl ?_
            refine ww_iconst hX (pc := 49) (x := 1) dX1_countWays_49 rfl ?_
            refine ww_iadd hX (pc := 50) dX1_countWays_50 ?_
            refine ww_iload_n hX (pc := 51) dX1_countWays_51 rfl ?_
            refine ww_ior hX (pc := 52) dX1_countWays_52 ?_
            refine ww_nmI (fun v_53 hv_53 => ?_)
            refine ww_istore hX (pc := 53) (lv' := [some (kR (some 1)), some (kI a), some (kI b), some (kI v_46), some (kI x_3), some (kI v_53)]) dX1_countWays_53 (by decide) rfl rfl ?_
            refine ww_goto hX (pc := 55) (tgt := 11) dX1_countWays_55 (by decide) ?_
            have hor := i_or_ge (a := to + 1) (b := a) (by omega) (by omega) (by omega) (by omega)
            exact ih_11 _ (by have hm9 := Sh0_e hq_11; omega) v_46 v_53 rfl ⟨⟨by omega, by omega⟩, by rw [hv_53]; exact or_nx_sub (by omega) (by omega) (by omega) (by omega), by rw [hv_53, hnx, ← hmn, hst]; omega⟩
  exact hl_11 _ 0 a rfl ⟨⟨by omega, by omega⟩, Nat.and_self _, (fW_e wyF_n).symm⟩
