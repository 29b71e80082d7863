theorem namN_r {k u : Nat} (h0 : 2 ≤ k) (h1 : k ≤ 4) (h2 : u ≤ k) : 1 ≤ namN k u ∧ namN k u ≤ 24 := by
  have h : ∀ k u : Fin 5, 2 ≤ k.val → u.val ≤ k.val → 1 ≤ namN k.val u.val ∧ namN k.val u.val ≤ 24 := by decide
  exact h ⟨k, by omega⟩ ⟨u, by omega⟩ h0 h2
theorem nam_s {a i : Int} (h0 : 0 ≤ i) (h1 : i ≤ a) : ((namN a.toNat (i + 1).toNat : Nat) : Int) = ((namN a.toNat i.toNat : Nat) : Int) * (a - i) := by
  rw [show (i + 1).toNat = i.toNat + 1 by omega]
  show ((namN a.toNat i.toNat * (a.toNat - i.toNat) : Nat) : Int) = _
  rw [Int.natCast_mul, show ((a.toNat - i.toNat : Nat) : Int) = a - i by omega]
/-- counts: c more for the first w of a pair -/
def NI (F G : aI1) (a w c : Int) : Prop := (∀ t : Nat, t < 4 → G 43 (4 * a.toNat + t) = F 43 (4 * a.toNat + t) + (if (t : Int) < w then c else 0)) ∧ ∀ j : Nat, (j < 4 * a.toNat ∨ 4 * a.toNat + 4 ≤ j) → G 43 j = F 43 j
theorem NI_0 {F : aI1} {a c : Int} : NI F F a 0 c := ⟨fun t _ => by rw [if_neg (by omega)]; omega, fun _ _ => rfl⟩
theorem NI_s {F G H : aI1} {a w c : Int} (h : NI F G a w c) (h0 : 0 ≤ w) (h1 : w < 4) (e : H 43 = up1 (G 43) (4 * a.toNat + w.toNat) (G 43 (4 * a.toNat + w.toNat) + c)) : NI F H a (w + 1) c := by
  refine ⟨fun t ht => ?_, fun j hj => ?_⟩
  · rw [e]
    by_cases e1 : (t : Int) = w
    · rw [show w.toNat = t by omega, up1_s, h.1 t ht, if_neg (by omega), if_pos (by omega)]
      omega
    · rw [up1_n _ _ (by omega), h.1 t ht]
      by_cases e2 : (t : Int) < w
      · rw [if_pos e2, if_pos (by omega)]
      · rw [if_neg e2, if_neg (by omega)]
  · rw [e, up1_n _ _ (by omega)]
    exact h.2 j hj
/-- a row turned on at q, as far as i -/
def TI (F G : aI1) (q i m : Int) : Prop := ∀ j : Nat, (j : Int) < i → (G 41 j = if (j : Int) < q then F 41 j else if (j : Int) = q then F 41 j + 1 else 0) ∧ (G 42 j = if (j : Int) < q then F 42 j else m)
theorem TI_up {F : aI1} {q m : Int} (h0 : 0 ≤ q) : TI F (up2 (up2 F 41 q.toNat (F 41 q.toNat + 1)) 42 q.toNat m) q (q + 1) m := by
  intro j hj
  rw [up2_off _ _ _ (show (41 : Nat) ≠ 42 by decide), up2_row (k := 42), up2_row (k := 41), up2_off _ _ _ (show (42 : Nat) ≠ 41 by decide)]
  by_cases e : (j : Int) = q
  · rw [show q.toNat = j by omega, up1_s, up1_s, if_neg (by omega), if_pos e, if_neg (by omega)]
    exact ⟨rfl, rfl⟩
  · rw [up1_n _ _ (by omega), up1_n _ _ (by omega), if_pos (by omega), if_pos (by omega)]
    exact ⟨rfl, rfl⟩
theorem TI_st {F G : aI1} {q i m v : Int} (h : TI F G q i m) (h0 : 0 ≤ q) (h1 : q < i) (hv : v = G 42 (i - 1).toNat) : TI F (up2 (up2 G 41 i.toNat 0) 42 i.toNat v) q (i + 1) m := by
  have hm : v = m := by
    have := (h (i - 1).toNat (by omega)).2
    rw [if_neg (by omega)] at this
    rw [hv, this]
  intro j hj
  rw [up2_off _ _ _ (show (41 : Nat) ≠ 42 by decide), up2_row (k := 42), up2_row (k := 41), up2_off _ _ _ (show (42 : Nat) ≠ 41 by decide)]
  by_cases e : (j : Int) = i
  · rw [show i.toNat = j by omega, up1_s, up1_s, if_neg (by omega), if_neg (by omega), if_neg (by omega)]
    exact ⟨rfl, hm⟩
  · rw [up1_n _ _ (by omega), up1_n _ _ (by omega)]
    exact h j (by omega)
/-- how a row goes on -/
def TO (F G : aI1) (a b x : Int) : Prop := (x = 0 ∧ ∀ j : Nat, 0 < j → (j : Int) < a → F 41 j = min (b - 1) (F 42 (j - 1) + 1)) ∨ (x = 1 ∧ ∃ q : Int, 0 < q ∧ q < a ∧ (∀ j : Nat, q < j → (j : Int) < a → F 41 j = min (b - 1) (F 42 (j - 1) + 1)) ∧ ¬ F 41 q.toNat = min (b - 1) (F 42 (q.toNat - 1) + 1) ∧ TI F G q a (max (F 42 (q - 1).toNat) (F 41 q.toNat + 1)))
/-- row and peak as lists -/
def RR (F : aI1) (N : Nat) (r p : List Nat) : Prop := r.length = N ∧ p.length = N ∧ ∀ j, j < N → F 41 j = ((gd r j : Nat) : Int) ∧ F 42 j = ((gd p j : Nat) : Int)
theorem TO_0 {F G : aI1} {N k : Nat} {r p : List Nat} {a b : Int} (hN : a = N) (hk : b = k) (hk2 : 2 ≤ k) (h : RR F N r p) (ht : TO F G a b 0) : nxA k r p (N - 1) = 0 := by
  rcases ht with ⟨-, ht⟩ | ⟨ht, -⟩
  · refine nxA_at k r p (Or.inl rfl) (N - 1) (by omega) (fun j h1 h2 => ?_)
    have h3 := ht j h1 (by omega)
    rw [(h.2.2 j (by omega)).1, (h.2.2 (j - 1) (by omega)).2] at h3
    omega
  · omega
theorem TO_1 {F G : aI1} {N k : Nat} {r p : List Nat} {a b : Int} (hN : a = N) (hk : b = k) (hk2 : 2 ≤ k) (h : RR F N r p) (ht : TO F G a b 1) : ¬ nxA k r p (N - 1) = 0 ∧ RR G N (mkL (nxR r (nxA k r p (N - 1))) N []) (mkL (nxP r p (nxA k r p (N - 1))) N []) := by
  rcases ht with ⟨ht, -⟩ | ⟨-, q, q0, q1, q2, q3, q4⟩
  · omega
  · have hq : nxA k r p (N - 1) = q.toNat := nxA_at k r p (Or.inr (fun h3 => q3 (by rw [(h.2.2 q.toNat (by omega)).1, (h.2.2 (q.toNat - 1) (by omega)).2]; omega))) (N - 1) (by omega) (fun j h1 h2 => by
      have h3 := q2 j (by omega) (by omega)
      rw [(h.2.2 j (by omega)).1, (h.2.2 (j - 1) (by omega)).2] at h3
      omega)
    rw [hq]
    refine ⟨by omega, ?_, ?_, fun j hj => ?_⟩
    · rw [(mkL_v _ N []).1]; rfl
    · rw [(mkL_v _ N []).1]; rfl
    · rw [(mkL_v _ N []).2.1 j hj, (mkL_v _ N []).2.1 j hj]
      unfold nxR nxP
      rw [blt_if, beq_if, blt_if, mxx_e]
      have h5 := q4 j (by omega)
      have h6 := h.2.2 j hj
      have h7 := h.2.2 q.toNat (by omega)
      have h8 := h.2.2 (q.toNat - 1) (by omega)
      rw [show (q - 1).toNat = q.toNat - 1 by omega] at h5
      by_cases e1 : j < q.toNat
      · rw [if_pos e1, if_pos e1]
        rw [if_pos (by omega), if_pos (by omega)] at h5
        omega
      · rw [if_neg e1, if_neg e1]
        rw [if_neg (by omega), if_neg (show ¬ (j : Int) < q by omega)] at h5
        by_cases e2 : j = q.toNat
        · rw [if_pos e2]
          rw [if_pos (by omega)] at h5
          subst e2
          refine ⟨by rw [h5.1]; omega, by rw [h5.2]; omega⟩
        · rw [if_neg e2]
          rw [if_neg (by omega)] at h5
          refine ⟨by rw [h5.1]; omega, by rw [h5.2]; omega⟩
/-- a pair's counts in one number -/
def PK (F : aI1) (q : Nat) : Int := F 43 (4 * q) + 16777216 * F 43 (4 * q + 1) + 281474976710656 * F 43 (4 * q + 2) + 4722366482869645213696 * F 43 (4 * q + 3)
theorem PK_n {F G : aI1} {a w c b : Int} (h : NI F G a w c) (hw : w = b + 1 ∨ (w = 4 ∧ 3 ≤ b)) (hb : 0 ≤ b) : PK G a.toNat = PK F a.toNat + c * ((pwC b.toNat : Nat) : Int) := by
  have h0 := h.1 0 (by decide)
  have h1 := h.1 1 (by decide)
  have h2 := h.1 2 (by decide)
  have h3 := h.1 3 (by decide)
  rw [Nat.add_zero] at h0
  unfold PK
  rw [h0, h1, h2, h3, pwC_e]
  rw [if_pos (show ((0 : Nat) : Int) < w by omega)]
  by_cases c1 : 1 ≤ b
  · rw [if_pos (show ((1 : Nat) : Int) < w by omega), if_pos (show 1 ≤ b.toNat by omega)]
    by_cases c2 : 2 ≤ b
    · rw [if_pos (show ((2 : Nat) : Int) < w by omega), if_pos (show 2 ≤ b.toNat by omega)]
      by_cases c3 : 3 ≤ b
      · rw [if_pos (show ((3 : Nat) : Int) < w by omega), if_pos (show 3 ≤ b.toNat by omega)]
        omega
      · rw [if_neg (show ¬ ((3 : Nat) : Int) < w by omega), if_neg (show ¬ 3 ≤ b.toNat by omega)]
        omega
    · rw [if_neg (show ¬ ((2 : Nat) : Int) < w by omega), if_neg (show ¬ 2 ≤ b.toNat by omega), if_neg (show ¬ ((3 : Nat) : Int) < w by omega), if_neg (show ¬ 3 ≤ b.toNat by omega)]
      omega
  · rw [if_neg (show ¬ ((1 : Nat) : Int) < w by omega), if_neg (show ¬ 1 ≤ b.toNat by omega), if_neg (show ¬ ((2 : Nat) : Int) < w by omega), if_neg (show ¬ 2 ≤ b.toNat by omega), if_neg (show ¬ ((3 : Nat) : Int) < w by omega), if_neg (show ¬ 3 ≤ b.toNat by omega)]
    omega
set_option maxHeartbeats 4000000 in
set_option maxRecDepth 20000 in
theorem c5_X2_namings (l0 : Launch) {Ia Ja : aI1} {Ra : aR1} {Sa : aS1} {a b : Int} (ha0 : 2 ≤ a) (ha1 : a ≤ 4) (hb0 : 0 ≤ b) (hb1 : b ≤ a)  : CT l0 0 0 0 mX2_namings [kI a, kI b] Ia Ja Ra Sa (cI (fun x I' J' => Ia = I' ∧ Ja = J' ∧ x = ((namN a.toNat b.toNat : Nat) : Int)) Ra Sa) := by
  refine ct_in pn_X2 (Nat.le_of_ble_eq_true rfl) (fun X hX hT hIn => ?_)
  have hX : aK l0 X cX2_namings 4 RX2 (some .int) 0 0 0 := hX
  change WW X 0 [some (kI a), some (kI b), none, none] [] Ia Ja Ra Sa 0 0
  refine ww_iconst hX (pc := 0) (x := 1) dX2_namings_0 rfl ?_
  refine ww_istore_n hX (pc := 1) (lv' := [some (kI a), some (kI b), some (kI 1), none]) dX2_namings_1 (by decide) rfl rfl ?_
  refine ww_iconst hX (pc := 2) (x := 0) dX2_namings_2 rfl ?_
  refine ww_istore_n hX (pc := 3) (lv' := [some (kI a), some (kI b), some (kI 1), some (kI 0)]) dX2_namings_3 (by decide) rfl rfl ?_
  have hl_4 : ∀ (n_4 : Nat) (mn : Int) (i : Int), (b - i).toNat = n_4 → ((0 ≤ i ∧ i ≤ b) ∧ mn = ((namN a.toNat i.toNat : Nat) : Int)) → WW X 4 [some (kI a), some (kI b), some (kI mn), some (kI i)] [] Ia Ja Ra Sa 0 0 := by
    intro n_4
    induction n_4 using Nat.strongRecOn with
    | ind n_4 ih_4 =>
      intro mn i hm_4 hv_4
      have hq_4 := Sh0_i hm_4
      clear hm_4
      obtain ⟨⟨hi0, hi1⟩, hmn⟩ := hv_4
      refine ww_iload_n hX (pc := 4) dX2_namings_4 rfl ?_
      refine ww_iload_n hX (pc := 5) dX2_namings_5 rfl ?_
      refine ww_icmp_ge hX (pc := 6) (tgt := 21) dX2_namings_6 (by decide) (fun h_6 => ?_) (fun h_6 => ?_)
      · simp only [w32_mod] at h_6
        refine ww_iload_n hX (pc := 21) dX2_namings_21 rfl ?_
        refine rI hX (pc := 22) hT (Nat.le_refl 0) (Nat.le_refl 0) dX2_namings_22 ?_
        exact ⟨rfl, rfl, by rw [hmn, show i = b by omega]⟩
      · simp only [w32_mod] at h_6
        refine ww_iload_n hX (pc := 9) dX2_namings_9 rfl ?_
        refine ww_iload_n hX (pc := 10) dX2_namings_10 rfl ?_
        refine ww_iload_n hX (pc := 11) dX2_namings_11 rfl ?_
        refine ww_isub hX (pc := 12) dX2_namings_12 ?_
        refine ww_imul hX (pc := 13) dX2_namings_13 ?_
        refine ww_nmI (fun v_14 hv_14 => ?_)
        refine ww_istore_n hX (pc := 14) (lv' := [some (kI a), some (kI b), some (kI v_14), some (kI i)]) dX2_namings_14 (by decide) rfl rfl ?_
        refine ww_iinc hX (pc := 15) (lv' := [some (kI a), some (kI b), some (kI v_14), some (kI (i + 1))]) dX2_namings_15 rfl (by decide) rfl rfl ?_
        refine ww_goto hX (pc := 18) (tgt := 4) dX2_namings_18 (by decide) ?_
        exact ih_4 _ (by have hm9 := Sh0_e hq_4; omega) v_14 (i + 1) rfl ⟨⟨by omega, by omega⟩, by rw [hv_14, hmn]; exact (nam_s (by omega) (by omega)).symm⟩
  exact hl_4 _ 1 0 rfl ⟨⟨by omega, by omega⟩, rfl⟩
set_option maxHeartbeats 4000000 in
set_option maxRecDepth 20000 in
theorem c5_X2_turnOn (l0 : Launch) {Ia Ja : aI1} {Ra : aR1} {Sa : aS1} (hL : LY Ra Sa) {a b : Int} (ha0 : 2 ≤ a) (ha1 : a ≤ 8) (hb0 : 2 ≤ b) (hb1 : b ≤ 4) (hr : RI Ia a b)  : CT l0 1 0 0 mX2_turnOn [kR (some 37), kI a, kI b] Ia Ja Ra Sa (cI (fun x I' J' => Kp 41 43 Ia I' ∧ Kp 41 43 Ja J' ∧ (x = 0 ∨ x = 1) ∧ RI I' a b ∧ TO Ia I' a b x) Ra Sa) := by
  refine ct_in pn_X2 (Nat.le_of_ble_eq_true rfl) (fun X hX hT hIn => ?_)
  have hX : aK l0 X cX2_turnOn 5 RX2 (some .boolean) 1 0 0 := hX
  change WW X 0 [some (kR (some 37)), some (kI a), some (kI b), none, none] [] Ia Ja Ra Sa 0 0
  refine ww_iload_n hX (pc := 0) dX2_turnOn_0 rfl ?_
  refine ww_iconst hX (pc := 1) (x := 1) dX2_turnOn_1 rfl ?_
  refine ww_isub hX (pc := 2) dX2_turnOn_2 ?_
  refine ww_nmI (fun v_3 hv_3 => ?_)
  refine ww_istore_n hX (pc := 3) (lv' := [some (kR (some 37)), some (kI a), some (kI b), some (kI v_3), none]) dX2_turnOn_3 (by decide) rfl rfl ?_
  have hl_4 : ∀ (n_4 : Nat) (at_ : Int), at_.toNat = n_4 → ((0 ≤ at_ ∧ at_ < a) ∧ ∀ j : Nat, at_ < j → (j : Int) < a → Ia 41 j = min (b - 1) (Ia 42 (j - 1) + 1)) → WW X 4 [some (kR (some 37)), some (kI a), some (kI b), some (kI at_), none] [] Ia Ja Ra Sa 0 0 := by
    intro n_4
    induction n_4 using Nat.strongRecOn with
    | ind n_4 ih_4 =>
      intro at_ hm_4 hv_4
      have hq_4 := Sh0_i hm_4
      clear hm_4
      obtain ⟨⟨hat0, hat1⟩, hsk⟩ := hv_4
      refine ww_iload_n hX (pc := 4) dX2_turnOn_4 rfl ?_
      refine ww_if_le hX (pc := 5) (tgt := 39) dX2_turnOn_5 (by decide) (fun h_5 => ?_) (fun h_5 => ?_)
      · simp only [w32_mod] at h_5
        refine ww_iload_n hX (pc := 39) dX2_turnOn_39 rfl ?_
        refine ww_if_ne hX (pc := 40) (tgt := 45) dX2_turnOn_40 (by decide) (fun h_40 => ?_) (fun h_40 => ?_)
        · simp only [w32_mod] at h_40
          exact absurd h_40 (by omega)
        · simp only [w32_mod] at h_40
          refine ww_iconst hX (pc := 43) (x := 0) dX2_turnOn_43 rfl ?_
          refine rZ hX (pc := 44) hT (Nat.le_refl 0) (Nat.le_refl 0) dX2_turnOn_44 (by decide) ?_
          exact ⟨(Kp_rf (a := 41) (b := 43)), (Kp_rf (a := 41) (b := 43)), by omega, hr, Or.inl ⟨rfl, fun j h1 h2 => hsk j (by omega) h2⟩⟩
      · simp only [w32_mod] at h_5
        have hp1 := hr.1 (at_ - 1).toNat (by omega)
        have hw1 := hr.1 at_.toNat (by omega)
        have hx1 := hr.2 at_.toNat (by omega) (by omega)
        rw [show at_.toNat - 1 = (at_ - 1).toNat by omega] at hx1
        refine ww_aload_n hX (pc := 8) dX2_turnOn_8 rfl ?_
        refine ww_getR hX (pc := 9) fX2_18 (by decide) (xs_37 hL) (xr_37_1 hL) dX2_turnOn_9 ?_
        refine ww_iload_n hX (pc := 12) dX2_turnOn_12 rfl ?_
        refine ww_iald hX (pc := 13) (xs_41 hL) (by decide) (by omega) (by omega) dX2_turnOn_13 ?_
        refine ww_iload_n hX (pc := 14) dX2_turnOn_14 rfl ?_
        refine ww_iconst hX (pc := 15) (x := 1) dX2_turnOn_15 rfl ?_
        refine ww_isub hX (pc := 16) dX2_turnOn_16 ?_
        refine ww_aload_n hX (pc := 17) dX2_turnOn_17 rfl ?_
        refine ww_getR hX (pc := 18) fX2_22 (by decide) (xs_37 hL) (xr_37_2 hL) dX2_turnOn_18 ?_
        refine ww_iload_n hX (pc := 21) dX2_turnOn_21 rfl ?_
        refine ww_iconst hX (pc := 22) (x := 1) dX2_turnOn_22 rfl ?_
        refine ww_isub hX (pc := 23) dX2_turnOn_23 ?_
        refine ww_iald hX (pc := 24) (xs_42 hL) (by decide) (by omega) (by omega) dX2_turnOn_24 ?_
        refine ww_iconst hX (pc := 25) (x := 1) dX2_turnOn_25 rfl ?_
        refine ww_iadd hX (pc := 26) dX2_turnOn_26 ?_
        refine ww_mmin hX (pc := 27) tb_884 tb_579 tb_13 tb_580 (by decide) (Nat.le_refl 0) (Nat.le_refl 0) (Nat.le_of_ble_eq_true rfl) dX2_turnOn_27 ?_
        refine ww_toI (b := min (b - 1) (Ia 42 (at_ - 1).toNat + 1)) (by rw [i_min_r (by omega) (by omega) (by omega) (by omega)]) ?_
        refine ww_icmp_ne hX (pc := 30) (tgt := 39) dX2_turnOn_30 (by decide) (fun h_30 => ?_) (fun h_30 => ?_)
        · simp only [w32_mod] at h_30
          refine ww_iload_n hX (pc := 39) dX2_turnOn_39 rfl ?_
          refine ww_if_ne hX (pc := 40) (tgt := 45) dX2_turnOn_40 (by decide) (fun h_40 => ?_) (fun h_40 => ?_)
          · simp only [w32_mod] at h_40
            refine ww_aload_n hX (pc := 45) dX2_turnOn_45 rfl ?_
            refine ww_getR hX (pc := 46) fX2_18 (by decide) (xs_37 hL) (xr_37_1 hL) dX2_turnOn_46 ?_
            refine ww_iload_n hX (pc := 49) dX2_turnOn_49 rfl ?_
            refine ww_dup2 hX (pc := 50) dX2_turnOn_50 ?_
            refine ww_iald hX (pc := 51) (xs_41 hL) (by decide) (by omega) (by omega) dX2_turnOn_51 ?_
            refine ww_iconst hX (pc := 52) (x := 1) dX2_turnOn_52 rfl ?_
            refine ww_iadd hX (pc := 53) dX2_turnOn_53 ?_
            refine ww_iast hX (pc := 54) (xs_41 hL) (by decide) (by omega) (by omega) dX2_turnOn_54 ?_
            refine ww_nmH (fun I_54 eI_54 => ?_)
            have kI_54 : Kp 41 43 Ia I_54 := by rw [eI_54]; exact Kp_up (Kp_rf (a := 41) (b := 43)) _ _ (by decide)
            refine ww_aload_n hX (pc := 55) dX2_turnOn_55 rfl ?_
            refine ww_getR hX (pc := 56) fX2_22 (by decide) (xs_37 hL) (xr_37_2 hL) dX2_turnOn_56 ?_
            refine ww_iload_n hX (pc := 59) dX2_turnOn_59 rfl ?_
            refine ww_aload_n hX (pc := 60) dX2_turnOn_60 rfl ?_
            refine ww_getR hX (pc := 61) fX2_22 (by decide) (xs_37 hL) (xr_37_2 hL) dX2_turnOn_61 ?_
            refine ww_iload_n hX (pc := 64) dX2_turnOn_64 rfl ?_
            refine ww_iconst hX (pc := 65) (x := 1) dX2_turnOn_65 rfl ?_
            refine ww_isub hX (pc := 66) dX2_turnOn_66 ?_
            refine ww_iald hX (pc := 67) (xs_42 hL) (by decide) (by omega) (by omega) dX2_turnOn_67 ?_
            refine ww_aload_n hX (pc := 68) dX2_turnOn_68 rfl ?_
            refine ww_getR hX (pc := 69) fX2_18 (by decide) (xs_37 hL) (xr_37_1 hL) dX2_turnOn_69 ?_
            refine ww_iload_n hX (pc := 72) dX2_turnOn_72 rfl ?_
            refine ww_iald hX (pc := 73) (xs_41 hL) (by decide) (by omega) (by omega) dX2_turnOn_73 ?_
            refine ww_mmax hX (pc := 74) tb_885 tb_460 tb_13 tb_461 (by decide) (Nat.le_refl 0) (Nat.le_refl 0) (Nat.le_of_ble_eq_true rfl) dX2_turnOn_74 ?_
            refine ww_toI (b := max (Ia 42 (at_ - 1).toNat) (Ia 41 at_.toNat + 1)) (by rw [eI_54, up2_off _ _ _ (by decide), up2_s, i_max_r (by omega) (by omega) (by omega) (by omega)]) ?_
            refine ww_iast hX (pc := 77) (xs_42 hL) (by decide) (by omega) (by omega) dX2_turnOn_77 ?_
            refine ww_nmH (fun I_77 eI_77 => ?_)
            have kI_77 : Kp 41 43 Ia I_77 := by rw [eI_77]; exact Kp_up kI_54 _ _ (by decide)
            have hr3 : RI I_77 (at_ + 1) b := by rw [eI_77, eI_54]; exact RI_up hr (by omega) (by omega) ha1 hb0 (by omega) rfl
            refine ww_iload_n hX (pc := 78) dX2_turnOn_78 rfl ?_
            refine ww_iconst hX (pc := 79) (x := 1) dX2_turnOn_79 rfl ?_
            refine ww_iadd hX (pc := 80) dX2_turnOn_80 ?_
            refine ww_nmI (fun v_81 hv_81 => ?_)
            refine ww_istore hX (pc := 81) (lv' := [some (kR (some 37)), some (kI a), some (kI b), some (kI at_), some (kI v_81)]) dX2_turnOn_81 (by decide) rfl rfl ?_
            have hl_83 : ∀ (n_83 : Nat) (i : Int) (I2 : aI1) (J2 : aI1), (a - i).toNat = n_83 → (Kp 41 43 Ia I2 ∧ Kp 41 43 Ja J2 ∧ (1 ≤ i ∧ i ≤ a ∧ at_ < i) ∧ RI I2 i b ∧ TI Ia I2 at_ i (max (Ia 42 (at_ - 1).toNat) (Ia 41 at_.toNat + 1))) → WW X 83 [some (kR (some 37)), some (kI a), some (kI b), some (kI at_), some (kI i)] [] I2 J2 Ra Sa 0 0 := by
              intro n_83
              induction n_83 using Nat.strongRecOn with
              | ind n_83 ih_83 =>
                intro i I2 J2 hm_83 hv_83
                have hq_83 := Sh0_i hm_83
                clear hm_83
                obtain ⟨kI2, kJ2, hi, hr2, hti⟩ := hv_83
                refine ww_iload hX (pc := 83) dX2_turnOn_83 rfl ?_
                refine ww_iload_n hX (pc := 85) dX2_turnOn_85 rfl ?_
                refine ww_icmp_ge hX (pc := 86) (tgt := 119) dX2_turnOn_86 (by decide) (fun h_86 => ?_) (fun h_86 => ?_)
                · simp only [w32_mod] at h_86
                  refine ww_iconst hX (pc := 119) (x := 1) dX2_turnOn_119 rfl ?_
                  refine rZ hX (pc := 120) hT (Nat.le_refl 0) (Nat.le_refl 0) dX2_turnOn_120 (by decide) ?_
                  exact ⟨kI2, kJ2, by omega, by rw [show a = i by omega]; exact hr2, Or.inr ⟨rfl, at_, by omega, by omega, hsk, by rw [show at_.toNat - 1 = (at_ - 1).toNat by omega]; omega, by rw [show a = i by omega]; exact hti⟩⟩
                · simp only [w32_mod] at h_86
                  refine ww_aload_n hX (pc := 89) dX2_turnOn_89 rfl ?_
                  refine ww_getR hX (pc := 90) fX2_18 (by decide) (xs_37 hL) (xr_37_1 hL) dX2_turnOn_90 ?_
                  refine ww_iload hX (pc := 93) dX2_turnOn_93 rfl ?_
                  refine ww_iconst hX (pc := 95) (x := 0) dX2_turnOn_95 rfl ?_
                  refine ww_iast hX (pc := 96) (xs_41 hL) (by decide) (by omega) (by omega) dX2_turnOn_96 ?_
                  refine ww_nmH (fun I_96 eI_96 => ?_)
                  have kI_96 : Kp 41 43 Ia I_96 := by rw [eI_96]; exact Kp_up kI2 _ _ (by decide)
                  refine ww_aload_n hX (pc := 97) dX2_turnOn_97 rfl ?_
                  refine ww_getR hX (pc := 98) fX2_22 (by decide) (xs_37 hL) (xr_37_2 hL) dX2_turnOn_98 ?_
                  refine ww_iload hX (pc := 101) dX2_turnOn_101 rfl ?_
                  refine ww_aload_n hX (pc := 103) dX2_turnOn_103 rfl ?_
                  refine ww_getR hX (pc := 104) fX2_22 (by decide) (xs_37 hL) (xr_37_2 hL) dX2_turnOn_104 ?_
                  refine ww_iload hX (pc := 107) dX2_turnOn_107 rfl ?_
                  refine ww_iconst hX (pc := 109) (x := 1) dX2_turnOn_109 rfl ?_
                  refine ww_isub hX (pc := 110) dX2_turnOn_110 ?_
                  refine ww_iald hX (pc := 111) (xs_42 hL) (by decide) (by omega) (by omega) dX2_turnOn_111 ?_
                  refine ww_iast hX (pc := 112) (xs_42 hL) (by decide) (by omega) (by omega) dX2_turnOn_112 ?_
                  refine ww_nmH (fun I_112 eI_112 => ?_)
                  have kI_112 : Kp 41 43 Ia I_112 := by rw [eI_112]; exact Kp_up kI_96 _ _ (by decide)
                  refine ww_iinc hX (pc := 113) (lv' := [some (kR (some 37)), some (kI a), some (kI b), some (kI at_), some (kI (i + 1))]) dX2_turnOn_113 rfl (by decide) rfl rfl ?_
                  refine ww_goto hX (pc := 116) (tgt := 83) dX2_turnOn_116 (by decide) ?_
                  exact ih_83 _ (by have hm9 := Sh0_e hq_83; omega) (i + 1) I_112 J2 rfl ⟨kI_112, kJ2, ⟨by omega, by omega, by omega⟩, by rw [eI_112, eI_96]; exact RI_st hr2 (by omega) (by omega) hb0 (by rw [up2_off _ _ _ (by decide)]), by rw [eI_112, eI_96]; exact TI_st hti (by omega) (by omega) (by rw [up2_off _ _ _ (by decide)])⟩
            exact hl_83 _ v_81 I_77 Ja rfl ⟨kI_77, (Kp_rf (a := 41) (b := 43)), ⟨by omega, by omega, by omega⟩, by rw [hv_81]; exact hr3, by rw [hv_81, eI_77, eI_54]; exact TI_up (by omega)⟩
          · simp only [w32_mod] at h_40
            refine ww_iconst hX (pc := 43) (x := 0) dX2_turnOn_43 rfl ?_
            refine rZ hX (pc := 44) hT (Nat.le_refl 0) (Nat.le_refl 0) dX2_turnOn_44 (by decide) ?_
            exact ⟨(Kp_rf (a := 41) (b := 43)), (Kp_rf (a := 41) (b := 43)), by omega, hr, Or.inl ⟨rfl, fun j h1 h2 => hsk j (by omega) h2⟩⟩
        · simp only [w32_mod] at h_30
          refine ww_iinc hX (pc := 33) (lv' := [some (kR (some 37)), some (kI a), some (kI b), some (kI (at_ + (-1))), none]) dX2_turnOn_33 rfl (by decide) rfl rfl ?_
          refine ww_goto hX (pc := 36) (tgt := 4) dX2_turnOn_36 (by decide) ?_
          exact ih_4 _ (by have hm9 := Sh0_e hq_4; omega) (at_ + (-1)) rfl ⟨⟨by omega, by omega⟩, fun j h1 h2 => by
            by_cases e9 : (j : Int) = at_
            · rw [show j - 1 = (at_ - 1).toNat by omega, show j = at_.toNat by omega]; omega
            · exact hsk j (by omega) h2⟩
  exact hl_4 _ v_3 rfl ⟨⟨by omega, by omega⟩, fun j h1 h2 => absurd h2 (by omega)⟩
/-- a pair's count for t -/
noncomputable def TBt (k N t : Nat) : Int := ((TOTc k N / 16777216 ^ t % 16777216 : Nat) : Int)
/-- what was searched is as it should be -/
def SR (F : aI1) : Prop := ∀ n k : Int, 1 ≤ n → n ≤ 3 → 2 ≤ k → k ≤ 4 → (F 45 ((n - 1) * 3 + k - 2).toNat = 0 ∧ ∀ t : Nat, t < 4 → F 43 (4 * ((n - 1) * 3 + k - 2).toNat + t) = 0) ∨ (F 45 ((n - 1) * 3 + k - 2).toNat = 1 ∧ ∀ t : Nat, t < 4 → F 43 (4 * ((n - 1) * 3 + k - 2).toNat + t) = TBt k.toNat (2 ^ n.toNat) t)
theorem SR_of {F G : aI1} (h : SR F) (h1 : G 43 = F 43) (h2 : G 45 = F 45) : SR G := by unfold SR; rw [h1, h2]; exact h
theorem PK_t {F : aI1} {q T : Nat} (h : PK F q = ((T : Nat) : Int)) (hr : ∀ t : Nat, t < 4 → 0 ≤ F 43 (4 * q + t) ∧ F 43 (4 * q + t) < 16777216) : ∀ t : Nat, t < 4 → F 43 (4 * q + t) = ((T / 16777216 ^ t % 16777216 : Nat) : Int) := by
  have h0 := hr 0 (by decide)
  have h1 := hr 1 (by decide)
  have h2 := hr 2 (by decide)
  have h3 := hr 3 (by decide)
  unfold PK at h
  rw [Nat.add_zero] at h0
  intro t ht
  rcases (show t = 0 ∨ t = 1 ∨ t = 2 ∨ t = 3 by omega) with rfl | rfl | rfl | rfl
  · rw [Nat.add_zero, Nat.pow_zero, Nat.div_one]; omega
  · rw [show 16777216 ^ 1 = 16777216 from rfl]; omega
  · rw [show 16777216 ^ 2 = 281474976710656 from rfl]; omega
  · rw [show 16777216 ^ 3 = 4722366482869645213696 from rfl]; omega
theorem SR_s {F G : aI1} {n k : Int} (h : SR F) (n0 : 1 ≤ n) (n1 : n ≤ 3) (k0 : 2 ≤ k) (k1 : k ≤ 4) (hp : PK G ((n - 1) * 3 + k - 2).toNat = ((TOTc k.toNat (2 ^ n.toNat) : Nat) : Int)) (hr : ∀ t : Nat, t < 4 → 0 ≤ G 43 (4 * ((n - 1) * 3 + k - 2).toNat + t) ∧ G 43 (4 * ((n - 1) * 3 + k - 2).toNat + t) < 16777216) (ho : ∀ j : Nat, (j < 4 * ((n - 1) * 3 + k - 2).toNat ∨ 4 * ((n - 1) * 3 + k - 2).toNat + 4 ≤ j) → G 43 j = F 43 j) (h45 : G 45 = up1 (F 45) ((n - 1) * 3 + k - 2).toNat 1) : SR G := by
  intro n' k' a0 a1 b0 b1
  by_cases e : (n' - 1) * 3 + k' - 2 = (n - 1) * 3 + k - 2
  · have en : n' = n := by omega
    have ek : k' = k := by omega
    subst en ek
    right
    rw [h45, up1_s]
    exact ⟨rfl, PK_t hp hr⟩
  · rw [h45, up1_n _ _ (by omega)]
    rcases h n' k' a0 a1 b0 b1 with ⟨h1, h2⟩ | ⟨h1, h2⟩
    · exact Or.inl ⟨h1, fun t ht => by rw [ho _ (by omega)]; exact h2 t ht⟩
    · exact Or.inr ⟨h1, fun t ht => by rw [ho _ (by omega)]; exact h2 t ht⟩
/-- a pair's count for any t -/
noncomputable def TBX (n k t : Int) : Int := if t ≤ 3 then TBt k.toNat (2 ^ n.toNat) t.toNat else 0
