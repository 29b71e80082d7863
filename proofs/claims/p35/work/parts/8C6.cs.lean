section
theorem namN_r {k u : Nat} (h0 : 2 ≤ k) (h1 : k ≤ 4) (h2 : u ≤ k) : 1 ≤ namN k u ∧ namN k u ≤ 24 := by
  have h : ∀ k u : Fin 5, 2 ≤ k.val → u.val ≤ k.val → 1 ≤ namN k.val u.val ∧ namN k.val u.val ≤ 24 := by decide
  exact h ⟨k, by omega⟩ ⟨u, by omega⟩ h0 h2
theorem nam_s {a i : Int} (h0 : 0 ≤ i) (h1 : i ≤ a) : ((namN a.toNat (i + 1).toNat : Nat) : Int) = ((namN a.toNat i.toNat : Nat) : Int) * (a - i) := by
  rw [show (i + 1).toNat = i.toNat + 1 by omega]
  show ((namN a.toNat i.toNat * (a.toNat - i.toNat) : Nat) : Int) = _
  rw [Int.natCast_mul, show ((a.toNat - i.toNat : Nat) : Int) = a - i by omega]
/-- counts: c more for the first w of a pair -/
def NI (F G : aI1) (a w c : Int) : Prop := (∀ t : Nat, t < 4 → G 43 (4 * a.toNat + t) = F 43 (4 * a.toNat + t) + (if (t : Int) < w then c else 0)) ∧ ∀ j : Nat, (j < 4 * a.toNat ∨ 4 * a.toNat + 4 ≤ j) → G 43 j = F 43 j
def NTx (F G : aI1) (a b c : Int) : Prop := ∃ w : Int, (w = b + 1 ∨ (w = 4 ∧ 3 ≤ b)) ∧ NI F G a w c
theorem NI_0 {F : aI1} {a c : Int} : NI F F a 0 c := ⟨fun t _ => by rw [if_neg (by omega)]; omega, fun _ _ => rfl⟩
theorem NI_s {F G H : aI1} {a w c : Int} (h : NI F G a w c) (h0 : 0 ≤ w) (h1 : w < 4) (e : H 43 = up1 (G 43) (4 * a.toNat + w.toNat) (G 43 (4 * a.toNat + w.toNat) + c)) : NI F H a (w + 1) c := by
  refine ⟨fun t ht => ?_, fun j hj => ?_⟩
  · rw [e]
    by_cases e1 : (t : Int) = w
    · rw [show w.toNat = t by omega, up1_s, h.1 t ht, if_neg (by omega), if_pos (by omega)]
      omega
    · rw [up1_n _ _ (by omega), h.1 t ht]
      by_cases e2 : (t : Int) < w
      · rw [if_pos e2, if_pos (by omega)]
      · rw [if_neg e2, if_neg (by omega)]
  · rw [e, up1_n _ _ (by omega)]
    exact h.2 j hj
/-- a row turned on at q, as far as i -/
def TI (F G : aI1) (q i m : Int) : Prop := ∀ j : Nat, (j : Int) < i → (G 41 j = if (j : Int) < q then F 41 j else if (j : Int) = q then F 41 j + 1 else 0) ∧ (G 42 j = if (j : Int) < q then F 42 j else m)
theorem TI_up {F : aI1} {q m : Int} (h0 : 0 ≤ q) : TI F (up2 (up2 F 41 q.toNat (F 41 q.toNat + 1)) 42 q.toNat m) q (q + 1) m := by
  intro j hj
  rw [up2_off _ _ _ (show (41 : Nat) ≠ 42 by decide), up2_row (k := 42), up2_row (k := 41), up2_off _ _ _ (show (42 : Nat) ≠ 41 by decide)]
  by_cases e : (j : Int) = q
  · rw [show q.toNat = j by omega, up1_s, up1_s, if_neg (by omega), if_pos e, if_neg (by omega)]
    exact ⟨rfl, rfl⟩
  · rw [up1_n _ _ (by omega), up1_n _ _ (by omega), if_pos (by omega), if_pos (by omega)]
    exact ⟨rfl, rfl⟩
theorem TI_st {F G : aI1} {q i m v : Int} (h : TI F G q i m) (h0 : 0 ≤ q) (h1 : q < i) (hv : v = G 42 (i - 1).toNat) : TI F (up2 (up2 G 41 i.toNat 0) 42 i.toNat v) q (i + 1) m := by
  have hm : v = m := by
    have := (h (i - 1).toNat (by omega)).2
    rw [if_neg (by omega)] at this
    rw [hv, this]
  intro j hj
  rw [up2_off _ _ _ (show (41 : Nat) ≠ 42 by decide), up2_row (k := 42), up2_row (k := 41), up2_off _ _ _ (show (42 : Nat) ≠ 41 by decide)]
  by_cases e : (j : Int) = i
  · rw [show i.toNat = j by omega, up1_s, up1_s, if_neg (by omega), if_neg (by omega), if_neg (by omega)]
    exact ⟨rfl, hm⟩
  · rw [up1_n _ _ (by omega), up1_n _ _ (by omega)]
    exact h j (by omega)
/-- how a row goes on -/
def TO (F G : aI1) (a b x : Int) : Prop := (x = 0 ∧ ∀ j : Nat, 0 < j → (j : Int) < a → F 41 j = min (b - 1) (F 42 (j - 1) + 1)) ∨ (x = 1 ∧ ∃ q : Int, 0 < q ∧ q < a ∧ (∀ j : Nat, q < j → (j : Int) < a → F 41 j = min (b - 1) (F 42 (j - 1) + 1)) ∧ ¬ F 41 q.toNat = min (b - 1) (F 42 (q.toNat - 1) + 1) ∧ TI F G q a (max (F 42 (q - 1).toNat) (F 41 q.toNat + 1)))
/-- row and peak as lists -/
def RR (F : aI1) (N : Nat) (r p : List Nat) : Prop := r.length = N ∧ p.length = N ∧ ∀ j, j < N → F 41 j = ((gd r j : Nat) : Int) ∧ F 42 j = ((gd p j : Nat) : Int)
theorem TO_0 {F G : aI1} {N k : Nat} {r p : List Nat} {a b : Int} (hN : a = N) (hk : b = k) (hk2 : 2 ≤ k) (h : RR F N r p) (ht : TO F G a b 0) : nxA k r p (N - 1) = 0 := by
  rcases ht with ⟨-, ht⟩ | ⟨ht, -⟩
  · refine nxA_at k r p (Or.inl rfl) (N - 1) (by omega) (fun j h1 h2 => ?_)
    have h3 := ht j h1 (by omega)
    rw [(h.2.2 j (by omega)).1, (h.2.2 (j - 1) (by omega)).2] at h3
    omega
  · omega
theorem TO_1 {F G : aI1} {N k : Nat} {r p : List Nat} {a b : Int} (hN : a = N) (hk : b = k) (hk2 : 2 ≤ k) (h : RR F N r p) (ht : TO F G a b 1) : ¬ nxA k r p (N - 1) = 0 ∧ RR G N (mkL (nxR r (nxA k r p (N - 1))) N []) (mkL (nxP r p (nxA k r p (N - 1))) N []) := by
  rcases ht with ⟨ht, -⟩ | ⟨-, q, q0, q1, q2, q3, q4⟩
  · omega
  · have hq : nxA k r p (N - 1) = q.toNat := nxA_at k r p (Or.inr (fun h3 => q3 (by rw [(h.2.2 q.toNat (by omega)).1, (h.2.2 (q.toNat - 1) (by omega)).2]; omega))) (N - 1) (by omega) (fun j h1 h2 => by
      have h3 := q2 j (by omega) (by omega)
      rw [(h.2.2 j (by omega)).1, (h.2.2 (j - 1) (by omega)).2] at h3
      omega)
    rw [hq]
    refine ⟨by omega, ?_, ?_, fun j hj => ?_⟩
    · rw [(mkL_v _ N []).1]; rfl
    · rw [(mkL_v _ N []).1]; rfl
    · rw [(mkL_v _ N []).2.1 j hj, (mkL_v _ N []).2.1 j hj]
      unfold nxR nxP
      rw [blt_if, beq_if, blt_if, mxx_e]
      have h5 := q4 j (by omega)
      have h6 := h.2.2 j hj
      have h7 := h.2.2 q.toNat (by omega)
      have h8 := h.2.2 (q.toNat - 1) (by omega)
      rw [show (q - 1).toNat = q.toNat - 1 by omega] at h5
      by_cases e1 : j < q.toNat
      · rw [if_pos e1, if_pos e1]
        rw [if_pos (by omega), if_pos (by omega)] at h5
        omega
      · rw [if_neg e1, if_neg e1]
        rw [if_neg (by omega), if_neg (show ¬ (j : Int) < q by omega)] at h5
        by_cases e2 : j = q.toNat
        · rw [if_pos e2]
          rw [if_pos (by omega)] at h5
          subst e2
          refine ⟨by rw [h5.1]; omega, by rw [h5.2]; omega⟩
        · rw [if_neg e2]
          rw [if_neg (by omega)] at h5
          refine ⟨by rw [h5.1]; omega, by rw [h5.2]; omega⟩
/-- a pair's counts in one number -/
def PK (F : aI1) (q : Nat) : Int := F 43 (4 * q) + 16777216 * F 43 (4 * q + 1) + 281474976710656 * F 43 (4 * q + 2) + 4722366482869645213696 * F 43 (4 * q + 3)
/-- what is still to be found -/
def SWx (F : aI1) (N k p : Nat) (q : Int) : Prop := ∃ (r pp : List Nat) (acc : Nat), RR F N r pp ∧ PK F p = (acc : Int) ∧ srch k N (65536 - q).toNat r pp acc = TOTc k N
def SWi (mo : Int) (F : aI1) (N k p : Nat) (q : Int) : Prop := (mo = 1 → SWx F N k p q) ∧ (mo = 0 → PK F p = ((TOTc k N : Nat) : Int))
theorem PK_n {F G : aI1} {a w c b : Int} (h : NI F G a w c) (hw : w = b + 1 ∨ (w = 4 ∧ 3 ≤ b)) (hb : 0 ≤ b) : PK G a.toNat = PK F a.toNat + c * ((pwC b.toNat : Nat) : Int) := by
  have h0 := h.1 0 (by decide)
  have h1 := h.1 1 (by decide)
  have h2 := h.1 2 (by decide)
  have h3 := h.1 3 (by decide)
  rw [Nat.add_zero] at h0
  unfold PK
  rw [h0, h1, h2, h3, pwC_e]
  rw [if_pos (show ((0 : Nat) : Int) < w by omega)]
  by_cases c1 : 1 ≤ b
  · rw [if_pos (show ((1 : Nat) : Int) < w by omega), if_pos (show 1 ≤ b.toNat by omega)]
    by_cases c2 : 2 ≤ b
    · rw [if_pos (show ((2 : Nat) : Int) < w by omega), if_pos (show 2 ≤ b.toNat by omega)]
      by_cases c3 : 3 ≤ b
      · rw [if_pos (show ((3 : Nat) : Int) < w by omega), if_pos (show 3 ≤ b.toNat by omega)]
        omega
      · rw [if_neg (show ¬ ((3 : Nat) : Int) < w by omega), if_neg (show ¬ 3 ≤ b.toNat by omega)]
        omega
    · rw [if_neg (show ¬ ((2 : Nat) : Int) < w by omega), if_neg (show ¬ 2 ≤ b.toNat by omega), if_neg (show ¬ ((3 : Nat) : Int) < w by omega), if_neg (show ¬ 3 ≤ b.toNat by omega)]
      omega
  · rw [if_neg (show ¬ ((1 : Nat) : Int) < w by omega), if_neg (show ¬ 1 ≤ b.toNat by omega), if_neg (show ¬ ((2 : Nat) : Int) < w by omega), if_neg (show ¬ 2 ≤ b.toNat by omega), if_neg (show ¬ ((3 : Nat) : Int) < w by omega), if_neg (show ¬ 3 ≤ b.toNat by omega)]
    omega
set_option maxHeartbeats 4000000 in
set_option maxRecDepth 20000 in
theorem c5_X2_namings (l0 : Launch) {Ia Ja : aI1} {Ra : aR1} {Sa : aS1} {a b : Int} (ha0 : 2 ≤ a) (ha1 : a ≤ 4) (hb0 : 0 ≤ b) (hb1 : b ≤ a)  : CT l0 0 0 0 mX2_namings [kI a, kI b] Ia Ja Ra Sa (cI (fun x I' J' => Ia = I' ∧ Ja = J' ∧ x = ((namN a.toNat b.toNat : Nat) : Int)) Ra Sa) := by
  refine ct_in pn_X2 (Nat.le_of_ble_eq_true rfl) (fun X hX hT hIn => ?_)
  have hX : aK l0 X cX2_namings 4 RX2 (some .int) 0 0 0 := hX
  change WW X 0 [some (kI a), some (kI b), none, none] [] Ia Ja Ra Sa 0 0
  refine ww_iconst hX (pc := 0) (x := 1) dX2_namings_0 rfl ?_
  refine ww_istore_n hX (pc := 1) (lv' := [some (kI a), some (kI b), some (kI 1), none]) dX2_namings_1 (by decide) rfl rfl ?_
  refine ww_iconst hX (pc := 2) (x := 0) dX2_namings_2 rfl ?_
  refine ww_istore_n hX (pc := 3) (lv' := [some (kI a), some (kI b), some (kI 1), some (kI 0)]) dX2_namings_3 (by decide) rfl rfl ?_
  have hl_4 : ∀ (n_4 : Nat) (mn : Int) (i : Int), (b - i).toNat = n_4 → ((0 ≤ i ∧ i ≤ b) ∧ mn = ((namN a.toNat i.toNat : Nat) : Int)) → WW X 4 [some (kI a), some (kI b), some (kI mn), some (kI i)] [] Ia Ja Ra Sa 0 0 := by
    intro n_4
    induction n_4 using Nat.strongRecOn with
    | ind n_4 ih_4 =>
      intro mn i hm_4 hv_4
      have hq_4 := Sh0_i hm_4
      clear hm_4
      obtain ⟨⟨hi0, hi1⟩, hmn⟩ := hv_4
      refine ww_iload_n hX (pc := 4) dX2_namings_4 rfl ?_
      refine ww_iload_n hX (pc := 5) dX2_namings_5 rfl ?_
      refine ww_icmp_ge hX (pc := 6) (tgt := 21) dX2_namings_6 (by decide) (fun h_6 => ?_) (fun h_6 => ?_)
      · simp only [w32_mod] at h_6
        refine ww_iload_n hX (pc := 21) dX2_namings_21 rfl ?_
        refine rI hX (pc := 22) hT (Nat.le_refl 0) (Nat.le_refl 0) dX2_namings_22 ?_
        exact ⟨rfl, rfl, by rw [hmn, show i = b by omega]⟩
      · simp only [w32_mod] at h_6
        refine ww_iload_n hX (pc := 9) dX2_namings_9 rfl ?_
        refine ww_iload_n hX (pc := 10) dX2_namings_10 rfl ?_
        refine ww_iload_n hX (pc := 11) dX2_namings_11 rfl ?_
        refine ww_isub hX (pc := 12) dX2_namings_12 ?_
        refine ww_imul hX (pc := 13) dX2_namings_13 ?_
        refine ww_nmI (fun v_14 hv_14 => ?_)
        refine ww_istore_n hX (pc := 14) (lv' := [some (kI a), some (kI b), some (kI v_14), some (kI i)]) dX2_namings_14 (by decide) rfl rfl ?_
        refine ww_iinc hX (pc := 15) (lv' := [some (kI a), some (kI b), some (kI v_14), some (kI (i + 1))]) dX2_namings_15 rfl (by decide) rfl rfl ?_
        refine ww_goto hX (pc := 18) (tgt := 4) dX2_namings_18 (by decide) ?_
        exact ih_4 _ (by have hm9 := Sh0_e hq_4; omega) v_14 (i + 1) rfl ⟨⟨by omega, by omega⟩, by rw [hv_14, hmn]; exact (nam_s (by omega) (by omega)).symm⟩
  exact hl_4 _ 1 0 rfl ⟨⟨by omega, by omega⟩, rfl⟩
set_option maxHeartbeats 4000000 in
set_option maxRecDepth 20000 in
theorem c5_X2_note (l0 : Launch) {Ia Ja : aI1} {Ra : aR1} {Sa : aS1} (hL : LY Ra Sa) {a b c : Int} (ha0 : 0 ≤ a) (ha1 : a ≤ 8) (hb0 : 0 ≤ b) (hb1 : b ≤ 100) (hr : ∀ j, j < 8 → 0 ≤ Ia 41 j ∧ Ia 41 j ≤ 7) (hF : FI Ia)  : CT l0 1 0 0 mX2_note [kR (some 37), kI a, kI b, kI c] Ia Ja Ra Sa (cV (fun I' J' => Kp 43 45 Ia I' ∧ Kp 43 45 Ja J' ∧ FI I' ∧ NTx Ia I' a b c) Ra Sa) := by
  refine ct_in pn_X2 (Nat.le_of_ble_eq_true rfl) (fun X hX hT hIn => ?_)
  have hX : aK l0 X cX2_note 6 RX2 none 1 0 0 := hX
  change WW X 0 [some (kR (some 37)), some (kI a), some (kI b), some (kI c), none, none] [] Ia Ja Ra Sa 0 0
  refine ww_iconst hX (pc := 0) (x := 0) dX2_note_0 rfl ?_
  refine ww_istore hX (pc := 1) (lv' := [some (kR (some 37)), some (kI a), some (kI b), some (kI c), some (kI 0), none]) dX2_note_1 (by decide) rfl rfl ?_
  have hl_3 : ∀ (n_3 : Nat) (w : Int) (I2 : aI1) (J2 : aI1), (4 - w).toNat = n_3 → (Kp 43 45 Ia I2 ∧ Kp 43 45 Ja J2 ∧ (0 ≤ w ∧ w ≤ 4 ∧ w ≤ b + 1) ∧ FI I2 ∧ NI Ia I2 a w c) → WW X 3 [some (kR (some 37)), some (kI a), some (kI b), some (kI c), some (kI w), none] [] I2 J2 Ra Sa 0 0 := by
    intro n_3
    induction n_3 using Nat.strongRecOn with
    | ind n_3 ih_3 =>
      intro w I2 J2 hm_3 hv_3
      have hq_3 := Sh0_i hm_3
      clear hm_3
      obtain ⟨kI2, kJ2, hw, fI2, hni⟩ := hv_3
      refine ww_iload hX (pc := 3) dX2_note_3 rfl ?_
      refine ww_iload_n hX (pc := 5) dX2_note_5 rfl ?_
      refine ww_icmp_gt hX (pc := 6) (tgt := 69) dX2_note_6 (by decide) (fun h_6 => ?_) (fun h_6 => ?_)
      · simp only [w32_mod] at h_6
        refine rV hX (pc := 69) hT (Nat.le_refl 0) (Nat.le_refl 0) dX2_note_69 ?_
        exact ⟨kI2, kJ2, fI2, w, by omega, hni⟩
      · simp only [w32_mod] at h_6
        refine ww_iload hX (pc := 9) dX2_note_9 rfl ?_
        refine ww_iconst hX (pc := 11) (x := 4) dX2_note_11 rfl ?_
        refine ww_icmp_ge hX (pc := 12) (tgt := 69) dX2_note_12 (by decide) (fun h_12 => ?_) (fun h_12 => ?_)
        · simp only [w32_mod] at h_12
          refine rV hX (pc := 69) hT (Nat.le_refl 0) (Nat.le_refl 0) dX2_note_69 ?_
          exact ⟨kI2, kJ2, fI2, w, by omega, hni⟩
        · simp only [w32_mod] at h_12
          refine ww_iload_n hX (pc := 15) dX2_note_15 rfl ?_
          refine ww_iconst hX (pc := 16) (x := 4) dX2_note_16 rfl ?_
          refine ww_imul hX (pc := 17) dX2_note_17 ?_
          refine ww_iload hX (pc := 18) dX2_note_18 rfl ?_
          refine ww_iadd hX (pc := 20) dX2_note_20 ?_
          refine ww_nmI (fun v_21 hv_21 => ?_)
          refine ww_istore hX (pc := 21) (lv' := [some (kR (some 37)), some (kI a), some (kI b), some (kI c), some (kI w), some (kI v_21)]) dX2_note_21 (by decide) rfl rfl ?_
          refine ww_aload_n hX (pc := 23) dX2_note_23 rfl ?_
          refine ww_getR hX (pc := 24) fX2_25 (by decide) (xs_37 hL) (xr_37_3 hL) dX2_note_24 ?_
          refine ww_iload hX (pc := 27) dX2_note_27 rfl ?_
          refine ww_iald hX (pc := 29) (xs_43 hL) (by decide) (by omega) (by omega) dX2_note_29 ?_
          refine ww_if_ne hX (pc := 30) (tgt := 52) dX2_note_30 (by decide) (fun h_30 => ?_) (fun h_30 => ?_)
          · simp only [w32_mod] at h_30
            refine ww_aload_n hX (pc := 52) dX2_note_52 rfl ?_
            refine ww_getR hX (pc := 53) fX2_25 (by decide) (xs_37 hL) (xr_37_3 hL) dX2_note_53 ?_
            refine ww_iload hX (pc := 56) dX2_note_56 rfl ?_
            refine ww_dup2 hX (pc := 58) dX2_note_58 ?_
            refine ww_iald hX (pc := 59) (xs_43 hL) (by decide) (by omega) (by omega) dX2_note_59 ?_
            refine ww_iload_n hX (pc := 60) dX2_note_60 rfl ?_
            refine ww_iadd hX (pc := 61) dX2_note_61 ?_
            refine ww_iast hX (pc := 62) (xs_43 hL) (by decide) (by omega) (by omega) dX2_note_62 ?_
            refine ww_nmH (fun I_62 eI_62 => ?_)
            have kI_62 : Kp 43 45 Ia I_62 := by rw [eI_62]; exact Kp_up kI2 _ _ (by decide)
            have fI_62 : FI I_62 := FI_of fI2 (by rw [eI_62, up2_off _ _ _ (by decide)])
            have n62 : NI Ia I_62 a (w + 1) c := NI_s hni (by omega) (by omega) (by rw [eI_62, up2_row, show v_21.toNat = 4 * a.toNat + w.toNat by omega])
            refine ww_iinc hX (pc := 63) (lv' := [some (kR (some 37)), some (kI a), some (kI b), some (kI c), some (kI (w + 1)), some (kI v_21)]) dX2_note_63 rfl (by decide) rfl rfl ?_
            refine ww_goto hX (pc := 66) (tgt := 3) dX2_note_66 (by decide) ?_
            refine ww_sub [some (kR (some 37)), some (kI a), some (kI b), some (kI c), some (kI (w + 1)), none] (aLe_s (aLe_s (aLe_s (aLe_s (aLe_s (aLe_n aLe_0)))))) ?_
            exact ih_3 _ (by have hm9 := Sh0_e hq_3; omega) (w + 1) I_62 J2 rfl ⟨kI_62, kJ2, ⟨by omega, by omega, by omega⟩, fI_62, n62⟩
          · simp only [w32_mod] at h_30
            refine ww_aload_n hX (pc := 33) dX2_note_33 rfl ?_
            refine ww_getR hX (pc := 34) fX2_18 (by decide) (xs_37 hL) (xr_37_1 hL) dX2_note_34 ?_
            refine ww_iconst hX (pc := 37) (x := 0) dX2_note_37 rfl ?_
            refine ww_aload_n hX (pc := 38) dX2_note_38 rfl ?_
            refine ww_getR hX (pc := 39) fX2_28 (by decide) (xs_37 hL) (xr_37_4 hL) dX2_note_39 ?_
            refine ww_iload hX (pc := 42) dX2_note_42 rfl ?_
            refine ww_bipush hX (pc := 44) (x := 8) dX2_note_44 (by decide) ?_
            refine ww_imul hX (pc := 46) dX2_note_46 ?_
            refine ww_bipush hX (pc := 47) (x := 8) dX2_note_47 (by decide) ?_
            refine ww_copy hX (pc := 49) tb_879 tb_663 tb_662 tb_19 (xs_41 hL) (xs_44 hL) (by decide) (by decide) (by omega) (by omega) (by omega) (by omega) (by omega) (by decide) (Nat.le_of_ble_eq_true rfl) dX2_note_49 ?_
            refine ww_nmH (fun I_49 eI_49 => ?_)
            have kI_49 : Kp 43 45 Ia I_49 := by rw [eI_49]; exact Kp_upR kI2 _ (by decide)
            have fI_49 : FI I_49 := by rw [eI_49]; exact FI_cpy fI2 (by rw [show I2 41 = Ia 41 from kI2 41 (by decide)]; exact hr)
            have x43 : I_49 43 = I2 43 := by rw [eI_49, upR_n _ _ (by decide)]
            refine ww_aload_n hX (pc := 52) dX2_note_52 rfl ?_
            refine ww_getR hX (pc := 53) fX2_25 (by decide) (xs_37 hL) (xr_37_3 hL) dX2_note_53 ?_
            refine ww_iload hX (pc := 56) dX2_note_56 rfl ?_
            refine ww_dup2 hX (pc := 58) dX2_note_58 ?_
            refine ww_iald hX (pc := 59) (xs_43 hL) (by decide) (by omega) (by omega) dX2_note_59 ?_
            refine ww_iload_n hX (pc := 60) dX2_note_60 rfl ?_
            refine ww_iadd hX (pc := 61) dX2_note_61 ?_
            refine ww_iast hX (pc := 62) (xs_43 hL) (by decide) (by omega) (by omega) dX2_note_62 ?_
            refine ww_nmH (fun I_62 eI_62 => ?_)
            have kI_62 : Kp 43 45 Ia I_62 := by rw [eI_62]; exact Kp_up kI_49 _ _ (by decide)
            have fI_62 : FI I_62 := FI_of fI_49 (by rw [eI_62, up2_off _ _ _ (by decide)])
            have n62 : NI Ia I_62 a (w + 1) c := NI_s hni (by omega) (by omega) (by rw [eI_62, up2_row, show v_21.toNat = 4 * a.toNat + w.toNat by omega, x43])
            refine ww_iinc hX (pc := 63) (lv' := [some (kR (some 37)), some (kI a), some (kI b), some (kI c), some (kI (w + 1)), some (kI v_21)]) dX2_note_63 rfl (by decide) rfl rfl ?_
            refine ww_goto hX (pc := 66) (tgt := 3) dX2_note_66 (by decide) ?_
            refine ww_sub [some (kR (some 37)), some (kI a), some (kI b), some (kI c), some (kI (w + 1)), none] (aLe_s (aLe_s (aLe_s (aLe_s (aLe_s (aLe_n aLe_0)))))) ?_
            exact ih_3 _ (by have hm9 := Sh0_e hq_3; omega) (w + 1) I_62 J2 rfl ⟨kI_62, kJ2, ⟨by omega, by omega, by omega⟩, fI_62, n62⟩
  exact hl_3 _ 0 Ia Ja rfl ⟨(Kp_rf (a := 43) (b := 45)), (Kp_rf (a := 43) (b := 45)), ⟨by omega, by omega, by omega⟩, hF, NI_0⟩
set_option maxHeartbeats 4000000 in
set_option maxRecDepth 20000 in
theorem c5_X2_turnOn (l0 : Launch) {Ia Ja : aI1} {Ra : aR1} {Sa : aS1} (hL : LY Ra Sa) {a b : Int} (ha0 : 2 ≤ a) (ha1 : a ≤ 8) (hb0 : 2 ≤ b) (hb1 : b ≤ 4) (hr : RI Ia a b)  : CT l0 1 0 0 mX2_turnOn [kR (some 37), kI a, kI b] Ia Ja Ra Sa (cI (fun x I' J' => Kp 41 43 Ia I' ∧ Kp 41 43 Ja J' ∧ (x = 0 ∨ x = 1) ∧ RI I' a b ∧ TO Ia I' a b x) Ra Sa) := by
  refine ct_in pn_X2 (Nat.le_of_ble_eq_true rfl) (fun X hX hT hIn => ?_)
  have hX : aK l0 X cX2_turnOn 5 RX2 (some .boolean) 1 0 0 := hX
  change WW X 0 [some (kR (some 37)), some (kI a), some (kI b), none, none] [] Ia Ja Ra Sa 0 0
  refine ww_iload_n hX (pc := 0) dX2_turnOn_0 rfl ?_
  refine ww_iconst hX (pc := 1) (x := 1) dX2_turnOn_1 rfl ?_
  refine ww_isub hX (pc := 2) dX2_turnOn_2 ?_
  refine ww_nmI (fun v_3 hv_3 => ?_)
  refine ww_istore_n hX (pc := 3) (lv' := [some (kR (some 37)), some (kI a), some (kI b), some (kI v_3), none]) dX2_turnOn_3 (by decide) rfl rfl ?_
  have hl_4 : ∀ (n_4 : Nat) (at_ : Int), at_.toNat = n_4 → ((0 ≤ at_ ∧ at_ < a) ∧ ∀ j : Nat, at_ < j → (j : Int) < a → Ia 41 j = min (b - 1) (Ia 42 (j - 1) + 1)) → WW X 4 [some (kR (some 37)), some (kI a), some (kI b), some (kI at_), none] [] Ia Ja Ra Sa 0 0 := by
    intro n_4
    induction n_4 using Nat.strongRecOn with
    | ind n_4 ih_4 =>
      intro at_ hm_4 hv_4
      have hq_4 := Sh0_i hm_4
      clear hm_4
      obtain ⟨⟨hat0, hat1⟩, hsk⟩ := hv_4
      refine ww_iload_n hX (pc := 4) dX2_turnOn_4 rfl ?_
      refine ww_if_le hX (pc := 5) (tgt := 39) dX2_turnOn_5 (by decide) (fun h_5 => ?_) (fun h_5 => ?_)
      · simp only [w32_mod] at h_5
        refine ww_iload_n hX (pc := 39) dX2_turnOn_39 rfl ?_
        refine ww_if_ne hX (pc := 40) (tgt := 45) dX2_turnOn_40 (by decide) (fun h_40 => ?_) (fun h_40 => ?_)
        · simp only [w32_mod] at h_40
          exact absurd h_40 (by omega)
        · simp only [w32_mod] at h_40
          refine ww_iconst hX (pc := 43) (x := 0) dX2_turnOn_43 rfl ?_
          refine rZ hX (pc := 44) hT (Nat.le_refl 0) (Nat.le_refl 0) dX2_turnOn_44 (by decide) ?_
          exact ⟨(Kp_rf (a := 41) (b := 43)), (Kp_rf (a := 41) (b := 43)), by omega, hr, Or.inl ⟨rfl, fun j h1 h2 => hsk j (by omega) h2⟩⟩
      · simp only [w32_mod] at h_5
        have hp1 := hr.1 (at_ - 1).toNat (by omega)
        have hw1 := hr.1 at_.toNat (by omega)
        have hx1 := hr.2 at_.toNat (by omega) (by omega)
        rw [show at_.toNat - 1 = (at_ - 1).toNat by omega] at hx1
        refine ww_aload_n hX (pc := 8) dX2_turnOn_8 rfl ?_
        refine ww_getR hX (pc := 9) fX2_18 (by decide) (xs_37 hL) (xr_37_1 hL) dX2_turnOn_9 ?_
        refine ww_iload_n hX (pc := 12) dX2_turnOn_12 rfl ?_
        refine ww_iald hX (pc := 13) (xs_41 hL) (by decide) (by omega) (by omega) dX2_turnOn_13 ?_
        refine ww_iload_n hX (pc := 14) dX2_turnOn_14 rfl ?_
        refine ww_iconst hX (pc := 15) (x := 1) dX2_turnOn_15 rfl ?_
        refine ww_isub hX (pc := 16) dX2_turnOn_16 ?_
        refine ww_aload_n hX (pc := 17) dX2_turnOn_17 rfl ?_
        refine ww_getR hX (pc := 18) fX2_22 (by decide) (xs_37 hL) (xr_37_2 hL) dX2_turnOn_18 ?_
        refine ww_iload_n hX (pc := 21) dX2_turnOn_21 rfl ?_
        refine ww_iconst hX (pc := 22) (x := 1) dX2_turnOn_22 rfl ?_
        refine ww_isub hX (pc := 23) dX2_turnOn_23 ?_
        refine ww_iald hX (pc := 24) (xs_42 hL) (by decide) (by omega) (by omega) dX2_turnOn_24 ?_
        refine ww_iconst hX (pc := 25) (x := 1) dX2_turnOn_25 rfl ?_
        refine ww_iadd hX (pc := 26) dX2_turnOn_26 ?_
        refine ww_mmin hX (pc := 27) tb_884 tb_579 tb_13 tb_580 (by decide) (Nat.le_refl 0) (Nat.le_refl 0) (Nat.le_of_ble_eq_true rfl) dX2_turnOn_27 ?_
        refine ww_toI (b := min (b - 1) (Ia 42 (at_ - 1).toNat + 1)) (by rw [i_min_r (by omega) (by omega) (by omega) (by omega)]) ?_
        refine ww_icmp_ne hX (pc := 30) (tgt := 39) dX2_turnOn_30 (by decide) (fun h_30 => ?_) (fun h_30 => ?_)
        · simp only [w32_mod] at h_30
          refine ww_iload_n hX (pc := 39) dX2_turnOn_39 rfl ?_
          refine ww_if_ne hX (pc := 40) (tgt := 45) dX2_turnOn_40 (by decide) (fun h_40 => ?_) (fun h_40 => ?_)
          · simp only [w32_mod] at h_40
            refine ww_aload_n hX (pc := 45) dX2_turnOn_45 rfl ?_
            refine ww_getR hX (pc := 46) fX2_18 (by decide) (xs_37 hL) (xr_37_1 hL) dX2_turnOn_46 ?_
            refine ww_iload_n hX (pc := 49) dX2_turnOn_49 rfl ?_
            refine ww_dup2 hX (pc := 50) dX2_turnOn_50 ?_
            refine ww_iald hX (pc := 51) (xs_41 hL) (by decide) (by omega) (by omega) dX2_turnOn_51 ?_
            refine ww_iconst hX (pc := 52) (x := 1) dX2_turnOn_52 rfl ?_
            refine ww_iadd hX (pc := 53) dX2_turnOn_53 ?_
            refine ww_iast hX (pc := 54) (xs_41 hL) (by decide) (by omega) (by omega) dX2_turnOn_54 ?_
            refine ww_nmH (fun I_54 eI_54 => ?_)
            have kI_54 : Kp 41 43 Ia I_54 := by rw [eI_54]; exact Kp_up (Kp_rf (a := 41) (b := 43)) _ _ (by decide)
            refine ww_aload_n hX (pc := 55) dX2_turnOn_55 rfl ?_
            refine ww_getR hX (pc := 56) fX2_22 (by decide) (xs_37 hL) (xr_37_2 hL) dX2_turnOn_56 ?_
            refine ww_iload_n hX (pc := 59) dX2_turnOn_59 rfl ?_
            refine ww_aload_n hX (pc := 60) dX2_turnOn_60 rfl ?_
            refine ww_getR hX (pc := 61) fX2_22 (by decide) (xs_37 hL) (xr_37_2 hL) dX2_turnOn_61 ?_
            refine ww_iload_n hX (pc := 64) dX2_turnOn_64 rfl ?_
            refine ww_iconst hX (pc := 65) (x := 1) dX2_turnOn_65 rfl ?_
            refine ww_isub hX (pc := 66) dX2_turnOn_66 ?_
            refine ww_iald hX (pc := 67) (xs_42 hL) (by decide) (by omega) (by omega) dX2_turnOn_67 ?_
            refine ww_aload_n hX (pc := 68) dX2_turnOn_68 rfl ?_
            refine ww_getR hX (pc := 69) fX2_18 (by decide) (xs_37 hL) (xr_37_1 hL) dX2_turnOn_69 ?_
            refine ww_iload_n hX (pc := 72) dX2_turnOn_72 rfl ?_
            refine ww_iald hX (pc := 73) (xs_41 hL) (by decide) (by omega) (by omega) dX2_turnOn_73 ?_
            refine ww_mmax hX (pc := 74) tb_885 tb_460 tb_13 tb_461 (by decide) (Nat.le_refl 0) (Nat.le_refl 0) (Nat.le_of_ble_eq_true rfl) dX2_turnOn_74 ?_
            refine ww_toI (b := max (Ia 42 (at_ - 1).toNat) (Ia 41 at_.toNat + 1)) (by rw [eI_54, up2_off _ _ _ (by decide), up2_s, i_max_r (by omega) (by omega) (by omega) (by omega)]) ?_
            refine ww_iast hX (pc := 77) (xs_42 hL) (by decide) (by omega) (by omega) dX2_turnOn_77 ?_
            refine ww_nmH (fun I_77 eI_77 => ?_)
            have kI_77 : Kp 41 43 Ia I_77 := by rw [eI_77]; exact Kp_up kI_54 _ _ (by decide)
            have hr3 : RI I_77 (at_ + 1) b := by rw [eI_77, eI_54]; exact RI_up hr (by omega) (by omega) ha1 hb0 (by omega) rfl
            refine ww_iload_n hX (pc := 78) dX2_turnOn_78 rfl ?_
            refine ww_iconst hX (pc := 79) (x := 1) dX2_turnOn_79 rfl ?_
            refine ww_iadd hX (pc := 80) dX2_turnOn_80 ?_
            refine ww_nmI (fun v_81 hv_81 => ?_)
            refine ww_istore hX (pc := 81) (lv' := [some (kR (some 37)), some (kI a), some (kI b), some (kI at_), some (kI v_81)]) dX2_turnOn_81 (by decide) rfl rfl ?_
            have hl_83 : ∀ (n_83 : Nat) (i : Int) (I2 : aI1) (J2 : aI1), (a - i).toNat = n_83 → (Kp 41 43 Ia I2 ∧ Kp 41 43 Ja J2 ∧ (1 ≤ i ∧ i ≤ a ∧ at_ < i) ∧ RI I2 i b ∧ TI Ia I2 at_ i (max (Ia 42 (at_ - 1).toNat) (Ia 41 at_.toNat + 1))) → WW X 83 [some (kR (some 37)), some (kI a), some (kI b), some (kI at_), some (kI i)] [] I2 J2 Ra Sa 0 0 := by
              intro n_83
              induction n_83 using Nat.strongRecOn with
              | ind n_83 ih_83 =>
                intro i I2 J2 hm_83 hv_83
                have hq_83 := Sh0_i hm_83
                clear hm_83
                obtain ⟨kI2, kJ2, hi, hr2, hti⟩ := hv_83
                refine ww_iload hX (pc := 83) dX2_turnOn_83 rfl ?_
                refine ww_iload_n hX (pc := 85) dX2_turnOn_85 rfl ?_
                refine ww_icmp_ge hX (pc := 86) (tgt := 119) dX2_turnOn_86 (by decide) (fun h_86 => ?_) (fun h_86 => ?_)
                · simp only [w32_mod] at h_86
                  refine ww_iconst hX (pc := 119) (x := 1) dX2_turnOn_119 rfl ?_
                  refine rZ hX (pc := 120) hT (Nat.le_refl 0) (Nat.le_refl 0) dX2_turnOn_120 (by decide) ?_
                  exact ⟨kI2, kJ2, by omega, by rw [show a = i by omega]; exact hr2, Or.inr ⟨rfl, at_, by omega, by omega, hsk, by rw [show at_.toNat - 1 = (at_ - 1).toNat by omega]; omega, by rw [show a = i by omega]; exact hti⟩⟩
                · simp only [w32_mod] at h_86
                  refine ww_aload_n hX (pc := 89) dX2_turnOn_89 rfl ?_
                  refine ww_getR hX (pc := 90) fX2_18 (by decide) (xs_37 hL) (xr_37_1 hL) dX2_turnOn_90 ?_
                  refine ww_iload hX (pc := 93) dX2_turnOn_93 rfl ?_
                  refine ww_iconst hX (pc := 95) (x := 0) dX2_turnOn_95 rfl ?_
                  refine ww_iast hX (pc := 96) (xs_41 hL) (by decide) (by omega) (by omega) dX2_turnOn_96 ?_
                  refine ww_nmH (fun I_96 eI_96 => ?_)
                  have kI_96 : Kp 41 43 Ia I_96 := by rw [eI_96]; exact Kp_up kI2 _ _ (by decide)
                  refine ww_aload_n hX (pc := 97) dX2_turnOn_97 rfl ?_
                  refine ww_getR hX (pc := 98) fX2_22 (by decide) (xs_37 hL) (xr_37_2 hL) dX2_turnOn_98 ?_
                  refine ww_iload hX (pc := 101) dX2_turnOn_101 rfl ?_
                  refine ww_aload_n hX (pc := 103) dX2_turnOn_103 rfl ?_
                  refine ww_getR hX (pc := 104) fX2_22 (by decide) (xs_37 hL) (xr_37_2 hL) dX2_turnOn_104 ?_
                  refine ww_iload hX (pc := 107) dX2_turnOn_107 rfl ?_
                  refine ww_iconst hX (pc := 109) (x := 1) dX2_turnOn_109 rfl ?_
                  refine ww_isub hX (pc := 110) dX2_turnOn_110 ?_
                  refine ww_iald hX (pc := 111) (xs_42 hL) (by decide) (by omega) (by omega) dX2_turnOn_111 ?_
                  refine ww_iast hX (pc := 112) (xs_42 hL) (by decide) (by omega) (by omega) dX2_turnOn_112 ?_
                  refine ww_nmH (fun I_112 eI_112 => ?_)
                  have kI_112 : Kp 41 43 Ia I_112 := by rw [eI_112]; exact Kp_up kI_96 _ _ (by decide)
                  refine ww_iinc hX (pc := 113) (lv' := [some (kR (some 37)), some (kI a), some (kI b), some (kI at_), some (kI (i + 1))]) dX2_turnOn_113 rfl (by decide) rfl rfl ?_
                  refine ww_goto hX (pc := 116) (tgt := 83) dX2_turnOn_116 (by decide) ?_
                  exact ih_83 _ (by have hm9 := Sh0_e hq_83; omega) (i + 1) I_112 J2 rfl ⟨kI_112, kJ2, ⟨by omega, by omega, by omega⟩, by rw [eI_112, eI_96]; exact RI_st hr2 (by omega) (by omega) hb0 (by rw [up2_off _ _ _ (by decide)]), by rw [eI_112, eI_96]; exact TI_st hti (by omega) (by omega) (by rw [up2_off _ _ _ (by decide)])⟩
            exact hl_83 _ v_81 I_77 Ja rfl ⟨kI_77, (Kp_rf (a := 41) (b := 43)), ⟨by omega, by omega, by omega⟩, by rw [hv_81]; exact hr3, by rw [hv_81, eI_77, eI_54]; exact TI_up (by omega)⟩
          · simp only [w32_mod] at h_40
            refine ww_iconst hX (pc := 43) (x := 0) dX2_turnOn_43 rfl ?_
            refine rZ hX (pc := 44) hT (Nat.le_refl 0) (Nat.le_refl 0) dX2_turnOn_44 (by decide) ?_
            exact ⟨(Kp_rf (a := 41) (b := 43)), (Kp_rf (a := 41) (b := 43)), by omega, hr, Or.inl ⟨rfl, fun j h1 h2 => hsk j (by omega) h2⟩⟩
        · simp only [w32_mod] at h_30
          refine ww_iinc hX (pc := 33) (lv' := [some (kR (some 37)), some (kI a), some (kI b), some (kI (at_ + (-1))), none]) dX2_turnOn_33 rfl (by decide) rfl rfl ?_
          refine ww_goto hX (pc := 36) (tgt := 4) dX2_turnOn_36 (by decide) ?_
          exact ih_4 _ (by have hm9 := Sh0_e hq_4; omega) (at_ + (-1)) rfl ⟨⟨by omega, by omega⟩, fun j h1 h2 => by
            by_cases e9 : (j : Int) = at_
            · rw [show j - 1 = (at_ - 1).toNat by omega, show j = at_.toNat by omega]; omega
            · exact hsk j (by omega) h2⟩
  exact hl_4 _ v_3 rfl ⟨⟨by omega, by omega⟩, fun j h1 h2 => absurd h2 (by omega)⟩
set_option maxHeartbeats 4000000 in
set_option maxRecDepth 20000 in
theorem c5_X2_search (l0 : Launch) {Ia Ja : aI1} {Ra : aR1} {Sa : aS1} (hL : LY Ra Sa) {p n k : Int} (hp0 : 0 ≤ p) (hp1 : p ≤ 8) (hn0 : 1 ≤ n) (hn1 : n ≤ 3) (hk0 : 2 ≤ k) (hk1 : k ≤ 4) (hF : FI Ia) (hz : ∀ t : Nat, t < 4 → Ia 43 (4 * p.toNat + t) = 0)  : CT l0 3 0 0 mX2_search [kR (some 37), kI p, kI n, kI k] Ia Ja Ra Sa (cV (fun I' J' => Kp 37 46 Ia I' ∧ Kp 37 46 Ja J' ∧ FI I' ∧ PK I' p.toNat = ((TOTc k.toNat (2 ^ n.toNat) : Nat) : Int) ∧ (∀ t : Nat, t < 4 → 0 ≤ I' 43 (4 * p.toNat + t) ∧ I' 43 (4 * p.toNat + t) < 16777216) ∧ (∀ j : Nat, (j < 4 * p.toNat ∨ 4 * p.toNat + 4 ≤ j) → I' 43 j = Ia 43 j) ∧ I' 45 = Ia 45) Ra Sa) := by
  refine ct_in pn_X2 (Nat.le_of_ble_eq_true rfl) (fun X hX hT hIn => ?_)
  have hX : aK l0 X cX2_search 7 RX2 none 3 0 0 := hX
  change WW X 0 [some (kR (some 37)), some (kI p), some (kI n), some (kI k), none, none, none] [] Ia Ja Ra Sa 0 0
  refine ww_iconst hX (pc := 0) (x := 1) dX2_search_0 rfl ?_
  refine ww_iload_n hX (pc := 1) dX2_search_1 rfl ?_
  refine ww_ishl hX (pc := 2) dX2_search_2 ?_
  refine ww_nmI (fun v_3 hv_3 => ?_)
  refine ww_istore hX (pc := 3) (lv' := [some (kR (some 37)), some (kI p), some (kI n), some (kI k), some (kI v_3), none, none]) dX2_search_3 (by decide) rfl rfl ?_
  have hst : 2 ≤ v_3 ∧ v_3 ≤ 8 := by
    rw [hv_3, i_shl1 (by omega) (by omega)]
    rcases (show n = 1 ∨ n = 2 ∨ n = 3 by omega) with rfl | rfl | rfl <;> decide
  have hN3 : v_3.toNat = 2 ^ n.toNat := by
    rw [hv_3, i_shl1 (by omega) (by omega)]
    rcases (show n = 1 ∨ n = 2 ∨ n = 3 by omega) with rfl | rfl | rfl <;> decide
  refine ww_aload_n hX (pc := 5) dX2_search_5 rfl ?_
  refine ww_getR hX (pc := 6) fX2_18 (by decide) (xs_37 hL) (xr_37_1 hL) dX2_search_6 ?_
  refine ww_iconst hX (pc := 9) (x := 0) dX2_search_9 rfl ?_
  refine sV2 hX (pc := 10) sX2_53 (c_J7_fill_53178 l0 (xs_41 hL) (by decide)) (by decide) (Nat.le_refl 0) (Nat.le_refl 0) (Nat.le_of_ble_eq_true rfl) dX2_search_10 (fun I_10 J_10 h_10 => ?_)
  obtain ⟨rfl, eI_10⟩ := h_10
  have kI_10 : Kp 37 46 Ia I_10 := by rw [eI_10]; exact Kp_upR (Kp_rf (a := 37) (b := 46)) _ (by decide)
  refine ww_aload_n hX (pc := 13) dX2_search_13 rfl ?_
  refine ww_getR hX (pc := 14) fX2_22 (by decide) (xs_37 hL) (xr_37_2 hL) dX2_search_14 ?_
  refine ww_iconst hX (pc := 17) (x := 0) dX2_search_17 rfl ?_
  refine sV2 hX (pc := 18) sX2_53 (c_J7_fill_53178 l0 (xs_42 hL) (by decide)) (by decide) (Nat.le_refl 0) (Nat.le_refl 0) (Nat.le_of_ble_eq_true rfl) dX2_search_18 (fun I_18 J_18 h_18 => ?_)
  obtain ⟨rfl, eI_18⟩ := h_18
  have kI_18 : Kp 37 46 Ia I_18 := by rw [eI_18]; exact Kp_upR kI_10 _ (by decide)
  have hz41 : ∀ j, j < 8 → I_18 41 j = 0 := fun j hj => by rw [eI_18, upR_n _ _ (by decide), eI_10, upR_s, if_pos hj]
  have hz42 : ∀ j, j < 8 → I_18 42 j = 0 := fun j hj => by rw [eI_18, upR_s, if_pos hj]
  have hz43 : I_18 43 = Ia 43 := by rw [eI_18, upR_n _ _ (by decide), eI_10, upR_n _ _ (by decide)]
  have hz45 : I_18 45 = Ia 45 := by rw [eI_18, upR_n _ _ (by decide), eI_10, upR_n _ _ (by decide)]
  refine ww_iconst hX (pc := 21) (x := 1) dX2_search_21 rfl ?_
  refine ww_istore hX (pc := 22) (lv' := [some (kR (some 37)), some (kI p), some (kI n), some (kI k), some (kI v_3), some (kI 1), none]) dX2_search_22 (by decide) rfl rfl ?_
  refine ww_iconst hX (pc := 24) (x := 0) dX2_search_24 rfl ?_
  refine ww_istore hX (pc := 25) (lv' := [some (kR (some 37)), some (kI p), some (kI n), some (kI k), some (kI v_3), some (kI 1), some (kI 0)]) dX2_search_25 (by decide) rfl rfl ?_
  have hl_27 : ∀ (n_27 : Nat) (mo : Int) (q : Int) (I2 : aI1) (J2 : aI1), (65536 - q).toNat = n_27 → (Kp 37 46 Ia I2 ∧ Kp 37 46 Ja J2 ∧ (0 ≤ q ∧ q ≤ 65536) ∧ RI I2 v_3 k ∧ FI I2 ∧ I2 45 = Ia 45 ∧ SWi mo I2 v_3.toNat k.toNat p.toNat q ∧ (mo = 0 ∨ mo = 1) ∧ (∀ t : Nat, t < 4 → 0 ≤ I2 43 (4 * p.toNat + t) ∧ I2 43 (4 * p.toNat + t) ≤ 24 * q) ∧ (∀ j : Nat, (j < 4 * p.toNat ∨ 4 * p.toNat + 4 ≤ j) → I2 43 j = Ia 43 j)) → WW X 27 [some (kR (some 37)), some (kI p), some (kI n), some (kI k), some (kI v_3), some (kI mo), some (kI q)] [] I2 J2 Ra Sa 0 0 := by
    intro n_27
    induction n_27 using Nat.strongRecOn with
    | ind n_27 ih_27 =>
      intro mo q I2 J2 hm_27 hv_27
      have hq_27 := Sh0_i hm_27
      clear hm_27
      obtain ⟨kI2, kJ2, hq, hr2, fI2, e45, hsw, hmb, hct, hoj⟩ := hv_27
      refine ww_iload hX (pc := 27) dX2_search_27 rfl ?_
      refine ww_ldc hX (pc := 29) (x := 65536) dX2_search_29 tb_870 ?_
      refine ww_icmp_ge hX (pc := 31) (tgt := 100) dX2_search_31 (by decide) (fun h_31 => ?_) (fun h_31 => ?_)
      · simp only [w32_mod] at h_31
        refine rV hX (pc := 100) hT (Nat.le_refl 0) (Nat.le_refl 0) dX2_search_100 ?_
        have hpt : PK I2 p.toNat = ((TOTc k.toNat v_3.toNat : Nat) : Int) := by
          rcases hmb with h9 | h9
          · exact hsw.2 h9
          · obtain ⟨r, pp, acc, -, h7, h6⟩ := hsw.1 h9
            rw [show (65536 - q).toNat = 0 by omega] at h6
            have h5 : acc = TOTc k.toNat v_3.toNat := h6
            rw [h7, h5]
        exact ⟨kI2, kJ2, fI2, by rw [← hN3]; exact hpt, fun t ht => by have := hct t ht; omega, hoj, e45⟩
      · simp only [w32_mod] at h_31
        refine ww_iload hX (pc := 34) dX2_search_34 rfl ?_
        refine ww_if_eq hX (pc := 36) (tgt := 100) dX2_search_36 (by decide) (fun h_36 => ?_) (fun h_36 => ?_)
        · simp only [w32_mod] at h_36
          refine rV hX (pc := 100) hT (Nat.le_refl 0) (Nat.le_refl 0) dX2_search_100 ?_
          have hpt : PK I2 p.toNat = ((TOTc k.toNat v_3.toNat : Nat) : Int) := by
            rcases hmb with h9 | h9
            · exact hsw.2 h9
            · obtain ⟨r, pp, acc, -, h7, h6⟩ := hsw.1 h9
              rw [show (65536 - q).toNat = 0 by omega] at h6
              have h5 : acc = TOTc k.toNat v_3.toNat := h6
              rw [h7, h5]
          exact ⟨kI2, kJ2, fI2, by rw [← hN3]; exact hpt, fun t ht => by have := hct t ht; omega, hoj, e45⟩
        · simp only [w32_mod] at h_36
          refine ww_aload_n hX (pc := 39) dX2_search_39 rfl ?_
          refine ww_getR hX (pc := 40) fX2_14 (by decide) (xs_37 hL) (xr_37_0 hL) dX2_search_40 ?_
          refine ww_aload_n hX (pc := 43) dX2_search_43 rfl ?_
          refine ww_getR hX (pc := 44) fX2_18 (by decide) (xs_37 hL) (xr_37_1 hL) dX2_search_44 ?_
          refine ww_iload hX (pc := 47) dX2_search_47 rfl ?_
          refine ww_iconst hX (pc := 49) (x := 1) dX2_search_49 rfl ?_
          refine ww_isub hX (pc := 50) dX2_search_50 ?_
          refine ww_iconst hX (pc := 51) (x := 0) dX2_search_51 rfl ?_
          refine ww_iload_n hX (pc := 52) dX2_search_52 rfl ?_
          refine vV4 hX (pc := 53) sX2_60 (xs_38 hL) (c5_X5_fill l0 (Ia := I2) (xs_38 hL) (xr_38_0 hL) (xr_38_1 hL) (xs_40 hL) (xs_39 hL) (xs_41 hL) (by decide) (by decide) (by decide) (by decide) (fun j hj => by have := hr2.1 j hj; omega) (by decide) (by omega) (by omega) (by omega) (by decide) (by omega) (by omega)) (by decide) (Nat.le_refl 0) (Nat.le_refl 0) (Nat.le_of_ble_eq_true rfl) dX2_search_53 (fun I_53 J_53 h_53 => ?_)
          obtain ⟨rfl, h_53, lv_53⟩ := h_53
          have kI_53 : Kp 37 46 Ia I_53 := Kp_tr kI2 (Kq_kp h_53 (by decide) (by decide))
          have e41_53 := h_53 41 (by decide) (by decide)
          have e42_53 := h_53 42 (by decide) (by decide)
          have e43_53 := h_53 43 (by decide) (by decide)
          have hr_53 : RI I_53 v_3 k := RI_of hr2 e41_53 e42_53
          have f_53 : FI I_53 := FI_of fI2 (h_53 44 (by decide) (by decide))
          obtain ⟨r, pp, acc, hrr, hac, hsr⟩ := hsw.1 (by omega)
          have hd0 : I_53 40 (Int.toNat 0) = ((DL k.toNat r : Nat) : Int) := DL_v (N := v_3.toNat) (q := k.toNat) hrr.1 (by omega) (by omega) (by omega) (by omega) (by rw [show ((v_3.toNat : Nat) : Int) = v_3 - 1 + 1 by omega, show ((k.toNat : Nat) : Int) = k by omega]; exact lv_53) (fun s hs => (hrr.2.2 s hs).1)
          have hdb : 0 ≤ I_53 40 (Int.toNat 0) ∧ I_53 40 (Int.toNat 0) ≤ 8 := by
            have h9 : 0 ≤ I_53 40 (Int.toNat 0) ∧ I_53 40 (Int.toNat 0) ≤ 8 - pcn 0 := (lv_53 0 (by omega) (by omega)).2
            have h8 := pcn_r 0
            omega
          have hpk : I_53 42 (v_3 - 1).toNat = ((gd pp (v_3.toNat - 1) : Nat) : Int) := by rw [e42_53, show (v_3 - 1).toNat = v_3.toNat - 1 by omega]; exact (hrr.2.2 _ (by omega)).2
          have hpk2 := (hr_53.1 (v_3 - 1).toNat (by omega)).2
          refine ww_aload_n hX (pc := 56) dX2_search_56 rfl ?_
          refine ww_iload_n hX (pc := 57) dX2_search_57 rfl ?_
          refine ww_aload_n hX (pc := 58) dX2_search_58 rfl ?_
          refine ww_getR hX (pc := 59) fX2_14 (by decide) (xs_37 hL) (xr_37_0 hL) dX2_search_59 ?_
          refine ww_getR hX (pc := 62) fX2_63 (by decide) (xs_38 hL) (xr_38_0 hL) dX2_search_62 ?_
          refine ww_iconst hX (pc := 65) (x := 0) dX2_search_65 rfl ?_
          refine ww_iald hX (pc := 66) (xs_40 hL) (by decide) (by omega) (by omega) dX2_search_66 ?_
          refine ww_iload_n hX (pc := 67) dX2_search_67 rfl ?_
          refine ww_aload_n hX (pc := 68) dX2_search_68 rfl ?_
          refine ww_getR hX (pc := 69) fX2_22 (by decide) (xs_37 hL) (xr_37_2 hL) dX2_search_69 ?_
          refine ww_iload hX (pc := 72) dX2_search_72 rfl ?_
          refine ww_iconst hX (pc := 74) (x := 1) dX2_search_74 rfl ?_
          refine ww_isub hX (pc := 75) dX2_search_75 ?_
          refine ww_iald hX (pc := 76) (xs_42 hL) (by decide) (by omega) (by omega) dX2_search_76 ?_
          refine ww_iconst hX (pc := 77) (x := 1) dX2_search_77 rfl ?_
          refine ww_iadd hX (pc := 78) dX2_search_78 ?_
          refine sI2 hX (pc := 79) sX2_66 (c5_X2_namings l0 (by omega) (by omega) (by omega) (by omega)) (by decide) (Nat.le_refl 0) (Nat.le_refl 0) (Nat.le_of_ble_eq_true rfl) dX2_search_79 (fun x_79 I_79 J_79 h_79 => ?_)
          obtain ⟨rfl, rfl, h_79⟩ := h_79
          refine vV3 hX (pc := 82) sX2_69 (xs_37 hL) (c5_X2_note l0 hL (by omega) (by omega) (by omega) (by omega) (fun j hj => by have := hr_53.1 j hj; omega) f_53) (by decide) (Nat.le_refl 0) (Nat.le_refl 0) (Nat.le_of_ble_eq_true rfl) dX2_search_82 (fun I_82 J_82 h_82 => ?_)
          have kI_82 : Kp 37 46 Ia I_82 := Kp_tr kI_53 (Kp_wd h_82.1 (by decide) (by decide))
          have kJ_82 : Kp 37 46 Ja J_82 := Kp_tr kJ2 (Kp_wd h_82.2.1 (by decide) (by decide))
          have hr_82 : RI I_82 v_3 k := RI_of hr_53 (h_82.1 41 (by decide)) (h_82.1 42 (by decide))
          have f_82 : FI I_82 := h_82.2.2.1
          obtain ⟨w8, hw8, hn8⟩ := h_82.2.2.2
          have hp8 := PK_n hn8 hw8 (by omega)
          have hnr := namN_r (k := k.toNat) (u := (I_53 42 (v_3 - 1).toNat + 1).toNat) (by omega) (by omega) (by omega)
          refine ww_aload_n hX (pc := 85) dX2_search_85 rfl ?_
          refine ww_iload hX (pc := 86) dX2_search_86 rfl ?_
          refine ww_iload_n hX (pc := 88) dX2_search_88 rfl ?_
          refine vI2 hX (pc := 89) sX2_72 (xs_37 hL) (c5_X2_turnOn l0 hL (by omega) (by omega) (by omega) (by omega) hr_82) (by decide) (Nat.le_refl 0) (Nat.le_refl 0) (Nat.le_of_ble_eq_true rfl) dX2_search_89 (fun x_89 I_89 J_89 h_89 => ?_)
          have kI_89 : Kp 37 46 Ia I_89 := Kp_tr kI_82 (Kp_wd h_89.1 (by decide) (by decide))
          have kJ_89 : Kp 37 46 Ja J_89 := Kp_tr kJ_82 (Kp_wd h_89.2.1 (by decide) (by decide))
          have f_89 : FI I_89 := FI_of f_82 (h_89.1 44 (by decide))
          have e43_89 : I_89 43 = I_82 43 := h_89.1 43 (by decide)
          have e45_89 : PK I_89 p.toNat = ((acc + namN k.toNat (gd pp (v_3.toNat - 1) + 1) * pwC (DL k.toNat r) : Nat) : Int) := by
            have h9 : PK I_89 p.toNat = PK I_82 p.toNat := by unfold PK; rw [e43_89]
            have h8 : PK I_53 p.toNat = PK I2 p.toNat := by unfold PK; rw [e43_53]
            rw [h9, hp8, h8, hac, h_79, hd0, Int.natCast_add, Int.natCast_mul]
            rw [Int.toNat_natCast, show (I_53 42 (v_3 - 1).toNat + 1).toNat = gd pp (v_3.toNat - 1) + 1 by omega]
          have hrr8 : RR I_82 v_3.toNat r pp := ⟨hrr.1, hrr.2.1, fun j hj => by rw [h_82.1 41 (by decide), h_82.1 42 (by decide), e41_53, e42_53]; exact hrr.2.2 j hj⟩
          have hss := srch_s k.toNat v_3.toNat (65536 - q - 1).toNat r pp acc
          rw [show (65536 - q - 1).toNat + 1 = (65536 - q).toNat by omega, hsr] at hss
          have hsx : SWi x_89 I_89 v_3.toNat k.toNat p.toNat (q + 1) := by
            refine ⟨fun h9 => ?_, fun h9 => ?_⟩
            · have ht := h_89.2.2.2.2
              rw [h9] at ht
              have h8 := TO_1 (N := v_3.toNat) (k := k.toNat) (by omega) (by omega) (by omega) hrr8 ht
              rw [if_neg h8.1, show (65536 - q - 1).toNat = (65536 - (q + 1)).toNat by omega] at hss
              exact ⟨_, _, _, h8.2, e45_89, hss.symm⟩
            · have ht := h_89.2.2.2.2
              rw [h9] at ht
              have h8 := TO_0 (N := v_3.toNat) (k := k.toNat) (by omega) (by omega) (by omega) hrr8 ht
              rw [if_pos h8] at hss
              rw [e45_89, hss]
          clear hss hsr
          have hct9 : ∀ t : Nat, t < 4 → 0 ≤ I_89 43 (4 * p.toNat + t) ∧ I_89 43 (4 * p.toNat + t) ≤ 24 * (q + 1) := fun t ht => by
            have h7 := hn8.1 t ht
            have h6 := hct t ht
            rw [e43_89, h7, e43_53]
            split <;> omega
          have hoj9 : ∀ j : Nat, (j < 4 * p.toNat ∨ 4 * p.toNat + 4 ≤ j) → I_89 43 j = Ia 43 j := fun j hj => by
            rw [e43_89, hn8.2 j hj, e43_53]; exact hoj j hj
          refine ww_istore hX (pc := 92) (lv' := [some (kR (some 37)), some (kI p), some (kI n), some (kI k), some (kI v_3), some (kI x_89), some (kI q)]) dX2_search_92 (by decide) rfl rfl ?_
          refine ww_iinc hX (pc := 94) (lv' := [some (kR (some 37)), some (kI p), some (kI n), some (kI k), some (kI v_3), some (kI x_89), some (kI (q + 1))]) dX2_search_94 rfl (by decide) rfl rfl ?_
          refine ww_goto hX (pc := 97) (tgt := 27) dX2_search_97 (by decide) ?_
          exact ih_27 _ (by have hm9 := Sh0_e hq_27; omega) x_89 (q + 1) I_89 J_89 rfl ⟨kI_89, kJ_89, ⟨by omega, by omega⟩, h_89.2.2.2.1, f_89, by rw [h_89.1 45 (by decide), h_82.1 45 (by decide), h_53 45 (by decide) (by decide)]; exact e45, hsx, by omega, hct9, hoj9⟩
  exact hl_27 _ 1 0 I_18 Ja rfl ⟨kI_18, (Kp_rf (a := 37) (b := 46)), ⟨by omega, by omega⟩, ⟨fun j hj => by rw [hz41 j hj, hz42 j hj]; omega, fun j h1 h2 => by rw [hz41 j (by omega), hz42 (j - 1) (by omega)]; omega⟩, FI_of hF (by rw [eI_18, upR_n _ _ (by decide), eI_10, upR_n _ _ (by decide)]), hz45, ⟨(fun _ => ⟨zrs v_3.toNat, zrs v_3.toNat, 0, ⟨(zrs_v _).1, (zrs_v _).1, fun j hj => by rw [hz41 j (by omega), hz42 j (by omega), (zrs_v _).2]; exact ⟨rfl, rfl⟩⟩, by unfold PK; rw [hz43, hz 1 (by decide), hz 2 (by decide), hz 3 (by decide)]; have := hz 0 (by decide); rw [Nat.add_zero] at this; rw [this]; rfl, rfl⟩), (fun h9 => absurd h9 (by decide))⟩, Or.inr rfl, (fun t ht => by rw [hz43, hz t ht]; omega), (fun j hj => by rw [hz43])⟩
/-- a pair's count for t -/
noncomputable def TBt (k N t : Nat) : Int := ((TOTc k N / 16777216 ^ t % 16777216 : Nat) : Int)
/-- what was searched is as it should be -/
def SR (F : aI1) : Prop := ∀ n k : Int, 1 ≤ n → n ≤ 3 → 2 ≤ k → k ≤ 4 → (F 45 ((n - 1) * 3 + k - 2).toNat = 0 ∧ ∀ t : Nat, t < 4 → F 43 (4 * ((n - 1) * 3 + k - 2).toNat + t) = 0) ∨ (F 45 ((n - 1) * 3 + k - 2).toNat = 1 ∧ ∀ t : Nat, t < 4 → F 43 (4 * ((n - 1) * 3 + k - 2).toNat + t) = TBt k.toNat (2 ^ n.toNat) t)
theorem SR_of {F G : aI1} (h : SR F) (h1 : G 43 = F 43) (h2 : G 45 = F 45) : SR G := by unfold SR; rw [h1, h2]; exact h
theorem PK_t {F : aI1} {q T : Nat} (h : PK F q = ((T : Nat) : Int)) (hr : ∀ t : Nat, t < 4 → 0 ≤ F 43 (4 * q + t) ∧ F 43 (4 * q + t) < 16777216) : ∀ t : Nat, t < 4 → F 43 (4 * q + t) = ((T / 16777216 ^ t % 16777216 : Nat) : Int) := by
  have h0 := hr 0 (by decide)
  have h1 := hr 1 (by decide)
  have h2 := hr 2 (by decide)
  have h3 := hr 3 (by decide)
  unfold PK at h
  rw [Nat.add_zero] at h0
  intro t ht
  rcases (show t = 0 ∨ t = 1 ∨ t = 2 ∨ t = 3 by omega) with rfl | rfl | rfl | rfl
  · rw [Nat.add_zero, Nat.pow_zero, Nat.div_one]; omega
  · rw [show 16777216 ^ 1 = 16777216 from rfl]; omega
  · rw [show 16777216 ^ 2 = 281474976710656 from rfl]; omega
  · rw [show 16777216 ^ 3 = 4722366482869645213696 from rfl]; omega
theorem SR_s {F G : aI1} {n k : Int} (h : SR F) (n0 : 1 ≤ n) (n1 : n ≤ 3) (k0 : 2 ≤ k) (k1 : k ≤ 4) (hp : PK G ((n - 1) * 3 + k - 2).toNat = ((TOTc k.toNat (2 ^ n.toNat) : Nat) : Int)) (hr : ∀ t : Nat, t < 4 → 0 ≤ G 43 (4 * ((n - 1) * 3 + k - 2).toNat + t) ∧ G 43 (4 * ((n - 1) * 3 + k - 2).toNat + t) < 16777216) (ho : ∀ j : Nat, (j < 4 * ((n - 1) * 3 + k - 2).toNat ∨ 4 * ((n - 1) * 3 + k - 2).toNat + 4 ≤ j) → G 43 j = F 43 j) (h45 : G 45 = up1 (F 45) ((n - 1) * 3 + k - 2).toNat 1) : SR G := by
  intro n' k' a0 a1 b0 b1
  by_cases e : (n' - 1) * 3 + k' - 2 = (n - 1) * 3 + k - 2
  · have en : n' = n := by omega
    have ek : k' = k := by omega
    subst en ek
    right
    rw [h45, up1_s]
    exact ⟨rfl, PK_t hp hr⟩
  · rw [h45, up1_n _ _ (by omega)]
    rcases h n' k' a0 a1 b0 b1 with ⟨h1, h2⟩ | ⟨h1, h2⟩
    · exact Or.inl ⟨h1, fun t ht => by rw [ho _ (by omega)]; exact h2 t ht⟩
    · exact Or.inr ⟨h1, fun t ht => by rw [ho _ (by omega)]; exact h2 t ht⟩
set_option maxHeartbeats 4000000 in
set_option maxRecDepth 20000 in
theorem c5_X2_countCodes (l0 : Launch) {Ia Ja : aI1} {Ra : aR1} {Sa : aS1} (hL : LY Ra Sa) {n k t : Int} (hn0 : 1 ≤ n) (hn1 : n ≤ 3) (hk0 : 2 ≤ k) (hk1 : k ≤ 4) (ht0 : 0 ≤ t) (ht1 : t ≤ 8) (hF : FI Ia) (hS : SR Ia)  : CT l0 4 0 0 mX2_countCodes [kR (some 37), kI n, kI k, kI t] Ia Ja Ra Sa (cI (fun x I' J' => Kp 37 46 Ia I' ∧ Kp 37 46 Ja J' ∧ FI I' ∧ SR I' ∧ (3 < t → x = 0) ∧ (t ≤ 3 → x = TBt k.toNat (2 ^ n.toNat) t.toNat)) Ra Sa) := by
  refine ct_in pn_X2 (Nat.le_of_ble_eq_true rfl) (fun X hX hT hIn => ?_)
  have hX : aK l0 X cX2_countCodes 5 RX2 (some .int) 4 0 0 := hX
  change WW X 0 [some (kR (some 37)), some (kI n), some (kI k), some (kI t), none] [] Ia Ja Ra Sa 0 0
  refine ww_iload_n hX (pc := 0) dX2_countCodes_0 rfl ?_
  refine ww_iconst hX (pc := 1) (x := 3) dX2_countCodes_1 rfl ?_
  refine ww_icmp_le hX (pc := 2) (tgt := 7) dX2_countCodes_2 (by decide) (fun h_2 => ?_) (fun h_2 => ?_)
  · simp only [w32_mod] at h_2
    refine ww_iload_n hX (pc := 7) dX2_countCodes_7 rfl ?_
    refine ww_iload_n hX (pc := 8) dX2_countCodes_8 rfl ?_
    refine sI2 hX (pc := 9) sX2_35 (c_X2_pairOf l0) (by decide) (Nat.le_refl 0) (Nat.le_refl 0) (Nat.le_of_ble_eq_true rfl) dX2_countCodes_9 (fun x_9 I_9 J_9 h_9 => ?_)
    obtain ⟨rfl, rfl, h_9⟩ := h_9
    refine ww_istore hX (pc := 12) (lv' := [some (kR (some 37)), some (kI n), some (kI k), some (kI t), some (kI x_9)]) dX2_countCodes_12 (by decide) rfl rfl ?_
    have e12 : x_9 = (n - 1) * 3 + k - 2 := h_9
    have hs0 := hS n k hn0 hn1 hk0 hk1
    rw [← e12] at hs0
    refine ww_aload_n hX (pc := 14) dX2_countCodes_14 rfl ?_
    refine ww_getR hX (pc := 15) fX2_31 (by decide) (xs_37 hL) (xr_37_5 hL) dX2_countCodes_15 ?_
    refine ww_iload hX (pc := 18) dX2_countCodes_18 rfl ?_
    refine ww_zald hX (pc := 20) (xs_45 hL) (by decide) (by omega) (by omega) dX2_countCodes_20 ?_
    refine ww_if_ne hX (pc := 21) (tgt := 40) dX2_countCodes_21 (by decide) (fun h_21 => ?_) (fun h_21 => ?_)
    · simp only [w32_mod] at h_21
      refine ww_aload_n hX (pc := 40) dX2_countCodes_40 rfl ?_
      refine ww_getR hX (pc := 41) fX2_25 (by decide) (xs_37 hL) (xr_37_3 hL) dX2_countCodes_41 ?_
      refine ww_iload hX (pc := 44) dX2_countCodes_44 rfl ?_
      refine ww_iconst hX (pc := 46) (x := 4) dX2_countCodes_46 rfl ?_
      refine ww_imul hX (pc := 47) dX2_countCodes_47 ?_
      refine ww_iload_n hX (pc := 48) dX2_countCodes_48 rfl ?_
      refine ww_iadd hX (pc := 49) dX2_countCodes_49 ?_
      refine ww_iald hX (pc := 50) (xs_43 hL) (by decide) (by omega) (by omega) dX2_countCodes_50 ?_
      refine rI hX (pc := 51) hT (Nat.le_refl 0) (Nat.le_refl 0) dX2_countCodes_51 ?_
      have hsr9 := hS n k hn0 hn1 hk0 hk1
      rw [← e12] at hsr9
      exact ⟨(Kp_rf (a := 37) (b := 46)), (Kp_rf (a := 37) (b := 46)), hF, hS, fun h9 => absurd h9 (by omega), fun h9 => by
          rw [show (x_9 * 4 + t).toNat = 4 * x_9.toNat + t.toNat by omega]
          rcases hsr9 with ⟨h8, -⟩ | ⟨-, h8⟩
          · omega
          · exact h8 t.toNat (by omega)⟩
    · simp only [w32_mod] at h_21
      have hz0 : ∀ t : Nat, t < 4 → Ia 43 (4 * x_9.toNat + t) = 0 := by
        rcases hs0 with h8 | h8
        · exact h8.2
        · omega
      refine ww_aload_n hX (pc := 24) dX2_countCodes_24 rfl ?_
      refine ww_getR hX (pc := 25) fX2_31 (by decide) (xs_37 hL) (xr_37_5 hL) dX2_countCodes_25 ?_
      refine ww_iload hX (pc := 28) dX2_countCodes_28 rfl ?_
      refine ww_iconst hX (pc := 30) (x := 1) dX2_countCodes_30 rfl ?_
      refine ww_zast hX (pc := 31) (xs_45 hL) (by decide) (by omega) (by omega) (by decide) dX2_countCodes_31 ?_
      refine ww_nmH (fun I_31 eI_31 => ?_)
      have kI_31 : Kp 37 46 Ia I_31 := by rw [eI_31]; exact Kp_up (Kp_rf (a := 37) (b := 46)) _ _ (by decide)
      have fI_31 : FI I_31 := FI_of hF (by rw [eI_31, up2_off _ _ _ (by decide)])
      have g43 : I_31 43 = Ia 43 := by rw [eI_31, up2_off _ _ _ (by decide)]
      refine ww_aload_n hX (pc := 32) dX2_countCodes_32 rfl ?_
      refine ww_iload hX (pc := 33) dX2_countCodes_33 rfl ?_
      refine ww_iload_n hX (pc := 35) dX2_countCodes_35 rfl ?_
      refine ww_iload_n hX (pc := 36) dX2_countCodes_36 rfl ?_
      refine vV3 hX (pc := 37) sX2_39 (xs_37 hL) (c5_X2_search l0 hL (by omega) (by omega) (by omega) (by omega) (by omega) (by omega) fI_31 (fun t ht => by rw [g43]; exact hz0 t ht)) (by decide) (Nat.le_refl 0) (Nat.le_refl 0) (Nat.le_of_ble_eq_true rfl) dX2_countCodes_37 (fun I_37 J_37 h_37 => ?_)
      have kI_37 : Kp 37 46 Ia I_37 := Kp_tr kI_31 (Kp_wd h_37.1 (by decide) (by decide))
      have kJ_37 : Kp 37 46 Ja J_37 := Kp_tr (Kp_rf (a := 37) (b := 46)) (Kp_wd h_37.2.1 (by decide) (by decide))
      have z45 : I_37 45 x_9.toNat = 1 := by rw [h_37.2.2.2.2.2.2, eI_31, up2_s]
      have f_37 : FI I_37 := h_37.2.2.1
      have sr_37 : SR I_37 := SR_s hS hn0 hn1 hk0 hk1 (by rw [← e12]; exact h_37.2.2.2.1) (by rw [← e12]; exact h_37.2.2.2.2.1) (by rw [← e12]; exact fun j hj => (h_37.2.2.2.2.2.1 j hj).trans (by rw [g43])) (by rw [h_37.2.2.2.2.2.2, eI_31, up2_row, e12])
      refine ww_aload_n hX (pc := 40) dX2_countCodes_40 rfl ?_
      refine ww_getR hX (pc := 41) fX2_25 (by decide) (xs_37 hL) (xr_37_3 hL) dX2_countCodes_41 ?_
      refine ww_iload hX (pc := 44) dX2_countCodes_44 rfl ?_
      refine ww_iconst hX (pc := 46) (x := 4) dX2_countCodes_46 rfl ?_
      refine ww_imul hX (pc := 47) dX2_countCodes_47 ?_
      refine ww_iload_n hX (pc := 48) dX2_countCodes_48 rfl ?_
      refine ww_iadd hX (pc := 49) dX2_countCodes_49 ?_
      refine ww_iald hX (pc := 50) (xs_43 hL) (by decide) (by omega) (by omega) dX2_countCodes_50 ?_
      refine rI hX (pc := 51) hT (Nat.le_refl 0) (Nat.le_refl 0) dX2_countCodes_51 ?_
      have hsr9 := sr_37 n k hn0 hn1 hk0 hk1
      rw [← e12] at hsr9
      exact ⟨kI_37, kJ_37, f_37, sr_37, fun h9 => absurd h9 (by omega), fun h9 => by
          rw [show (x_9 * 4 + t).toNat = 4 * x_9.toNat + t.toNat by omega]
          rcases hsr9 with ⟨h8, -⟩ | ⟨-, h8⟩
          · omega
          · exact h8 t.toNat (by omega)⟩
  · simp only [w32_mod] at h_2
    refine ww_iconst hX (pc := 5) (x := 0) dX2_countCodes_5 rfl ?_
    refine rI hX (pc := 6) hT (Nat.le_refl 0) (Nat.le_refl 0) dX2_countCodes_6 ?_
    exact ⟨(Kp_rf (a := 37) (b := 46)), (Kp_rf (a := 37) (b := 46)), hF, hS, fun _ => rfl, fun h9 => absurd h9 (by omega)⟩
set_option maxHeartbeats 4000000 in
set_option maxRecDepth 20000 in
theorem c5_X2_copyFirst (l0 : Launch) {Ia Ja : aI1} {Ra : aR1} {Sa : aS1} (hL : LY Ra Sa) {n k t : Int} (hn0 : 1 ≤ n) (hn1 : n ≤ 3) (hk0 : 2 ≤ k) (hk1 : k ≤ 4) (ht0 : 0 ≤ t) (ht1 : t ≤ 8) (hF : FI Ia) (hS : SR Ia) (hI3 : ∀ j, j < 256 → -1 ≤ Ia 3 j ∧ Ia 3 j ≤ 7)  : CT l0 5 0 0 mX2_copyFirst [kR (some 37), kI n, kI k, kI t, kR (some 3)] Ia Ja Ra Sa (cV (fun I' J' => (∀ q, q ≠ 3 → (q < 37 ∨ 46 ≤ q) → I' q = Ia q) ∧ Kp 37 46 Ja J' ∧ FI I' ∧ (∀ j, j < 256 → -1 ≤ I' 3 j ∧ I' 3 j ≤ 7) ∧ SR I') Ra Sa) := by
  refine ct_in pn_X2 (Nat.le_of_ble_eq_true rfl) (fun X hX hT hIn => ?_)
  have hX : aK l0 X cX2_copyFirst 5 RX2 none 5 0 0 := hX
  change WW X 0 [some (kR (some 37)), some (kI n), some (kI k), some (kI t), some (kR (some 3))] [] Ia Ja Ra Sa 0 0
  refine ww_aload_n hX (pc := 0) dX2_copyFirst_0 rfl ?_
  refine ww_iload_n hX (pc := 1) dX2_copyFirst_1 rfl ?_
  refine ww_iload_n hX (pc := 2) dX2_copyFirst_2 rfl ?_
  refine ww_iload_n hX (pc := 3) dX2_copyFirst_3 rfl ?_
  refine vI3 hX (pc := 4) sX2_43 (xs_37 hL) (c5_X2_countCodes l0 hL (by omega) (by omega) (by omega) (by omega) (by omega) (by omega) hF hS) (by decide) (Nat.le_refl 0) (Nat.le_refl 0) (Nat.le_of_ble_eq_true rfl) dX2_copyFirst_4 (fun x_4 I_4 J_4 h_4 => ?_)
  refine ww_if_le hX (pc := 7) (tgt := 35) dX2_copyFirst_7 (by decide) (fun h_7 => ?_) (fun h_7 => ?_)
  · simp only [w32_mod] at h_7
    refine rV hX (pc := 35) hT (Nat.le_refl 0) (Nat.le_refl 0) dX2_copyFirst_35 ?_
    exact ⟨fun q h1 h2 => h_4.1 q (by omega), h_4.2.1, h_4.2.2.1, by rw [h_4.1 3 (by decide)]; exact hI3, h_4.2.2.2.1⟩
  · simp only [w32_mod] at h_7
    refine ww_aload_n hX (pc := 10) dX2_copyFirst_10 rfl ?_
    refine ww_getR hX (pc := 11) fX2_28 (by decide) (xs_37 hL) (xr_37_4 hL) dX2_copyFirst_11 ?_
    refine ww_iload_n hX (pc := 14) dX2_copyFirst_14 rfl ?_
    refine ww_iload_n hX (pc := 15) dX2_copyFirst_15 rfl ?_
    refine sI2 hX (pc := 16) sX2_35 (c_X2_pairOf l0) (by decide) (Nat.le_refl 0) (Nat.le_refl 0) (Nat.le_of_ble_eq_true rfl) dX2_copyFirst_16 (fun x_16 I_16 J_16 h_16 => ?_)
    obtain ⟨rfl, rfl, h_16⟩ := h_16
    refine ww_iconst hX (pc := 19) (x := 4) dX2_copyFirst_19 rfl ?_
    refine ww_imul hX (pc := 20) dX2_copyFirst_20 ?_
    refine ww_iload_n hX (pc := 21) dX2_copyFirst_21 rfl ?_
    refine ww_iadd hX (pc := 22) dX2_copyFirst_22 ?_
    refine ww_bipush hX (pc := 23) (x := 8) dX2_copyFirst_23 (by decide) ?_
    refine ww_imul hX (pc := 25) dX2_copyFirst_25 ?_
    refine ww_aload hX (pc := 26) dX2_copyFirst_26 rfl ?_
    refine ww_iconst hX (pc := 28) (x := 0) dX2_copyFirst_28 rfl ?_
    refine ww_iconst hX (pc := 29) (x := 1) dX2_copyFirst_29 rfl ?_
    refine ww_iload_n hX (pc := 30) dX2_copyFirst_30 rfl ?_
    refine ww_ishl hX (pc := 31) dX2_copyFirst_31 ?_
    refine ww_nmI (fun v_31 hv_31 => ?_)
    have hst : 2 ≤ v_31 ∧ v_31 ≤ 8 := by
      rw [hv_31, i_shl1 (by omega) (by omega)]
      rcases (show n = 1 ∨ n = 2 ∨ n = 3 by omega) with rfl | rfl | rfl <;> decide
    have ht3 : t ≤ 3 := by have := h_4.2.2.2.2.1; omega
    refine ww_copy hX (pc := 32) tb_879 tb_663 tb_662 tb_19 (xs_44 hL) (xs_3 hL) (by decide) (by decide) (by omega) (by omega) (by omega) (by omega) (by omega) (by decide) (Nat.le_of_ble_eq_true rfl) dX2_copyFirst_32 ?_
    refine ww_nmH (fun I_32 eI_32 => ?_)
    refine rV hX (pc := 35) hT (Nat.le_refl 0) (Nat.le_refl 0) dX2_copyFirst_35 ?_
    refine ⟨fun q h1 h2 => ?_, h_4.2.1, FI_of h_4.2.2.1 (by rw [eI_32, upR_n _ _ (by decide)]), fun j hj => ?_, SR_of h_4.2.2.2.1 (by rw [eI_32, upR_n _ _ (by decide)]) (by rw [eI_32, upR_n _ _ (by decide)])⟩
    · rw [eI_32, upR_n _ _ h1]; exact h_4.1 q (by omega)
    · rw [eI_32, upR_s]
      unfold va_cpy
      split
      · have := h_4.2.2.1 (((x_16 * 4 + t) * 8).toNat + (j - Int.toNat 0)) (by omega)
        omega
      · rw [h_4.1 3 (by decide)]; exact hI3 j hj
/-- a pair's count for any t -/
noncomputable def TBX (n k t : Int) : Int := if t ≤ 3 then TBt k.toNat (2 ^ n.toNat) t.toNat else 0
end
section
/-! how many CODES there are, counted STATE by STATE from the last -/
noncomputable def sumX (j : Nat) (f : Nat → Nat) : Nat := Nat.rec (motive := fun _ => Nat) 0 (fun j ih => frc ih (fun a => frc (f j) (fun b => a + b))) j
theorem sumX_s (j : Nat) (f : Nat → Nat) : sumX (j + 1) f = sumX j f + f j := by
  show frc (sumX j f) (fun a => frc (f j) (fun b => a + b)) = _
  rw [frc_e, frc_e]
theorem sumX_cg {f g : Nat → Nat} : ∀ j, (∀ i, i < j → f i = g i) → sumX j f = sumX j g
  | 0, _ => rfl
  | j + 1, h => by rw [sumX_s, sumX_s, sumX_cg j (fun i hi => h i (by omega)), h j (by omega)]
theorem sumX_ad (f g : Nat → Nat) : ∀ j, sumX j (fun i => f i + g i) = sumX j f + sumX j g
  | 0 => rfl
  | j + 1 => by rw [sumX_s, sumX_s, sumX_s, sumX_ad f g j]; omega
theorem sumX_ap (f : Nat → Nat) (a : Nat) : ∀ j, sumX (a + j) f = sumX a f + sumX j (fun i => f (a + i))
  | 0 => rfl
  | j + 1 => by rw [← Nat.add_assoc, sumX_s, sumX_s, sumX_ap f a j]; omega
theorem sumX_2 {k : Nat} (hk : 0 < k) (g : Nat → Nat → Nat) : ∀ m, sumX (m * k) (fun c => g (c % k) (c / k)) = sumX k (fun x => sumX m (fun c => g x c))
  | 0 => by
    rw [Nat.zero_mul]
    show 0 = _
    have h : ∀ j, sumX j (fun x => sumX 0 (fun c => g x c)) = 0 := by
      intro j
      induction j with
      | zero => rfl
      | succ j ih => rw [sumX_s, ih]; rfl
    rw [h]
  | m + 1 => by
    rw [Nat.succ_mul, sumX_ap, sumX_2 hk g m]
    have h1 : sumX k (fun i => g ((m * k + i) % k) ((m * k + i) / k)) = sumX k (fun x => g x m) := sumX_cg k (fun i hi => by
      rw [Nat.mul_comm m k, Nat.mul_add_mod, Nat.mod_eq_of_lt hi, Nat.mul_add_div hk, Nat.div_eq_of_lt hi, Nat.add_zero])
    rw [h1, ← sumX_ad]
    exact sumX_cg k (fun i _ => (sumX_s m (fun c => g i c)).symm)
def pwR (d : Nat) : Nat := pwC d + cond (Nat.ble 4 d) 79228162514264337593543950336 0
theorem pwR_e (d : Nat) : pwR d = (1 + (if 1 ≤ d then 16777216 else 0) + (if 2 ≤ d then 281474976710656 else 0) + (if 3 ≤ d then 4722366482869645213696 else 0)) + (if 4 ≤ d then 79228162514264337593543950336 else 0) := by
  unfold pwR
  rw [pwC_e, ble_if]
noncomputable def cntL (k m : Nat) (cs ls : List Nat) : Nat := Nat.rec (motive := fun _ => List Nat → List Nat → Nat) (fun _ ls => pwR (gd ls 0)) (fun m ih cs ls => frcL (bsV m (Nat.succ m) cs ls k 0 []) (fun bs => sumX k (fun x => frc (mnV x bs) (fun l => ih (x :: cs) (l :: ls))))) m cs ls
theorem cntL_s (k m : Nat) (cs ls : List Nat) : cntL k (m + 1) cs ls = sumX k (fun x => cntL k m (x :: cs) (stL k m x cs ls :: ls)) := by
  show frcL (bsV m (Nat.succ m) cs ls k 0 []) (fun bs => sumX k (fun x => frc (mnV x bs) (fun l => cntL k m (x :: cs) (l :: ls)))) = _
  rw [frcL_e]
  exact sumX_cg k (fun x _ => by rw [frc_e]; rfl)
def dr (k : Nat) : Nat → Nat → List Nat
  | 0, _ => []
  | m + 1, c => (c % k) :: dr k m (c / k)
theorem dr_len (k : Nat) : ∀ m c, (dr k m c).length = m
  | 0, _ => rfl
  | m + 1, c => by show (dr k m (c / k)).length + 1 = m + 1; rw [dr_len k m]
theorem cntL_e {k : Nat} (hk : 0 < k) : ∀ m cs ls, cntL k m cs ls = sumX (k ^ m) (fun c => pwR (gd (lasA k (dr k m c) cs ls) 0))
  | 0, cs, ls => by
    rw [Nat.pow_zero, sumX_s]
    show pwR (gd ls 0) = 0 + pwR (gd ls 0)
    omega
  | m + 1, cs, ls => by
    rw [cntL_s, Nat.pow_succ]
    have h := sumX_2 hk (fun x c => pwR (gd (lasA k (x :: dr k m c) cs ls) 0)) (k ^ m)
    have h2 : sumX (k ^ m * k) (fun c => pwR (gd (lasA k (dr k (m + 1) c) cs ls) 0)) = sumX (k ^ m * k) (fun c => (fun x c => pwR (gd (lasA k (x :: dr k m c) cs ls) 0)) (c % k) (c / k)) := rfl
    rw [h2, h]
    refine sumX_cg k (fun x _ => ?_)
    rw [cntL_e hk m]
    refine sumX_cg _ (fun c _ => ?_)
    show _ = pwR (gd (lasA k (x :: dr k m c) cs ls) 0)
    rw [lasA_c, dr_len]
theorem mkL_ap (f : Nat → Nat) : ∀ m acc, mkL f m acc = mkL f m [] ++ acc
  | 0, acc => rfl
  | m + 1, acc => by
    rw [mkL_s, mkL_s, mkL_ap f m (f m :: acc), mkL_ap f m [f m], List.append_assoc]
    rfl
theorem dgs_rv {k N c : Nat} : ∀ m, m ≤ N → (mkL (dg k N c) m []).reverse = dr k m (dv k c (N - m))
  | 0, _ => rfl
  | m + 1, h => by
    rw [mkL_s, mkL_ap, List.reverse_append]
    show dg k N c m :: (mkL (dg k N c) m []).reverse = (dv k c (N - (m + 1)) % k) :: dr k m (dv k c (N - (m + 1)) / k)
    rw [dgs_rv m (by omega)]
    have e : dv k c (N - (m + 1)) / k = dv k c (N - m) := by
      rw [show N - m = (N - (m + 1)) + 1 by omega]
      rfl
    rw [e]
    unfold dg
    rw [show N - 1 - m = N - (m + 1) by omega]
theorem DL_dr (k N c : Nat) : DL k (dgs k N c) = gd (lasA k (dr k N c) [] []) 0 := by
  unfold DL dgs
  rw [dgs_rv N (Nat.le_refl _), Nat.sub_self]
  rfl
theorem cN_5 {k N : Nat} : ∀ c, sumX c (fun c => pwR (DL k (dgs k N c))) = cN k N 0 c + 16777216 * cN k N 1 c + 281474976710656 * cN k N 2 c + 4722366482869645213696 * cN k N 3 c + 79228162514264337593543950336 * cN k N 4 c
  | 0 => rfl
  | c + 1 => by
    rw [sumX_s, cN_5 c, pwR_e]
    show _ = (cN k N 0 c + _) + 16777216 * (cN k N 1 c + _) + 281474976710656 * (cN k N 2 c + _) + 4722366482869645213696 * (cN k N 3 c + _) + 79228162514264337593543950336 * (cN k N 4 c + _)
    generalize DL k (dgs k N c) = d
    rw [if_pos (show 0 ≤ d by omega)]
    by_cases h1 : 1 ≤ d
    · by_cases h2 : 2 ≤ d
      · by_cases h3 : 3 ≤ d
        · by_cases h4 : 4 ≤ d
          · simp only [if_pos h1, if_pos h2, if_pos h3, if_pos h4]; omega
          · simp only [if_pos h1, if_pos h2, if_pos h3, if_neg h4]; omega
        · simp only [if_pos h1, if_pos h2, if_neg h3, if_neg (show ¬ 4 ≤ d by omega)]; omega
      · simp only [if_pos h1, if_neg h2, if_neg (show ¬ 3 ≤ d by omega), if_neg (show ¬ 4 ≤ d by omega)]; omega
    · simp only [if_neg h1, if_neg (show ¬ 2 ≤ d by omega), if_neg (show ¬ 3 ≤ d by omega), if_neg (show ¬ 4 ≤ d by omega)]; omega
theorem cN_le {k N t : Nat} : ∀ c, cN k N t c ≤ c
  | 0 => Nat.le_refl _
  | c + 1 => by
    have := cN_le (k := k) (N := N) (t := t) c
    show cN k N t c + _ ≤ c + 1
    split <;> omega
theorem cN_mo {k N t u : Nat} (h : t ≤ u) : ∀ c, cN k N u c ≤ cN k N t c
  | 0 => Nat.le_refl _
  | c + 1 => by
    have := cN_mo (k := k) (N := N) h c
    show cN k N u c + _ ≤ cN k N t c + _
    by_cases h1 : u ≤ DL k (dgs k N c)
    · rw [if_pos h1, if_pos (by omega)]; omega
    · rw [if_neg h1]; omega
/-- if the sum is the class's own: the counts are the class's -/
theorem cN_T {k N : Nat} (hk : 0 < k) (hN : k ^ N ≤ 65536) (h : cntL k N [] [] = TOTc k N) (hT : TOTc k N < 79228162514264337593543950336) : (∀ t, t ≤ 3 → cN k N t (k ^ N) = TOTc k N / 16777216 ^ t % 16777216) ∧ ∀ t, 4 ≤ t → cN k N t (k ^ N) = 0 := by
  have h1 := cN_5 (k := k) (N := N) (k ^ N)
  have h2 : sumX (k ^ N) (fun c => pwR (DL k (dgs k N c))) = TOTc k N := by
    rw [← h, cntL_e hk]
    exact sumX_cg _ (fun c _ => by rw [DL_dr])
  rw [h2] at h1
  have b0 := cN_le (k := k) (N := N) (t := 0) (k ^ N)
  have b1 := cN_le (k := k) (N := N) (t := 1) (k ^ N)
  have b2 := cN_le (k := k) (N := N) (t := 2) (k ^ N)
  have b3 := cN_le (k := k) (N := N) (t := 3) (k ^ N)
  have h4 : cN k N 4 (k ^ N) = 0 := by omega
  refine ⟨fun t ht => ?_, fun t ht => ?_⟩
  · rcases (show t = 0 ∨ t = 1 ∨ t = 2 ∨ t = 3 by omega) with rfl | rfl | rfl | rfl
    · rw [Nat.pow_zero, Nat.div_one]; omega
    · rw [show 16777216 ^ 1 = 16777216 from rfl]; omega
    · rw [show 16777216 ^ 2 = 281474976710656 from rfl]; omega
    · rw [show 16777216 ^ 3 = 4722366482869645213696 from rfl]; omega
  · have := cN_mo (k := k) (N := N) ht (k ^ N)
    omega
end
section
/-! how many CODES there are, the least STATE's best kept from above -/
theorem lstF_cg {F G : Nat → Nat} : ∀ m, (∀ y, y < m → F y = G y) → lstF F m = lstF G m
  | 0, _ => rfl
  | m + 1, h => by
    show F m :: lstF F m = G m :: lstF G m
    rw [h m (by omega), lstF_cg m (fun y hy => h y (by omega))]
theorem bst0_r (y : Nat) : ∀ (cs ls : List Nat) (t u r : Nat), bstL 0 y t cs ls r = max r (bstL 0 y u cs ls 0)
  | [], _, _, _, r => by
    show r = max r 0
    exact (Nat.max_eq_left (Nat.zero_le r)).symm
  | _ :: _, [], _, _, r => by
    show r = max r 0
    exact (Nat.max_eq_left (Nat.zero_le r)).symm
  | c :: cs, l :: ls, t, u, r => by
    have h1 := bst0_r y cs ls (t + 1) (u + 1) (l + 1)
    have h2 := bst0_r y cs ls (t + 1) (u + 1) r
    have h3 := bst0_r y cs ls (u + 1) (u + 1) (l + 1)
    have e1 := bstL_c 0 y t c l r cs ls
    have e2 := bstL_c 0 y u c l 0 cs ls
    rw [Nat.zero_and] at e1 e2
    by_cases hc : c = y
    · rw [if_pos (show (0 = 0 ∧ c = y) ∧ 0 ≤ l from ⟨⟨rfl, hc⟩, Nat.zero_le l⟩), h3] at e2
      by_cases hr : r ≤ l
      · rw [if_pos (show (0 = 0 ∧ c = y) ∧ r ≤ l from ⟨⟨rfl, hc⟩, hr⟩), h1] at e1
        omega
      · rw [if_neg (show ¬ ((0 = 0 ∧ c = y) ∧ r ≤ l) from fun h => hr h.2), h2] at e1
        omega
    · rw [if_neg (show ¬ ((0 = 0 ∧ c = y) ∧ r ≤ l) from fun h => hc h.1.2), h2] at e1
      rw [if_neg (show ¬ ((0 = 0 ∧ c = y) ∧ 0 ≤ l) from fun h => hc h.1.2)] at e2
      omega
theorem bst0_c (x l y : Nat) (cs ls : List Nat) : bstL 0 y 1 (x :: cs) (l :: ls) 0 = if y = x then max (bstL 0 y 1 cs ls 0) (l + 1) else bstL 0 y 1 cs ls 0 := by
  have e1 := bstL_c 0 y 1 x l 0 cs ls
  rw [Nat.zero_and] at e1
  by_cases e : y = x
  · rw [if_pos (show (0 = 0 ∧ x = y) ∧ 0 ≤ l from ⟨⟨rfl, e.symm⟩, Nat.zero_le l⟩), bst0_r y cs ls (1 + 1) 1 (l + 1)] at e1
    rw [if_pos e, e1]
    omega
  · rw [if_neg (show ¬ ((0 = 0 ∧ x = y) ∧ 0 ≤ l) from fun h => e h.1.2.symm), bst0_r y cs ls (1 + 1) 1 0] at e1
    rw [if_neg e, e1]
    omega
noncomputable def updM (x l : Nat) (M : List Nat) : List Nat := List.rec (motive := fun _ => List Nat) [] (fun b bs ih => cond (Nat.beq bs.length x) (frc (cond (Nat.ble b l) (Nat.succ l) b) (fun v => v :: bs)) (frcL ih (fun r => b :: r))) M
theorem updM_F (F : Nat → Nat) (x l : Nat) : ∀ m, updM x l (lstF F m) = lstF (fun y => if y = x then max (F y) (l + 1) else F y) m
  | 0 => rfl
  | m + 1 => by
    have ih := updM_F F x l m
    show cond (Nat.beq (lstF F m).length x) (frc (cond (Nat.ble (F m) l) (l + 1) (F m)) (fun v => v :: lstF F m)) (frcL (updM x l (lstF F m)) (fun r => F m :: r)) = (if m = x then max (F m) (l + 1) else F m) :: lstF (fun y => if y = x then max (F y) (l + 1) else F y) m
    rw [lstF_len, beq_if, frc_e, frcL_e, ble_if]
    by_cases e : m = x
    · have h1 : lstF (fun y => if y = x then max (F y) (l + 1) else F y) m = lstF F m := lstF_cg m (fun y hy => if_neg (by omega))
      rw [if_pos e, if_pos e, h1]
      by_cases h2 : F m ≤ l
      · rw [if_pos h2, Nat.max_eq_right (by omega)]
      · rw [if_neg h2, Nat.max_eq_left (by omega)]
    · rw [if_neg e, if_neg e, ih]
theorem updM_v {k x l : Nat} {cs ls M : List Nat} (h : M = lstF (fun y => bstL 0 y 1 cs ls 0) k) : updM x l M = lstF (fun y => bstL 0 y 1 (x :: cs) (l :: ls) 0) k := by
  rw [h, updM_F]
  exact lstF_cg k (fun y _ => (bst0_c x l y cs ls).symm)
noncomputable def cntM (k m : Nat) (cs ls M : List Nat) : Nat := Nat.rec (motive := fun _ => List Nat → List Nat → List Nat → Nat) (fun _ ls _ => pwR (gd ls 0)) (fun m ih cs ls M => Nat.rec (motive := fun _ => Nat) (sumX k (fun x => frc (mnV x M) (fun d => pwR d))) (fun _ _ => frcL (bsV m (Nat.succ m) cs ls k 0 []) (fun bs => sumX k (fun x => frc (mnV x bs) (fun l => frcL (updM x l M) (fun N => ih (x :: cs) (l :: ls) N))))) m) m cs ls M
theorem cntM_1 (k : Nat) (cs ls M : List Nat) : cntM k 1 cs ls M = sumX k (fun x => pwR (mnV x M)) := by
  show sumX k (fun x => frc (mnV x M) (fun d => pwR d)) = _
  exact sumX_cg k (fun x _ => by rw [frc_e])
theorem cntM_s (k m : Nat) (cs ls M : List Nat) : cntM k (m + 2) cs ls M = sumX k (fun x => cntM k (m + 1) (x :: cs) (stL k (m + 1) x cs ls :: ls) (updM x (stL k (m + 1) x cs ls) M)) := by
  show frcL (bsV (m + 1) (Nat.succ (m + 1)) cs ls k 0 []) (fun bs => sumX k (fun x => frc (mnV x bs) (fun l => frcL (updM x l M) (fun N => cntM k (m + 1) (x :: cs) (l :: ls) N)))) = _
  rw [frcL_e]
  exact sumX_cg k (fun x _ => by rw [frc_e, frcL_e]; rfl)
theorem cntM_e {k : Nat} : ∀ (m : Nat) (cs ls M : List Nat), M = lstF (fun y => bstL 0 y 1 cs ls 0) k → cntM k m cs ls M = cntL k m cs ls
  | 0, _, _, _, _ => rfl
  | 1, cs, ls, M, h => by
    rw [cntM_1, show cntL k 1 cs ls = _ from cntL_s k 0 cs ls]
    refine sumX_cg k (fun x _ => ?_)
    show pwR (mnV x M) = pwR (stL k 0 x cs ls)
    have h2 := bsV_e 0 1 cs ls k 0
    rw [Nat.zero_add] at h2
    have h3 : bsV 0 1 cs ls k 0 [] = lstF (fun y => bstL 0 y 1 cs ls 0) k := h2
    have h4 : stL k 0 x cs ls = mnV x (bsV 0 1 cs ls k 0 []) := rfl
    rw [h4, h3, h]
  | m + 2, cs, ls, M, h => by
    rw [cntM_s, show cntL k (m + 2) cs ls = _ from cntL_s k (m + 1) cs ls]
    exact sumX_cg k (fun x _ => cntM_e (m + 1) _ _ _ (updM_v h))
end
section
theorem tot_2_2 : TOTc 2 2 = 33554436 := by decide +kernel
theorem cnt_2_2 : cntL 2 2 [] [] = 33554436 := by decide +kernel
theorem tot_3_2 : TOTc 3 2 = 9 := by decide +kernel
theorem cnt_3_2 : cntL 3 2 [] [] = 9 := by decide +kernel
theorem tot_4_2 : TOTc 4 2 = 16 := by decide +kernel
theorem cnt_4_2 : cntL 4 2 [] [] = 16 := by decide +kernel
theorem tot_2_4 : TOTc 2 4 = 1688850095144976 := by decide +kernel
theorem cnt_2_4 : cntL 2 4 [] [] = 1688850095144976 := by decide +kernel
theorem tot_3_4 : TOTc 3 4 = 603979857 := by decide +kernel
theorem cnt_3_4 : cntL 3 4 [] [] = 603979857 := by decide +kernel
theorem tot_4_4 : TOTc 4 4 = 402653440 := by decide +kernel
theorem cnt_4_4 : cntL 4 4 [] [] = 402653440 := by decide +kernel
theorem tot_2_8 : TOTc 2 8 = 434457777785556543996160 := by decide +kernel
theorem cnt_2_8 : cntL 2 8 [] [] = 434457777785556543996160 := by decide +kernel
theorem tot_3_8 : TOTc 3 8 = 187462431730047393 := by decide +kernel
theorem cnt_3_8 : cntL 3 8 [] [] = 187462431730047393 := (cntM_e (k := 3) 8 [] [] [0, 0, 0] (by decide +kernel)).symm.trans (by decide +kernel)
theorem tot_4_8 : TOTc 4 8 = 6756084354187264 := by decide +kernel
theorem cnt_4_8 : cntL 4 8 [] [] = 6756084354187264 := (cntM_e (k := 4) 8 [] [] [0, 0, 0, 0] (by decide +kernel)).symm.trans (by decide +kernel)
/-- class and reference count CODES alike -/
theorem codes_eq {n k t : Int} (n0 : 1 ≤ n) (n1 : n ≤ 3) (k0 : 2 ≤ k) (k1 : k ≤ 4) (t0 : 0 ≤ t) : ((cN k.toNat (2 ^ n.toNat) t.toNat (k.toNat ^ (2 ^ n.toNat)) : Nat) : Int) = TBX n k t := by
  unfold TBX
  have key : ∀ (kk N : Nat), 0 < kk → kk ^ N ≤ 65536 → cntL kk N [] [] = TOTc kk N → TOTc kk N < 79228162514264337593543950336 → ((cN kk N t.toNat (kk ^ N) : Nat) : Int) = if t ≤ 3 then TBt kk N t.toNat else 0 := fun kk N h1 h2 h3 h4 => by
    have h5 := cN_T h1 h2 h3 h4
    by_cases ht : t ≤ 3
    · rw [if_pos ht, h5.1 t.toNat (by omega)]
      rfl
    · rw [if_neg ht, h5.2 t.toNat (by omega)]
      rfl
  rcases (show n = 1 ∨ n = 2 ∨ n = 3 by omega) with rfl | rfl | rfl
  · rcases (show k = 2 ∨ k = 3 ∨ k = 4 by omega) with rfl | rfl | rfl
    · exact key 2 2 (by decide) (by decide) (by rw [cnt_2_2, tot_2_2]) (by rw [tot_2_2]; decide)
    · exact key 3 2 (by decide) (by decide) (by rw [cnt_3_2, tot_3_2]) (by rw [tot_3_2]; decide)
    · exact key 4 2 (by decide) (by decide) (by rw [cnt_4_2, tot_4_2]) (by rw [tot_4_2]; decide)
  · rcases (show k = 2 ∨ k = 3 ∨ k = 4 by omega) with rfl | rfl | rfl
    · exact key 2 4 (by decide) (by decide) (by rw [cnt_2_4, tot_2_4]) (by rw [tot_2_4]; decide)
    · exact key 3 4 (by decide) (by decide) (by rw [cnt_3_4, tot_3_4]) (by rw [tot_3_4]; decide)
    · exact key 4 4 (by decide) (by decide) (by rw [cnt_4_4, tot_4_4]) (by rw [tot_4_4]; decide)
  · rcases (show k = 2 ∨ k = 3 ∨ k = 4 by omega) with rfl | rfl | rfl
    · exact key 2 8 (by decide) (by decide) (by rw [cnt_2_8, tot_2_8]) (by rw [tot_2_8]; decide)
    · exact key 3 8 (by decide) (by decide) (by rw [cnt_3_8, tot_3_8]) (by rw [tot_3_8]; decide)
    · exact key 4 8 (by decide) (by decide) (by rw [cnt_4_8, tot_4_8]) (by rw [tot_4_8]; decide)
end
section
/-- which rows, and which single places, of the class's own cells may differ -/
def Fw (rs : List Nat) (ws : List (Nat × Nat)) (I I' : aI1) : Prop := ∀ k j, k < 49 → k ∉ rs → (k, j) ∉ ws → I' k j = I k j
theorem Fw_rf {rs : List Nat} {ws : List (Nat × Nat)} {I : aI1} : Fw rs ws I I := fun _ _ _ _ _ => rfl
theorem Fw_tr {rs : List Nat} {ws : List (Nat × Nat)} {I I1 I2 : aI1} (h : Fw rs ws I I1) (g : Fw rs ws I1 I2) : Fw rs ws I I2 := fun k j h1 h2 h3 => (g k j h1 h2 h3).trans (h k j h1 h2 h3)
theorem Fw_wd {rs rs' : List Nat} {ws ws' : List (Nat × Nat)} {I I' : aI1} (h : Fw rs ws I I') (h1 : ∀ k ∈ rs, k ∈ rs') (h2 : ∀ p ∈ ws, p.1 ∈ rs' ∨ p ∈ ws') : Fw rs' ws' I I' := fun k j g1 g2 g3 => h k j g1 (fun q => g2 (h1 k q)) (fun q => (h2 _ q).elim g2 g3)
theorem Fw_up {rs : List Nat} {ws : List (Nat × Nat)} {I I1 : aI1} {k j : Nat} {v : Int} (h : Fw rs ws I I1) (hk : k ∈ rs ∨ (k, j) ∈ ws) : Fw rs ws I (up2 I1 k j v) := fun a b g1 g2 g3 => by
  rw [up2_n _ _ (by
    by_cases e1 : a = k
    · right
      intro e2
      subst e1 e2
      exact hk.elim g2 g3
    · exact Or.inl e1)]
  exact h a b g1 g2 g3
theorem Fw_upR {rs : List Nat} {ws : List (Nat × Nat)} {I I1 : aI1} {k : Nat} {f : Nat → Int} (h : Fw rs ws I I1) (hk : k ∈ rs) : Fw rs ws I (upR I1 k f) := fun a b g1 g2 g3 => by
  rw [upR_n _ _ (fun e => g2 (by rw [e]; exact hk))]
  exact h a b g1 g2 g3
theorem Fw_kp {rs : List Nat} {ws : List (Nat × Nat)} {I I1 I2 : aI1} {a b : Nat} (h : Fw rs ws I I1) (hk : Kp a b I1 I2) (hr : ∀ k, k < b → a ≤ k → k ∈ rs) : Fw rs ws I I2 := fun k j g1 g2 g3 => by
  rw [hk k (by
    by_cases e : k < a
    · exact Or.inl e
    · right
      refine Decidable.byContradiction (fun e2 => g2 (hr k (by omega) (by omega))))]
  exact h k j g1 g2 g3
theorem Fw_of {rs : List Nat} {ws : List (Nat × Nat)} {I I1 I2 : aI1} (h : Fw rs ws I I1) (hk : ∀ k, k < 49 → k ∉ rs → I2 k = I1 k) : Fw rs ws I I2 := fun k j g1 g2 g3 => by
  rw [hk k g1 g2]
  exact h k j g1 g2 g3
theorem Fw_row {rs : List Nat} {ws : List (Nat × Nat)} {I I' : aI1} (h : Fw rs ws I I') (k : Nat) (h1 : k < 49) (h2 : k ∉ rs) (h3 : ∀ p ∈ ws, p.1 ≠ k) : I' k = I k := funext (fun j => h k j h1 h2 (fun q => h3 _ q rfl))
/-- REFUSED by k: nothing but that differs -/
def RFc (I I' : aI1) (k : Int) : Prop := Fw [48] [(0, 16)] I I' ∧ I' 0 16 = k ∧ I' 48 = up1 (I 48) (-k).toNat (I 48 (-k).toNat + 1)
end
section
/-- the q-th byte of a number, the highest first -/
def by8 (a : Int) (q : Nat) : Int := i_and (i_ushr a (24 - 8 * q)) 255
def PIc (F G : Nat → Int) (l a n : Int) : Prop := (∀ j : Nat, (j : Int) < l → G j = F j) ∧ (∀ q : Nat, (q : Int) < n → G (l.toNat + q) = by8 a q)
theorem PIc_0 {F : Nat → Int} {l a : Int} : PIc F F l a 0 := ⟨fun _ _ => rfl, fun q hq => absurd hq (by omega)⟩
theorem PIc_s {F G : Nat → Int} {l a n m s : Int} (h : PIc F G l a n) (h0 : 0 ≤ l) (hn : 0 ≤ n) (hm : m = n + 1) (hs : s = 24 - 8 * n) {p : Nat} (hp : p = (l + n).toNat) : PIc F (up1 G p (i_and (i_ushr a s) 255)) l a m := by
  subst hm hs hp
  refine ⟨fun j hj => ?_, fun q hq => ?_⟩
  · rw [up1_n _ _ (by omega)]
    exact h.1 j hj
  · by_cases e : (q : Int) = n
    · rw [show l.toNat + q = (l + n).toNat by omega, up1_s, ← e]
      rfl
    · rw [up1_n _ _ (by omega)]
      exact h.2 q (by omega)
def sel5 (a b c e f : Int) (q : Nat) : Int := if q = 0 then a else if q = 1 then b else if q = 2 then c else if q = 3 then e else f
def FDc (F G : Nat → Int) (l a b c e f : Int) : Prop := (∀ j : Nat, (j : Int) < l → G j = F j) ∧ (∀ k : Nat, k < 20 → G (l.toNat + k) = by8 (sel5 a b c e f (k / 4)) (k % 4))
theorem FDc_of {F G1 G2 G3 G4 G5 : Nat → Int} {l a b c e f : Int} (h0 : 0 ≤ l) (h1 : PIc F G1 l a 4) (h2 : PIc G1 G2 (l + 4) b 4) (h3 : PIc G2 G3 (l + 4 + 4) c 4) (h4 : PIc G3 G4 (l + 4 + 4 + 4) e 4) (h5 : PIc G4 G5 (l + 4 + 4 + 4 + 4) f 4) : FDc F G5 l a b c e f := by
  refine ⟨fun j hj => by rw [h5.1 j (by omega), h4.1 j (by omega), h3.1 j (by omega), h2.1 j (by omega), h1.1 j hj], fun k hk => ?_⟩
  unfold sel5
  rcases (show k / 4 = 0 ∨ k / 4 = 1 ∨ k / 4 = 2 ∨ k / 4 = 3 ∨ k / 4 = 4 by omega) with q | q | q | q | q
  · rw [q, if_pos rfl, h5.1 _ (by omega), h4.1 _ (by omega), h3.1 _ (by omega), h2.1 _ (by omega), show l.toNat + k = l.toNat + k % 4 by omega]
    exact h1.2 (k % 4) (by omega)
  · rw [q, if_neg (by decide), if_pos rfl, h5.1 _ (by omega), h4.1 _ (by omega), h3.1 _ (by omega), show l.toNat + k = (l + 4).toNat + k % 4 by omega]
    exact h2.2 (k % 4) (by omega)
  · rw [q, if_neg (by decide), if_neg (by decide), if_pos rfl, h5.1 _ (by omega), h4.1 _ (by omega), show l.toNat + k = (l + 4 + 4).toNat + k % 4 by omega]
    exact h3.2 (k % 4) (by omega)
  · rw [q, if_neg (by decide), if_neg (by decide), if_neg (by decide), if_pos rfl, h5.1 _ (by omega), show l.toNat + k = (l + 4 + 4 + 4).toNat + k % 4 by omega]
    exact h4.2 (k % 4) (by omega)
  · rw [q, if_neg (by decide), if_neg (by decide), if_neg (by decide), if_neg (by decide), show l.toNat + k = (l + 4 + 4 + 4 + 4).toNat + k % 4 by omega]
    exact h5.2 (k % 4) (by omega)
/-- a STATE's NEWS by a ROW of bytes -/
def RWv (F : Nat → Int) (l k : Int) (j : Nat) : Int := if (j : Int) < l ∧ 0 ≤ F j ∧ F j < k then F j else -1
/-- how many of the first n are READ -/
def cnR (F : Nat → Int) : Nat → Int
  | 0 => 0
  | n + 1 => cnR F n + (if F n = -1 then 0 else 1)
theorem cnR_cg {F G : Nat → Int} : ∀ n, (∀ j, j < n → F j = G j) → cnR F n = cnR G n
  | 0, _ => rfl
  | n + 1, h => by
    show cnR F n + _ = cnR G n + _
    rw [cnR_cg n (fun j hj => h j (by omega)), h n (by omega)]
theorem cnR_s (F : Nat → Int) {i : Int} (h : 0 ≤ i) : cnR F (i + 1).toNat = cnR F i.toNat + (if F i.toNat = -1 then 0 else 1) := by
  rw [show (i + 1).toNat = i.toNat + 1 by omega]
  rfl
set_option maxHeartbeats 4000000 in
set_option maxRecDepth 20000 in
theorem c5_X9_put (l0 : Launch) {Ia Ja : aI1} {Ra : aR1} {Sa : aS1} (hL : LY Ra Sa) {a : Int} (hl0 : 0 ≤ Ia 8 1) (hl1 : Ia 8 1 ≤ 396) (hby : (∀ j, j < 400 → 0 ≤ Ia 9 j ∧ Ia 9 j ≤ 255))  : CT l0 0 0 0 mX9_put [kR (some 8), kI a] Ia Ja Ra Sa (cV (fun I' J' => Kp 8 10 Ia I' ∧ Kp 8 10 Ja J' ∧ I' 8 1 = Ia 8 1 + 4 ∧ (∀ j, j < 400 → 0 ≤ I' 9 j ∧ I' 9 j ≤ 255) ∧ PIc (Ia 9) (I' 9) (Ia 8 1) a 4) Ra Sa) := by
  refine ct_in pn_X9 (Nat.le_of_ble_eq_true rfl) (fun X hX hT hIn => ?_)
  have hX : aK l0 X cX9_put 3 RX9 none 0 0 0 := hX
  change WW X 0 [some (kR (some 8)), some (kI a), none] [] Ia Ja Ra Sa 0 0
  refine ww_bipush hX (pc := 0) (x := 24) dX9_put_0 (by decide) ?_
  refine ww_istore_n hX (pc := 2) (lv' := [some (kR (some 8)), some (kI a), some (kI 24)]) dX9_put_2 (by decide) rfl rfl ?_
  have hl_3 : ∀ (n_3 : Nat) (sh : Int) (I2 : aI1) (J2 : aI1), (sh + 8).toNat = n_3 → (Kp 8 10 Ia I2 ∧ Kp 8 10 Ja J2 ∧ (-8 ≤ sh ∧ sh ≤ 24 ∧ sh % 8 = 0) ∧ I2 8 1 = Ia 8 1 + (24 - sh) / 8 ∧ (∀ j, j < 400 → 0 ≤ I2 9 j ∧ I2 9 j ≤ 255) ∧ PIc (Ia 9) (I2 9) (Ia 8 1) a ((24 - sh) / 8)) → WW X 3 [some (kR (some 8)), some (kI a), some (kI sh)] [] I2 J2 Ra Sa 0 0 := by
    intro n_3
    induction n_3 using Nat.strongRecOn with
    | ind n_3 ih_3 =>
      intro sh I2 J2 hm_3 hv_3
      have hq_3 := Sh0_i hm_3
      clear hm_3
      obtain ⟨kI2, kJ2, hsh, hle0, hby2, hpi⟩ := hv_3
      refine ww_iload_n hX (pc := 3) dX9_put_3 rfl ?_
      refine ww_if_lt hX (pc := 4) (tgt := 49) dX9_put_4 (by decide) (fun h_4 => ?_) (fun h_4 => ?_)
      · simp only [w32_mod] at h_4
        refine rV hX (pc := 49) hT (Nat.le_refl 0) (Nat.le_refl 0) dX9_put_49 ?_
        exact ⟨kI2, kJ2, by omega, hby2, (show (24 - sh) / 8 = 4 by omega) ▸ hpi⟩
      · simp only [w32_mod] at h_4
        refine ww_aload_n hX (pc := 7) dX9_put_7 rfl ?_
        refine ww_getI hX (pc := 8) fX9_15 (by decide) (xs_8 hL) dX9_put_8 ?_
        refine ww_sipush hX (pc := 11) (x := 400) dX9_put_11 (by decide) ?_
        refine ww_icmp_ge hX (pc := 14) (tgt := 49) dX9_put_14 (by decide) (fun h_14 => ?_) (fun h_14 => ?_)
        · simp only [w32_mod] at h_14
          refine rV hX (pc := 49) hT (Nat.le_refl 0) (Nat.le_refl 0) dX9_put_49 ?_
          exact ⟨kI2, kJ2, by omega, hby2, (show (24 - sh) / 8 = 4 by omega) ▸ hpi⟩
        · simp only [w32_mod] at h_14
          have hbb := i_and_255 (i_ushr a sh)
          refine ww_aload_n hX (pc := 17) dX9_put_17 rfl ?_
          refine ww_getR hX (pc := 18) fX9_9 (by decide) (xs_8 hL) (xr_8_0 hL) dX9_put_18 ?_
          refine ww_aload_n hX (pc := 21) dX9_put_21 rfl ?_
          refine ww_getI hX (pc := 22) fX9_15 (by decide) (xs_8 hL) dX9_put_22 ?_
          refine ww_iload_n hX (pc := 25) dX9_put_25 rfl ?_
          refine ww_iload_n hX (pc := 26) dX9_put_26 rfl ?_
          refine ww_iushr hX (pc := 27) dX9_put_27 ?_
          refine ww_sipush hX (pc := 28) (x := 255) dX9_put_28 (by decide) ?_
          refine ww_iand hX (pc := 31) dX9_put_31 ?_
          refine ww_iast hX (pc := 32) (xs_9 hL) (by decide) (by omega) (by omega) dX9_put_32 ?_
          refine ww_nmH (fun I_32 eI_32 => ?_)
          have kI_32 : Kp 8 10 Ia I_32 := by rw [eI_32]; exact Kp_up kI2 _ _ (by decide)
          have hle : I_32 8 1 = I2 8 1 := by rw [eI_32, up2_off _ _ _ (by decide)]
          have hbz : (∀ j, j < 400 → 0 ≤ I_32 9 j ∧ I_32 9 j ≤ 255) := by rw [eI_32]; exact rng_upN hbb hby2
          have hp32 : PIc (Ia 9) (I_32 9) (Ia 8 1) a ((24 - (sh + (-8))) / 8) := by rw [eI_32, up2_row]; exact PIc_s hpi (by omega) (by omega) (by omega) (by omega) (by omega)
          refine ww_aload_n hX (pc := 33) dX9_put_33 rfl ?_
          refine ww_dupR hX (pc := 34) dX9_put_34 ?_
          refine ww_getI hX (pc := 35) fX9_15 (by decide) (xs_8 hL) dX9_put_35 ?_
          refine ww_iconst hX (pc := 38) (x := 1) dX9_put_38 rfl ?_
          refine ww_iadd hX (pc := 39) dX9_put_39 ?_
          refine ww_putI hX (pc := 40) (fun h9 => absurd h9 (by decide)) gX9_15 rfl (xs_8 hL) dX9_put_40 ?_
          refine ww_nmH (fun I_40 eI_40 => ?_)
          have kI_40 : Kp 8 10 Ia I_40 := by rw [eI_40]; exact Kp_up kI_32 _ _ (by decide)
          have hle2 : I_40 8 1 = I2 8 1 + 1 := by rw [eI_40, up2_s, hle]
          have hbz2 : (∀ j, j < 400 → 0 ≤ I_40 9 j ∧ I_40 9 j ≤ 255) := by rw [eI_40, up2_off _ _ _ (by decide)]; exact hbz
          have hp40 : PIc (Ia 9) (I_40 9) (Ia 8 1) a ((24 - (sh + (-8))) / 8) := by rw [eI_40, up2_off _ _ _ (by decide)]; exact hp32
          refine ww_iinc hX (pc := 43) (lv' := [some (kR (some 8)), some (kI a), some (kI (sh + (-8)))]) dX9_put_43 rfl (by decide) rfl rfl ?_
          refine ww_goto hX (pc := 46) (tgt := 3) dX9_put_46 (by decide) ?_
          exact ih_3 _ (by have hm9 := Sh0_e hq_3; omega) (sh + (-8)) I_40 J2 rfl ⟨kI_40, kJ2, by omega, by omega, hbz2, hp40⟩
  exact hl_3 _ 24 Ia Ja rfl ⟨(Kp_rf (a := 8) (b := 10)), (Kp_rf (a := 8) (b := 10)), by omega, by omega, hby, PIc_0⟩
set_option maxHeartbeats 4000000 in
set_option maxRecDepth 20000 in
theorem c5_X1_readCount (l0 : Launch) {Ia Ja : aI1} {Ra : aR1} {Sa : aS1} (hL : LY Ra Sa) (hI : XI Ia)  : CT l0 1 0 0 mX1_readCount [kR (some 1)] Ia Ja Ra Sa (cI (fun x I' J' => Ia = I' ∧ Ja = J' ∧ x = cnR (Ia 3) (FU (Ia 1 5) + 1).toNat) Ra Sa) := by
  refine ct_in pn_X1 (Nat.le_of_ble_eq_true rfl) (fun X hX hT hIn => ?_)
  have hX : aK l0 X cX1_readCount 4 RX1 (some .int) 1 0 0 := hX
  change WW X 0 [some (kR (some 1)), none, none, none] [] Ia Ja Ra Sa 0 0
  obtain ⟨hn1, hn2⟩ := hI.1
  obtain ⟨hk1, hk2⟩ := hI.2.1
  obtain ⟨hf1, hf2⟩ := hI.fu
  refine ww_iconst hX (pc := 0) (x := 0) dX1_readCount_0 rfl ?_
  refine ww_istore_n hX (pc := 1) (lv' := [some (kR (some 1)), some (kI 0), none, none]) dX1_readCount_1 (by decide) rfl rfl ?_
  refine ww_aload_n hX (pc := 2) dX1_readCount_2 rfl ?_
  refine vI0 hX (pc := 3) sX1_43 (xs_1 hL) (c_X1_full l0 hL hI) (by decide) (Nat.le_refl 0) (Nat.le_refl 0) (Nat.le_of_ble_eq_true rfl) dX1_readCount_3 (fun x_3 I_3 J_3 h_3 => ?_)
  obtain ⟨rfl, rfl, h_3⟩ := h_3
  refine ww_istore_n hX (pc := 6) (lv' := [some (kR (some 1)), some (kI 0), some (kI x_3), none]) dX1_readCount_6 (by decide) rfl rfl ?_
  refine ww_iconst hX (pc := 7) (x := 0) dX1_readCount_7 rfl ?_
  refine ww_istore_n hX (pc := 8) (lv' := [some (kR (some 1)), some (kI 0), some (kI x_3), some (kI 0)]) dX1_readCount_8 (by decide) rfl rfl ?_
  have hl_9 : ∀ (n_9 : Nat) (mn : Int) (q : Int), (x_3 + 1 - q).toNat = n_9 → ((0 ≤ q ∧ q ≤ x_3 + 1) ∧ mn = cnR (Ia 3) q.toNat) → WW X 9 [some (kR (some 1)), some (kI mn), some (kI x_3), some (kI q)] [] Ia Ja Ra Sa 0 0 := by
    intro n_9
    induction n_9 using Nat.strongRecOn with
    | ind n_9 ih_9 =>
      intro mn q hm_9 hv_9
      have hq_9 := Sh0_i hm_9
      clear hm_9
      obtain ⟨⟨hq0, hq1⟩, hmn⟩ := hv_9
      refine ww_iload_n hX (pc := 9) dX1_readCount_9 rfl ?_
      refine ww_iload_n hX (pc := 10) dX1_readCount_10 rfl ?_
      refine ww_icmp_gt hX (pc := 11) (tgt := 38) dX1_readCount_11 (by decide) (fun h_11 => ?_) (fun h_11 => ?_)
      · simp only [w32_mod] at h_11
        refine ww_iload_n hX (pc := 38) dX1_readCount_38 rfl ?_
        refine rI hX (pc := 39) hT (Nat.le_refl 0) (Nat.le_refl 0) dX1_readCount_39 ?_
        exact ⟨rfl, rfl, by rw [hmn, show q = FU (Ia 1 5) + 1 by omega]⟩
      · simp only [w32_mod] at h_11
        have hcd := hI.2.2.2.2.2.2.2.2.2.1 q.toNat (by omega)
        have hcs := cnR_s (Ia 3) hq0
        refine ww_iload_n hX (pc := 14) dX1_readCount_14 rfl ?_
        refine ww_aload_n hX (pc := 15) dX1_readCount_15 rfl ?_
        refine ww_getR hX (pc := 16) fX1_15 (by decide) (xs_1 hL) (xr_1_1 hL) dX1_readCount_16 ?_
        refine ww_iload_n hX (pc := 19) dX1_readCount_19 rfl ?_
        refine ww_iald hX (pc := 20) (xs_3 hL) (by decide) (by omega) (by omega) dX1_readCount_20 ?_
        refine ww_iconst hX (pc := 21) (x := (-1)) dX1_readCount_21 rfl ?_
        refine ww_icmp_ne hX (pc := 22) (tgt := 29) dX1_readCount_22 (by decide) (fun h_22 => ?_) (fun h_22 => ?_)
        · simp only [w32_mod] at h_22
          rw [if_neg (by omega)] at hcs
          refine ww_iconst hX (pc := 29) (x := 1) dX1_readCount_29 rfl ?_
          refine ww_iadd hX (pc := 30) dX1_readCount_30 ?_
          refine ww_nmI (fun v_31 hv_31 => ?_)
          refine ww_istore_n hX (pc := 31) (lv' := [some (kR (some 1)), some (kI v_31), some (kI x_3), some (kI q)]) dX1_readCount_31 (by decide) rfl rfl ?_
          refine ww_iinc hX (pc := 32) (lv' := [some (kR (some 1)), some (kI v_31), some (kI x_3), some (kI (q + 1))]) dX1_readCount_32 rfl (by decide) rfl rfl ?_
          refine ww_goto hX (pc := 35) (tgt := 9) dX1_readCount_35 (by decide) ?_
          exact ih_9 _ (by have hm9 := Sh0_e hq_9; omega) v_31 (q + 1) rfl ⟨⟨by omega, by omega⟩, by omega⟩
        · simp only [w32_mod] at h_22
          rw [if_pos (by omega)] at hcs
          refine ww_iconst hX (pc := 25) (x := 0) dX1_readCount_25 rfl ?_
          refine ww_goto hX (pc := 26) (tgt := 30) dX1_readCount_26 (by decide) ?_
          refine ww_iadd hX (pc := 30) dX1_readCount_30 ?_
          refine ww_nmI (fun v_31 hv_31 => ?_)
          refine ww_istore_n hX (pc := 31) (lv' := [some (kR (some 1)), some (kI v_31), some (kI x_3), some (kI q)]) dX1_readCount_31 (by decide) rfl rfl ?_
          refine ww_iinc hX (pc := 32) (lv' := [some (kR (some 1)), some (kI v_31), some (kI x_3), some (kI (q + 1))]) dX1_readCount_32 rfl (by decide) rfl rfl ?_
          refine ww_goto hX (pc := 35) (tgt := 9) dX1_readCount_35 (by decide) ?_
          exact ih_9 _ (by have hm9 := Sh0_e hq_9; omega) v_31 (q + 1) rfl ⟨⟨by omega, by omega⟩, by omega⟩
  exact hl_9 _ 0 0 rfl ⟨⟨by omega, by omega⟩, rfl⟩
end
