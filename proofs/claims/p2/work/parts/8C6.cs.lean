theorem namN_r {k u : Nat} (h0 : 2 ≤ k) (h1 : k ≤ 4) (h2 : u ≤ k) : 1 ≤ namN k u ∧ namN k u ≤ 24 := by
  have h : ∀ k u : Fin 5, 2 ≤ k.val → u.val ≤ k.val → 1 ≤ namN k.val u.val ∧ namN k.val u.val ≤ 24 := by decide
  exact h ⟨k, by omega⟩ ⟨u, by omega⟩ h0 h2
theorem nam_s {a i : Int} (h0 : 0 ≤ i) (h1 : i ≤ a) : ((namN a.toNat (i + 1).toNat : Nat) : Int) = ((namN a.toNat i.toNat : Nat) : Int) * (a - i) := by
  rw [show (i + 1).toNat = i.toNat + 1 by omega]
  show ((namN a.toNat i.toNat * (a.toNat - i.toNat) : Nat) : Int) = _
  rw [Int.natCast_mul, show ((a.toNat - i.toNat : Nat) : Int) = a - i by omega]
/-- counts: c more for the first w of a pair -/
def NI (F G : aI1) (a w c : Int) : Prop := (∀ t : Nat, t < 4 → G 43 (4 * a.toNat + t) = F 43 (4 * a.toNat + t) + (if (t : Int) < w then c else 0)) ∧ ∀ j : Nat, (j < 4 * a.toNat ∨ 4 * a.toNat + 4 ≤ j) → G 43 j = F 43 j
def NTx (F G : aI1) (a b c : Int) : Prop := ∃ w : Int, (w = b + 1 ∨ (w = 4 ∧ 3 ≤ b)) ∧ NI F G a w c
theorem NI_0 {F : aI1} {a c : Int} : NI F F a 0 c := ⟨fun t _ => by rw [if_neg (by omega)]; omega, fun _ _ => rfl⟩
theorem NI_s {F G H : aI1} {a w c : Int} (h : NI F G a w c) (h0 : 0 ≤ w) (h1 : w < 4) (e : H 43 = up1 (G 43) (4 * a.toNat + w.toNat) (G 43 (4 * a.toNat + w.toNat) + c)) : NI F H a (w + 1) c := by
  refine ⟨fun t ht => ?_, fun j hj => ?_⟩
  · rw [e]
    by_cases e1 : (t : Int) = w
    · rw [show w.toNat = t by omega, up1_s, h.1 t ht, if_neg (by omega), if_pos (by omega)]
      omega
    · rw [up1_n _ _ (by omega), h.1 t ht]
      by_cases e2 : (t : Int) < w
      · rw [if_pos e2, if_pos (by omega)]
      · rw [if_neg e2, if_neg (by omega)]
  · rw [e, up1_n _ _ (by omega)]
    exact h.2 j hj
/-- a row turned on at q, as far as i -/
def TI (F G : aI1) (q i m : Int) : Prop := ∀ j : Nat, (j : Int) < i → (G 41 j = if (j : Int) < q then F 41 j else if (j : Int) = q then F 41 j + 1 else 0) ∧ (G 42 j = if (j : Int) < q then F 42 j else m)
theorem TI_up {F : aI1} {q m : Int} (h0 : 0 ≤ q) : TI F (up2 (up2 F 41 q.toNat (F 41 q.toNat + 1)) 42 q.toNat m) q (q + 1) m := by
  intro j hj
  rw [up2_off _ _ _ (show (41 : Nat) ≠ 42 by decide), up2_row (k := 42), up2_row (k := 41), up2_off _ _ _ (show (42 : Nat) ≠ 41 by decide)]
  by_cases e : (j : Int) = q
  · rw [show q.toNat = j by omega, up1_s, up1_s, if_neg (by omega), if_pos e, if_neg (by omega)]
    exact ⟨rfl, rfl⟩
  · rw [up1_n _ _ (by omega), up1_n _ _ (by omega), if_pos (by omega), if_pos (by omega)]
    exact ⟨rfl, rfl⟩
theorem TI_st {F G : aI1} {q i m v : Int} (h : TI F G q i m) (h0 : 0 ≤ q) (h1 : q < i) (hv : v = G 42 (i - 1).toNat) : TI F (up2 (up2 G 41 i.toNat 0) 42 i.toNat v) q (i + 1) m := by
  have hm : v = m := by
    have := (h (i - 1).toNat (by omega)).2
    rw [if_neg (by omega)] at this
    rw [hv, this]
  intro j hj
  rw [up2_off _ _ _ (show (41 : Nat) ≠ 42 by decide), up2_row (k := 42), up2_row (k := 41), up2_off _ _ _ (show (42 : Nat) ≠ 41 by decide)]
  by_cases e : (j : Int) = i
  · rw [show i.toNat = j by omega, up1_s, up1_s, if_neg (by omega), if_neg (by omega), if_neg (by omega)]
    exact ⟨rfl, hm⟩
  · rw [up1_n _ _ (by omega), up1_n _ _ (by omega)]
    exact h j (by omega)
/-- how a row goes on -/
def TO (F G : aI1) (a b x : Int) : Prop := (x = 0 ∧ ∀ j : Nat, 0 < j → (j : Int) < a → F 41 j = min (b - 1) (F 42 (j - 1) + 1)) ∨ (x = 1 ∧ ∃ q : Int, 0 < q ∧ q < a ∧ (∀ j : Nat, q < j → (j : Int) < a → F 41 j = min (b - 1) (F 42 (j - 1) + 1)) ∧ ¬ F 41 q.toNat = min (b - 1) (F 42 (q.toNat - 1) + 1) ∧ TI F G q a (max (F 42 (q - 1).toNat) (F 41 q.toNat + 1)))
/-- row and peak as lists -/
def RR (F : aI1) (N : Nat) (r p : List Nat) : Prop := r.length = N ∧ p.length = N ∧ ∀ j, j < N → F 41 j = ((gd r j : Nat) : Int) ∧ F 42 j = ((gd p j : Nat) : Int)
theorem TO_0 {F G : aI1} {N k : Nat} {r p : List Nat} {a b : Int} (hN : a = N) (hk : b = k) (hk2 : 2 ≤ k) (h : RR F N r p) (ht : TO F G a b 0) : nxA k r p (N - 1) = 0 := by
  rcases ht with ⟨-, ht⟩ | ⟨ht, -⟩
  · refine nxA_at k r p (Or.inl rfl) (N - 1) (by omega) (fun j h1 h2 => ?_)
    have h3 := ht j h1 (by omega)
    rw [(h.2.2 j (by omega)).1, (h.2.2 (j - 1) (by omega)).2] at h3
    omega
  · omega
theorem TO_1 {F G : aI1} {N k : Nat} {r p : List Nat} {a b : Int} (hN : a = N) (hk : b = k) (hk2 : 2 ≤ k) (h : RR F N r p) (ht : TO F G a b 1) : ¬ nxA k r p (N - 1) = 0 ∧ RR G N (mkL (nxR r (nxA k r p (N - 1))) N []) (mkL (nxP r p (nxA k r p (N - 1))) N []) := by
  rcases ht with ⟨ht, -⟩ | ⟨-, q, q0, q1, q2, q3, q4⟩
  · omega
  · have hq : nxA k r p (N - 1) = q.toNat := nxA_at k r p (Or.inr (fun h3 => q3 (by rw [(h.2.2 q.toNat (by omega)).1, (h.2.2 (q.toNat - 1) (by omega)).2]; omega))) (N - 1) (by omega) (fun j h1 h2 => by
      have h3 := q2 j (by omega) (by omega)
      rw [(h.2.2 j (by omega)).1, (h.2.2 (j - 1) (by omega)).2] at h3
      omega)
    rw [hq]
    refine ⟨by omega, ?_, ?_, fun j hj => ?_⟩
    · rw [(mkL_v _ N []).1]; rfl
    · rw [(mkL_v _ N []).1]; rfl
    · rw [(mkL_v _ N []).2.1 j hj, (mkL_v _ N []).2.1 j hj]
      unfold nxR nxP
      rw [blt_if, beq_if, blt_if, mxx_e]
      have h5 := q4 j (by omega)
      have h6 := h.2.2 j hj
      have h7 := h.2.2 q.toNat (by omega)
      have h8 := h.2.2 (q.toNat - 1) (by omega)
      rw [show (q - 1).toNat = q.toNat - 1 by omega] at h5
      by_cases e1 : j < q.toNat
      · rw [if_pos e1, if_pos e1]
        rw [if_pos (by omega), if_pos (by omega)] at h5
        omega
      · rw [if_neg e1, if_neg e1]
        rw [if_neg (by omega), if_neg (show ¬ (j : Int) < q by omega)] at h5
        by_cases e2 : j = q.toNat
        · rw [if_pos e2]
          rw [if_pos (by omega)] at h5
          subst e2
          refine ⟨by rw [h5.1]; omega, by rw [h5.2]; omega⟩
        · rw [if_neg e2]
          rw [if_neg (by omega)] at h5
          refine ⟨by rw [h5.1]; omega, by rw [h5.2]; omega⟩
/-- a pair's counts in one number -/
def PK (F : aI1) (q : Nat) : Int := F 43 (4 * q) + 16777216 * F 43 (4 * q + 1) + 281474976710656 * F 43 (4 * q + 2) + 4722366482869645213696 * F 43 (4 * q + 3)
/-- what is still to be found -/
def SWx (F : aI1) (N k p : Nat) (q : Int) : Prop := ∃ (r pp : List Nat) (acc : Nat), RR F N r pp ∧ PK F p = (acc : Int) ∧ srch k N (65536 - q).toNat r pp acc = TOTc k N
def SWi (mo : Int) (F : aI1) (N k p : Nat) (q : Int) : Prop := (mo = 1 → SWx F N k p q) ∧ (mo = 0 → PK F p = ((TOTc k N : Nat) : Int))
theorem PK_n {F G : aI1} {a w c b : Int} (h : NI F G a w c) (hw : w = b + 1 ∨ (w = 4 ∧ 3 ≤ b)) (hb : 0 ≤ b) : PK G a.toNat = PK F a.toNat + c * ((pwC b.toNat : Nat) : Int) := by
  have h0 := h.1 0 (by decide)
  have h1 := h.1 1 (by decide)
  have h2 := h.1 2 (by decide)
  have h3 := h.1 3 (by decide)
  rw [Nat.add_zero] at h0
  unfold PK
  rw [h0, h1, h2, h3, pwC_e]
  rw [if_pos (show ((0 : Nat) : Int) < w by omega)]
  by_cases c1 : 1 ≤ b
  · rw [if_pos (show ((1 : Nat) : Int) < w by omega), if_pos (show 1 ≤ b.toNat by omega)]
    by_cases c2 : 2 ≤ b
    · rw [if_pos (show ((2 : Nat) : Int) < w by omega), if_pos (show 2 ≤ b.toNat by omega)]
      by_cases c3 : 3 ≤ b
      · rw [if_pos (show ((3 : Nat) : Int) < w by omega), if_pos (show 3 ≤ b.toNat by omega)]
        omega
      · rw [if_neg (show ¬ ((3 : Nat) : Int) < w by omega), if_neg (show ¬ 3 ≤ b.toNat by omega)]
        omega
    · rw [if_neg (show ¬ ((2 : Nat) : Int) < w by omega), if_neg (show ¬ 2 ≤ b.toNat by omega), if_neg (show ¬ ((3 : Nat) : Int) < w by omega), if_neg (show ¬ 3 ≤ b.toNat by omega)]
      omega
  · rw [if_neg (show ¬ ((1 : Nat) : Int) < w by omega), if_neg (show ¬ 1 ≤ b.toNat by omega), if_neg (show ¬ ((2 : Nat) : Int) < w by omega), if_neg (show ¬ 2 ≤ b.toNat by omega), if_neg (show ¬ ((3 : Nat) : Int) < w by omega), if_neg (show ¬ 3 ≤ b.toNat by omega)]
    omega
set_option maxHeartbeats 4000000 in
set_option maxRecDepth 20000 in
theorem c5_X2_namings (l0 : Launch) {Ia Ja : aI1} {Ra : aR1} {Sa : aS1} {a b : Int} (ha0 : 2 ≤ a) (ha1 : a ≤ 4) (hb0 : 0 ≤ b) (hb1 : b ≤ a)  : CT l0 0 0 0 mX2_namings [kI a, kI b] Ia Ja Ra Sa (cI (fun x I' J' => Ia = I' ∧ Ja = J' ∧ x = ((namN a.toNat b.toNat : Nat) : Int)) Ra Sa) := by
  refine ct_in pn_X2 (Nat.le_of_ble_eq_true rfl) (fun X hX hT hIn => ?_)
  have hX : aK l0 X cX2_namings 4 RX2 (some .int) 0 0 0 := hX
  change WW X 0 [some (kI a), some (kI b), none, none] [] Ia Ja Ra Sa 0 0
  refine ww_iconst hX (pc := 0) (x := 1) dX2_namings_0 rfl ?_
  refine ww_istore_n hX (pc := 1) (lv' := [some (kI a), some (kI b), some (kI 1), none]) dX2_namings_1 (by decide) rfl rfl ?_
  refine ww_iconst hX (pc := 2) (x := 0) dX2_namings_2 rfl ?_
  refine ww_istore_n hX (pc := 3) (lv' := [some (kI a), some (kI b), some (kI 1), some (kI 0)]) dX2_namings_3 (by decide) rfl rfl ?_
  have hl_4 : ∀ (n_4 : Nat) (mn : Int) (i : Int), (b - i).toNat = n_4 → ((0 ≤ i ∧ i ≤ b) ∧ mn = ((namN a.toNat i.toNat : Nat) : Int)) → WW X 4 [some (kI a), some (kI b), some (kI mn), some (kI i)] [] Ia Ja Ra Sa 0 0 := by
    intro n_4
    induction n_4 using Nat.strongRecOn with
    | ind n_4 ih_4 =>
      intro mn i hm_4 hv_4
      obtain ⟨⟨hi0, hi1⟩, hmn⟩ := hv_4
      refine ww_iload_n hX (pc := 4) dX2_namings_4 rfl ?_
      refine ww_iload_n hX (pc := 5) dX2_namings_5 rfl ?_
      refine ww_icmp_ge hX (pc := 6) (tgt := 21) dX2_namings_6 (by decide) (fun h_6 => ?_) (fun h_6 => ?_)
      · simp only [w32_mod] at h_6
        refine ww_iload_n hX (pc := 21) dX2_namings_21 rfl ?_
        refine rI hX (pc := 22) hT (Nat.le_refl 0) (Nat.le_refl 0) dX2_namings_22 ?_
        exact ⟨rfl, rfl, by rw [hmn, show i = b by omega]⟩
      · simp only [w32_mod] at h_6
        refine ww_iload_n hX (pc := 9) dX2_namings_9 rfl ?_
        refine ww_iload_n hX (pc := 10) dX2_namings_10 rfl ?_
        refine ww_iload_n hX (pc := 11) dX2_namings_11 rfl ?_
        refine ww_isub hX (pc := 12) dX2_namings_12 ?_
        refine ww_imul hX (pc := 13) dX2_namings_13 ?_
        refine ww_nmI (fun v_14 hv_14 => ?_)
        refine ww_istore_n hX (pc := 14) (lv' := [some (kI a), some (kI b), some (kI v_14), some (kI i)]) dX2_namings_14 (by decide) rfl rfl ?_
        refine ww_iinc hX (pc := 15) (lv' := [some (kI a), some (kI b), some (kI v_14), some (kI (i + 1))]) dX2_namings_15 rfl (by decide) rfl rfl ?_
        refine ww_goto hX (pc := 18) (tgt := 4) dX2_namings_18 (by decide) ?_
        exact ih_4 _ (by omega) v_14 (i + 1) rfl ⟨⟨by omega, by omega⟩, by rw [hv_14, hmn]; exact (nam_s (by omega) (by omega)).symm⟩
  exact hl_4 _ 1 0 rfl ⟨⟨by omega, by omega⟩, rfl⟩
set_option maxHeartbeats 4000000 in
set_option maxRecDepth 20000 in
theorem c5_X2_note (l0 : Launch) {Ia Ja : aI1} {Ra : aR1} {Sa : aS1} (hL : LY Ra Sa) {a b c : Int} (ha0 : 0 ≤ a) (ha1 : a ≤ 8) (hb0 : 0 ≤ b) (hb1 : b ≤ 100) (hr : ∀ j, j < 8 → 0 ≤ Ia 41 j ∧ Ia 41 j ≤ 7) (hF : FI Ia)  : CT l0 1 0 0 mX2_note [kR (some 37), kI a, kI b, kI c] Ia Ja Ra Sa (cV (fun I' J' => Kp 43 45 Ia I' ∧ Kp 43 45 Ja J' ∧ FI I' ∧ NTx Ia I' a b c) Ra Sa) := by
  refine ct_in pn_X2 (Nat.le_of_ble_eq_true rfl) (fun X hX hT hIn => ?_)
  have hX : aK l0 X cX2_note 6 RX2 none 1 0 0 := hX
  change WW X 0 [some (kR (some 37)), some (kI a), some (kI b), some (kI c), none, none] [] Ia Ja Ra Sa 0 0
  refine ww_iconst hX (pc := 0) (x := 0) dX2_note_0 rfl ?_
  refine ww_istore hX (pc := 1) (lv' := [some (kR (some 37)), some (kI a), some (kI b), some (kI c), some (kI 0), none]) dX2_note_1 (by decide) rfl rfl ?_
  have hl_3 : ∀ (n_3 : Nat) (w : Int) (I2 : aI1) (J2 : aI1), (4 - w).toNat = n_3 → (Kp 43 45 Ia I2 ∧ Kp 43 45 Ja J2 ∧ (0 ≤ w ∧ w ≤ 4 ∧ w ≤ b + 1) ∧ FI I2 ∧ NI Ia I2 a w c) → WW X 3 [some (kR (some 37)), some (kI a), some (kI b), some (kI c), some (kI w), none] [] I2 J2 Ra Sa 0 0 := by
    intro n_3
    induction n_3 using Nat.strongRecOn with
    | ind n_3 ih_3 =>
      intro w I2 J2 hm_3 hv_3
      obtain ⟨kI2, kJ2, hw, fI2, hni⟩ := hv_3
      refine ww_iload hX (pc := 3) dX2_note_3 rfl ?_
      refine ww_iload_n hX (pc := 5) dX2_note_5 rfl ?_
      refine ww_icmp_gt hX (pc := 6) (tgt := 69) dX2_note_6 (by decide) (fun h_6 => ?_) (fun h_6 => ?_)
      · simp only [w32_mod] at h_6
        refine rV hX (pc := 69) hT (Nat.le_refl 0) (Nat.le_refl 0) dX2_note_69 ?_
        exact ⟨kI2, kJ2, fI2, w, by omega, hni⟩
      · simp only [w32_mod] at h_6
        refine ww_iload hX (pc := 9) dX2_note_9 rfl ?_
        refine ww_iconst hX (pc := 11) (x := 4) dX2_note_11 rfl ?_
        refine ww_icmp_ge hX (pc := 12) (tgt := 69) dX2_note_12 (by decide) (fun h_12 => ?_) (fun h_12 => ?_)
        · simp only [w32_mod] at h_12
          refine rV hX (pc := 69) hT (Nat.le_refl 0) (Nat.le_refl 0) dX2_note_69 ?_
          exact ⟨kI2, kJ2, fI2, w, by omega, hni⟩
        · simp only [w32_mod] at h_12
          refine ww_iload_n hX (pc := 15) dX2_note_15 rfl ?_
          refine ww_iconst hX (pc := 16) (x := 4) dX2_note_16 rfl ?_
          refine ww_imul hX (pc := 17) dX2_note_17 ?_
          refine ww_iload hX (pc := 18) dX2_note_18 rfl ?_
          refine ww_iadd hX (pc := 20) dX2_note_20 ?_
          refine ww_nmI (fun v_21 hv_21 => ?_)
          refine ww_istore hX (pc := 21) (lv' := [some (kR (some 37)), some (kI a), some (kI b), some (kI c), some (kI w), some (kI v_21)]) dX2_note_21 (by decide) rfl rfl ?_
          refine ww_aload_n hX (pc := 23) dX2_note_23 rfl ?_
          refine ww_getR hX (pc := 24) fX2_25 (by decide) (xs_37 hL) (xr_37_3 hL) dX2_note_24 ?_
          refine ww_iload hX (pc := 27) dX2_note_27 rfl ?_
          refine ww_iald hX (pc := 29) (xs_43 hL) (by decide) (by omega) (by omega) dX2_note_29 ?_
          refine ww_if_ne hX (pc := 30) (tgt := 52) dX2_note_30 (by decide) (fun h_30 => ?_) (fun h_30 => ?_)
          · simp only [w32_mod] at h_30
            refine ww_aload_n hX (pc := 52) dX2_note_52 rfl ?_
            refine ww_getR hX (pc := 53) fX2_25 (by decide) (xs_37 hL) (xr_37_3 hL) dX2_note_53 ?_
            refine ww_iload hX (pc := 56) dX2_note_56 rfl ?_
            refine ww_dup2 hX (pc := 58) dX2_note_58 ?_
            refine ww_iald hX (pc := 59) (xs_43 hL) (by decide) (by omega) (by omega) dX2_note_59 ?_
            refine ww_iload_n hX (pc := 60) dX2_note_60 rfl ?_
            refine ww_iadd hX (pc := 61) dX2_note_61 ?_
            refine ww_iast hX (pc := 62) (xs_43 hL) (by decide) (by omega) (by omega) dX2_note_62 ?_
            refine ww_nmH (fun I_62 eI_62 => ?_)
            have kI_62 : Kp 43 45 Ia I_62 := by rw [eI_62]; exact Kp_up kI2 _ _ (by decide)
            have fI_62 : FI I_62 := FI_of fI2 (by rw [eI_62, up2_off _ _ _ (by decide)])
            have n62 : NI Ia I_62 a (w + 1) c := NI_s hni (by omega) (by omega) (by rw [eI_62, up2_row, show v_21.toNat = 4 * a.toNat + w.toNat by omega])
            refine ww_iinc hX (pc := 63) (lv' := [some (kR (some 37)), some (kI a), some (kI b), some (kI c), some (kI (w + 1)), some (kI v_21)]) dX2_note_63 rfl (by decide) rfl rfl ?_
            refine ww_goto hX (pc := 66) (tgt := 3) dX2_note_66 (by decide) ?_
            refine ww_sub [some (kR (some 37)), some (kI a), some (kI b), some (kI c), some (kI (w + 1)), none] (aLe_s (aLe_s (aLe_s (aLe_s (aLe_s (aLe_n aLe_0)))))) ?_
            exact ih_3 _ (by omega) (w + 1) I_62 J2 rfl ⟨kI_62, kJ2, ⟨by omega, by omega, by omega⟩, fI_62, n62⟩
          · simp only [w32_mod] at h_30
            refine ww_aload_n hX (pc := 33) dX2_note_33 rfl ?_
            refine ww_getR hX (pc := 34) fX2_18 (by decide) (xs_37 hL) (xr_37_1 hL) dX2_note_34 ?_
            refine ww_iconst hX (pc := 37) (x := 0) dX2_note_37 rfl ?_
            refine ww_aload_n hX (pc := 38) dX2_note_38 rfl ?_
            refine ww_getR hX (pc := 39) fX2_28 (by decide) (xs_37 hL) (xr_37_4 hL) dX2_note_39 ?_
            refine ww_iload hX (pc := 42) dX2_note_42 rfl ?_
            refine ww_bipush hX (pc := 44) (x := 8) dX2_note_44 (by decide) ?_
            refine ww_imul hX (pc := 46) dX2_note_46 ?_
            refine ww_bipush hX (pc := 47) (x := 8) dX2_note_47 (by decide) ?_
            refine ww_copy hX (pc := 49) tb_879 tb_663 tb_662 tb_19 (xs_41 hL) (xs_44 hL) (by decide) (by decide) (by omega) (by omega) (by omega) (by omega) (by omega) (by decide) (Nat.le_of_ble_eq_true rfl) dX2_note_49 ?_
            refine ww_nmH (fun I_49 eI_49 => ?_)
            have kI_49 : Kp 43 45 Ia I_49 := by rw [eI_49]; exact Kp_upR kI2 _ (by decide)
            have fI_49 : FI I_49 := by rw [eI_49]; exact FI_cpy fI2 (by rw [show I2 41 = Ia 41 from kI2 41 (by decide)]; exact hr)
            have x43 : I_49 43 = I2 43 := by rw [eI_49, upR_n _ _ (by decide)]
            refine ww_aload_n hX (pc := 52) dX2_note_52 rfl ?_
            refine ww_getR hX (pc := 53) fX2_25 (by decide) (xs_37 hL) (xr_37_3 hL) dX2_note_53 ?_
            refine ww_iload hX (pc := 56) dX2_note_56 rfl ?_
            refine ww_dup2 hX (pc := 58) dX2_note_58 ?_
            refine ww_iald hX (pc := 59) (xs_43 hL) (by decide) (by omega) (by omega) dX2_note_59 ?_
            refine ww_iload_n hX (pc := 60) dX2_note_60 rfl ?_
            refine ww_iadd hX (pc := 61) dX2_note_61 ?_
            refine ww_iast hX (pc := 62) (xs_43 hL) (by decide) (by omega) (by omega) dX2_note_62 ?_
            refine ww_nmH (fun I_62 eI_62 => ?_)
            have kI_62 : Kp 43 45 Ia I_62 := by rw [eI_62]; exact Kp_up kI_49 _ _ (by decide)
            have fI_62 : FI I_62 := FI_of fI_49 (by rw [eI_62, up2_off _ _ _ (by decide)])
            have n62 : NI Ia I_62 a (w + 1) c := NI_s hni (by omega) (by omega) (by rw [eI_62, up2_row, show v_21.toNat = 4 * a.toNat + w.toNat by omega, x43])
            refine ww_iinc hX (pc := 63) (lv' := [some (kR (some 37)), some (kI a), some (kI b), some (kI c), some (kI (w + 1)), some (kI v_21)]) dX2_note_63 rfl (by decide) rfl rfl ?_
            refine ww_goto hX (pc := 66) (tgt := 3) dX2_note_66 (by decide) ?_
            refine ww_sub [some (kR (some 37)), some (kI a), some (kI b), some (kI c), some (kI (w + 1)), none] (aLe_s (aLe_s (aLe_s (aLe_s (aLe_s (aLe_n aLe_0)))))) ?_
            exact ih_3 _ (by omega) (w + 1) I_62 J2 rfl ⟨kI_62, kJ2, ⟨by omega, by omega, by omega⟩, fI_62, n62⟩
  exact hl_3 _ 0 Ia Ja rfl ⟨(Kp_rf (a := 43) (b := 45)), (Kp_rf (a := 43) (b := 45)), ⟨by omega, by omega, by omega⟩, hF, NI_0⟩
set_option maxHeartbeats 4000000 in
set_option maxRecDepth 20000 in
theorem c5_X2_turnOn (l0 : Launch) {Ia Ja : aI1} {Ra : aR1} {Sa : aS1} (hL : LY Ra Sa) {a b : Int} (ha0 : 2 ≤ a) (ha1 : a ≤ 8) (hb0 : 2 ≤ b) (hb1 : b ≤ 4) (hr : RI Ia a b)  : CT l0 1 0 0 mX2_turnOn [kR (some 37), kI a, kI b] Ia Ja Ra Sa (cI (fun x I' J' => Kp 41 43 Ia I' ∧ Kp 41 43 Ja J' ∧ (x = 0 ∨ x = 1) ∧ RI I' a b ∧ TO Ia I' a b x) Ra Sa) := by
  refine ct_in pn_X2 (Nat.le_of_ble_eq_true rfl) (fun X hX hT hIn => ?_)
  have hX : aK l0 X cX2_turnOn 5 RX2 (some .boolean) 1 0 0 := hX
  change WW X 0 [some (kR (some 37)), some (kI a), some (kI b), none, none] [] Ia Ja Ra Sa 0 0
  refine ww_iload_n hX (pc := 0) dX2_turnOn_0 rfl ?_
  refine ww_iconst hX (pc := 1) (x := 1) dX2_turnOn_1 rfl ?_
  refine ww_isub hX (pc := 2) dX2_turnOn_2 ?_
  refine ww_nmI (fun v_3 hv_3 => ?_)
  refine ww_istore_n hX (pc := 3) (lv' := [some (kR (some 37)), some (kI a), some (kI b), some (kI v_3), none]) dX2_turnOn_3 (by decide) rfl rfl ?_
  have hl_4 : ∀ (n_4 : Nat) (at_ : Int), at_.toNat = n_4 → ((0 ≤ at_ ∧ at_ < a) ∧ ∀ j : Nat, at_ < j → (j : Int) < a → Ia 41 j = min (b - 1) (Ia 42 (j - 1) + 1)) → WW X 4 [some (kR (some 37)), some (kI a), some (kI b), some (kI at_), none] [] Ia Ja Ra Sa 0 0 := by
    intro n_4
    induction n_4 using Nat.strongRecOn with
    | ind n_4 ih_4 =>
      intro at_ hm_4 hv_4
      obtain ⟨⟨hat0, hat1⟩, hsk⟩ := hv_4
      refine ww_iload_n hX (pc := 4) dX2_turnOn_4 rfl ?_
      refine ww_if_le hX (pc := 5) (tgt := 39) dX2_turnOn_5 (by decide) (fun h_5 => ?_) (fun h_5 => ?_)
      · simp only [w32_mod] at h_5
        refine ww_iload_n hX (pc := 39) dX2_turnOn_39 rfl ?_
        refine ww_if_ne hX (pc := 40) (tgt := 45) dX2_turnOn_40 (by decide) (fun h_40 => ?_) (fun h_40 => ?_)
        · simp only [w32_mod] at h_40
          exact absurd h_40 (by omega)
        · simp only [w32_mod] at h_40
          refine ww_iconst hX (pc := 43) (x := 0) dX2_turnOn_43 rfl ?_
          refine rZ hX (pc := 44) hT (Nat.le_refl 0) (Nat.le_refl 0) dX2_turnOn_44 (by decide) ?_
          exact ⟨(Kp_rf (a := 41) (b := 43)), (Kp_rf (a := 41) (b := 43)), by omega, hr, Or.inl ⟨rfl, fun j h1 h2 => hsk j (by omega) h2⟩⟩
      · simp only [w32_mod] at h_5
        have hp1 := hr.1 (at_ - 1).toNat (by omega)
        have hw1 := hr.1 at_.toNat (by omega)
        have hx1 := hr.2 at_.toNat (by omega) (by omega)
        rw [show at_.toNat - 1 = (at_ - 1).toNat by omega] at hx1
        refine ww_aload_n hX (pc := 8) dX2_turnOn_8 rfl ?_
        refine ww_getR hX (pc := 9) fX2_18 (by decide) (xs_37 hL) (xr_37_1 hL) dX2_turnOn_9 ?_
        refine ww_iload_n hX (pc := 12) dX2_turnOn_12 rfl ?_
        refine ww_iald hX (pc := 13) (xs_41 hL) (by decide) (by omega) (by omega) dX2_turnOn_13 ?_
        refine ww_iload_n hX (pc := 14) dX2_turnOn_14 rfl ?_
        refine ww_iconst hX (pc := 15) (x := 1) dX2_turnOn_15 rfl ?_
        refine ww_isub hX (pc := 16) dX2_turnOn_16 ?_
        refine ww_aload_n hX (pc := 17) dX2_turnOn_17 rfl ?_
        refine ww_getR hX (pc := 18) fX2_22 (by decide) (xs_37 hL) (xr_37_2 hL) dX2_turnOn_18 ?_
        refine ww_iload_n hX (pc := 21) dX2_turnOn_21 rfl ?_
        refine ww_iconst hX (pc := 22) (x := 1) dX2_turnOn_22 rfl ?_
        refine ww_isub hX (pc := 23) dX2_turnOn_23 ?_
        refine ww_iald hX (pc := 24) (xs_42 hL) (by decide) (by omega) (by omega) dX2_turnOn_24 ?_
        refine ww_iconst hX (pc := 25) (x := 1) dX2_turnOn_25 rfl ?_
        refine ww_iadd hX (pc := 26) dX2_turnOn_26 ?_
        refine ww_mmin hX (pc := 27) tb_884 tb_579 tb_13 tb_580 (by decide) (Nat.le_refl 0) (Nat.le_refl 0) (Nat.le_of_ble_eq_true rfl) dX2_turnOn_27 ?_
        refine ww_toI (b := min (b - 1) (Ia 42 (at_ - 1).toNat + 1)) (by rw [i_min_r (by omega) (by omega) (by omega) (by omega)]) ?_
        refine ww_icmp_ne hX (pc := 30) (tgt := 39) dX2_turnOn_30 (by decide) (fun h_30 => ?_) (fun h_30 => ?_)
        · simp only [w32_mod] at h_30
          refine ww_iload_n hX (pc := 39) dX2_turnOn_39 rfl ?_
          refine ww_if_ne hX (pc := 40) (tgt := 45) dX2_turnOn_40 (by decide) (fun h_40 => ?_) (fun h_40 => ?_)
          · simp only [w32_mod] at h_40
            refine ww_aload_n hX (pc := 45) dX2_turnOn_45 rfl ?_
            refine ww_getR hX (pc := 46) fX2_18 (by decide) (xs_37 hL) (xr_37_1 hL) dX2_turnOn_46 ?_
            refine ww_iload_n hX (pc := 49) dX2_turnOn_49 rfl ?_
            refine ww_dup2 hX (pc := 50) dX2_turnOn_50 ?_
            refine ww_iald hX (pc := 51) (xs_41 hL) (by decide) (by omega) (by omega) dX2_turnOn_51 ?_
            refine ww_iconst hX (pc := 52) (x := 1) dX2_turnOn_52 rfl ?_
            refine ww_iadd hX (pc := 53) dX2_turnOn_53 ?_
            refine ww_iast hX (pc := 54) (xs_41 hL) (by decide) (by omega) (by omega) dX2_turnOn_54 ?_
            refine ww_nmH (fun I_54 eI_54 => ?_)
            have kI_54 : Kp 41 43 Ia I_54 := by rw [eI_54]; exact Kp_up (Kp_rf (a := 41) (b := 43)) _ _ (by decide)
            refine ww_aload_n hX (pc := 55) dX2_turnOn_55 rfl ?_
            refine ww_getR hX (pc := 56) fX2_22 (by decide) (xs_37 hL) (xr_37_2 hL) dX2_turnOn_56 ?_
            refine ww_iload_n hX (pc := 59) dX2_turnOn_59 rfl ?_
            refine ww_aload_n hX (pc := 60) dX2_turnOn_60 rfl ?_
            refine ww_getR hX (pc := 61) fX2_22 (by decide) (xs_37 hL) (xr_37_2 hL) dX2_turnOn_61 ?_
            refine ww_iload_n hX (pc := 64) dX2_turnOn_64 rfl ?_
            refine ww_iconst hX (pc := 65) (x := 1) dX2_turnOn_65 rfl ?_
            refine ww_isub hX (pc := 66) dX2_turnOn_66 ?_
            refine ww_iald hX (pc := 67) (xs_42 hL) (by decide) (by omega) (by omega) dX2_turnOn_67 ?_
            refine ww_aload_n hX (pc := 68) dX2_turnOn_68 rfl ?_
            refine ww_getR hX (pc := 69) fX2_18 (by decide) (xs_37 hL) (xr_37_1 hL) dX2_turnOn_69 ?_
            refine ww_iload_n hX (pc := 72) dX2_turnOn_72 rfl ?_
            refine ww_iald hX (pc := 73) (xs_41 hL) (by decide) (by omega) (by omega) dX2_turnOn_73 ?_
            refine ww_mmax hX (pc := 74) tb_885 tb_460 tb_13 tb_461 (by decide) (Nat.le_refl 0) (Nat.le_refl 0) (Nat.le_of_ble_eq_true rfl) dX2_turnOn_74 ?_
            refine ww_toI (b := max (Ia 42 (at_ - 1).toNat) (Ia 41 at_.toNat + 1)) (by rw [eI_54, up2_off _ _ _ (by decide), up2_s, i_max_r (by omega) (by omega) (by omega) (by omega)]) ?_
            refine ww_iast hX (pc := 77) (xs_42 hL) (by decide) (by omega) (by omega) dX2_turnOn_77 ?_
            refine ww_nmH (fun I_77 eI_77 => ?_)
            have kI_77 : Kp 41 43 Ia I_77 := by rw [eI_77]; exact Kp_up kI_54 _ _ (by decide)
            have hr3 : RI I_77 (at_ + 1) b := by rw [eI_77, eI_54]; exact RI_up hr (by omega) (by omega) ha1 hb0 (by omega) rfl
            refine ww_iload_n hX (pc := 78) dX2_turnOn_78 rfl ?_
            refine ww_iconst hX (pc := 79) (x := 1) dX2_turnOn_79 rfl ?_
            refine ww_iadd hX (pc := 80) dX2_turnOn_80 ?_
            refine ww_nmI (fun v_81 hv_81 => ?_)
            refine ww_istore hX (pc := 81) (lv' := [some (kR (some 37)), some (kI a), some (kI b), some (kI at_), some (kI v_81)]) dX2_turnOn_81 (by decide) rfl rfl ?_
            have hl_83 : ∀ (n_83 : Nat) (i : Int) (I2 : aI1) (J2 : aI1), (a - i).toNat = n_83 → (Kp 41 43 Ia I2 ∧ Kp 41 43 Ja J2 ∧ (1 ≤ i ∧ i ≤ a ∧ at_ < i) ∧ RI I2 i b ∧ TI Ia I2 at_ i (max (Ia 42 (at_ - 1).toNat) (Ia 41 at_.toNat + 1))) → WW X 83 [some (kR (some 37)), some (kI a), some (kI b), some (kI at_), some (kI i)] [] I2 J2 Ra Sa 0 0 := by
              intro n_83
              induction n_83 using Nat.strongRecOn with
              | ind n_83 ih_83 =>
                intro i I2 J2 hm_83 hv_83
                obtain ⟨kI2, kJ2, hi, hr2, hti⟩ := hv_83
                refine ww_iload hX (pc := 83) dX2_turnOn_83 rfl ?_
                refine ww_iload_n hX (pc := 85) dX2_turnOn_85 rfl ?_
                refine ww_icmp_ge hX (pc := 86) (tgt := 119) dX2_turnOn_86 (by decide) (fun h_86 => ?_) (fun h_86 => ?_)
                · simp only [w32_mod] at h_86
                  refine ww_iconst hX (pc := 119) (x := 1) dX2_turnOn_119 rfl ?_
                  refine rZ hX (pc := 120) hT (Nat.le_refl 0) (Nat.le_refl 0) dX2_turnOn_120 (by decide) ?_
                  exact ⟨kI2, kJ2, by omega, by rw [show a = i by omega]; exact hr2, Or.inr ⟨rfl, at_, by omega, by omega, hsk, by rw [show at_.toNat - 1 = (at_ - 1).toNat by omega]; omega, by rw [show a = i by omega]; exact hti⟩⟩
                · simp only [w32_mod] at h_86
                  refine ww_aload_n hX (pc := 89) dX2_turnOn_89 rfl ?_
                  refine ww_getR hX (pc := 90) fX2_18 (by decide) (xs_37 hL) (xr_37_1 hL) dX2_turnOn_90 ?_
                  refine ww_iload hX (pc := 93) dX2_turnOn_93 rfl ?_
                  refine ww_iconst hX (pc := 95) (x := 0) dX2_turnOn_95 rfl ?_
                  refine ww_iast hX (pc := 96) (xs_41 hL) (by decide) (by omega) (by omega) dX2_turnOn_96 ?_
                  refine ww_nmH (fun I_96 eI_96 => ?_)
                  have kI_96 : Kp 41 43 Ia I_96 := by rw [eI_96]; exact Kp_up kI2 _ _ (by decide)
                  refine ww_aload_n hX (pc := 97) dX2_turnOn_97 rfl ?_
                  refine ww_getR hX (pc := 98) fX2_22 (by decide) (xs_37 hL) (xr_37_2 hL) dX2_turnOn_98 ?_
                  refine ww_iload hX (pc := 101) dX2_turnOn_101 rfl ?_
                  refine ww_aload_n hX (pc := 103) dX2_turnOn_103 rfl ?_
                  refine ww_getR hX (pc := 104) fX2_22 (by decide) (xs_37 hL) (xr_37_2 hL) dX2_turnOn_104 ?_
                  refine ww_iload hX (pc := 107) dX2_turnOn_107 rfl ?_
                  refine ww_iconst hX (pc := 109) (x := 1) dX2_turnOn_109 rfl ?_
                  refine ww_isub hX (pc := 110) dX2_turnOn_110 ?_
                  refine ww_iald hX (pc := 111) (xs_42 hL) (by decide) (by omega) (by omega) dX2_turnOn_111 ?_
                  refine ww_iast hX (pc := 112) (xs_42 hL) (by decide) (by omega) (by omega) dX2_turnOn_112 ?_
                  refine ww_nmH (fun I_112 eI_112 => ?_)
                  have kI_112 : Kp 41 43 Ia I_112 := by rw [eI_112]; exact Kp_up kI_96 _ _ (by decide)
                  refine ww_iinc hX (pc := 113) (lv' := [some (kR (some 37)), some (kI a), some (kI b), some (kI at_), some (kI (i + 1))]) dX2_turnOn_113 rfl (by decide) rfl rfl ?_
                  refine ww_goto hX (pc := 116) (tgt := 83) dX2_turnOn_116 (by decide) ?_
                  exact ih_83 _ (by omega) (i + 1) I_112 J2 rfl ⟨kI_112, kJ2, ⟨by omega, by omega, by omega⟩, by rw [eI_112, eI_96]; exact RI_st hr2 (by omega) (by omega) hb0 (by rw [up2_off _ _ _ (by decide)]), by rw [eI_112, eI_96]; exact TI_st hti (by omega) (by omega) (by rw [up2_off _ _ _ (by decide)])⟩
            exact hl_83 _ v_81 I_77 Ja rfl ⟨kI_77, (Kp_rf (a := 41) (b := 43)), ⟨by omega, by omega, by omega⟩, by rw [hv_81]; exact hr3, by rw [hv_81, eI_77, eI_54]; exact TI_up (by omega)⟩
          · simp only [w32_mod] at h_40
            refine ww_iconst hX (pc := 43) (x := 0) dX2_turnOn_43 rfl ?_
            refine rZ hX (pc := 44) hT (Nat.le_refl 0) (Nat.le_refl 0) dX2_turnOn_44 (by decide) ?_
            exact ⟨(Kp_rf (a := 41) (b := 43)), (Kp_rf (a := 41) (b := 43)), by omega, hr, Or.inl ⟨rfl, fun j h1 h2 => hsk j (by omega) h2⟩⟩
        · simp only [w32_mod] at h_30
          refine ww_iinc hX (pc := 33) (lv' := [some (kR (some 37)), some (kI a), some (kI b), some (kI (at_ + (-1))), none]) dX2_turnOn_33 rfl (by decide) rfl rfl ?_
          refine ww_goto hX (pc := 36) (tgt := 4) dX2_turnOn_36 (by decide) ?_
          exact ih_4 _ (by omega) (at_ + (-1)) rfl ⟨⟨by omega, by omega⟩, fun j h1 h2 => by
            by_cases e9 : (j : Int) = at_
            · rw [show j - 1 = (at_ - 1).toNat by omega, show j = at_.toNat by omega]; omega
            · exact hsk j (by omega) h2⟩
  exact hl_4 _ v_3 rfl ⟨⟨by omega, by omega⟩, fun j h1 h2 => absurd h2 (by omega)⟩
set_option maxHeartbeats 4000000 in
set_option maxRecDepth 20000 in
theorem c5_X2_search (l0 : Launch) {Ia Ja : aI1} {Ra : aR1} {Sa : aS1} (hL : LY Ra Sa) {p n k : Int} (hp0 : 0 ≤ p) (hp1 : p ≤ 8) (hn0 : 1 ≤ n) (hn1 : n ≤ 3) (hk0 : 2 ≤ k) (hk1 : k ≤ 4) (hF : FI Ia) (hz : ∀ t : Nat, t < 4 → Ia 43 (4 * p.toNat + t) = 0)  : CT l0 3 0 0 mX2_search [kR (some 37), kI p, kI n, kI k] Ia Ja Ra Sa (cV (fun I' J' => Kp 37 46 Ia I' ∧ Kp 37 46 Ja J' ∧ FI I' ∧ PK I' p.toNat = ((TOTc k.toNat (2 ^ n.toNat) : Nat) : Int) ∧ (∀ t : Nat, t < 4 → 0 ≤ I' 43 (4 * p.toNat + t) ∧ I' 43 (4 * p.toNat + t) < 16777216) ∧ (∀ j : Nat, (j < 4 * p.toNat ∨ 4 * p.toNat + 4 ≤ j) → I' 43 j = Ia 43 j) ∧ I' 45 = Ia 45) Ra Sa) := by
  refine ct_in pn_X2 (Nat.le_of_ble_eq_true rfl) (fun X hX hT hIn => ?_)
  have hX : aK l0 X cX2_search 7 RX2 none 3 0 0 := hX
  change WW X 0 [some (kR (some 37)), some (kI p), some (kI n), some (kI k), none, none, none] [] Ia Ja Ra Sa 0 0
  refine ww_iconst hX (pc := 0) (x := 1) dX2_search_0 rfl ?_
  refine ww_iload_n hX (pc := 1) dX2_search_1 rfl ?_
  refine ww_ishl hX (pc := 2) dX2_search_2 ?_
  refine ww_nmI (fun v_3 hv_3 => ?_)
  refine ww_istore hX (pc := 3) (lv' := [some (kR (some 37)), some (kI p), some (kI n), some (kI k), some (kI v_3), none, none]) dX2_search_3 (by decide) rfl rfl ?_
  have hst : 2 ≤ v_3 ∧ v_3 ≤ 8 := by
    rw [hv_3, i_shl1 (by omega) (by omega)]
    rcases (show n = 1 ∨ n = 2 ∨ n = 3 by omega) with rfl | rfl | rfl <;> decide
  have hN3 : v_3.toNat = 2 ^ n.toNat := by
    rw [hv_3, i_shl1 (by omega) (by omega)]
    rcases (show n = 1 ∨ n = 2 ∨ n = 3 by omega) with rfl | rfl | rfl <;> decide
  refine ww_aload_n hX (pc := 5) dX2_search_5 rfl ?_
  refine ww_getR hX (pc := 6) fX2_18 (by decide) (xs_37 hL) (xr_37_1 hL) dX2_search_6 ?_
  refine ww_iconst hX (pc := 9) (x := 0) dX2_search_9 rfl ?_
  refine sV2 hX (pc := 10) sX2_53 (c_J7_fill_53178 l0 (xs_41 hL) (by decide)) (by decide) (Nat.le_refl 0) (Nat.le_refl 0) (Nat.le_of_ble_eq_true rfl) dX2_search_10 (fun I_10 J_10 h_10 => ?_)
  obtain ⟨rfl, eI_10⟩ := h_10
  have kI_10 : Kp 37 46 Ia I_10 := by rw [eI_10]; exact Kp_upR (Kp_rf (a := 37) (b := 46)) _ (by decide)
  refine ww_aload_n hX (pc := 13) dX2_search_13 rfl ?_
  refine ww_getR hX (pc := 14) fX2_22 (by decide) (xs_37 hL) (xr_37_2 hL) dX2_search_14 ?_
  refine ww_iconst hX (pc := 17) (x := 0) dX2_search_17 rfl ?_
  refine sV2 hX (pc := 18) sX2_53 (c_J7_fill_53178 l0 (xs_42 hL) (by decide)) (by decide) (Nat.le_refl 0) (Nat.le_refl 0) (Nat.le_of_ble_eq_true rfl) dX2_search_18 (fun I_18 J_18 h_18 => ?_)
  obtain ⟨rfl, eI_18⟩ := h_18
  have kI_18 : Kp 37 46 Ia I_18 := by rw [eI_18]; exact Kp_upR kI_10 _ (by decide)
  have hz41 : ∀ j, j < 8 → I_18 41 j = 0 := fun j hj => by rw [eI_18, upR_n _ _ (by decide), eI_10, upR_s, if_pos hj]
  have hz42 : ∀ j, j < 8 → I_18 42 j = 0 := fun j hj => by rw [eI_18, upR_s, if_pos hj]
  have hz43 : I_18 43 = Ia 43 := by rw [eI_18, upR_n _ _ (by decide), eI_10, upR_n _ _ (by decide)]
  have hz45 : I_18 45 = Ia 45 := by rw [eI_18, upR_n _ _ (by decide), eI_10, upR_n _ _ (by decide)]
  refine ww_iconst hX (pc := 21) (x := 1) dX2_search_21 rfl ?_
  refine ww_istore hX (pc := 22) (lv' := [some (kR (some 37)), some (kI p), some (kI n), some (kI k), some (kI v_3), some (kI 1), none]) dX2_search_22 (by decide) rfl rfl ?_
  refine ww_iconst hX (pc := 24) (x := 0) dX2_search_24 rfl ?_
  refine ww_istore hX (pc := 25) (lv' := [some (kR (some 37)), some (kI p), some (kI n), some (kI k), some (kI v_3), some (kI 1), some (kI 0)]) dX2_search_25 (by decide) rfl rfl ?_
  have hl_27 : ∀ (n_27 : Nat) (mo : Int) (q : Int) (I2 : aI1) (J2 : aI1), (65536 - q).toNat = n_27 → (Kp 37 46 Ia I2 ∧ Kp 37 46 Ja J2 ∧ (0 ≤ q ∧ q ≤ 65536) ∧ RI I2 v_3 k ∧ FI I2 ∧ I2 45 = Ia 45 ∧ SWi mo I2 v_3.toNat k.toNat p.toNat q ∧ (mo = 0 ∨ mo = 1) ∧ (∀ t : Nat, t < 4 → 0 ≤ I2 43 (4 * p.toNat + t) ∧ I2 43 (4 * p.toNat + t) ≤ 24 * q) ∧ (∀ j : Nat, (j < 4 * p.toNat ∨ 4 * p.toNat + 4 ≤ j) → I2 43 j = Ia 43 j)) → WW X 27 [some (kR (some 37)), some (kI p), some (kI n), some (kI k), some (kI v_3), some (kI mo), some (kI q)] [] I2 J2 Ra Sa 0 0 := by
    intro n_27
    induction n_27 using Nat.strongRecOn with
    | ind n_27 ih_27 =>
      intro mo q I2 J2 hm_27 hv_27
      obtain ⟨kI2, kJ2, hq, hr2, fI2, e45, hsw, hmb, hct, hoj⟩ := hv_27
      refine ww_iload hX (pc := 27) dX2_search_27 rfl ?_
      refine ww_ldc hX (pc := 29) (x := 65536) dX2_search_29 tb_870 ?_
      refine ww_icmp_ge hX (pc := 31) (tgt := 100) dX2_search_31 (by decide) (fun h_31 => ?_) (fun h_31 => ?_)
      · simp only [w32_mod] at h_31
        refine rV hX (pc := 100) hT (Nat.le_refl 0) (Nat.le_refl 0) dX2_search_100 ?_
        have hpt : PK I2 p.toNat = ((TOTc k.toNat v_3.toNat : Nat) : Int) := by
          rcases hmb with h9 | h9
          · exact hsw.2 h9
          · obtain ⟨r, pp, acc, -, h7, h6⟩ := hsw.1 h9
            rw [show (65536 - q).toNat = 0 by omega] at h6
            have h5 : acc = TOTc k.toNat v_3.toNat := h6
            rw [h7, h5]
        exact ⟨kI2, kJ2, fI2, by rw [← hN3]; exact hpt, fun t ht => by have := hct t ht; omega, hoj, e45⟩
      · simp only [w32_mod] at h_31
        refine ww_iload hX (pc := 34) dX2_search_34 rfl ?_
        refine ww_if_eq hX (pc := 36) (tgt := 100) dX2_search_36 (by decide) (fun h_36 => ?_) (fun h_36 => ?_)
        · simp only [w32_mod] at h_36
          refine rV hX (pc := 100) hT (Nat.le_refl 0) (Nat.le_refl 0) dX2_search_100 ?_
          have hpt : PK I2 p.toNat = ((TOTc k.toNat v_3.toNat : Nat) : Int) := by
            rcases hmb with h9 | h9
            · exact hsw.2 h9
            · obtain ⟨r, pp, acc, -, h7, h6⟩ := hsw.1 h9
              rw [show (65536 - q).toNat = 0 by omega] at h6
              have h5 : acc = TOTc k.toNat v_3.toNat := h6
              rw [h7, h5]
          exact ⟨kI2, kJ2, fI2, by rw [← hN3]; exact hpt, fun t ht => by have := hct t ht; omega, hoj, e45⟩
        · simp only [w32_mod] at h_36
          refine ww_aload_n hX (pc := 39) dX2_search_39 rfl ?_
          refine ww_getR hX (pc := 40) fX2_14 (by decide) (xs_37 hL) (xr_37_0 hL) dX2_search_40 ?_
          refine ww_aload_n hX (pc := 43) dX2_search_43 rfl ?_
          refine ww_getR hX (pc := 44) fX2_18 (by decide) (xs_37 hL) (xr_37_1 hL) dX2_search_44 ?_
          refine ww_iload hX (pc := 47) dX2_search_47 rfl ?_
          refine ww_iconst hX (pc := 49) (x := 1) dX2_search_49 rfl ?_
          refine ww_isub hX (pc := 50) dX2_search_50 ?_
          refine ww_iconst hX (pc := 51) (x := 0) dX2_search_51 rfl ?_
          refine ww_iload_n hX (pc := 52) dX2_search_52 rfl ?_
          refine vV4 hX (pc := 53) sX2_60 (xs_38 hL) (c5_X5_fill l0 (Ia := I2) (xs_38 hL) (xr_38_0 hL) (xr_38_1 hL) (xs_40 hL) (xs_39 hL) (xs_41 hL) (by decide) (by decide) (by decide) (by decide) (fun j hj => by have := hr2.1 j hj; omega) (by decide) (by omega) (by omega) (by omega) (by decide) (by omega) (by omega)) (by decide) (Nat.le_refl 0) (Nat.le_refl 0) (Nat.le_of_ble_eq_true rfl) dX2_search_53 (fun I_53 J_53 h_53 => ?_)
          obtain ⟨rfl, h_53, lv_53⟩ := h_53
          have kI_53 : Kp 37 46 Ia I_53 := Kp_tr kI2 (Kq_kp h_53 (by decide) (by decide))
          have e41_53 := h_53 41 (by decide) (by decide)
          have e42_53 := h_53 42 (by decide) (by decide)
          have e43_53 := h_53 43 (by decide) (by decide)
          have hr_53 : RI I_53 v_3 k := RI_of hr2 e41_53 e42_53
          have f_53 : FI I_53 := FI_of fI2 (h_53 44 (by decide) (by decide))
          obtain ⟨r, pp, acc, hrr, hac, hsr⟩ := hsw.1 (by omega)
          have hd0 : I_53 40 (Int.toNat 0) = ((DL k.toNat r : Nat) : Int) := DL_v (N := v_3.toNat) (q := k.toNat) hrr.1 (by omega) (by omega) (by omega) (by omega) (by rw [show ((v_3.toNat : Nat) : Int) = v_3 - 1 + 1 by omega, show ((k.toNat : Nat) : Int) = k by omega]; exact lv_53) (fun s hs => (hrr.2.2 s hs).1)
          have hdb : 0 ≤ I_53 40 (Int.toNat 0) ∧ I_53 40 (Int.toNat 0) ≤ 8 := by
            have h9 : 0 ≤ I_53 40 (Int.toNat 0) ∧ I_53 40 (Int.toNat 0) ≤ 8 - pcn 0 := (lv_53 0 (by omega) (by omega)).2
            have h8 := pcn_r 0
            omega
          have hpk : I_53 42 (v_3 - 1).toNat = ((gd pp (v_3.toNat - 1) : Nat) : Int) := by rw [e42_53, show (v_3 - 1).toNat = v_3.toNat - 1 by omega]; exact (hrr.2.2 _ (by omega)).2
          have hpk2 := (hr_53.1 (v_3 - 1).toNat (by omega)).2
          refine ww_aload_n hX (pc := 56) dX2_search_56 rfl ?_
          refine ww_iload_n hX (pc := 57) dX2_search_57 rfl ?_
          refine ww_aload_n hX (pc := 58) dX2_search_58 rfl ?_
          refine ww_getR hX (pc := 59) fX2_14 (by decide) (xs_37 hL) (xr_37_0 hL) dX2_search_59 ?_
          refine ww_getR hX (pc := 62) fX2_63 (by decide) (xs_38 hL) (xr_38_0 hL) dX2_search_62 ?_
          refine ww_iconst hX (pc := 65) (x := 0) dX2_search_65 rfl ?_
          refine ww_iald hX (pc := 66) (xs_40 hL) (by decide) (by omega) (by omega) dX2_search_66 ?_
          refine ww_iload_n hX (pc := 67) dX2_search_67 rfl ?_
          refine ww_aload_n hX (pc := 68) dX2_search_68 rfl ?_
          refine ww_getR hX (pc := 69) fX2_22 (by decide) (xs_37 hL) (xr_37_2 hL) dX2_search_69 ?_
          refine ww_iload hX (pc := 72) dX2_search_72 rfl ?_
          refine ww_iconst hX (pc := 74) (x := 1) dX2_search_74 rfl ?_
          refine ww_isub hX (pc := 75) dX2_search_75 ?_
          refine ww_iald hX (pc := 76) (xs_42 hL) (by decide) (by omega) (by omega) dX2_search_76 ?_
          refine ww_iconst hX (pc := 77) (x := 1) dX2_search_77 rfl ?_
          refine ww_iadd hX (pc := 78) dX2_search_78 ?_
          refine sI2 hX (pc := 79) sX2_66 (c5_X2_namings l0 (by omega) (by omega) (by omega) (by omega)) (by decide) (Nat.le_refl 0) (Nat.le_refl 0) (Nat.le_of_ble_eq_true rfl) dX2_search_79 (fun x_79 I_79 J_79 h_79 => ?_)
          obtain ⟨rfl, rfl, h_79⟩ := h_79
          refine vV3 hX (pc := 82) sX2_69 (xs_37 hL) (c5_X2_note l0 hL (by omega) (by omega) (by omega) (by omega) (fun j hj => by have := hr_53.1 j hj; omega) f_53) (by decide) (Nat.le_refl 0) (Nat.le_refl 0) (Nat.le_of_ble_eq_true rfl) dX2_search_82 (fun I_82 J_82 h_82 => ?_)
          have kI_82 : Kp 37 46 Ia I_82 := Kp_tr kI_53 (Kp_wd h_82.1 (by decide) (by decide))
          have kJ_82 : Kp 37 46 Ja J_82 := Kp_tr kJ2 (Kp_wd h_82.2.1 (by decide) (by decide))
          have hr_82 : RI I_82 v_3 k := RI_of hr_53 (h_82.1 41 (by decide)) (h_82.1 42 (by decide))
          have f_82 : FI I_82 := h_82.2.2.1
          obtain ⟨w8, hw8, hn8⟩ := h_82.2.2.2
          have hp8 := PK_n hn8 hw8 (by omega)
          have hnr := namN_r (k := k.toNat) (u := (I_53 42 (v_3 - 1).toNat + 1).toNat) (by omega) (by omega) (by omega)
          refine ww_aload_n hX (pc := 85) dX2_search_85 rfl ?_
          refine ww_iload hX (pc := 86) dX2_search_86 rfl ?_
          refine ww_iload_n hX (pc := 88) dX2_search_88 rfl ?_
          refine vI2 hX (pc := 89) sX2_72 (xs_37 hL) (c5_X2_turnOn l0 hL (by omega) (by omega) (by omega) (by omega) hr_82) (by decide) (Nat.le_refl 0) (Nat.le_refl 0) (Nat.le_of_ble_eq_true rfl) dX2_search_89 (fun x_89 I_89 J_89 h_89 => ?_)
          have kI_89 : Kp 37 46 Ia I_89 := Kp_tr kI_82 (Kp_wd h_89.1 (by decide) (by decide))
          have kJ_89 : Kp 37 46 Ja J_89 := Kp_tr kJ_82 (Kp_wd h_89.2.1 (by decide) (by decide))
          have f_89 : FI I_89 := FI_of f_82 (h_89.1 44 (by decide))
          have e43_89 : I_89 43 = I_82 43 := h_89.1 43 (by decide)
          have e45_89 : PK I_89 p.toNat = ((acc + namN k.toNat (gd pp (v_3.toNat - 1) + 1) * pwC (DL k.toNat r) : Nat) : Int) := by
            have h9 : PK I_89 p.toNat = PK I_82 p.toNat := by unfold PK; rw [e43_89]
            have h8 : PK I_53 p.toNat = PK I2 p.toNat := by unfold PK; rw [e43_53]
            rw [h9, hp8, h8, hac, h_79, hd0, Int.natCast_add, Int.natCast_mul]
            rw [Int.toNat_natCast, show (I_53 42 (v_3 - 1).toNat + 1).toNat = gd pp (v_3.toNat - 1) + 1 by omega]
          have hrr8 : RR I_82 v_3.toNat r pp := ⟨hrr.1, hrr.2.1, fun j hj => by rw [h_82.1 41 (by decide), h_82.1 42 (by decide), e41_53, e42_53]; exact hrr.2.2 j hj⟩
          have hss := srch_s k.toNat v_3.toNat (65536 - q - 1).toNat r pp acc
          rw [show (65536 - q - 1).toNat + 1 = (65536 - q).toNat by omega, hsr] at hss
          have hsx : SWi x_89 I_89 v_3.toNat k.toNat p.toNat (q + 1) := by
            refine ⟨fun h9 => ?_, fun h9 => ?_⟩
            · have ht := h_89.2.2.2.2
              rw [h9] at ht
              have h8 := TO_1 (N := v_3.toNat) (k := k.toNat) (by omega) (by omega) (by omega) hrr8 ht
              rw [if_neg h8.1, show (65536 - q - 1).toNat = (65536 - (q + 1)).toNat by omega] at hss
              exact ⟨_, _, _, h8.2, e45_89, hss.symm⟩
            · have ht := h_89.2.2.2.2
              rw [h9] at ht
              have h8 := TO_0 (N := v_3.toNat) (k := k.toNat) (by omega) (by omega) (by omega) hrr8 ht
              rw [if_pos h8] at hss
              rw [e45_89, hss]
          clear hss hsr
          have hct9 : ∀ t : Nat, t < 4 → 0 ≤ I_89 43 (4 * p.toNat + t) ∧ I_89 43 (4 * p.toNat + t) ≤ 24 * (q + 1) := fun t ht => by
            have h7 := hn8.1 t ht
            have h6 := hct t ht
            rw [e43_89, h7, e43_53]
            split <;> omega
          have hoj9 : ∀ j : Nat, (j < 4 * p.toNat ∨ 4 * p.toNat + 4 ≤ j) → I_89 43 j = Ia 43 j := fun j hj => by
            rw [e43_89, hn8.2 j hj, e43_53]; exact hoj j hj
          refine ww_istore hX (pc := 92) (lv' := [some (kR (some 37)), some (kI p), some (kI n), some (kI k), some (kI v_3), some (kI x_89), some (kI q)]) dX2_search_92 (by decide) rfl rfl ?_
          refine ww_iinc hX (pc := 94) (lv' := [some (kR (some 37)), some (kI p), some (kI n), some (kI k), some (kI v_3), some (kI x_89), some (kI (q + 1))]) dX2_search_94 rfl (by decide) rfl rfl ?_
          refine ww_goto hX (pc := 97) (tgt := 27) dX2_search_97 (by decide) ?_
          exact ih_27 _ (by omega) x_89 (q + 1) I_89 J_89 rfl ⟨kI_89, kJ_89, ⟨by omega, by omega⟩, h_89.2.2.2.1, f_89, by rw [h_89.1 45 (by decide), h_82.1 45 (by decide), h_53 45 (by decide) (by decide)]; exact e45, hsx, by omega, hct9, hoj9⟩
  exact hl_27 _ 1 0 I_18 Ja rfl ⟨kI_18, (Kp_rf (a := 37) (b := 46)), ⟨by omega, by omega⟩, ⟨fun j hj => by rw [hz41 j hj, hz42 j hj]; omega, fun j h1 h2 => by rw [hz41 j (by omega), hz42 (j - 1) (by omega)]; omega⟩, FI_of hF (by rw [eI_18, upR_n _ _ (by decide), eI_10, upR_n _ _ (by decide)]), hz45, ⟨(fun _ => ⟨zrs v_3.toNat, zrs v_3.toNat, 0, ⟨(zrs_v _).1, (zrs_v _).1, fun j hj => by rw [hz41 j (by omega), hz42 j (by omega), (zrs_v _).2]; exact ⟨rfl, rfl⟩⟩, by unfold PK; rw [hz43, hz 1 (by decide), hz 2 (by decide), hz 3 (by decide)]; have := hz 0 (by decide); rw [Nat.add_zero] at this; rw [this]; rfl, rfl⟩), (fun h9 => absurd h9 (by decide))⟩, Or.inr rfl, (fun t ht => by rw [hz43, hz t ht]; omega), (fun j hj => by rw [hz43])⟩
/-- a pair's count for t -/
noncomputable def TBt (k N t : Nat) : Int := ((TOTc k N / 16777216 ^ t % 16777216 : Nat) : Int)
/-- what was searched is as it should be -/
def SR (F : aI1) : Prop := ∀ n k : Int, 1 ≤ n → n ≤ 3 → 2 ≤ k → k ≤ 4 → (F 45 ((n - 1) * 3 + k - 2).toNat = 0 ∧ ∀ t : Nat, t < 4 → F 43 (4 * ((n - 1) * 3 + k - 2).toNat + t) = 0) ∨ (F 45 ((n - 1) * 3 + k - 2).toNat = 1 ∧ ∀ t : Nat, t < 4 → F 43 (4 * ((n - 1) * 3 + k - 2).toNat + t) = TBt k.toNat (2 ^ n.toNat) t)
theorem SR_of {F G : aI1} (h : SR F) (h1 : G 43 = F 43) (h2 : G 45 = F 45) : SR G := by unfold SR; rw [h1, h2]; exact h
theorem PK_t {F : aI1} {q T : Nat} (h : PK F q = ((T : Nat) : Int)) (hr : ∀ t : Nat, t < 4 → 0 ≤ F 43 (4 * q + t) ∧ F 43 (4 * q + t) < 16777216) : ∀ t : Nat, t < 4 → F 43 (4 * q + t) = ((T / 16777216 ^ t % 16777216 : Nat) : Int) := by
  have h0 := hr 0 (by decide)
  have h1 := hr 1 (by decide)
  have h2 := hr 2 (by decide)
  have h3 := hr 3 (by decide)
  unfold PK at h
  rw [Nat.add_zero] at h0
  intro t ht
  rcases (show t = 0 ∨ t = 1 ∨ t = 2 ∨ t = 3 by omega) with rfl | rfl | rfl | rfl
  · rw [Nat.add_zero, Nat.pow_zero, Nat.div_one]; omega
  · rw [show 16777216 ^ 1 = 16777216 from rfl]; omega
  · rw [show 16777216 ^ 2 = 281474976710656 from rfl]; omega
  · rw [show 16777216 ^ 3 = 4722366482869645213696 from rfl]; omega
theorem SR_s {F G : aI1} {n k : Int} (h : SR F) (n0 : 1 ≤ n) (n1 : n ≤ 3) (k0 : 2 ≤ k) (k1 : k ≤ 4) (hp : PK G ((n - 1) * 3 + k - 2).toNat = ((TOTc k.toNat (2 ^ n.toNat) : Nat) : Int)) (hr : ∀ t : Nat, t < 4 → 0 ≤ G 43 (4 * ((n - 1) * 3 + k - 2).toNat + t) ∧ G 43 (4 * ((n - 1) * 3 + k - 2).toNat + t) < 16777216) (ho : ∀ j : Nat, (j < 4 * ((n - 1) * 3 + k - 2).toNat ∨ 4 * ((n - 1) * 3 + k - 2).toNat + 4 ≤ j) → G 43 j = F 43 j) (h45 : G 45 = up1 (F 45) ((n - 1) * 3 + k - 2).toNat 1) : SR G := by
  intro n' k' a0 a1 b0 b1
  by_cases e : (n' - 1) * 3 + k' - 2 = (n - 1) * 3 + k - 2
  · have en : n' = n := by omega
    have ek : k' = k := by omega
    subst en ek
    right
    rw [h45, up1_s]
    exact ⟨rfl, PK_t hp hr⟩
  · rw [h45, up1_n _ _ (by omega)]
    rcases h n' k' a0 a1 b0 b1 with ⟨h1, h2⟩ | ⟨h1, h2⟩
    · exact Or.inl ⟨h1, fun t ht => by rw [ho _ (by omega)]; exact h2 t ht⟩
    · exact Or.inr ⟨h1, fun t ht => by rw [ho _ (by omega)]; exact h2 t ht⟩
set_option maxHeartbeats 4000000 in
set_option maxRecDepth 20000 in
theorem c5_X2_countCodes (l0 : Launch) {Ia Ja : aI1} {Ra : aR1} {Sa : aS1} (hL : LY Ra Sa) {n k t : Int} (hn0 : 1 ≤ n) (hn1 : n ≤ 3) (hk0 : 2 ≤ k) (hk1 : k ≤ 4) (ht0 : 0 ≤ t) (ht1 : t ≤ 8) (hF : FI Ia) (hS : SR Ia)  : CT l0 4 0 0 mX2_countCodes [kR (some 37), kI n, kI k, kI t] Ia Ja Ra Sa (cI (fun x I' J' => Kp 37 46 Ia I' ∧ Kp 37 46 Ja J' ∧ FI I' ∧ SR I' ∧ (3 < t → x = 0) ∧ (t ≤ 3 → x = TBt k.toNat (2 ^ n.toNat) t.toNat)) Ra Sa) := by
  refine ct_in pn_X2 (Nat.le_of_ble_eq_true rfl) (fun X hX hT hIn => ?_)
  have hX : aK l0 X cX2_countCodes 5 RX2 (some .int) 4 0 0 := hX
  change WW X 0 [some (kR (some 37)), some (kI n), some (kI k), some (kI t), none] [] Ia Ja Ra Sa 0 0
  refine ww_iload_n hX (pc := 0) dX2_countCodes_0 rfl ?_
  refine ww_iconst hX (pc := 1) (x := 3) dX2_countCodes_1 rfl ?_
  refine ww_icmp_le hX (pc := 2) (tgt := 7) dX2_countCodes_2 (by decide) (fun h_2 => ?_) (fun h_2 => ?_)
  · simp only [w32_mod] at h_2
    refine ww_iload_n hX (pc := 7) dX2_countCodes_7 rfl ?_
    refine ww_iload_n hX (pc := 8) dX2_countCodes_8 rfl ?_
    refine sI2 hX (pc := 9) sX2_35 (c_X2_pairOf l0) (by decide) (Nat.le_refl 0) (Nat.le_refl 0) (Nat.le_of_ble_eq_true rfl) dX2_countCodes_9 (fun x_9 I_9 J_9 h_9 => ?_)
    obtain ⟨rfl, rfl, h_9⟩ := h_9
    refine ww_istore hX (pc := 12) (lv' := [some (kR (some 37)), some (kI n), some (kI k), some (kI t), some (kI x_9)]) dX2_countCodes_12 (by decide) rfl rfl ?_
    have e12 : x_9 = (n - 1) * 3 + k - 2 := h_9
    have hs0 := hS n k hn0 hn1 hk0 hk1
    rw [← e12] at hs0
    refine ww_aload_n hX (pc := 14) dX2_countCodes_14 rfl ?_
    refine ww_getR hX (pc := 15) fX2_31 (by decide) (xs_37 hL) (xr_37_5 hL) dX2_countCodes_15 ?_
    refine ww_iload hX (pc := 18) dX2_countCodes_18 rfl ?_
    refine ww_zald hX (pc := 20) (xs_45 hL) (by decide) (by omega) (by omega) dX2_countCodes_20 ?_
    refine ww_if_ne hX (pc := 21) (tgt := 40) dX2_countCodes_21 (by decide) (fun h_21 => ?_) (fun h_21 => ?_)
    · simp only [w32_mod] at h_21
      refine ww_aload_n hX (pc := 40) dX2_countCodes_40 rfl ?_
      refine ww_getR hX (pc := 41) fX2_25 (by decide) (xs_37 hL) (xr_37_3 hL) dX2_countCodes_41 ?_
      refine ww_iload hX (pc := 44) dX2_countCodes_44 rfl ?_
      refine ww_iconst hX (pc := 46) (x := 4) dX2_countCodes_46 rfl ?_
      refine ww_imul hX (pc := 47) dX2_countCodes_47 ?_
      refine ww_iload_n hX (pc := 48) dX2_countCodes_48 rfl ?_
      refine ww_iadd hX (pc := 49) dX2_countCodes_49 ?_
      refine ww_iald hX (pc := 50) (xs_43 hL) (by decide) (by omega) (by omega) dX2_countCodes_50 ?_
      refine rI hX (pc := 51) hT (Nat.le_refl 0) (Nat.le_refl 0) dX2_countCodes_51 ?_
      have hsr9 := hS n k hn0 hn1 hk0 hk1
      rw [← e12] at hsr9
      exact ⟨(Kp_rf (a := 37) (b := 46)), (Kp_rf (a := 37) (b := 46)), hF, hS, fun h9 => absurd h9 (by omega), fun h9 => by
          rw [show (x_9 * 4 + t).toNat = 4 * x_9.toNat + t.toNat by omega]
          rcases hsr9 with ⟨h8, -⟩ | ⟨-, h8⟩
          · omega
          · exact h8 t.toNat (by omega)⟩
    · simp only [w32_mod] at h_21
      have hz0 : ∀ t : Nat, t < 4 → Ia 43 (4 * x_9.toNat + t) = 0 := by
        rcases hs0 with h8 | h8
        · exact h8.2
        · omega
      refine ww_aload_n hX (pc := 24) dX2_countCodes_24 rfl ?_
      refine ww_getR hX (pc := 25) fX2_31 (by decide) (xs_37 hL) (xr_37_5 hL) dX2_countCodes_25 ?_
      refine ww_iload hX (pc := 28) dX2_countCodes_28 rfl ?_
      refine ww_iconst hX (pc := 30) (x := 1) dX2_countCodes_30 rfl ?_
      refine ww_zast hX (pc := 31) (xs_45 hL) (by decide) (by omega) (by omega) (by decide) dX2_countCodes_31 ?_
      refine ww_nmH (fun I_31 eI_31 => ?_)
      have kI_31 : Kp 37 46 Ia I_31 := by rw [eI_31]; exact Kp_up (Kp_rf (a := 37) (b := 46)) _ _ (by decide)
      have fI_31 : FI I_31 := FI_of hF (by rw [eI_31, up2_off _ _ _ (by decide)])
      have g43 : I_31 43 = Ia 43 := by rw [eI_31, up2_off _ _ _ (by decide)]
      refine ww_aload_n hX (pc := 32) dX2_countCodes_32 rfl ?_
      refine ww_iload hX (pc := 33) dX2_countCodes_33 rfl ?_
      refine ww_iload_n hX (pc := 35) dX2_countCodes_35 rfl ?_
      refine ww_iload_n hX (pc := 36) dX2_countCodes_36 rfl ?_
      refine vV3 hX (pc := 37) sX2_39 (xs_37 hL) (c5_X2_search l0 hL (by omega) (by omega) (by omega) (by omega) (by omega) (by omega) fI_31 (fun t ht => by rw [g43]; exact hz0 t ht)) (by decide) (Nat.le_refl 0) (Nat.le_refl 0) (Nat.le_of_ble_eq_true rfl) dX2_countCodes_37 (fun I_37 J_37 h_37 => ?_)
      have kI_37 : Kp 37 46 Ia I_37 := Kp_tr kI_31 (Kp_wd h_37.1 (by decide) (by decide))
      have kJ_37 : Kp 37 46 Ja J_37 := Kp_tr (Kp_rf (a := 37) (b := 46)) (Kp_wd h_37.2.1 (by decide) (by decide))
      have z45 : I_37 45 x_9.toNat = 1 := by rw [h_37.2.2.2.2.2.2, eI_31, up2_s]
      have f_37 : FI I_37 := h_37.2.2.1
      have sr_37 : SR I_37 := SR_s hS hn0 hn1 hk0 hk1 (by rw [← e12]; exact h_37.2.2.2.1) (by rw [← e12]; exact h_37.2.2.2.2.1) (by rw [← e12]; exact fun j hj => (h_37.2.2.2.2.2.1 j hj).trans (by rw [g43])) (by rw [h_37.2.2.2.2.2.2, eI_31, up2_row, e12])
      refine ww_aload_n hX (pc := 40) dX2_countCodes_40 rfl ?_
      refine ww_getR hX (pc := 41) fX2_25 (by decide) (xs_37 hL) (xr_37_3 hL) dX2_countCodes_41 ?_
      refine ww_iload hX (pc := 44) dX2_countCodes_44 rfl ?_
      refine ww_iconst hX (pc := 46) (x := 4) dX2_countCodes_46 rfl ?_
      refine ww_imul hX (pc := 47) dX2_countCodes_47 ?_
      refine ww_iload_n hX (pc := 48) dX2_countCodes_48 rfl ?_
      refine ww_iadd hX (pc := 49) dX2_countCodes_49 ?_
      refine ww_iald hX (pc := 50) (xs_43 hL) (by decide) (by omega) (by omega) dX2_countCodes_50 ?_
      refine rI hX (pc := 51) hT (Nat.le_refl 0) (Nat.le_refl 0) dX2_countCodes_51 ?_
      have hsr9 := sr_37 n k hn0 hn1 hk0 hk1
      rw [← e12] at hsr9
      exact ⟨kI_37, kJ_37, f_37, sr_37, fun h9 => absurd h9 (by omega), fun h9 => by
          rw [show (x_9 * 4 + t).toNat = 4 * x_9.toNat + t.toNat by omega]
          rcases hsr9 with ⟨h8, -⟩ | ⟨-, h8⟩
          · omega
          · exact h8 t.toNat (by omega)⟩
  · simp only [w32_mod] at h_2
    refine ww_iconst hX (pc := 5) (x := 0) dX2_countCodes_5 rfl ?_
    refine rI hX (pc := 6) hT (Nat.le_refl 0) (Nat.le_refl 0) dX2_countCodes_6 ?_
    exact ⟨(Kp_rf (a := 37) (b := 46)), (Kp_rf (a := 37) (b := 46)), hF, hS, fun _ => rfl, fun h9 => absurd h9 (by omega)⟩
set_option maxHeartbeats 4000000 in
set_option maxRecDepth 20000 in
theorem c5_X2_copyFirst (l0 : Launch) {Ia Ja : aI1} {Ra : aR1} {Sa : aS1} (hL : LY Ra Sa) {n k t : Int} (hn0 : 1 ≤ n) (hn1 : n ≤ 3) (hk0 : 2 ≤ k) (hk1 : k ≤ 4) (ht0 : 0 ≤ t) (ht1 : t ≤ 8) (hF : FI Ia) (hS : SR Ia) (hI3 : ∀ j, j < 256 → -1 ≤ Ia 3 j ∧ Ia 3 j ≤ 7)  : CT l0 5 0 0 mX2_copyFirst [kR (some 37), kI n, kI k, kI t, kR (some 3)] Ia Ja Ra Sa (cV (fun I' J' => (∀ q, q ≠ 3 → (q < 37 ∨ 46 ≤ q) → I' q = Ia q) ∧ Kp 37 46 Ja J' ∧ FI I' ∧ (∀ j, j < 256 → -1 ≤ I' 3 j ∧ I' 3 j ≤ 7) ∧ SR I') Ra Sa) := by
  refine ct_in pn_X2 (Nat.le_of_ble_eq_true rfl) (fun X hX hT hIn => ?_)
  have hX : aK l0 X cX2_copyFirst 5 RX2 none 5 0 0 := hX
  change WW X 0 [some (kR (some 37)), some (kI n), some (kI k), some (kI t), some (kR (some 3))] [] Ia Ja Ra Sa 0 0
  refine ww_aload_n hX (pc := 0) dX2_copyFirst_0 rfl ?_
  refine ww_iload_n hX (pc := 1) dX2_copyFirst_1 rfl ?_
  refine ww_iload_n hX (pc := 2) dX2_copyFirst_2 rfl ?_
  refine ww_iload_n hX (pc := 3) dX2_copyFirst_3 rfl ?_
  refine vI3 hX (pc := 4) sX2_43 (xs_37 hL) (c5_X2_countCodes l0 hL (by omega) (by omega) (by omega) (by omega) (by omega) (by omega) hF hS) (by decide) (Nat.le_refl 0) (Nat.le_refl 0) (Nat.le_of_ble_eq_true rfl) dX2_copyFirst_4 (fun x_4 I_4 J_4 h_4 => ?_)
  refine ww_if_le hX (pc := 7) (tgt := 35) dX2_copyFirst_7 (by decide) (fun h_7 => ?_) (fun h_7 => ?_)
  · simp only [w32_mod] at h_7
    refine rV hX (pc := 35) hT (Nat.le_refl 0) (Nat.le_refl 0) dX2_copyFirst_35 ?_
    exact ⟨fun q h1 h2 => h_4.1 q (by omega), h_4.2.1, h_4.2.2.1, by rw [h_4.1 3 (by decide)]; exact hI3, h_4.2.2.2.1⟩
  · simp only [w32_mod] at h_7
    refine ww_aload_n hX (pc := 10) dX2_copyFirst_10 rfl ?_
    refine ww_getR hX (pc := 11) fX2_28 (by decide) (xs_37 hL) (xr_37_4 hL) dX2_copyFirst_11 ?_
    refine ww_iload_n hX (pc := 14) dX2_copyFirst_14 rfl ?_
    refine ww_iload_n hX (pc := 15) dX2_copyFirst_15 rfl ?_
    refine sI2 hX (pc := 16) sX2_35 (c_X2_pairOf l0) (by decide) (Nat.le_refl 0) (Nat.le_refl 0) (Nat.le_of_ble_eq_true rfl) dX2_copyFirst_16 (fun x_16 I_16 J_16 h_16 => ?_)
    obtain ⟨rfl, rfl, h_16⟩ := h_16
    refine ww_iconst hX (pc := 19) (x := 4) dX2_copyFirst_19 rfl ?_
    refine ww_imul hX (pc := 20) dX2_copyFirst_20 ?_
    refine ww_iload_n hX (pc := 21) dX2_copyFirst_21 rfl ?_
    refine ww_iadd hX (pc := 22) dX2_copyFirst_22 ?_
    refine ww_bipush hX (pc := 23) (x := 8) dX2_copyFirst_23 (by decide) ?_
    refine ww_imul hX (pc := 25) dX2_copyFirst_25 ?_
    refine ww_aload hX (pc := 26) dX2_copyFirst_26 rfl ?_
    refine ww_iconst hX (pc := 28) (x := 0) dX2_copyFirst_28 rfl ?_
    refine ww_iconst hX (pc := 29) (x := 1) dX2_copyFirst_29 rfl ?_
    refine ww_iload_n hX (pc := 30) dX2_copyFirst_30 rfl ?_
    refine ww_ishl hX (pc := 31) dX2_copyFirst_31 ?_
    refine ww_nmI (fun v_31 hv_31 => ?_)
    have hst : 2 ≤ v_31 ∧ v_31 ≤ 8 := by
      rw [hv_31, i_shl1 (by omega) (by omega)]
      rcases (show n = 1 ∨ n = 2 ∨ n = 3 by omega) with rfl | rfl | rfl <;> decide
    have ht3 : t ≤ 3 := by have := h_4.2.2.2.2.1; omega
    refine ww_copy hX (pc := 32) tb_879 tb_663 tb_662 tb_19 (xs_44 hL) (xs_3 hL) (by decide) (by decide) (by omega) (by omega) (by omega) (by omega) (by omega) (by decide) (Nat.le_of_ble_eq_true rfl) dX2_copyFirst_32 ?_
    refine ww_nmH (fun I_32 eI_32 => ?_)
    refine rV hX (pc := 35) hT (Nat.le_refl 0) (Nat.le_refl 0) dX2_copyFirst_35 ?_
    refine ⟨fun q h1 h2 => ?_, h_4.2.1, FI_of h_4.2.2.1 (by rw [eI_32, upR_n _ _ (by decide)]), fun j hj => ?_, SR_of h_4.2.2.2.1 (by rw [eI_32, upR_n _ _ (by decide)]) (by rw [eI_32, upR_n _ _ (by decide)])⟩
    · rw [eI_32, upR_n _ _ h1]; exact h_4.1 q (by omega)
    · rw [eI_32, upR_s]
      unfold va_cpy
      split
      · have := h_4.2.2.1 (((x_16 * 4 + t) * 8).toNat + (j - Int.toNat 0)) (by omega)
        omega
      · rw [h_4.1 3 (by decide)]; exact hI3 j hj
/-- a pair's count for any t -/
noncomputable def TBX (n k t : Int) : Int := if t ≤ 3 then TBt k.toNat (2 ^ n.toNat) t.toNat else 0
