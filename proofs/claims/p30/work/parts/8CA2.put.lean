/-- the q-th byte of a number, the highest first -/
def by8 (a : Int) (q : Nat) : Int := i_and (i_ushr a (24 - 8 * q)) 255
def PIc (F G : Nat → Int) (l a n : Int) : Prop := (∀ j : Nat, (j : Int) < l → G j = F j) ∧ (∀ q : Nat, (q : Int) < n → G (l.toNat + q) = by8 a q)
theorem PIc_0 {F : Nat → Int} {l a : Int} : PIc F F l a 0 := ⟨fun _ _ => rfl, fun q hq => absurd hq (by omega)⟩
theorem PIc_s {F G : Nat → Int} {l a n m s : Int} (h : PIc F G l a n) (h0 : 0 ≤ l) (hn : 0 ≤ n) (hm : m = n + 1) (hs : s = 24 - 8 * n) {p : Nat} (hp : p = (l + n).toNat) : PIc F (up1 G p (i_and (i_ushr a s) 255)) l a m := by
  subst hm hs hp
  refine ⟨fun j hj => ?_, fun q hq => ?_⟩
  · rw [up1_n _ _ (by omega)]
    exact h.1 j hj
  · by_cases e : (q : Int) = n
    · rw [show l.toNat + q = (l + n).toNat by omega, up1_s, ← e]
      rfl
    · rw [up1_n _ _ (by omega)]
      exact h.2 q (by omega)
def sel5 (a b c e f : Int) (q : Nat) : Int := if q = 0 then a else if q = 1 then b else if q = 2 then c else if q = 3 then e else f
def FDc (F G : Nat → Int) (l a b c e f : Int) : Prop := (∀ j : Nat, (j : Int) < l → G j = F j) ∧ (∀ k : Nat, k < 20 → G (l.toNat + k) = by8 (sel5 a b c e f (k / 4)) (k % 4))
theorem FDc_of {F G1 G2 G3 G4 G5 : Nat → Int} {l a b c e f : Int} (h0 : 0 ≤ l) (h1 : PIc F G1 l a 4) (h2 : PIc G1 G2 (l + 4) b 4) (h3 : PIc G2 G3 (l + 4 + 4) c 4) (h4 : PIc G3 G4 (l + 4 + 4 + 4) e 4) (h5 : PIc G4 G5 (l + 4 + 4 + 4 + 4) f 4) : FDc F G5 l a b c e f := by
  refine ⟨fun j hj => by rw [h5.1 j (by omega), h4.1 j (by omega), h3.1 j (by omega), h2.1 j (by omega), h1.1 j hj], fun k hk => ?_⟩
  unfold sel5
  rcases (show k / 4 = 0 ∨ k / 4 = 1 ∨ k / 4 = 2 ∨ k / 4 = 3 ∨ k / 4 = 4 by omega) with q | q | q | q | q
  · rw [q, if_pos rfl, h5.1 _ (by omega), h4.1 _ (by omega), h3.1 _ (by omega), h2.1 _ (by omega), show l.toNat + k = l.toNat + k % 4 by omega]
    exact h1.2 (k % 4) (by omega)
  · rw [q, if_neg (by decide), if_pos rfl, h5.1 _ (by omega), h4.1 _ (by omega), h3.1 _ (by omega), show l.toNat + k = (l + 4).toNat + k % 4 by omega]
    exact h2.2 (k % 4) (by omega)
  · rw [q, if_neg (by decide), if_neg (by decide), if_pos rfl, h5.1 _ (by omega), h4.1 _ (by omega), show l.toNat + k = (l + 4 + 4).toNat + k % 4 by omega]
    exact h3.2 (k % 4) (by omega)
  · rw [q, if_neg (by decide), if_neg (by decide), if_neg (by decide), if_pos rfl, h5.1 _ (by omega), show l.toNat + k = (l + 4 + 4 + 4).toNat + k % 4 by omega]
    exact h4.2 (k % 4) (by omega)
  · rw [q, if_neg (by decide), if_neg (by decide), if_neg (by decide), if_neg (by decide), show l.toNat + k = (l + 4 + 4 + 4 + 4).toNat + k % 4 by omega]
    exact h5.2 (k % 4) (by omega)
/-- a STATE's NEWS by a ROW of bytes -/
def RWv (F : Nat → Int) (l k : Int) (j : Nat) : Int := if (j : Int) < l ∧ 0 ≤ F j ∧ F j < k then F j else -1
/-- how many of the first n are READ -/
def cnR (F : Nat → Int) : Nat → Int
  | 0 => 0
  | n + 1 => cnR F n + (if F n = -1 then 0 else 1)
theorem cnR_cg {F G : Nat → Int} : ∀ n, (∀ j, j < n → F j = G j) → cnR F n = cnR G n
  | 0, _ => rfl
  | n + 1, h => by
    show cnR F n + _ = cnR G n + _
    rw [cnR_cg n (fun j hj => h j (by omega)), h n (by omega)]
theorem cnR_s (F : Nat → Int) {i : Int} (h : 0 ≤ i) : cnR F (i + 1).toNat = cnR F i.toNat + (if F i.toNat = -1 then 0 else 1) := by
  rw [show (i + 1).toNat = i.toNat + 1 by omega]
  rfl
set_option maxHeartbeats 4000000 in
set_option maxRecDepth 20000 in
theorem c5_X9_put (l0 : Launch) {Ia Ja : aI1} {Ra : aR1} {Sa : aS1} (hL : LY Ra Sa) {a : Int} (hl0 : 0 ≤ Ia 8 1) (hl1 : Ia 8 1 ≤ 396) (hby : (∀ j, j < 400 → 0 ≤ Ia 9 j ∧ Ia 9 j ≤ 255))  : CT l0 0 0 0 mX9_put [kR (some 8), kI a] Ia Ja Ra Sa (cV (fun I' J' => Kp 8 10 Ia I' ∧ Kp 8 10 Ja J' ∧ I' 8 1 = Ia 8 1 + 4 ∧ (∀ j, j < 400 → 0 ≤ I' 9 j ∧ I' 9 j ≤ 255) ∧ PIc (Ia 9) (I' 9) (Ia 8 1) a 4) Ra Sa) := by
  refine ct_in pn_X9 (Nat.le_of_ble_eq_true rfl) (fun X hX hT hIn => ?_)
  have hX : aK l0 X cX9_put 3 RX9 none 0 0 0 := hX
  change WW X 0 [some (kR (some 8)), some (kI a), none] [] Ia Ja Ra Sa 0 0
  refine ww_bipush hX (pc := 0) (x := 24) dX9_put_0 (by decide) ?_
  refine ww_istore_n hX (pc := 2) (lv' := [some (kR (some 8)), some (kI a), some (kI 24)]) dX9_put_2 (by decide) rfl rfl ?_
  have hl_3 : ∀ (n_3 : Nat) (sh : Int) (I2 : aI1) (J2 : aI1), (sh + 8).toNat = n_3 → (Kp 8 10 Ia I2 ∧ Kp 8 10 Ja J2 ∧ (-8 ≤ sh ∧ sh ≤ 24 ∧ sh % 8 = 0) ∧ I2 8 1 = Ia 8 1 + (24 - sh) / 8 ∧ (∀ j, j < 400 → 0 ≤ I2 9 j ∧ I2 9 j ≤ 255) ∧ PIc (Ia 9) (I2 9) (Ia 8 1) a ((24 - sh) / 8)) → WW X 3 [some (kR (some 8)), some (kI a), some (kI sh)] [] I2 J2 Ra Sa 0 0 := by
    intro n_3
    induction n_3 using Nat.strongRecOn with
    | ind n_3 ih_3 =>
      intro sh I2 J2 hm_3 hv_3
      have hq_3 := Sh0_i hm_3
      clear hm_3
      obtain ⟨kI2, kJ2, hsh, hle0, hby2, hpi⟩ := hv_3
      refine ww_iload_n hX (pc := 3) dX9_put_3 rfl ?_
      refine ww_if_lt hX (pc := 4) (tgt := 49) dX9_put_4 (by decide) (fun h_4 => ?_) (fun h_4 => ?_)
      · simp only [w32_mod] at h_4
        refine rV hX (pc := 49) hT (Nat.le_refl 0) (Nat.le_refl 0) dX9_put_49 ?_
        exact ⟨kI2, kJ2, by omega, hby2, (show (24 - sh) / 8 = 4 by omega) ▸ hpi⟩
      · simp only [w32_mod] at h_4
        refine ww_aload_n hX (pc := 7) dX9_put_7 rfl ?_
        refine ww_getI hX (pc := 8) fX9_15 (by decide) (xs_8 hL) dX9_put_8 ?_
        refine ww_sipush hX (pc := 11) (x := 400) dX9_put_11 (by decide) ?_
        refine ww_icmp_ge hX (pc := 14) (tgt := 49) dX9_put_14 (by decide) (fun h_14 => ?_) (fun h_14 => ?_)
        · simp only [w32_mod] at h_14
          refine rV hX (pc := 49) hT (Nat.le_refl 0) (Nat.le_refl 0) dX9_put_49 ?_
          exact ⟨kI2, kJ2, by omega, hby2, (show (24 - sh) / 8 = 4 by omega) ▸ hpi⟩
        · simp only [w32_mod] at h_14
          have hbb := i_and_255 (i_ushr a sh)
          refine ww_aload_n hX (pc := 17) dX9_put_17 rfl ?_
          refine ww_getR hX (pc := 18) fX9_9 (by decide) (xs_8 hL) (xr_8_0 hL) dX9_put_18 ?_
          refine ww_aload_n hX (pc := 21) dX9_put_21 rfl ?_
          refine ww_getI hX (pc := 22) fX9_15 (by decide) (xs_8 hL) dX9_put_22 ?_
          refine ww_iload_n hX (pc := 25) dX9_put_25 rfl ?_
          refine ww_iload_n hX (pc := 26) dX9_put_26 rfl ?_
          refine ww_iushr hX (pc := 27) dX9_put_27 ?_
          refine ww_sipush hX (pc := 28) (x := 255) dX9_put_28 (by decide) ?_
          refine ww_iand hX (pc := 31) dX9_put_31 ?_
          refine ww_iast hX (pc := 32) (xs_9 hL) (by decide) (by omega) (by omega) dX9_put_32 ?_
          refine ww_nmH (fun I_32 eI_32 => ?_)
          have kI_32 : Kp 8 10 Ia I_32 := by rw [eI_32]; exact Kp_up kI2 _ _ (by decide)
          have hle : I_32 8 1 = I2 8 1 := by rw [eI_32, up2_off _ _ _ (by decide)]
          have hbz : (∀ j, j < 400 → 0 ≤ I_32 9 j ∧ I_32 9 j ≤ 255) := by rw [eI_32]; exact rng_upN hbb hby2
          have hp32 : PIc (Ia 9) (I_32 9) (Ia 8 1) a ((24 - (sh + (-8))) / 8) := by rw [eI_32, up2_row]; exact PIc_s hpi (by omega) (by omega) (by omega) (by omega) (by omega)
          refine ww_aload_n hX (pc := 33) dX9_put_33 rfl ?_
          refine ww_dupR hX (pc := 34) dX9_put_34 ?_
          refine ww_getI hX (pc := 35) fX9_15 (by decide) (xs_8 hL) dX9_put_35 ?_
          refine ww_iconst hX (pc := 38) (x := 1) dX9_put_38 rfl ?_
          refine ww_iadd hX (pc := 39) dX9_put_39 ?_
          refine ww_putI hX (pc := 40) (fun h9 => absurd h9 (by decide)) gX9_15 rfl (xs_8 hL) dX9_put_40 ?_
          refine ww_nmH (fun I_40 eI_40 => ?_)
          have kI_40 : Kp 8 10 Ia I_40 := by rw [eI_40]; exact Kp_up kI_32 _ _ (by decide)
          have hle2 : I_40 8 1 = I2 8 1 + 1 := by rw [eI_40, up2_s, hle]
          have hbz2 : (∀ j, j < 400 → 0 ≤ I_40 9 j ∧ I_40 9 j ≤ 255) := by rw [eI_40, up2_off _ _ _ (by decide)]; exact hbz
          have hp40 : PIc (Ia 9) (I_40 9) (Ia 8 1) a ((24 - (sh + (-8))) / 8) := by rw [eI_40, up2_off _ _ _ (by decide)]; exact hp32
          refine ww_iinc hX (pc := 43) (lv' := [some (kR (some 8)), some (kI a), some (kI (sh + (-8)))]) dX9_put_43 rfl (by decide) rfl rfl ?_
          refine ww_goto hX (pc := 46) (tgt := 3) dX9_put_46 (by decide) ?_
          exact ih_3 _ (by have hm9 := Sh0_e hq_3; omega) (sh + (-8)) I_40 J2 rfl ⟨kI_40, kJ2, by omega, by omega, hbz2, hp40⟩
  exact hl_3 _ 24 Ia Ja rfl ⟨(Kp_rf (a := 8) (b := 10)), (Kp_rf (a := 8) (b := 10)), by omega, by omega, hby, PIc_0⟩
set_option maxHeartbeats 4000000 in
set_option maxRecDepth 20000 in
theorem c5_X1_readCount (l0 : Launch) {Ia Ja : aI1} {Ra : aR1} {Sa : aS1} (hL : LY Ra Sa) (hI : XI Ia)  : CT l0 1 0 0 mX1_readCount [kR (some 1)] Ia Ja Ra Sa (cI (fun x I' J' => Ia = I' ∧ Ja = J' ∧ x = cnR (Ia 3) (FU (Ia 1 5) + 1).toNat) Ra Sa) := by
  refine ct_in pn_X1 (Nat.le_of_ble_eq_true rfl) (fun X hX hT hIn => ?_)
  have hX : aK l0 X cX1_readCount 4 RX1 (some .int) 1 0 0 := hX
  change WW X 0 [some (kR (some 1)), none, none, none] [] Ia Ja Ra Sa 0 0
  obtain ⟨hn1, hn2⟩ := hI.1
  obtain ⟨hk1, hk2⟩ := hI.2.1
  obtain ⟨hf1, hf2⟩ := hI.fu
  refine ww_iconst hX (pc := 0) (x := 0) dX1_readCount_0 rfl ?_
  refine ww_istore_n hX (pc := 1) (lv' := [some (kR (some 1)), some (kI 0), none, none]) dX1_readCount_1 (by decide) rfl rfl ?_
  refine ww_aload_n hX (pc := 2) dX1_readCount_2 rfl ?_
  refine vI0 hX (pc := 3) sX1_43 (xs_1 hL) (c_X1_full l0 hL hI) (by decide) (Nat.le_refl 0) (Nat.le_refl 0) (Nat.le_of_ble_eq_true rfl) dX1_readCount_3 (fun x_3 I_3 J_3 h_3 => ?_)
  obtain ⟨rfl, rfl, h_3⟩ := h_3
  refine ww_istore_n hX (pc := 6) (lv' := [some (kR (some 1)), some (kI 0), some (kI x_3), none]) dX1_readCount_6 (by decide) rfl rfl ?_
  refine ww_iconst hX (pc := 7) (x := 0) dX1_readCount_7 rfl ?_
  refine ww_istore_n hX (pc := 8) (lv' := [some (kR (some 1)), some (kI 0), some (kI x_3), some (kI 0)]) dX1_readCount_8 (by decide) rfl rfl ?_
  have hl_9 : ∀ (n_9 : Nat) (mn : Int) (q : Int), (x_3 + 1 - q).toNat = n_9 → ((0 ≤ q ∧ q ≤ x_3 + 1) ∧ mn = cnR (Ia 3) q.toNat) → WW X 9 [some (kR (some 1)), some (kI mn), some (kI x_3), some (kI q)] [] Ia Ja Ra Sa 0 0 := by
    intro n_9
    induction n_9 using Nat.strongRecOn with
    | ind n_9 ih_9 =>
      intro mn q hm_9 hv_9
      have hq_9 := Sh0_i hm_9
      clear hm_9
      obtain ⟨⟨hq0, hq1⟩, hmn⟩ := hv_9
      refine ww_iload_n hX (pc := 9) dX1_readCount_9 rfl ?_
      refine ww_iload_n hX (pc := 10) dX1_readCount_10 rfl ?_
      refine ww_icmp_gt hX (pc := 11) (tgt := 38) dX1_readCount_11 (by decide) (fun h_11 => ?_) (fun h_11 => ?_)
      · simp only [w32_mod] at h_11
        refine ww_iload_n hX (pc := 38) dX1_readCount_38 rfl ?_
        refine rI hX (pc := 39) hT (Nat.le_refl 0) (Nat.le_refl 0) dX1_readCount_39 ?_
        exact ⟨rfl, rfl, by rw [hmn, show q = FU (Ia 1 5) + 1 by omega]⟩
      · simp only [w32_mod] at h_11
        have hcd := hI.2.2.2.2.2.2.2.2.2.1 q.toNat (by omega)
        have hcs := cnR_s (Ia 3) hq0
        refine ww_iload_n hX (pc := 14) dX1_readCount_14 rfl ?_
        refine ww_aload_n hX (pc := 15) dX1_readCount_15 rfl ?_
        refine ww_getR hX (pc := 16) fX1_15 (by decide) (xs_1 hL) (xr_1_1 hL) dX1_readCount_16 ?_
        refine ww_iload_n hX (pc := 19) dX1_readCount_19 rfl ?_
        refine ww_iald hX (pc := 20) (xs_3 hL) (by decide) (by omega) (by omega) dX1_readCount_20 ?_
        refine ww_iconst hX (pc := 21) (x := (-1)) dX1_readCount_21 rfl ?_
        refine ww_icmp_ne hX (pc := 22) (tgt := 29) dX1_readCount_22 (by decide) (fun h_22 => ?_) (fun h_22 => ?_)
        · simp only [w32_mod] at h_22
          rw [if_neg (by omega)] at hcs
          refine ww_iconst hX (pc := 29) (x := 1) dX1_readCount_29 rfl ?_
          refine ww_iadd hX (pc := 30) dX1_readCount_30 ?_
          refine ww_nmI (fun v_31 hv_31 => ?_)
          refine ww_istore_n hX (pc := 31) (lv' := [some (kR (some 1)), some (kI v_31), some (kI x_3), some (kI q)]) dX1_readCount_31 (by decide) rfl rfl ?_
          refine ww_iinc hX (pc := 32) (lv' := [some (kR (some 1)), some (kI v_31), some (kI x_3), some (kI (q + 1))]) dX1_readCount_32 rfl (by decide) rfl rfl ?_
          refine ww_goto hX (pc := 35) (tgt := 9) dX1_readCount_35 (by decide) ?_
          exact ih_9 _ (by have hm9 := Sh0_e hq_9; omega) v_31 (q + 1) rfl ⟨⟨by omega, by omega⟩, by omega⟩
        · simp only [w32_mod] at h_22
          rw [if_pos (by omega)] at hcs
          refine ww_iconst hX (pc := 25) (x := 0) dX1_readCount_25 rfl ?_
          refine ww_goto hX (pc := 26) (tgt := 30) dX1_readCount_26 (by decide) ?_
          refine ww_iadd hX (pc := 30) dX1_readCount_30 ?_
          refine ww_nmI (fun v_31 hv_31 => ?_)
          refine ww_istore_n hX (pc := 31) (lv' := [some (kR (some 1)), some (kI v_31), some (kI x_3), some (kI q)]) dX1_readCount_31 (by decide) rfl rfl ?_
          refine ww_iinc hX (pc := 32) (lv' := [some (kR (some 1)), some (kI v_31), some (kI x_3), some (kI (q + 1))]) dX1_readCount_32 rfl (by decide) rfl rfl ?_
          refine ww_goto hX (pc := 35) (tgt := 9) dX1_readCount_35 (by decide) ?_
          exact ih_9 _ (by have hm9 := Sh0_e hq_9; omega) v_31 (q + 1) rfl ⟨⟨by omega, by omega⟩, by omega⟩
  exact hl_9 _ 0 0 rfl ⟨⟨by omega, by omega⟩, rfl⟩
