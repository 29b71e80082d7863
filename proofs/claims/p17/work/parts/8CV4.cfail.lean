/-- Euclid: the greatest divisor stays, and two steps halve -/
def EU (A B Y Z i : Nat) : Prop := Y < 2 ^ 62 ∧ Z < 2 ^ 62 ∧ Nat.gcd Y Z = Nat.gcd A B ∧ (1 ≤ i → Z < Y ∧ Y * Z * 2 ^ (i - 1) ≤ 2 ^ 124)
theorem EU_s {A B Y Z i : Nat} (h : EU A B Y Z i) (hz : 0 < Z) : EU A B Z (Y % Z) (i + 1) := by
  obtain ⟨h1, h2, h3, h4⟩ := h
  have hr := Nat.mod_lt Y hz
  refine ⟨h2, by omega, ?_, fun _ => ⟨hr, ?_⟩⟩
  · rw [← h3, Nat.gcd_comm Z, ← Nat.gcd_rec, Nat.gcd_comm]
  · rw [Nat.add_sub_cancel]
    by_cases hi : i = 0
    · rw [hi, Nat.pow_zero, Nat.mul_one]
      exact Nat.le_trans (Nat.mul_le_mul (show Z ≤ 2 ^ 62 by omega) (show Y % Z ≤ 2 ^ 62 by omega)) (by decide)
    · obtain ⟨h5, h6⟩ := h4 (by omega)
      have hd := Nat.div_add_mod Y Z
      have hq : 1 ≤ Y / Z := Nat.div_pos (by omega) hz
      have hm : Z * 1 ≤ Z * (Y / Z) := Nat.mul_le_mul_left Z hq
      have h7 : Z * (Y % Z) * 2 ≤ Y * Z := by
        rw [Nat.mul_assoc, Nat.mul_comm Y Z]
        exact Nat.mul_le_mul_left Z (by omega)
      obtain ⟨k, rfl⟩ : ∃ k, i = k + 1 := ⟨i - 1, by omega⟩
      rw [Nat.pow_succ, Nat.mul_comm (2 ^ k) 2, ← Nat.mul_assoc]
      rw [Nat.add_sub_cancel] at h6
      exact Nat.le_trans (Nat.mul_le_mul_right _ h7) h6
theorem EU_e {A B Y Z i : Nat} (h : EU A B Y Z i) (hi : i = 200) : Z = 0 := by
  refine Decidable.byContradiction (fun hz => ?_)
  obtain ⟨h5, h6⟩ := h.2.2.2 (by omega)
  rw [hi] at h6
  have h7 : 1 ≤ Y * Z := Nat.mul_pos (by omega) (by omega)
  have h8 : 1 * 2 ^ (200 - 1) ≤ Y * Z * 2 ^ (200 - 1) := Nat.mul_le_mul_right _ h7
  exact absurd (Nat.le_trans h8 h6) (by decide)
theorem toNat_mod {y z : Int} (hy : 0 ≤ y) (hz : 0 ≤ z) : (y % z).toNat = y.toNat % z.toNat := by
  obtain ⟨n, rfl⟩ := Int.eq_ofNat_of_zero_le hy
  obtain ⟨m, rfl⟩ := Int.eq_ofNat_of_zero_le hz
  rfl
def gq (a b : Int) : Int := ((Nat.gcd a.toNat b.toNat : Nat) : Int)
/-- how a MEAN is told: above and below in lowest terms -/
def mPt (a b w : Int) : Int := if w = 0 then b / gq a b else a / gq a b
def blw (code : Nat → Int) (K : Int) (a : Nat) : Int := if code a = -1 then (K - 1) ^ 9 * K else (K - 1) ^ 9
/-- a whole table of MEANS -/
def MTc (code : Nat → Int) (g n K : Int) (T : Nat → Int) : Prop := ∀ s : Nat, (s : Int) ≤ FU n → MCs code g (FU n + 1) K ((K - 1) ^ 9) T s (T s) ∧ MB8 n ((K - 1) ^ 9) (code s) (pcn s) (T s)
theorem MT_c {I J : aI1} (h : MT I J) : MTc (I 3) (I 1 7) (I 1 5) (I 1 6) (J 28) := fun s hs => by
  have h1 := h.2 s hs
  rw [h.1] at h1
  exact h1
theorem gq_r {a b : Int} (hb : 0 < b) : 1 ≤ gq a b ∧ gq a b ≤ b := by
  have h1 := Nat.gcd_pos_of_pos_right a.toNat (show 0 < b.toNat by omega)
  have h2 := Nat.gcd_le_right a.toNat (show 0 < b.toNat by omega)
  unfold gq
  omega
/-! FAILING -/
def lbv (L : Nat → Int) (v : Int) : Int := if v = -1 then -1 else L v.toNat
/-- the lowest of the NEWS by which one comes worst from s -/
def wsF (nx : Int → Int) (L : Nat → Int) (own : Int) (v : Int) (x : Nat) : Int := if ¬ (x : Int) = own ∧ (v = -1 ∨ lbv L (nx x) < lbv L (nx v)) then (x : Int) else v
def wst (nx : Int → Int) (L : Nat → Int) (own K : Int) : Int := fW (wsF nx L own) (-1) K.toNat
def cSt (nx : Int → Int → Int) (L code : Nat → Int) (K : Int) : Nat → Int
  | 0 => 0
  | i + 1 => nx (cSt nx L code K i) (wst (nx (cSt nx L code K i)) L (code (cSt nx L code K i).toNat) K)
theorem ws_r {nx : Int → Int} {L : Nat → Int} {own : Int} : ∀ q : Nat, (fW (wsF nx L own) (-1) q = -1 ∧ ∀ x : Nat, x < q → (x : Int) = own) ∨ (0 ≤ fW (wsF nx L own) (-1) q ∧ fW (wsF nx L own) (-1) q < q ∧ ¬ fW (wsF nx L own) (-1) q = own)
  | 0 => Or.inl ⟨rfl, fun x hx => absurd hx (Nat.not_lt_zero x)⟩
  | q + 1 => by
    have ih := ws_r (nx := nx) (L := L) (own := own) q
    show (wsF nx L own (fW (wsF nx L own) (-1) q) q = -1 ∧ _) ∨ (0 ≤ wsF nx L own (fW (wsF nx L own) (-1) q) q ∧ wsF nx L own (fW (wsF nx L own) (-1) q) q < _ ∧ ¬ wsF nx L own (fW (wsF nx L own) (-1) q) q = own)
    generalize fW (wsF nx L own) (-1) q = v at ih ⊢
    unfold wsF
    by_cases h : ¬ (q : Int) = own ∧ (v = -1 ∨ lbv L (nx q) < lbv L (nx v))
    · rw [if_pos h]
      exact Or.inr ⟨by omega, by omega, h.1⟩
    · rw [if_neg h]
      rcases ih with ⟨i1, i2⟩ | ⟨i1, i2, i3⟩
      · refine Or.inl ⟨i1, fun x hx => ?_⟩
        by_cases e : x = q
        · rw [e]
          refine Decidable.byContradiction (fun h9 => h ⟨h9, Or.inl i1⟩)
        · exact i2 x (by omega)
      · exact Or.inr ⟨i1, by omega, i3⟩
theorem wst_r {nx : Int → Int} {L : Nat → Int} {own K : Int} (hK : 2 ≤ K) : 0 ≤ wst nx L own K ∧ wst nx L own K < K ∧ ¬ wst nx L own K = own := by
  rcases ws_r (nx := nx) (L := L) (own := own) K.toNat with ⟨h1, h2⟩ | ⟨h1, h2, h3⟩
  · have h4 := h2 0 (by omega)
    have h5 := h2 1 (by omega)
    omega
  · exact ⟨h1, by unfold wst; omega, h3⟩
/-- the row FAILING: its NEWS, how many -/
def FLg (nx : Int → Int → Int) (L code : Nat → Int) (K : Int) (F : Nat → Int) (n : Int) : Prop := 1 ≤ n ∧ n ≤ 9 ∧ (∀ j : Nat, (j : Int) < n → F j = wst (nx (cSt nx L code K j)) L (code (cSt nx L code K j).toNat) K ∧ 0 ≤ cSt nx L code K j) ∧ cSt nx L code K n.toNat = -1
set_option maxHeartbeats 4000000 in
set_option maxRecDepth 20000 in
theorem c8_X4_commonDivisor (l0 : Launch) {Ia Ja : aI1} {Ra : aR1} {Sa : aS1} {a b : Int} (ha0 : 0 ≤ a) (ha1 : a < 4611686018427387904) (hb0 : 0 ≤ b) (hb1 : b < 4611686018427387904)  : CT l0 0 0 0 mX4_commonDivisor [kL a, kL b] Ia Ja Ra Sa (cJ (fun x I' J' => Ia = I' ∧ Ja = J' ∧ x = gq a b) Ra Sa) := by
  refine ct_in pn_X4 (Nat.le_of_ble_eq_true rfl) (fun X hX hT hIn => ?_)
  have hX : aK l0 X cX4_commonDivisor 7 RX4 (some .long) 0 0 0 := hX
  change WW X 0 [some (kL a), none, some (kL b), none, none, none, none] [] Ia Ja Ra Sa 0 0
  refine ww_iconst hX (pc := 0) (x := 0) dX4_commonDivisor_0 rfl ?_
  refine ww_istore hX (pc := 1) (lv' := [some (kL a), none, some (kL b), none, some (kI 0), none, none]) dX4_commonDivisor_1 (by decide) rfl rfl ?_
  have hl_3 : ∀ (n_3 : Nat) (y : Int) (z : Int) (i : Int), (200 - i).toNat = n_3 → ((0 ≤ i ∧ i ≤ 200) ∧ (0 ≤ y ∧ y < 4611686018427387904) ∧ (0 ≤ z ∧ z < 4611686018427387904) ∧ EU a.toNat b.toNat y.toNat z.toNat i.toNat) → WW X 3 [some (kL y), none, some (kL z), none, some (kI i), none, none] [] Ia Ja Ra Sa 0 0 := by
    intro n_3
    induction n_3 using Nat.strongRecOn with
    | ind n_3 ih_3 =>
      intro y z i hm_3 hv_3
      have hq_3 := Sh0_i hm_3
      clear hm_3
      obtain ⟨⟨hi0, hi1⟩, ⟨hy0, hy1⟩, ⟨hz00, hz1⟩, heu⟩ := hv_3
      refine ww_iload hX (pc := 3) dX4_commonDivisor_3 rfl ?_
      refine ww_sipush hX (pc := 5) (x := 200) dX4_commonDivisor_5 (by decide) ?_
      refine ww_icmp_ge hX (pc := 8) (tgt := 33) dX4_commonDivisor_8 (by decide) (fun h_8 => ?_) (fun h_8 => ?_)
      · simp only [w32_mod] at h_8
        have hz0 : z.toNat = 0 := EU_e heu (by omega)
        refine ww_lload_n hX (pc := 33) dX4_commonDivisor_33 rfl ?_
        refine rJ hX (pc := 34) hT (Nat.le_refl 0) (Nat.le_refl 0) dX4_commonDivisor_34 ?_
        exact ⟨rfl, rfl, by unfold gq; rw [← heu.2.2.1, hz0]; show y = ((Nat.gcd y.toNat 0 : Nat) : Int); rw [Nat.gcd_zero_right]; omega⟩
      · simp only [w32_mod] at h_8
        have hlc := l_cmp_v z 0
        rw [w64_id (x := z) (by omega) (by omega), show w64 0 = 0 from rfl] at hlc
        refine ww_lload_n hX (pc := 11) dX4_commonDivisor_11 rfl ?_
        refine ww_lconst hX (pc := 12) (x := 0) dX4_commonDivisor_12 (by decide) ?_
        refine ww_lcmp hX (pc := 13) dX4_commonDivisor_13 ?_
        refine ww_if_eq hX (pc := 14) (tgt := 33) dX4_commonDivisor_14 (by decide) (fun h_14 => ?_) (fun h_14 => ?_)
        · simp only [w32_mod] at h_14
          have hz0 : z.toNat = 0 := by omega
          refine ww_lload_n hX (pc := 33) dX4_commonDivisor_33 rfl ?_
          refine rJ hX (pc := 34) hT (Nat.le_refl 0) (Nat.le_refl 0) dX4_commonDivisor_34 ?_
          exact ⟨rfl, rfl, by unfold gq; rw [← heu.2.2.1, hz0]; show y = ((Nat.gcd y.toNat 0 : Nat) : Int); rw [Nat.gcd_zero_right]; omega⟩
        · simp only [w32_mod] at h_14
          have hzp : 0 < z := by omega
          refine ww_lload_n hX (pc := 17) dX4_commonDivisor_17 rfl ?_
          refine ww_lload_n hX (pc := 18) dX4_commonDivisor_18 rfl ?_
          refine ww_lrem hX (pc := 19) dX4_commonDivisor_19 (by rw [w64_id (by omega) (by omega)]; omega) ?_
          refine ww_toL (b := y % z) (l_rem_v (by omega) (by omega) (by omega) (by omega)) ?_
          have hmn := Int.emod_nonneg y (show z ≠ 0 by omega)
          have hml := Int.emod_lt_of_pos y (show 0 < z by omega)
          refine ww_nmL (fun v_20 hv_20 => ?_)
          refine ww_lstore hX (pc := 20) (lv' := [some (kL y), none, some (kL z), none, some (kI i), some (kL v_20), none]) dX4_commonDivisor_20 (by decide) rfl rfl ?_
          refine ww_lload_n hX (pc := 22) dX4_commonDivisor_22 rfl ?_
          refine ww_lstore_n hX (pc := 23) (lv' := [some (kL z), none, some (kL z), none, some (kI i), some (kL v_20), none]) dX4_commonDivisor_23 (by decide) rfl rfl ?_
          refine ww_lload hX (pc := 24) dX4_commonDivisor_24 rfl ?_
          refine ww_lstore_n hX (pc := 26) (lv' := [some (kL z), none, some (kL v_20), none, some (kI i), some (kL v_20), none]) dX4_commonDivisor_26 (by decide) rfl rfl ?_
          refine ww_iinc hX (pc := 27) (lv' := [some (kL z), none, some (kL v_20), none, some (kI (i + 1)), some (kL v_20), none]) dX4_commonDivisor_27 rfl (by decide) rfl rfl ?_
          refine ww_goto hX (pc := 30) (tgt := 3) dX4_commonDivisor_30 (by decide) ?_
          refine ww_sub [some (kL z), none, some (kL v_20), none, some (kI (i + 1)), none, none] (aLe_s (aLe_n (aLe_s (aLe_n (aLe_s (aLe_n (aLe_n aLe_0))))))) ?_
          exact ih_3 _ (by have hm9 := Sh0_e hq_3; omega) z v_20 (i + 1) rfl ⟨⟨by omega, by omega⟩, ⟨by omega, by omega⟩, ⟨by omega, by omega⟩, by rw [hv_20, toNat_mod (by omega) (by omega), show (i + 1).toNat = i.toNat + 1 by omega]; exact EU_s heu (by omega)⟩
  exact hl_3 _ a b 0 rfl ⟨⟨by omega, by omega⟩, ⟨by omega, by omega⟩, ⟨by omega, by omega⟩, by omega, by omega, rfl, fun h9 => absurd h9 (by decide)⟩
set_option maxHeartbeats 4000000 in
set_option maxRecDepth 20000 in
theorem c8_X4_meanPart (l0 : Launch) {Ia Ja : aI1} {Ra : aR1} {Sa : aS1} (hL : LY Ra Sa) (hI : XI Ia) (hF : FRk Ia Ja) (hK : ∀ s : Nat, (s : Int) ≤ FU (Ia 1 5) → Ia 3 s < Ia 1 6) {a b : Int} (ha0 : 0 ≤ a) (ha1 : a ≤ FU (Ia 1 5)) (hb0 : 0 ≤ b) (hb1 : b ≤ 1)  : CT l0 4 0 0 mX4_meanPart [kR (some 18), kI a, kI b] Ia Ja Ra Sa (cJ (fun x I' J' => Kp 18 19 Ia I' ∧ Kp 18 30 Ja J' ∧ FRk I' J' ∧ ∃ T, MTc (Ia 3) (Ia 1 7) (Ia 1 5) (Ia 1 6) T ∧ x = mPt (T a.toNat) (blw (Ia 3) (Ia 1 6) a.toNat) b) Ra Sa) := by
  refine ct_in pn_X4 (Nat.le_of_ble_eq_true rfl) (fun X hX hT hIn => ?_)
  have hX : aK l0 X cX4_meanPart 9 RX4 (some .long) 4 0 0 := hX
  change WW X 0 [some (kR (some 18)), some (kI a), some (kI b), none, none, none, none, none, none] [] Ia Ja Ra Sa 0 0
  obtain ⟨hn1, hn2⟩ := hI.1
  obtain ⟨hk1, hk2⟩ := hI.2.1
  obtain ⟨hf1, hf2⟩ := hI.fu
  have hu9 := pw9 (K := Ia 1 6) (by omega) (by omega)
  have hcd := hI.2.2.2.2.2.2.2.2.2.1 a.toNat (by omega)
  refine ww_aload_n hX (pc := 0) dX4_meanPart_0 rfl ?_
  refine vV0 hX (pc := 1) sX4_90 (xs_18 hL) (c8_X4_fillMean l0 hL hI hF hK) (by decide) (Nat.le_refl 0) (Nat.le_refl 0) (Nat.le_of_ble_eq_true rfl) dX4_meanPart_1 (fun I_1 J_1 h_1 => ?_)
  have kI_1 : Kp 18 30 Ia I_1 := Kp_wd h_1.1 (by decide) (by decide)
  have kJ_1 : Kp 18 30 Ja J_1 := h_1.2.1
  have hmt := h_1.2.2.2.2 a.toNat (by rw [kI_1 1 (by decide)]; omega)
  rw [h_1.2.2.2.1] at hmt
  rw [kI_1 1 (by decide), kI_1 3 (by decide)] at hmt
  have hmb := hmt.2
  have hmb1 := hmb.1
  have hmb2 := hmb.2.1
  refine ww_aload_n hX (pc := 4) dX4_meanPart_4 rfl ?_
  refine ww_getR hX (pc := 5) fX4_33 (by decide) (xs_18 hL) (xr_18_6 hL) dX4_meanPart_5 ?_
  refine ww_iload_n hX (pc := 8) dX4_meanPart_8 rfl ?_
  refine ww_lald hX (pc := 9) (xs_28 hL) (by decide) (by omega) (by omega) dX4_meanPart_9 ?_
  refine ww_nmL (fun v_10 hv_10 => ?_)
  refine ww_lstore_n hX (pc := 10) (lv' := [some (kR (some 18)), some (kI a), some (kI b), some (kL v_10), none, none, none, none, none]) dX4_meanPart_10 (by decide) rfl rfl ?_
  skip
  have hv10 : v_10 = J_1 28 a.toNat := hv_10
  refine ww_aload_n hX (pc := 11) dX4_meanPart_11 rfl ?_
  refine ww_getR hX (pc := 12) fX4_47 (by decide) (xs_18 hL) (xr_18_0 hL) dX4_meanPart_12 ?_
  refine ww_getR hX (pc := 15) fX4_70 (by decide) (xs_1 hL) (xr_1_1 hL) dX4_meanPart_15 ?_
  refine ww_iload_n hX (pc := 18) dX4_meanPart_18 rfl ?_
  refine ww_iald hX (pc := 19) (xs_3 hL) (by decide) (by omega) (by omega) dX4_meanPart_19 ?_
  have hce : I_1 3 a.toNat = Ia 3 a.toNat := by rw [kI_1 3 (by decide)]
  refine ww_iconst hX (pc := 20) (x := (-1)) dX4_meanPart_20 rfl ?_
  refine ww_icmp_ne hX (pc := 21) (tgt := 40) dX4_meanPart_21 (by decide) (fun h_21 => ?_) (fun h_21 => ?_)
  · simp only [w32_mod] at h_21
    refine ww_aload_n hX (pc := 40) dX4_meanPart_40 rfl ?_
    refine ww_getJ hX (pc := 41) fX4_43 (by decide) (xs_18 hL) dX4_meanPart_41 ?_
    refine ww_toL (b := blw (Ia 3) (Ia 1 6) a.toNat) (by unfold blw; rw [if_neg (by omega), h_1.2.2.2.1, kI_1 1 (by decide)]) ?_
    have hbl : 1 ≤ blw (Ia 3) (Ia 1 6) a.toNat ∧ blw (Ia 3) (Ia 1 6) a.toNat ≤ 400000000 := by
      unfold blw
      split
      · have g1 : (Ia 1 6 - 1) ^ 9 * 1 ≤ (Ia 1 6 - 1) ^ 9 * Ia 1 6 := Int.mul_le_mul_of_nonneg_left (by omega) (by omega)
        have g2 : (Ia 1 6 - 1) ^ 9 * Ia 1 6 ≤ (Ia 1 6 - 1) ^ 9 * 8 := Int.mul_le_mul_of_nonneg_left (by omega) (by omega)
        omega
      · omega
    refine ww_nmL (fun v_44 hv_44 => ?_)
    refine ww_lstore hX (pc := 44) (lv' := [some (kR (some 18)), some (kI a), some (kI b), some (kL v_10), none, some (kL v_44), none, none, none]) dX4_meanPart_44 (by decide) rfl rfl ?_
    refine ww_lconst hX (pc := 46) (x := 1) dX4_meanPart_46 (by decide) ?_
    refine ww_lload_n hX (pc := 47) dX4_meanPart_47 rfl ?_
    refine ww_lload hX (pc := 48) dX4_meanPart_48 rfl ?_
    refine sJ2 hX (pc := 50) sX4_93 (c8_X4_commonDivisor l0 (by omega) (by omega) (by omega) (by omega)) (by decide) (Nat.le_refl 0) (Nat.le_refl 0) (Nat.le_of_ble_eq_true rfl) dX4_meanPart_50 (fun x_50 I_50 J_50 h_50 => ?_)
    obtain ⟨rfl, rfl, h_50⟩ := h_50
    have hgr := gq_r (a := J_1 28 a.toNat) (b := blw (Ia 3) (Ia 1 6) a.toNat) (by omega)
    refine ww_lmax hX (pc := 53) tb_771 tb_772 tb_13 tb_773 (by decide) (Nat.le_refl 0) (Nat.le_refl 0) (Nat.le_of_ble_eq_true rfl) dX4_meanPart_53 ?_
    refine ww_nmL (fun v_56 hv_56 => ?_)
    refine ww_lstore hX (pc := 56) (lv' := [some (kR (some 18)), some (kI a), some (kI b), some (kL v_10), none, some (kL v_44), none, some (kL v_56), none]) dX4_meanPart_56 (by decide) rfl rfl ?_
    have hcm : v_56 = gq (J_1 28 a.toNat) (blw (Ia 3) (Ia 1 6) a.toNat) := by
      rw [hv_56, h_50, hv10, hv_44]
      rw [l_max_v (by decide) (by decide) (by omega) (by omega)]
      omega
    refine ww_iload_n hX (pc := 58) dX4_meanPart_58 rfl ?_
    refine ww_if_eq hX (pc := 59) (tgt := 69) dX4_meanPart_59 (by decide) (fun h_59 => ?_) (fun h_59 => ?_)
    · simp only [w32_mod] at h_59
      refine ww_lload hX (pc := 69) dX4_meanPart_69 rfl ?_
      refine ww_lload hX (pc := 71) dX4_meanPart_71 rfl ?_
      refine ww_ldiv hX (pc := 73) dX4_meanPart_73 (by rw [hcm, w64_id (by omega) (by omega)]; omega) ?_
      refine ww_toL (b := blw (Ia 3) (Ia 1 6) a.toNat / gq (J_1 28 a.toNat) (blw (Ia 3) (Ia 1 6) a.toNat)) (by rw [hcm, hv_44, l_div_v (by omega) (by omega) (by omega) (by omega)]) ?_
      refine rJ hX (pc := 74) hT (Nat.le_refl 0) (Nat.le_refl 0) dX4_meanPart_74 ?_
      have hmtc := MT_c h_1.2.2.2
      rw [kI_1 1 (by decide), kI_1 3 (by decide)] at hmtc
      exact ⟨h_1.1, h_1.2.1, h_1.2.2.1, J_1 28, hmtc, by unfold mPt; rw [if_pos (by omega)]⟩
    · simp only [w32_mod] at h_59
      refine ww_lload_n hX (pc := 62) dX4_meanPart_62 rfl ?_
      refine ww_lload hX (pc := 63) dX4_meanPart_63 rfl ?_
      refine ww_ldiv hX (pc := 65) dX4_meanPart_65 (by rw [hcm, w64_id (by omega) (by omega)]; omega) ?_
      refine ww_goto hX (pc := 66) (tgt := 74) dX4_meanPart_66 (by decide) ?_
      refine ww_toL (b := J_1 28 a.toNat / gq (J_1 28 a.toNat) (blw (Ia 3) (Ia 1 6) a.toNat)) (by rw [hcm, hv10, l_div_v (by omega) (by omega) (by omega) (by omega)]) ?_
      refine rJ hX (pc := 74) hT (Nat.le_refl 0) (Nat.le_refl 0) dX4_meanPart_74 ?_
      have hmtc := MT_c h_1.2.2.2
      rw [kI_1 1 (by decide), kI_1 3 (by decide)] at hmtc
      exact ⟨h_1.1, h_1.2.1, h_1.2.2.1, J_1 28, hmtc, by unfold mPt; rw [if_neg (by omega)]⟩
  · simp only [w32_mod] at h_21
    refine ww_aload_n hX (pc := 24) dX4_meanPart_24 rfl ?_
    refine ww_getJ hX (pc := 25) fX4_43 (by decide) (xs_18 hL) dX4_meanPart_25 ?_
    refine ww_aload_n hX (pc := 28) dX4_meanPart_28 rfl ?_
    refine ww_getR hX (pc := 29) fX4_47 (by decide) (xs_18 hL) (xr_18_0 hL) dX4_meanPart_29 ?_
    refine ww_getI hX (pc := 32) fX4_83 (by decide) (xs_1 hL) dX4_meanPart_32 ?_
    refine ww_i2l hX (pc := 35) dX4_meanPart_35 ?_
    refine ww_lmul hX (pc := 36) dX4_meanPart_36 ?_
    refine ww_goto hX (pc := 37) (tgt := 44) dX4_meanPart_37 (by decide) ?_
    refine ww_toL (b := blw (Ia 3) (Ia 1 6) a.toNat) (by unfold blw; rw [kI_1 1 (by decide), w32_id (by omega) (by omega), if_pos (by omega), h_1.2.2.2.1, kI_1 1 (by decide)]) ?_
    have hbl : 1 ≤ blw (Ia 3) (Ia 1 6) a.toNat ∧ blw (Ia 3) (Ia 1 6) a.toNat ≤ 400000000 := by
      unfold blw
      split
      · have g1 : (Ia 1 6 - 1) ^ 9 * 1 ≤ (Ia 1 6 - 1) ^ 9 * Ia 1 6 := Int.mul_le_mul_of_nonneg_left (by omega) (by omega)
        have g2 : (Ia 1 6 - 1) ^ 9 * Ia 1 6 ≤ (Ia 1 6 - 1) ^ 9 * 8 := Int.mul_le_mul_of_nonneg_left (by omega) (by omega)
        omega
      · omega
    refine ww_nmL (fun v_44 hv_44 => ?_)
    refine ww_lstore hX (pc := 44) (lv' := [some (kR (some 18)), some (kI a), some (kI b), some (kL v_10), none, some (kL v_44), none, none, none]) dX4_meanPart_44 (by decide) rfl rfl ?_
    refine ww_lconst hX (pc := 46) (x := 1) dX4_meanPart_46 (by decide) ?_
    refine ww_lload_n hX (pc := 47) dX4_meanPart_47 rfl ?_
    refine ww_lload hX (pc := 48) dX4_meanPart_48 rfl ?_
    refine sJ2 hX (pc := 50) sX4_93 (c8_X4_commonDivisor l0 (by omega) (by omega) (by omega) (by omega)) (by decide) (Nat.le_refl 0) (Nat.le_refl 0) (Nat.le_of_ble_eq_true rfl) dX4_meanPart_50 (fun x_50 I_50 J_50 h_50 => ?_)
    obtain ⟨rfl, rfl, h_50⟩ := h_50
    have hgr := gq_r (a := J_1 28 a.toNat) (b := blw (Ia 3) (Ia 1 6) a.toNat) (by omega)
    refine ww_lmax hX (pc := 53) tb_771 tb_772 tb_13 tb_773 (by decide) (Nat.le_refl 0) (Nat.le_refl 0) (Nat.le_of_ble_eq_true rfl) dX4_meanPart_53 ?_
    refine ww_nmL (fun v_56 hv_56 => ?_)
    refine ww_lstore hX (pc := 56) (lv' := [some (kR (some 18)), some (kI a), some (kI b), some (kL v_10), none, some (kL v_44), none, some (kL v_56), none]) dX4_meanPart_56 (by decide) rfl rfl ?_
    have hcm : v_56 = gq (J_1 28 a.toNat) (blw (Ia 3) (Ia 1 6) a.toNat) := by
      rw [hv_56, h_50, hv10, hv_44]
      rw [l_max_v (by decide) (by decide) (by omega) (by omega)]
      omega
    refine ww_iload_n hX (pc := 58) dX4_meanPart_58 rfl ?_
    refine ww_if_eq hX (pc := 59) (tgt := 69) dX4_meanPart_59 (by decide) (fun h_59 => ?_) (fun h_59 => ?_)
    · simp only [w32_mod] at h_59
      refine ww_lload hX (pc := 69) dX4_meanPart_69 rfl ?_
      refine ww_lload hX (pc := 71) dX4_meanPart_71 rfl ?_
      refine ww_ldiv hX (pc := 73) dX4_meanPart_73 (by rw [hcm, w64_id (by omega) (by omega)]; omega) ?_
      refine ww_toL (b := blw (Ia 3) (Ia 1 6) a.toNat / gq (J_1 28 a.toNat) (blw (Ia 3) (Ia 1 6) a.toNat)) (by rw [hcm, hv_44, l_div_v (by omega) (by omega) (by omega) (by omega)]) ?_
      refine rJ hX (pc := 74) hT (Nat.le_refl 0) (Nat.le_refl 0) dX4_meanPart_74 ?_
      have hmtc := MT_c h_1.2.2.2
      rw [kI_1 1 (by decide), kI_1 3 (by decide)] at hmtc
      exact ⟨h_1.1, h_1.2.1, h_1.2.2.1, J_1 28, hmtc, by unfold mPt; rw [if_pos (by omega)]⟩
    · simp only [w32_mod] at h_59
      refine ww_lload_n hX (pc := 62) dX4_meanPart_62 rfl ?_
      refine ww_lload hX (pc := 63) dX4_meanPart_63 rfl ?_
      refine ww_ldiv hX (pc := 65) dX4_meanPart_65 (by rw [hcm, w64_id (by omega) (by omega)]; omega) ?_
      refine ww_goto hX (pc := 66) (tgt := 74) dX4_meanPart_66 (by decide) ?_
      refine ww_toL (b := J_1 28 a.toNat / gq (J_1 28 a.toNat) (blw (Ia 3) (Ia 1 6) a.toNat)) (by rw [hcm, hv10, l_div_v (by omega) (by omega) (by omega) (by omega)]) ?_
      refine rJ hX (pc := 74) hT (Nat.le_refl 0) (Nat.le_refl 0) dX4_meanPart_74 ?_
      have hmtc := MT_c h_1.2.2.2
      rw [kI_1 1 (by decide), kI_1 3 (by decide)] at hmtc
      exact ⟨h_1.1, h_1.2.1, h_1.2.2.1, J_1 28, hmtc, by unfold mPt; rw [if_neg (by omega)]⟩
set_option maxHeartbeats 4000000 in
set_option maxRecDepth 20000 in
theorem c8_X4_lastsBy (l0 : Launch) {Ia Ja : aI1} {Ra : aR1} {Sa : aS1} (hL : LY Ra Sa) (hI : XI Ia) {a : Int} (ha0 : -1 ≤ a) (ha1 : a ≤ 255)  : CT l0 0 0 0 mX4_lastsBy [kR (some 18), kI a] Ia Ja Ra Sa (cI (fun x I' J' => Ia = I' ∧ Ja = J' ∧ x = lbv (Ia 24) a) Ra Sa) := by
  refine ct_in pn_X4 (Nat.le_of_ble_eq_true rfl) (fun X hX hT hIn => ?_)
  have hX : aK l0 X cX4_lastsBy 2 RX4 (some .int) 0 0 0 := hX
  change WW X 0 [some (kR (some 18)), some (kI a)] [] Ia Ja Ra Sa 0 0
  obtain ⟨hn1, hn2⟩ := hI.1
  obtain ⟨hk1, hk2⟩ := hI.2.1
  obtain ⟨hf1, hf2⟩ := hI.fu
  refine ww_iload_n hX (pc := 0) dX4_lastsBy_0 rfl ?_
  refine ww_iconst hX (pc := 1) (x := (-1)) dX4_lastsBy_1 rfl ?_
  refine ww_icmp_ne hX (pc := 2) (tgt := 9) dX4_lastsBy_2 (by decide) (fun h_2 => ?_) (fun h_2 => ?_)
  · simp only [w32_mod] at h_2
    refine ww_aload_n hX (pc := 9) dX4_lastsBy_9 rfl ?_
    refine ww_getR hX (pc := 10) fX4_26 (by decide) (xs_18 hL) (xr_18_4 hL) dX4_lastsBy_10 ?_
    refine ww_getR hX (pc := 13) fX4_67 (by decide) (xs_22 hL) (xr_22_0 hL) dX4_lastsBy_13 ?_
    refine ww_iload_n hX (pc := 16) dX4_lastsBy_16 rfl ?_
    refine ww_iald hX (pc := 17) (xs_24 hL) (by decide) (by omega) (by omega) dX4_lastsBy_17 ?_
    refine rI hX (pc := 18) hT (Nat.le_refl 0) (Nat.le_refl 0) dX4_lastsBy_18 ?_
    refine ⟨rfl, rfl, ?_⟩
    unfold lbv
    first
    | rw [if_pos (by omega)]
    | rw [if_neg (by omega)]
  · simp only [w32_mod] at h_2
    refine ww_iconst hX (pc := 5) (x := (-1)) dX4_lastsBy_5 rfl ?_
    refine ww_goto hX (pc := 6) (tgt := 18) dX4_lastsBy_6 (by decide) ?_
    refine rI hX (pc := 18) hT (Nat.le_refl 0) (Nat.le_refl 0) dX4_lastsBy_18 ?_
    refine ⟨rfl, rfl, ?_⟩
    unfold lbv
    first
    | rw [if_pos (by omega)]
    | rw [if_neg (by omega)]
set_option maxHeartbeats 4000000 in
set_option maxRecDepth 20000 in
theorem c8_X4_findFailing (l0 : Launch) {Ia Ja : aI1} {Ra : aR1} {Sa : aS1} (hL : LY Ra Sa) (hI : XI Ia) (hTR : ∀ t : Nat, (t : Int) ≤ FU (Ia 1 5) → TR 2 Ia Ja t)  : CT l0 3 0 0 mX4_findFailing [kR (some 18)] Ia Ja Ra Sa (cI (fun x I' J' => Kp 20 22 Ia I' ∧ Ja = J' ∧ FLg (fun s x => NX (bC 2 (Ia 19) (Ia 24) (Ja 28)) (Ia 3) (Ia 1 7) s (FU (Ia 1 5) + 1) x) (Ia 24) (Ia 3) (Ia 1 6) (I' 20) x) Ra Sa) := by
  refine ct_in pn_X4 (Nat.le_of_ble_eq_true rfl) (fun X hX hT hIn => ?_)
  have hX : aK l0 X cX4_findFailing 5 RX4 (some .int) 3 0 0 := hX
  change WW X 0 [some (kR (some 18)), none, none, none, none] [] Ia Ja Ra Sa 0 0
  obtain ⟨hn1, hn2⟩ := hI.1
  obtain ⟨hk1, hk2⟩ := hI.2.1
  obtain ⟨hf1, hf2⟩ := hI.fu
  refine ww_iconst hX (pc := 0) (x := 0) dX4_findFailing_0 rfl ?_
  refine ww_istore_n hX (pc := 1) (lv' := [some (kR (some 18)), some (kI 0), none, none, none]) dX4_findFailing_1 (by decide) rfl rfl ?_
  refine ww_iconst hX (pc := 2) (x := 0) dX4_findFailing_2 rfl ?_
  refine ww_istore_n hX (pc := 3) (lv' := [some (kR (some 18)), some (kI 0), some (kI 0), none, none]) dX4_findFailing_3 (by decide) rfl rfl ?_
  have hl_4 : ∀ (n_4 : Nat) (sa : Int) (i : Int) (I2 : aI1), (9 - i).toNat = n_4 → (Kp 20 22 Ia I2 ∧ ((0 ≤ i ∧ i ≤ 9) ∧ (0 ≤ sa ∧ sa ≤ FU (Ia 1 5)) ∧ i ≤ pcn sa.toNat) ∧ sa = cSt (fun s x => NX (bC 2 (Ia 19) (Ia 24) (Ja 28)) (Ia 3) (Ia 1 7) s (FU (Ia 1 5) + 1) x) (Ia 24) (Ia 3) (Ia 1 6) i.toNat ∧ (∀ j : Nat, (j : Int) < i → I2 20 j = wst ((fun s x => NX (bC 2 (Ia 19) (Ia 24) (Ja 28)) (Ia 3) (Ia 1 7) s (FU (Ia 1 5) + 1) x) (cSt (fun s x => NX (bC 2 (Ia 19) (Ia 24) (Ja 28)) (Ia 3) (Ia 1 7) s (FU (Ia 1 5) + 1) x) (Ia 24) (Ia 3) (Ia 1 6) j)) (Ia 24) (Ia 3 (cSt (fun s x => NX (bC 2 (Ia 19) (Ia 24) (Ja 28)) (Ia 3) (Ia 1 7) s (FU (Ia 1 5) + 1) x) (Ia 24) (Ia 3) (Ia 1 6) j).toNat) (Ia 1 6) ∧ 0 ≤ cSt (fun s x => NX (bC 2 (Ia 19) (Ia 24) (Ja 28)) (Ia 3) (Ia 1 7) s (FU (Ia 1 5) + 1) x) (Ia 24) (Ia 3) (Ia 1 6) j)) → WW X 4 [some (kR (some 18)), some (kI sa), some (kI i), none, none] [] I2 Ja Ra Sa 0 0 := by
    intro n_4
    induction n_4 using Nat.strongRecOn with
    | ind n_4 ih_4 =>
      intro sa i I2 hm_4 hv_4
      have hq_4 := Sh0_i hm_4
      clear hm_4
      obtain ⟨kI2, ⟨hi, hsa, hpi⟩, hsc, hfj⟩ := hv_4
      have r1_5_I2 : I2 1 5 = Ia 1 5 := Kp_at kI2 1 5 (by decide)
      have r1_6_I2 : I2 1 6 = Ia 1 6 := Kp_at kI2 1 6 (by decide)
      have rf_I2 : FU (I2 1 5) = FU (Ia 1 5) := by rw [r1_5_I2]
      refine ww_iload_n hX (pc := 4) dX4_findFailing_4 rfl ?_
      refine ww_bipush hX (pc := 5) (x := 9) dX4_findFailing_5 (by decide) ?_
      refine ww_icmp_ge hX (pc := 7) (tgt := 126) dX4_findFailing_7 (by decide) (fun h_7 => ?_) (fun h_7 => ?_)
      · simp only [w32_mod] at h_7
        refine ww_bipush hX (pc := 126) (x := 9) dX4_findFailing_126 (by decide) ?_
        refine rI hX (pc := 128) hT (Nat.le_refl 0) (Nat.le_refl 0) dX4_findFailing_128 ?_
        exfalso
        have := pcn_r sa.toNat
        omega
      · simp only [w32_mod] at h_7
        refine ww_aload_n hX (pc := 10) dX4_findFailing_10 rfl ?_
        refine ww_iload_n hX (pc := 11) dX4_findFailing_11 rfl ?_
        refine ww_iconst hX (pc := 12) (x := 2) dX4_findFailing_12 rfl ?_
        refine vV2 hX (pc := 13) sX4_102 (xs_18 hL) (c8_X4_chooseAll l0 hL (XI_kp hI kI2 (by decide)) (by omega) (by omega) (by decide) (by decide) (fun t ht => TR_of (hTR t (by omega)) (kI2 19 (by decide)) (kI2 24 (by decide)))) (by decide) (Nat.le_refl 0) (Nat.le_refl 0) (Nat.le_of_ble_eq_true rfl) dX4_findFailing_13 (fun I_13 J_13 h_13 => ?_)
        have h_13j := h_13.2.1
        subst h_13j
        have kI_13 : Kp 20 22 Ia I_13 := Kp_tr kI2 (Kp_wd h_13.1 (by decide) (by decide))
        have r1_5_I_13 : I_13 1 5 = Ia 1 5 := Kp_at kI_13 1 5 (by decide)
        have r1_6_I_13 : I_13 1 6 = Ia 1 6 := Kp_at kI_13 1 6 (by decide)
        have rf_I_13 : FU (I_13 1 5) = FU (Ia 1 5) := by rw [r1_5_I_13]
        have hch := h_13.2.2.1
        rw [kI2 3 (by decide), kI2 1 (by decide), kI2 19 (by decide), kI2 24 (by decide)] at hch
        have hcr := h_13.2.2.2
        rw [kI2 1 (by decide)] at hcr
        have hg24 : I_13 24 = Ia 24 := kI_13 24 (by decide)
        have hwr := wst_r (nx := fun x => NX (bC 2 (Ia 19) (Ia 24) (Ja 28)) (Ia 3) (Ia 1 7) sa (FU (Ia 1 5) + 1) x) (L := Ia 24) (own := Ia 3 sa.toNat) (K := Ia 1 6) (by omega)
        refine ww_iconst hX (pc := 16) (x := (-1)) dX4_findFailing_16 rfl ?_
        refine ww_istore_n hX (pc := 17) (lv' := [some (kR (some 18)), some (kI sa), some (kI i), some (kI (-1)), none]) dX4_findFailing_17 (by decide) rfl rfl ?_
        refine ww_iconst hX (pc := 18) (x := 0) dX4_findFailing_18 rfl ?_
        refine ww_istore hX (pc := 19) (lv' := [some (kR (some 18)), some (kI sa), some (kI i), some (kI (-1)), some (kI 0)]) dX4_findFailing_19 (by decide) rfl rfl ?_
        have hl_21 : ∀ (n_21 : Nat) (wo : Int) (w : Int), (Ia 1 6 - w).toNat = n_21 → (((0 ≤ w ∧ w ≤ Ia 1 6) ∧ (-1 ≤ wo ∧ wo ≤ 7)) ∧ wo = fW (wsF (fun x => NX (bC 2 (Ia 19) (Ia 24) (Ja 28)) (Ia 3) (Ia 1 7) sa (FU (Ia 1 5) + 1) x) (Ia 24) (Ia 3 sa.toNat)) (-1) w.toNat) → WW X 21 [some (kR (some 18)), some (kI sa), some (kI i), some (kI wo), some (kI w)] [] I_13 Ja Ra Sa 0 0 := by
          intro n_21
          induction n_21 using Nat.strongRecOn with
          | ind n_21 ih_21 =>
            intro wo w hm_21 hv_21
            have hq_21 := Sh0_i hm_21
            clear hm_21
            obtain ⟨⟨hw, hwr2⟩, hwo⟩ := hv_21
            refine ww_iload hX (pc := 21) dX4_findFailing_21 rfl ?_
            refine ww_aload_n hX (pc := 23) dX4_findFailing_23 rfl ?_
            refine ww_getR hX (pc := 24) fX4_47 (by decide) (xs_18 hL) (xr_18_0 hL) dX4_findFailing_24 ?_
            refine ww_getI hX (pc := 27) fX4_83 (by decide) (xs_1 hL) dX4_findFailing_27 ?_
            refine ww_icmp_ge hX (pc := 30) (tgt := 85) dX4_findFailing_30 (by decide) (fun h_30 => ?_) (fun h_30 => ?_)
            · simp only [w32_mod] at h_30
              refine ww_iload_n hX (pc := 85) dX4_findFailing_85 rfl ?_
              refine ww_iconst hX (pc := 86) (x := (-1)) dX4_findFailing_86 rfl ?_
              refine ww_icmp_ne hX (pc := 87) (tgt := 92) dX4_findFailing_87 (by decide) (fun h_87 => ?_) (fun h_87 => ?_)
              · simp only [w32_mod] at h_87
                have hwk : w = Ia 1 6 := by omega
                have hwo9 : 0 ≤ wo ∧ wo < 8 := by omega
                refine ww_aload_n hX (pc := 92) dX4_findFailing_92 rfl ?_
                refine ww_getR hX (pc := 93) fX4_15 (by decide) (xs_18 hL) (xr_18_2 hL) dX4_findFailing_93 ?_
                refine ww_iload_n hX (pc := 96) dX4_findFailing_96 rfl ?_
                refine ww_iload_n hX (pc := 97) dX4_findFailing_97 rfl ?_
                refine ww_iast hX (pc := 98) (xs_20 hL) (by decide) (by omega) (by omega) dX4_findFailing_98 ?_
                refine ww_nmH (fun I_98 eI_98 => ?_)
                have kI_98 : Kp 20 22 Ia I_98 := by rw [eI_98]; exact Kp_up kI_13 _ _ (by decide)
                have r1_5_I_98 : I_98 1 5 = Ia 1 5 := Kp_at kI_98 1 5 (by decide)
                have r1_6_I_98 : I_98 1 6 = Ia 1 6 := Kp_at kI_98 1 6 (by decide)
                have rf_I_98 : FU (I_98 1 5) = FU (Ia 1 5) := by rw [r1_5_I_98]
                have hww : wo = wst (fun x => NX (bC 2 (Ia 19) (Ia 24) (Ja 28)) (Ia 3) (Ia 1 7) sa (FU (Ia 1 5) + 1) x) (Ia 24) (Ia 3 sa.toNat) (Ia 1 6) := by
                  rw [hwo, show w = Ia 1 6 by omega]
                  rfl
                have hcw : I_98 21 wo.toNat = NX (bC 2 (Ia 19) (Ia 24) (Ja 28)) (Ia 3) (Ia 1 7) sa (FU (Ia 1 5) + 1) wo := by
                  rw [eI_98, up2_off _ _ _ (by decide), hch wo.toNat (by omega), show ((wo.toNat : Nat) : Int) = wo by omega]
                have hcr8 := hcr wo.toNat (by omega)
                have hcr9 : -1 ≤ I_98 21 wo.toNat ∧ I_98 21 wo.toNat ≤ FU (Ia 1 5) := by rw [eI_98, up2_off _ _ _ (by decide)]; omega
                have hfj2 : ∀ j : Nat, (j : Int) < i + 1 → I_98 20 j = wst ((fun s x => NX (bC 2 (Ia 19) (Ia 24) (Ja 28)) (Ia 3) (Ia 1 7) s (FU (Ia 1 5) + 1) x) (cSt (fun s x => NX (bC 2 (Ia 19) (Ia 24) (Ja 28)) (Ia 3) (Ia 1 7) s (FU (Ia 1 5) + 1) x) (Ia 24) (Ia 3) (Ia 1 6) j)) (Ia 24) (Ia 3 (cSt (fun s x => NX (bC 2 (Ia 19) (Ia 24) (Ja 28)) (Ia 3) (Ia 1 7) s (FU (Ia 1 5) + 1) x) (Ia 24) (Ia 3) (Ia 1 6) j).toNat) (Ia 1 6) ∧ 0 ≤ cSt (fun s x => NX (bC 2 (Ia 19) (Ia 24) (Ja 28)) (Ia 3) (Ia 1 7) s (FU (Ia 1 5) + 1) x) (Ia 24) (Ia 3) (Ia 1 6) j := fun j hj => by
                  rw [eI_98, up2_row]
                  by_cases e9 : j = i.toNat
                  · rw [e9, up1_s, ← hsc]
                    exact ⟨hww, hsa.1⟩
                  · rw [up1_n _ _ e9, h_13.1 20 (by decide)]
                    exact hfj j (by omega)
                refine ww_aload_n hX (pc := 99) dX4_findFailing_99 rfl ?_
                refine ww_getR hX (pc := 100) fX4_18 (by decide) (xs_18 hL) (xr_18_3 hL) dX4_findFailing_100 ?_
                refine ww_iload_n hX (pc := 103) dX4_findFailing_103 rfl ?_
                refine ww_iald hX (pc := 104) (xs_21 hL) (by decide) (by omega) (by omega) dX4_findFailing_104 ?_
                refine ww_iconst hX (pc := 105) (x := (-1)) dX4_findFailing_105 rfl ?_
                refine ww_icmp_ne hX (pc := 106) (tgt := 113) dX4_findFailing_106 (by decide) (fun h_106 => ?_) (fun h_106 => ?_)
                · simp only [w32_mod] at h_106
                  have hnr := NX_r (bt := (bC 2 (Ia 19) (Ia 24) (Ja 28))) (code := Ia 3) (g := Ia 1 7) (s := sa) (N := (FU (Ia 1 5) + 1)) (x := wo) (by omega)
                  rw [← hcw] at hnr
                  have hpl := pcn_lt (s := sa.toNat) (t := (I_98 21 wo.toNat).toNat) (by rcases hnr with h9 | h9; omega; exact h9.2.2.2.1) (by
                    rcases hnr with h9 | h9
                    · omega
                    · refine Nat.lt_of_le_of_ne (by omega) (fun e9 => ?_)
                      have e8 := h9.2.2.1
                      rw [← e9] at e8
                      omega) (by omega)
                  have hsc2 : I_98 21 wo.toNat = cSt (fun s x => NX (bC 2 (Ia 19) (Ia 24) (Ja 28)) (Ia 3) (Ia 1 7) s (FU (Ia 1 5) + 1) x) (Ia 24) (Ia 3) (Ia 1 6) (i + 1).toNat := by
                    rw [show (i + 1).toNat = i.toNat + 1 by omega]
                    show _ = NX (bC 2 (Ia 19) (Ia 24) (Ja 28)) (Ia 3) (Ia 1 7) (cSt (fun s x => NX (bC 2 (Ia 19) (Ia 24) (Ja 28)) (Ia 3) (Ia 1 7) s (FU (Ia 1 5) + 1) x) (Ia 24) (Ia 3) (Ia 1 6) i.toNat) (FU (Ia 1 5) + 1) (wst ((fun s x => NX (bC 2 (Ia 19) (Ia 24) (Ja 28)) (Ia 3) (Ia 1 7) s (FU (Ia 1 5) + 1) x) (cSt (fun s x => NX (bC 2 (Ia 19) (Ia 24) (Ja 28)) (Ia 3) (Ia 1 7) s (FU (Ia 1 5) + 1) x) (Ia 24) (Ia 3) (Ia 1 6) i.toNat)) (Ia 24) (Ia 3 (cSt (fun s x => NX (bC 2 (Ia 19) (Ia 24) (Ja 28)) (Ia 3) (Ia 1 7) s (FU (Ia 1 5) + 1) x) (Ia 24) (Ia 3) (Ia 1 6) i.toNat).toNat) (Ia 1 6))
                    rw [← hsc, hcw, hww]
                  refine ww_aload_n hX (pc := 113) dX4_findFailing_113 rfl ?_
                  refine ww_getR hX (pc := 114) fX4_18 (by decide) (xs_18 hL) (xr_18_3 hL) dX4_findFailing_114 ?_
                  refine ww_iload_n hX (pc := 117) dX4_findFailing_117 rfl ?_
                  refine ww_iald hX (pc := 118) (xs_21 hL) (by decide) (by omega) (by omega) dX4_findFailing_118 ?_
                  refine ww_nmI (fun v_119 hv_119 => ?_)
                  refine ww_istore_n hX (pc := 119) (lv' := [some (kR (some 18)), some (kI v_119), some (kI i), some (kI wo), some (kI w)]) dX4_findFailing_119 (by decide) rfl rfl ?_
                  rw [← hv_119] at hsc2 hpl
                  refine ww_iinc hX (pc := 120) (lv' := [some (kR (some 18)), some (kI v_119), some (kI (i + 1)), some (kI wo), some (kI w)]) dX4_findFailing_120 rfl (by decide) rfl rfl ?_
                  refine ww_goto hX (pc := 123) (tgt := 4) dX4_findFailing_123 (by decide) ?_
                  refine ww_sub [some (kR (some 18)), some (kI v_119), some (kI (i + 1)), none, none] (aLe_s (aLe_s (aLe_s (aLe_n (aLe_n aLe_0))))) ?_
                  exact ih_4 _ (by have hm9 := Sh0_e hq_4; omega) v_119 (i + 1) I_98 rfl ⟨kI_98, ⟨⟨by omega, by omega⟩, ⟨by omega, by omega⟩, by omega⟩, hsc2, hfj2⟩
                · simp only [w32_mod] at h_106
                  refine ww_iload_n hX (pc := 109) dX4_findFailing_109 rfl ?_
                  refine ww_iconst hX (pc := 110) (x := 1) dX4_findFailing_110 rfl ?_
                  refine ww_iadd hX (pc := 111) dX4_findFailing_111 ?_
                  refine rI hX (pc := 112) hT (Nat.le_refl 0) (Nat.le_refl 0) dX4_findFailing_112 ?_
                  exact ⟨kI_98, rfl, by omega, by omega, hfj2, by
                    rw [show (i + 1).toNat = i.toNat + 1 by omega]
                    show NX (bC 2 (Ia 19) (Ia 24) (Ja 28)) (Ia 3) (Ia 1 7) (cSt (fun s x => NX (bC 2 (Ia 19) (Ia 24) (Ja 28)) (Ia 3) (Ia 1 7) s (FU (Ia 1 5) + 1) x) (Ia 24) (Ia 3) (Ia 1 6) i.toNat) (FU (Ia 1 5) + 1) (wst ((fun s x => NX (bC 2 (Ia 19) (Ia 24) (Ja 28)) (Ia 3) (Ia 1 7) s (FU (Ia 1 5) + 1) x) (cSt (fun s x => NX (bC 2 (Ia 19) (Ia 24) (Ja 28)) (Ia 3) (Ia 1 7) s (FU (Ia 1 5) + 1) x) (Ia 24) (Ia 3) (Ia 1 6) i.toNat)) (Ia 24) (Ia 3 (cSt (fun s x => NX (bC 2 (Ia 19) (Ia 24) (Ja 28)) (Ia 3) (Ia 1 7) s (FU (Ia 1 5) + 1) x) (Ia 24) (Ia 3) (Ia 1 6) i.toNat).toNat) (Ia 1 6)) = -1
                    rw [← hsc]
                    have e7 : wst ((fun s x => NX (bC 2 (Ia 19) (Ia 24) (Ja 28)) (Ia 3) (Ia 1 7) s (FU (Ia 1 5) + 1) x) sa) (Ia 24) (Ia 3 sa.toNat) (Ia 1 6) = wo := hww.symm
                    rw [e7, ← hcw]
                    omega⟩
              · simp only [w32_mod] at h_87
                exfalso
                have h9 : wo = wst (fun x => NX (bC 2 (Ia 19) (Ia 24) (Ja 28)) (Ia 3) (Ia 1 7) sa (FU (Ia 1 5) + 1) x) (Ia 24) (Ia 3 sa.toNat) (Ia 1 6) := by rw [hwo, show w = Ia 1 6 by omega]; rfl
                omega
            · simp only [w32_mod] at h_30
              have hcd := hI.2.2.2.2.2.2.2.2.2.1 sa.toNat (by omega)
              have hce : I_13 3 sa.toNat = Ia 3 sa.toNat := by rw [kI_13 3 (by decide)]
              refine ww_iload hX (pc := 33) dX4_findFailing_33 rfl ?_
              refine ww_aload_n hX (pc := 35) dX4_findFailing_35 rfl ?_
              refine ww_getR hX (pc := 36) fX4_47 (by decide) (xs_18 hL) (xr_18_0 hL) dX4_findFailing_36 ?_
              refine ww_getR hX (pc := 39) fX4_70 (by decide) (xs_1 hL) (xr_1_1 hL) dX4_findFailing_39 ?_
              refine ww_iload_n hX (pc := 42) dX4_findFailing_42 rfl ?_
              refine ww_iald hX (pc := 43) (xs_3 hL) (by decide) (by omega) (by omega) dX4_findFailing_43 ?_
              refine ww_icmp_eq hX (pc := 44) (tgt := 79) dX4_findFailing_44 (by decide) (fun h_44 => ?_) (fun h_44 => ?_)
              · simp only [w32_mod] at h_44
                have hst : wsF (fun x => NX (bC 2 (Ia 19) (Ia 24) (Ja 28)) (Ia 3) (Ia 1 7) sa (FU (Ia 1 5) + 1) x) (Ia 24) (Ia 3 sa.toNat) wo w.toNat = wo := if_neg (fun h9 => h9.1 (by omega))
                refine ww_iinc hX (pc := 79) (lv' := [some (kR (some 18)), some (kI sa), some (kI i), some (kI wo), some (kI (w + 1))]) dX4_findFailing_79 rfl (by decide) rfl rfl ?_
                refine ww_goto hX (pc := 82) (tgt := 21) dX4_findFailing_82 (by decide) ?_
                exact ih_21 _ (by have hm9 := Sh0_e hq_21; omega) wo (w + 1) rfl ⟨by omega, by rw [fW_s _ _ (by omega), ← hwo, hst]⟩
              · simp only [w32_mod] at h_44
                refine ww_iload_n hX (pc := 47) dX4_findFailing_47 rfl ?_
                refine ww_iconst hX (pc := 48) (x := (-1)) dX4_findFailing_48 rfl ?_
                refine ww_icmp_eq hX (pc := 49) (tgt := 76) dX4_findFailing_49 (by decide) (fun h_49 => ?_) (fun h_49 => ?_)
                · simp only [w32_mod] at h_49
                  have hst : wsF (fun x => NX (bC 2 (Ia 19) (Ia 24) (Ja 28)) (Ia 3) (Ia 1 7) sa (FU (Ia 1 5) + 1) x) (Ia 24) (Ia 3 sa.toNat) wo w.toNat = w := (if_pos ⟨by omega, Or.inl (by omega)⟩).trans (by omega)
                  refine ww_iload hX (pc := 76) dX4_findFailing_76 rfl ?_
                  refine ww_istore_n hX (pc := 78) (lv' := [some (kR (some 18)), some (kI sa), some (kI i), some (kI w), some (kI w)]) dX4_findFailing_78 (by decide) rfl rfl ?_
                  refine ww_iinc hX (pc := 79) (lv' := [some (kR (some 18)), some (kI sa), some (kI i), some (kI w), some (kI (w + 1))]) dX4_findFailing_79 rfl (by decide) rfl rfl ?_
                  refine ww_goto hX (pc := 82) (tgt := 21) dX4_findFailing_82 (by decide) ?_
                  exact ih_21 _ (by have hm9 := Sh0_e hq_21; omega) w (w + 1) rfl ⟨by omega, by rw [fW_s _ _ (by omega), ← hwo, hst]⟩
                · simp only [w32_mod] at h_49
                  have hc1 := hcr w.toNat (by omega)
                  have hc2 := hcr wo.toNat (by omega)
                  refine ww_aload_n hX (pc := 52) dX4_findFailing_52 rfl ?_
                  refine ww_aload_n hX (pc := 53) dX4_findFailing_53 rfl ?_
                  refine ww_getR hX (pc := 54) fX4_18 (by decide) (xs_18 hL) (xr_18_3 hL) dX4_findFailing_54 ?_
                  refine ww_iload hX (pc := 57) dX4_findFailing_57 rfl ?_
                  refine ww_iald hX (pc := 59) (xs_21 hL) (by decide) (by omega) (by omega) dX4_findFailing_59 ?_
                  refine vI1 hX (pc := 60) sX4_127 (xs_18 hL) (c8_X4_lastsBy l0 hL (XI_kp hI kI_13 (by decide)) (by omega) (by omega)) (by decide) (Nat.le_refl 0) (Nat.le_refl 0) (Nat.le_of_ble_eq_true rfl) dX4_findFailing_60 (fun x_60 I_60 J_60 h_60 => ?_)
                  obtain ⟨rfl, rfl, h_60⟩ := h_60
                  rw [hg24] at h_60
                  refine ww_aload_n hX (pc := 63) dX4_findFailing_63 rfl ?_
                  refine ww_aload_n hX (pc := 64) dX4_findFailing_64 rfl ?_
                  refine ww_getR hX (pc := 65) fX4_18 (by decide) (xs_18 hL) (xr_18_3 hL) dX4_findFailing_65 ?_
                  refine ww_iload_n hX (pc := 68) dX4_findFailing_68 rfl ?_
                  refine ww_iald hX (pc := 69) (xs_21 hL) (by decide) (by omega) (by omega) dX4_findFailing_69 ?_
                  refine vI1 hX (pc := 70) sX4_127 (xs_18 hL) (c8_X4_lastsBy l0 hL (XI_kp hI kI_13 (by decide)) (by omega) (by omega)) (by decide) (Nat.le_refl 0) (Nat.le_refl 0) (Nat.le_of_ble_eq_true rfl) dX4_findFailing_70 (fun x_70 I_70 J_70 h_70 => ?_)
                  obtain ⟨rfl, rfl, h_70⟩ := h_70
                  rw [hg24] at h_70
                  have hl1 : -100 ≤ x_60 ∧ x_60 ≤ 100 := by
                    rw [h_60]
                    unfold lbv
                    split
                    · decide
                    · exact (hTR _ (by omega)).2.1 rfl
                  have hl2 : -100 ≤ x_70 ∧ x_70 ≤ 100 := by
                    rw [h_70]
                    unfold lbv
                    split
                    · decide
                    · exact (hTR _ (by omega)).2.1 rfl
                  rw [hch w.toNat (by omega), show ((w.toNat : Nat) : Int) = w by omega] at h_60
                  rw [hch wo.toNat (by omega), show ((wo.toNat : Nat) : Int) = wo by omega] at h_70
                  refine ww_icmp_ge hX (pc := 73) (tgt := 79) dX4_findFailing_73 (by decide) (fun h_73 => ?_) (fun h_73 => ?_)
                  · simp only [w32_mod] at h_73
                    have hst : wsF (fun x => NX (bC 2 (Ia 19) (Ia 24) (Ja 28)) (Ia 3) (Ia 1 7) sa (FU (Ia 1 5) + 1) x) (Ia 24) (Ia 3 sa.toNat) wo w.toNat = wo := if_neg (fun h9 => by
                      have h8 : wo = -1 ∨ lbv (Ia 24) (NX (bC 2 (Ia 19) (Ia 24) (Ja 28)) (Ia 3) (Ia 1 7) sa (FU (Ia 1 5) + 1) ((w.toNat : Nat) : Int)) < lbv (Ia 24) (NX (bC 2 (Ia 19) (Ia 24) (Ja 28)) (Ia 3) (Ia 1 7) sa (FU (Ia 1 5) + 1) wo) := h9.2
                      rw [show ((w.toNat : Nat) : Int) = w by omega] at h8
                      omega)
                    refine ww_iinc hX (pc := 79) (lv' := [some (kR (some 18)), some (kI sa), some (kI i), some (kI wo), some (kI (w + 1))]) dX4_findFailing_79 rfl (by decide) rfl rfl ?_
                    refine ww_goto hX (pc := 82) (tgt := 21) dX4_findFailing_82 (by decide) ?_
                    exact ih_21 _ (by have hm9 := Sh0_e hq_21; omega) wo (w + 1) rfl ⟨by omega, by rw [fW_s _ _ (by omega), ← hwo, hst]⟩
                  · simp only [w32_mod] at h_73
                    have hst : wsF (fun x => NX (bC 2 (Ia 19) (Ia 24) (Ja 28)) (Ia 3) (Ia 1 7) sa (FU (Ia 1 5) + 1) x) (Ia 24) (Ia 3 sa.toNat) wo w.toNat = w := (if_pos ⟨by omega, Or.inr (by show lbv (Ia 24) (NX (bC 2 (Ia 19) (Ia 24) (Ja 28)) (Ia 3) (Ia 1 7) sa (FU (Ia 1 5) + 1) ((w.toNat : Nat) : Int)) < lbv (Ia 24) (NX (bC 2 (Ia 19) (Ia 24) (Ja 28)) (Ia 3) (Ia 1 7) sa (FU (Ia 1 5) + 1) wo); rw [show ((w.toNat : Nat) : Int) = w by omega]; omega)⟩).trans (by omega)
                    refine ww_iload hX (pc := 76) dX4_findFailing_76 rfl ?_
                    refine ww_istore_n hX (pc := 78) (lv' := [some (kR (some 18)), some (kI sa), some (kI i), some (kI w), some (kI w)]) dX4_findFailing_78 (by decide) rfl rfl ?_
                    refine ww_iinc hX (pc := 79) (lv' := [some (kR (some 18)), some (kI sa), some (kI i), some (kI w), some (kI (w + 1))]) dX4_findFailing_79 rfl (by decide) rfl rfl ?_
                    refine ww_goto hX (pc := 82) (tgt := 21) dX4_findFailing_82 (by decide) ?_
                    exact ih_21 _ (by have hm9 := Sh0_e hq_21; omega) w (w + 1) rfl ⟨by omega, by rw [fW_s _ _ (by omega), ← hwo, hst]⟩
        exact hl_21 _ (-1) 0 rfl ⟨by omega, rfl⟩
  exact hl_4 _ 0 0 Ia rfl ⟨(Kp_rf (a := 20) (b := 22)), ⟨⟨by omega, by omega⟩, ⟨by omega, by omega⟩, (pcn_r _).1⟩, rfl, fun j hj => absurd hj (by omega)⟩
set_option maxHeartbeats 4000000 in
set_option maxRecDepth 20000 in
theorem c8_X4_lastingWithout (l0 : Launch) {Ia Ja : aI1} {Ra : aR1} {Sa : aS1} (hL : LY Ra Sa) (hI : XI Ia) {a : Int}  : CT l0 3 0 0 mX4_lastingWithout [kR (some 18), kI a] Ia Ja Ra Sa (cI (fun x I' J' => Kp 25 28 Ia I' ∧ Kp 25 28 Ja J' ∧ ∃ L, zLV (Ia 3) (i_or (Ia 1 7) (i_shl 1 a)) (FU (Ia 1 5) + 1) (Ia 1 6) (-1) L ∧ x = L 0) Ra Sa) := by
  refine ct_in pn_X4 (Nat.le_of_ble_eq_true rfl) (fun X hX hT hIn => ?_)
  have hX : aK l0 X cX4_lastingWithout 2 RX4 (some .int) 3 0 0 := hX
  change WW X 0 [some (kR (some 18)), some (kI a)] [] Ia Ja Ra Sa 0 0
  obtain ⟨hn1, hn2⟩ := hI.1
  obtain ⟨hk1, hk2⟩ := hI.2.1
  obtain ⟨hf1, hf2⟩ := hI.fu
  refine ww_aload_n hX (pc := 0) dX4_lastingWithout_0 rfl ?_
  refine ww_getR hX (pc := 1) fX4_30 (by decide) (xs_18 hL) (xr_18_5 hL) dX4_lastingWithout_1 ?_
  refine ww_aload_n hX (pc := 4) dX4_lastingWithout_4 rfl ?_
  refine ww_getR hX (pc := 5) fX4_47 (by decide) (xs_18 hL) (xr_18_0 hL) dX4_lastingWithout_5 ?_
  refine ww_getR hX (pc := 8) fX4_70 (by decide) (xs_1 hL) (xr_1_1 hL) dX4_lastingWithout_8 ?_
  refine ww_aload_n hX (pc := 11) dX4_lastingWithout_11 rfl ?_
  refine ww_getR hX (pc := 12) fX4_47 (by decide) (xs_18 hL) (xr_18_0 hL) dX4_lastingWithout_12 ?_
  refine vI0 hX (pc := 15) sX4_75 (xs_1 hL) (c_X1_full l0 hL hI) (by decide) (Nat.le_refl 0) (Nat.le_refl 0) (Nat.le_of_ble_eq_true rfl) dX4_lastingWithout_15 (fun x_15 I_15 J_15 h_15 => ?_)
  obtain ⟨rfl, rfl, h_15⟩ := h_15
  refine ww_aload_n hX (pc := 18) dX4_lastingWithout_18 rfl ?_
  refine ww_getR hX (pc := 19) fX4_47 (by decide) (xs_18 hL) (xr_18_0 hL) dX4_lastingWithout_19 ?_
  refine ww_getI hX (pc := 22) fX4_79 (by decide) (xs_1 hL) dX4_lastingWithout_22 ?_
  refine ww_iconst hX (pc := 25) (x := 1) dX4_lastingWithout_25 rfl ?_
  refine ww_iload_n hX (pc := 26) dX4_lastingWithout_26 rfl ?_
  refine ww_ishl hX (pc := 27) dX4_lastingWithout_27 ?_
  refine ww_ior hX (pc := 28) dX4_lastingWithout_28 ?_
  refine ww_aload_n hX (pc := 29) dX4_lastingWithout_29 rfl ?_
  refine ww_getR hX (pc := 30) fX4_47 (by decide) (xs_18 hL) (xr_18_0 hL) dX4_lastingWithout_30 ?_
  refine ww_getI hX (pc := 33) fX4_83 (by decide) (xs_1 hL) dX4_lastingWithout_33 ?_
  refine vV4 hX (pc := 36) sX4_86 (xs_25 hL) (c5_X5_fill l0 (Ia := Ia) (xs_25 hL) (xr_25_0 hL) (xr_25_1 hL) (xs_27 hL) (xs_26 hL) (xs_3 hL) (by decide) (by decide) (by decide) (by decide) (fun j hj => by have := hI.2.2.2.2.2.2.2.2.2.1 j hj; omega) (by decide) (by omega) (by omega) (by omega) (by decide) (by omega) (by omega)) (by decide) (Nat.le_refl 0) (Nat.le_refl 0) (Nat.le_of_ble_eq_true rfl) dX4_lastingWithout_36 (fun I_36 J_36 h_36 => ?_)
  obtain ⟨rfl, h_36, hz_36⟩ := h_36
  have kI_36 : Kp 25 28 Ia I_36 := Kp_tr (Kp_rf (a := 25) (b := 28)) (Kq_kp h_36 (by decide) (by decide))
  have r1_5_I_36 : I_36 1 5 = Ia 1 5 := Kp_at kI_36 1 5 (by decide)
  have r1_6_I_36 : I_36 1 6 = Ia 1 6 := Kp_at kI_36 1 6 (by decide)
  have rf_I_36 : FU (I_36 1 5) = FU (Ia 1 5) := by rw [r1_5_I_36]
  refine ww_aload_n hX (pc := 39) dX4_lastingWithout_39 rfl ?_
  refine ww_getR hX (pc := 40) fX4_30 (by decide) (xs_18 hL) (xr_18_5 hL) dX4_lastingWithout_40 ?_
  refine ww_getR hX (pc := 43) fX4_67 (by decide) (xs_25 hL) (xr_25_0 hL) dX4_lastingWithout_43 ?_
  refine ww_iconst hX (pc := 46) (x := 0) dX4_lastingWithout_46 rfl ?_
  refine ww_iald hX (pc := 47) (xs_27 hL) (by decide) (by omega) (by omega) dX4_lastingWithout_47 ?_
  refine rI hX (pc := 48) hT (Nat.le_refl 0) (Nat.le_refl 0) dX4_lastingWithout_48 ?_
  rw [h_15] at hz_36
  exact ⟨kI_36, (Kp_rf (a := 25) (b := 28)), _, hz_36, rfl⟩
set_option maxHeartbeats 4000000 in
set_option maxRecDepth 20000 in
theorem c8_X4_firstDoubt (l0 : Launch) {Ia Ja : aI1} {Ra : aR1} {Sa : aS1} (hL : LY Ra Sa) (hI : XI Ia) {a b : Int} (ha0 : 0 ≤ a) (ha1 : a ≤ 255) (hbF : b = FU (Ia 1 5))  : CT l0 2 0 0 mX4_firstDoubt [kR (some 18), kI a, kI b] Ia Ja Ra Sa (cI (fun x I' J' => Kp 30 31 Ia I' ∧ Kp 30 31 Ja J' ∧ FDt (Ia 3) (Ia 1 7) a (FU (Ia 1 5) + 1) x) Ra Sa) := by
  refine ct_in pn_X4 (Nat.le_of_ble_eq_true rfl) (fun X hX hT hIn => ?_)
  have hX : aK l0 X cX4_firstDoubt 5 RX4 (some .int) 2 0 0 := hX
  change WW X 0 [some (kR (some 18)), some (kI a), some (kI b), none, none] [] Ia Ja Ra Sa 0 0
  obtain ⟨hn1, hn2⟩ := hI.1
  obtain ⟨hk1, hk2⟩ := hI.2.1
  obtain ⟨hf1, hf2⟩ := hI.fu
  have hrg : (∀ t : Nat, SN (Ia 3) (Ia 1 7) a (FU (Ia 1 5) + 1) t → 0 ≤ Ia 3 t ∧ Ia 3 t < 8) := fun t ht => by
    have h1 := ht.1.1
    have h2 := ht.1.2.1
    have h3 := hI.2.2.2.2.2.2.2.2.2.1 t (by omega)
    omega
  refine ww_aload_n hX (pc := 0) dX4_firstDoubt_0 rfl ?_
  refine ww_getR hX (pc := 1) fX4_40 (by decide) (xs_18 hL) (xr_18_8 hL) dX4_firstDoubt_1 ?_
  refine ww_iconst hX (pc := 4) (x := 0) dX4_firstDoubt_4 rfl ?_
  refine sV2 hX (pc := 5) sX4_106 (c_J7_fill_53178 l0 (xs_30 hL) (by decide)) (by decide) (Nat.le_refl 0) (Nat.le_refl 0) (Nat.le_of_ble_eq_true rfl) dX4_firstDoubt_5 (fun I_5 J_5 h_5 => ?_)
  obtain ⟨rfl, eI_5⟩ := h_5
  have kI_5 : Kp 30 31 Ia I_5 := by rw [eI_5]; exact Kp_upR (Kp_rf (a := 30) (b := 31)) _ (by decide)
  have r1_5_I_5 : I_5 1 5 = Ia 1 5 := Kp_at kI_5 1 5 (by decide)
  have r1_6_I_5 : I_5 1 6 = Ia 1 6 := Kp_at kI_5 1 6 (by decide)
  have rf_I_5 : FU (I_5 1 5) = FU (Ia 1 5) := by rw [r1_5_I_5]
  refine ww_iload_n hX (pc := 8) dX4_firstDoubt_8 rfl ?_
  refine ww_istore_n hX (pc := 9) (lv' := [some (kR (some 18)), some (kI a), some (kI b), some (kI a), none]) dX4_firstDoubt_9 (by decide) rfl rfl ?_
  have hl_10 : ∀ (n_10 : Nat) (to : Int) (I2 : aI1) (J2 : aI1), (b + 1 - to).toNat = n_10 → (Kp 30 31 Ia I2 ∧ Kp 30 31 Ja J2 ∧ (0 ≤ to ∧ to < 2147483648) ∧ a.toNat &&& to.toNat = a.toNat ∧ (∀ d : Nat, d < 9 → BT (Ia 3) (fun t => SN (Ia 3) (Ia 1 7) a (FU (Ia 1 5) + 1) t ∧ pcn (t ^^^ a.toNat) = d ∧ (t : Int) < to) (I2 30 d))) → WW X 10 [some (kR (some 18)), some (kI a), some (kI b), some (kI to), none] [] I2 J2 Ra Sa 0 0 := by
    intro n_10
    induction n_10 using Nat.strongRecOn with
    | ind n_10 ih_10 =>
      intro to I2 J2 hm_10 hv_10
      have hq_10 := Sh0_i hm_10
      clear hm_10
      obtain ⟨kI2, kJ2, hto, hsu, hrow⟩ := hv_10
      have r1_5_I2 : I2 1 5 = Ia 1 5 := Kp_at kI2 1 5 (by decide)
      have r1_6_I2 : I2 1 6 = Ia 1 6 := Kp_at kI2 1 6 (by decide)
      have rf_I2 : FU (I2 1 5) = FU (Ia 1 5) := by rw [r1_5_I2]
      refine ww_iload_n hX (pc := 10) dX4_firstDoubt_10 rfl ?_
      refine ww_iload_n hX (pc := 11) dX4_firstDoubt_11 rfl ?_
      refine ww_icmp_gt hX (pc := 12) (tgt := 46) dX4_firstDoubt_12 (by decide) (fun h_12 => ?_) (fun h_12 => ?_)
      · simp only [w32_mod] at h_12
        refine ww_iconst hX (pc := 46) (x := 0) dX4_firstDoubt_46 rfl ?_
        refine ww_istore_n hX (pc := 47) (lv' := [some (kR (some 18)), some (kI a), some (kI b), some (kI 0), none]) dX4_firstDoubt_47 (by decide) rfl rfl ?_
        refine ww_iconst hX (pc := 48) (x := 0) dX4_firstDoubt_48 rfl ?_
        refine ww_istore hX (pc := 49) (lv' := [some (kR (some 18)), some (kI a), some (kI b), some (kI 0), some (kI 0)]) dX4_firstDoubt_49 (by decide) rfl rfl ?_
        have hrow9 : (∀ d : Nat, d < 9 → BT (Ia 3) (fun t => SN (Ia 3) (Ia 1 7) a (FU (Ia 1 5) + 1) t ∧ pcn (t ^^^ a.toNat) = d) (I2 30 d)) := fun d hd => BT_cg (hrow d hd) (fun t => ⟨fun h9 => ⟨h9.1, h9.2.1⟩, fun h9 => ⟨h9.1, h9.2, by have := h9.1.1.1; omega⟩⟩)
        have hl_51 : ∀ (n_51 : Nat) (bt : Int) (ms9 : Int), (9 - ms9).toNat = n_51 → ((0 ≤ ms9 ∧ ms9 ≤ 9) ∧ BT (Ia 3) (fun t => SN (Ia 3) (Ia 1 7) a (FU (Ia 1 5) + 1) t ∧ pcn (t ^^^ a.toNat) < ms9) bt ∧ (∀ s t, SN (Ia 3) (Ia 1 7) a (FU (Ia 1 5) + 1) s → SN (Ia 3) (Ia 1 7) a (FU (Ia 1 5) + 1) t → ¬ Ia 3 s = Ia 3 t → ms9 ≤ max (pcn (s ^^^ a.toNat)) (pcn (t ^^^ a.toNat)))) → WW X 51 [some (kR (some 18)), some (kI a), some (kI b), some (kI bt), some (kI ms9)] [] I2 J2 Ra Sa 0 0 := by
          intro n_51
          induction n_51 using Nat.strongRecOn with
          | ind n_51 ih_51 =>
            intro bt ms9 hm_51 hv_51
            have hq_51 := Sh0_i hm_51
            clear hm_51
            obtain ⟨hm, hbt, hmx⟩ := hv_51
            refine ww_iload hX (pc := 51) dX4_firstDoubt_51 rfl ?_
            refine ww_bipush hX (pc := 53) (x := 8) dX4_firstDoubt_53 (by decide) ?_
            refine ww_icmp_gt hX (pc := 55) (tgt := 85) dX4_firstDoubt_55 (by decide) (fun h_55 => ?_) (fun h_55 => ?_)
            · simp only [w32_mod] at h_55
              refine ww_bipush hX (pc := 85) (x := 9) dX4_firstDoubt_85 (by decide) ?_
              refine rI hX (pc := 87) hT (Nat.le_refl 0) (Nat.le_refl 0) dX4_firstDoubt_87 ?_
              exact ⟨kI2, kJ2, by omega, fun h9 => absurd h9 (by omega), fun s9 t9 q1 q2 q3 => by have := hmx s9 t9 q1 q2 q3; omega⟩
            · simp only [w32_mod] at h_55
              refine ww_iload_n hX (pc := 58) dX4_firstDoubt_58 rfl ?_
              refine ww_aload_n hX (pc := 59) dX4_firstDoubt_59 rfl ?_
              refine ww_getR hX (pc := 60) fX4_40 (by decide) (xs_18 hL) (xr_18_8 hL) dX4_firstDoubt_60 ?_
              refine ww_iload hX (pc := 63) dX4_firstDoubt_63 rfl ?_
              refine ww_iald hX (pc := 65) (xs_30 hL) (by decide) (by omega) (by omega) dX4_firstDoubt_65 ?_
              refine ww_ior hX (pc := 66) dX4_firstDoubt_66 ?_
              have hbn : BT (Ia 3) (fun t => SN (Ia 3) (Ia 1 7) a (FU (Ia 1 5) + 1) t ∧ pcn (t ^^^ a.toNat) < ms9 + 1) (i_or bt (I2 30 ms9.toNat)) := BT_cg (BT_or hbt (hrow9 ms9.toNat (by omega))) (fun t => ⟨fun h9 => h9.elim (fun h8 => ⟨h8.1, by have := h8.2; omega⟩) (fun h8 => ⟨h8.1, by have := h8.2; omega⟩), fun h9 => (by
                by_cases h8 : pcn (t ^^^ a.toNat) < ms9
                · exact Or.inl ⟨h9.1, h8⟩
                · exact Or.inr ⟨h9.1, by have := h9.2; omega⟩)⟩)
              refine ww_nmI (fun v_67 hv_67 => ?_)
              refine ww_istore_n hX (pc := 67) (lv' := [some (kR (some 18)), some (kI a), some (kI b), some (kI v_67), some (kI ms9)]) dX4_firstDoubt_67 (by decide) rfl rfl ?_
              refine ww_iload_n hX (pc := 68) dX4_firstDoubt_68 rfl ?_
              refine sI1 hX (pc := 69) sX4_138 (c_J6_bitCount_0f7a4 l0) (by decide) (Nat.le_refl 0) (Nat.le_refl 0) (Nat.le_of_ble_eq_true rfl) dX4_firstDoubt_69 (fun x_69 I_69 J_69 h_69 => ?_)
              obtain ⟨rfl, rfl, h_69⟩ := h_69
              rw [hv_67] at h_69
              have hbr := hbn.1
              have hb2 := bc_r (a := i_or bt (I2 30 ms9.toNat)) (by omega) (by omega)
              refine ww_iconst hX (pc := 72) (x := 1) dX4_firstDoubt_72 rfl ?_
              refine ww_icmp_le hX (pc := 73) (tgt := 79) dX4_firstDoubt_73 (by decide) (fun h_73 => ?_) (fun h_73 => ?_)
              · simp only [w32_mod] at h_73
                have hm2 : ∀ s t, SN (Ia 3) (Ia 1 7) a (FU (Ia 1 5) + 1) s → SN (Ia 3) (Ia 1 7) a (FU (Ia 1 5) + 1) t → ¬ Ia 3 s = Ia 3 t → ms9 + 1 ≤ max (pcn (s ^^^ a.toNat)) (pcn (t ^^^ a.toNat)) := fun s9 t9 q1 q2 q3 => by
                  refine Decidable.byContradiction (fun h9 => ?_)
                  have := (BT_2 hbn (fun t ht => hrg t ht.1)).mpr ⟨s9, t9, ⟨q1, by omega⟩, ⟨q2, by omega⟩, q3⟩
                  omega
                refine ww_iinc hX (pc := 79) (lv' := [some (kR (some 18)), some (kI a), some (kI b), some (kI v_67), some (kI (ms9 + 1))]) dX4_firstDoubt_79 rfl (by decide) rfl rfl ?_
                refine ww_goto hX (pc := 82) (tgt := 51) dX4_firstDoubt_82 (by decide) ?_
                exact ih_51 _ (by have hm9 := Sh0_e hq_51; omega) v_67 (ms9 + 1) rfl ⟨⟨by omega, by omega⟩, by rw [hv_67]; exact hbn, hm2⟩
              · simp only [w32_mod] at h_73
                refine ww_iload hX (pc := 76) dX4_firstDoubt_76 rfl ?_
                refine rI hX (pc := 78) hT (Nat.le_refl 0) (Nat.le_refl 0) dX4_firstDoubt_78 ?_
                refine ⟨kI2, kJ2, by omega, fun _ => ?_, hmx⟩
                obtain ⟨s9, t9, q1, q2, q3⟩ := (BT_2 hbn (fun t ht => hrg t ht.1)).mp (by omega)
                exact ⟨s9, t9, q1.1, q2.1, q3, by have := q1.2; omega, by have := q2.2; omega⟩
        exact hl_51 _ 0 0 rfl ⟨⟨by omega, by omega⟩, BT_0 (fun t ht => by have := ht.2; have := pcn_r (t ^^^ a.toNat); omega), fun s t _ _ _ => by have := pcn_r (s ^^^ a.toNat); omega⟩
      · simp only [w32_mod] at h_12
        have hxr := i_xor_256 (a := to) (b := a) (by omega) (by omega) (by omega) (by omega)
        have hbc := bc_r hxr.1 hxr.2
        have hcd := hI.2.2.2.2.2.2.2.2.2.1 to.toNat (by omega)
        refine ww_aload_n hX (pc := 15) dX4_firstDoubt_15 rfl ?_
        refine ww_getR hX (pc := 16) fX4_40 (by decide) (xs_18 hL) (xr_18_8 hL) dX4_firstDoubt_16 ?_
        refine ww_iload_n hX (pc := 19) dX4_firstDoubt_19 rfl ?_
        refine ww_iload_n hX (pc := 20) dX4_firstDoubt_20 rfl ?_
        refine ww_ixor hX (pc := 21) dX4_firstDoubt_21 ?_
        refine sI1 hX (pc := 22) sX4_138 (c_J6_bitCount_0f7a4 l0) (by decide) (Nat.le_refl 0) (Nat.le_refl 0) (Nat.le_of_ble_eq_true rfl) dX4_firstDoubt_22 (fun x_22 I_22 J_22 h_22 => ?_)
        obtain ⟨rfl, rfl, h_22⟩ := h_22
        refine ww_dup2 hX (pc := 25) dX4_firstDoubt_25 ?_
        refine ww_iald hX (pc := 26) (xs_30 hL) (by decide) (by omega) (by omega) dX4_firstDoubt_26 ?_
        refine ww_aload_n hX (pc := 27) dX4_firstDoubt_27 rfl ?_
        refine ww_getR hX (pc := 28) fX4_47 (by decide) (xs_18 hL) (xr_18_0 hL) dX4_firstDoubt_28 ?_
        refine ww_iload_n hX (pc := 31) dX4_firstDoubt_31 rfl ?_
        refine vI1 hX (pc := 32) sX4_143 (xs_1 hL) (c7_X1_newsBit l0 hL (XI_kp hI kI2 (by decide)) (by omega) (by omega)) (by decide) (Nat.le_refl 0) (Nat.le_refl 0) (Nat.le_of_ble_eq_true rfl) dX4_firstDoubt_32 (fun x_32 I_32 J_32 h_32 => ?_)
        obtain ⟨rfl, rfl, h_32⟩ := h_32
        refine ww_ior hX (pc := 35) dX4_firstDoubt_35 ?_
        refine ww_iast hX (pc := 36) (xs_30 hL) (by decide) (by omega) (by omega) dX4_firstDoubt_36 ?_
        refine ww_nmH (fun I_36 eI_36 => ?_)
        have kI_36 : Kp 30 31 Ia I_36 := by rw [eI_36]; exact Kp_up kI2 _ _ (by decide)
        have r1_5_I_36 : I_36 1 5 = Ia 1 5 := Kp_at kI_36 1 5 (by decide)
        have r1_6_I_36 : I_36 1 6 = Ia 1 6 := Kp_at kI_36 1 6 (by decide)
        have rf_I_36 : FU (I_36 1 5) = FU (Ia 1 5) := by rw [r1_5_I_36]
        have hrow2 : (∀ d : Nat, d < 9 → BT (Ia 3) (fun t => SN (Ia 3) (Ia 1 7) a (FU (Ia 1 5) + 1) t ∧ pcn (t ^^^ a.toNat) = d ∧ (t : Int) < i_or (to + 1) a) (I_36 30 d)) := by
          rw [eI_36, up2_row, h_22, h_32, kI2 3 (by decide), kI2 1 (by decide)]
          exact BT_st hrow (by omega) (by omega) (by omega) (by omega) (by omega) hsu (by omega)
        refine ww_iload_n hX (pc := 37) dX4_firstDoubt_37 rfl ?_
        refine ww_iconst hX (pc := 38) (x := 1) dX4_firstDoubt_38 rfl ?_
        refine ww_iadd hX (pc := 39) dX4_firstDoubt_39 ?_
        refine ww_iload_n hX (pc := 40) dX4_firstDoubt_40 rfl ?_
        refine ww_ior hX (pc := 41) dX4_firstDoubt_41 ?_
        refine ww_nmI (fun v_42 hv_42 => ?_)
        refine ww_istore_n hX (pc := 42) (lv' := [some (kR (some 18)), some (kI a), some (kI b), some (kI v_42), none]) dX4_firstDoubt_42 (by decide) rfl rfl ?_
        refine ww_goto hX (pc := 43) (tgt := 10) dX4_firstDoubt_43 (by decide) ?_
        have hor := i_or_ge (a := to + 1) (b := a) (by omega) (by omega) (by omega) (by omega)
        exact ih_10 _ (by have hm9 := Sh0_e hq_10; omega) v_42 I_36 J2 rfl ⟨kI_36, kJ2, ⟨by omega, by omega⟩, by rw [hv_42]; exact or_nx_sub (by omega) (by omega) (by omega) (by omega), by rw [hv_42]; exact hrow2⟩
  exact hl_10 _ a I_5 Ja rfl ⟨kI_5, (Kp_rf (a := 30) (b := 31)), ⟨by omega, by omega⟩, Nat.and_self _, fun d hd => by
      rw [eI_5, upR_s, if_pos hd]
      exact BT_0 (fun t ht => by
        have h1 := ht.1.2
        have h2 : a.toNat &&& t ≤ t := Nat.and_le_right
        have h3 := ht.2.2
        omega)⟩
set_option maxHeartbeats 4000000 in
set_option maxRecDepth 20000 in
theorem c8_X4_findSafe (l0 : Launch) {Ia Ja : aI1} {Ra : aR1} {Sa : aS1} (hL : LY Ra Sa) (hI : XI Ia)  : CT l0 3 0 0 mX4_findSafe [kR (some 18)] Ia Ja Ra Sa (cI (fun x I' J' => Kp 30 31 Ia I' ∧ Kp 30 31 Ja J' ∧ SFE (Ia 3) (Ia 1 7) (FU (Ia 1 5) + 1) x) Ra Sa) := by
  refine ct_in pn_X4 (Nat.le_of_ble_eq_true rfl) (fun X hX hT hIn => ?_)
  have hX : aK l0 X cX4_findSafe 4 RX4 (some .int) 3 0 0 := hX
  change WW X 0 [some (kR (some 18)), none, none, none] [] Ia Ja Ra Sa 0 0
  obtain ⟨hn1, hn2⟩ := hI.1
  obtain ⟨hk1, hk2⟩ := hI.2.1
  obtain ⟨hf1, hf2⟩ := hI.fu
  refine ww_aload_n hX (pc := 0) dX4_findSafe_0 rfl ?_
  refine ww_getR hX (pc := 1) fX4_47 (by decide) (xs_18 hL) (xr_18_0 hL) dX4_findSafe_1 ?_
  refine vI0 hX (pc := 4) sX4_75 (xs_1 hL) (c_X1_full l0 hL hI) (by decide) (Nat.le_refl 0) (Nat.le_refl 0) (Nat.le_of_ble_eq_true rfl) dX4_findSafe_4 (fun x_4 I_4 J_4 h_4 => ?_)
  obtain ⟨rfl, rfl, h_4⟩ := h_4
  refine ww_istore_n hX (pc := 7) (lv' := [some (kR (some 18)), some (kI x_4), none, none]) dX4_findSafe_7 (by decide) rfl rfl ?_
  refine ww_bipush hX (pc := 8) (x := 8) dX4_findSafe_8 (by decide) ?_
  refine ww_istore_n hX (pc := 10) (lv' := [some (kR (some 18)), some (kI x_4), some (kI 8), none]) dX4_findSafe_10 (by decide) rfl rfl ?_
  refine ww_iconst hX (pc := 11) (x := 0) dX4_findSafe_11 rfl ?_
  refine ww_istore_n hX (pc := 12) (lv' := [some (kR (some 18)), some (kI x_4), some (kI 8), some (kI 0)]) dX4_findSafe_12 (by decide) rfl rfl ?_
  have hl_13 : ∀ (n_13 : Nat) (sf : Int) (q : Int) (I2 : aI1) (J2 : aI1), (x_4 + 1 - q).toNat = n_13 → (Kp 30 31 Ia I2 ∧ Kp 30 31 Ja J2 ∧ ((0 ≤ q ∧ q ≤ x_4 + 1) ∧ (-1 ≤ sf ∧ sf ≤ 8)) ∧ SFq (Ia 3) (Ia 1 7) (FU (Ia 1 5) + 1) q sf) → WW X 13 [some (kR (some 18)), some (kI x_4), some (kI sf), some (kI q)] [] I2 J2 Ra Sa 0 0 := by
    intro n_13
    induction n_13 using Nat.strongRecOn with
    | ind n_13 ih_13 =>
      intro sf q I2 J2 hm_13 hv_13
      have hq_13 := Sh0_i hm_13
      clear hm_13
      obtain ⟨kI2, kJ2, hq, hsf⟩ := hv_13
      have r1_5_I2 : I2 1 5 = Ia 1 5 := Kp_at kI2 1 5 (by decide)
      have r1_6_I2 : I2 1 6 = Ia 1 6 := Kp_at kI2 1 6 (by decide)
      have rf_I2 : FU (I2 1 5) = FU (Ia 1 5) := by rw [r1_5_I2]
      refine ww_iload_n hX (pc := 13) dX4_findSafe_13 rfl ?_
      refine ww_iload_n hX (pc := 14) dX4_findSafe_14 rfl ?_
      refine ww_icmp_gt hX (pc := 15) (tgt := 37) dX4_findSafe_15 (by decide) (fun h_15 => ?_) (fun h_15 => ?_)
      · simp only [w32_mod] at h_15
        refine ww_iload_n hX (pc := 37) dX4_findSafe_37 rfl ?_
        refine rI hX (pc := 38) hT (Nat.le_refl 0) (Nat.le_refl 0) dX4_findSafe_38 ?_
        exact ⟨kI2, kJ2, SFq_e ((show q = FU (Ia 1 5) + 1 by omega) ▸ hsf)⟩
      · simp only [w32_mod] at h_15
        refine ww_iload_n hX (pc := 18) dX4_findSafe_18 rfl ?_
        refine ww_aload_n hX (pc := 19) dX4_findSafe_19 rfl ?_
        refine ww_iload_n hX (pc := 20) dX4_findSafe_20 rfl ?_
        refine ww_iload_n hX (pc := 21) dX4_findSafe_21 rfl ?_
        refine vI2 hX (pc := 22) sX4_131 (xs_18 hL) (c8_X4_firstDoubt l0 hL (XI_kp hI kI2 (by decide)) (by omega) (by omega) (by omega)) (by decide) (Nat.le_refl 0) (Nat.le_refl 0) (Nat.le_of_ble_eq_true rfl) dX4_findSafe_22 (fun x_22 I_22 J_22 h_22 => ?_)
        have kI_22 : Kp 30 31 Ia I_22 := Kp_tr kI2 (Kp_wd h_22.1 (by decide) (by decide))
        have kJ_22 : Kp 30 31 Ja J_22 := Kp_tr kJ2 (Kp_wd h_22.2.1 (by decide) (by decide))
        have r1_5_I_22 : I_22 1 5 = Ia 1 5 := Kp_at kI_22 1 5 (by decide)
        have r1_6_I_22 : I_22 1 6 = Ia 1 6 := Kp_at kI_22 1 6 (by decide)
        have rf_I_22 : FU (I_22 1 5) = FU (Ia 1 5) := by rw [r1_5_I_22]
        have hfd := h_22.2.2
        rw [kI2 3 (by decide), kI2 1 (by decide)] at hfd
        have hfr := hfd.1
        have hs8 := hsf.1
        refine ww_iconst hX (pc := 25) (x := 1) dX4_findSafe_25 rfl ?_
        refine ww_isub hX (pc := 26) dX4_findSafe_26 ?_
        refine ww_mmin hX (pc := 27) tb_984 tb_579 tb_13 tb_580 (by decide) (Nat.le_refl 0) (Nat.le_refl 0) (Nat.le_of_ble_eq_true rfl) dX4_findSafe_27 ?_
        refine ww_toI (b := min sf (x_22 - 1)) (i_min_r (by omega) (by omega) (by omega) (by omega)) ?_
        have hsf2 := SFq_s hsf hfd (by omega)
        refine ww_nmI (fun v_30 hv_30 => ?_)
        refine ww_istore_n hX (pc := 30) (lv' := [some (kR (some 18)), some (kI x_4), some (kI v_30), some (kI q)]) dX4_findSafe_30 (by decide) rfl rfl ?_
        refine ww_iinc hX (pc := 31) (lv' := [some (kR (some 18)), some (kI x_4), some (kI v_30), some (kI (q + 1))]) dX4_findSafe_31 rfl (by decide) rfl rfl ?_
        refine ww_goto hX (pc := 34) (tgt := 13) dX4_findSafe_34 (by decide) ?_
        exact ih_13 _ (by have hm9 := Sh0_e hq_13; omega) v_30 (q + 1) I_22 J_22 rfl ⟨kI_22, kJ_22, by omega, by rw [hv_30]; exact hsf2⟩
  exact hl_13 _ 8 0 Ia Ja rfl ⟨(Kp_rf (a := 30) (b := 31)), (Kp_rf (a := 30) (b := 31)), by omega, SFq_0⟩
