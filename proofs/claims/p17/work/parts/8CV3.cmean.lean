theorem l_max_v {a b : Int} (ha : -4611686018427387904 ≤ a) (ha2 : a < 4611686018427387904) (hb : -4611686018427387904 ≤ b) (hb2 : b < 4611686018427387904) : l_max a b = max a b := by
  unfold l_max
  rw [w64_id (by omega) (by omega), w64_id (by omega) (by omega)]
  split <;> omega
theorem l_div_v {a b : Int} (ha : 0 ≤ a) (ha2 : a < 4611686018427387904) (hb : 0 < b) (hb2 : b < 4611686018427387904) : l_div a b = a / b := by
  unfold l_div
  rw [Int64.toInt_div, show (Int64.ofInt a).toInt = a from w64_id (by omega) (by omega), show (Int64.ofInt b).toInt = b from w64_id (by omega) (by omega), Int.tdiv_eq_ediv_of_nonneg ha]
  have h1 := Int.ediv_nonneg ha (show 0 ≤ b by omega)
  have h2 := Int.ediv_le_self b ha
  exact Int.bmod_eq_of_le (by omega) (by omega)
/-- the greatest of T by NEWS among the STATES above e, below to -/
def GB (code T : Nat → Int) (g e N to : Int) (bs : Nat → Int) : Prop := ∀ x : Nat, x < 8 → GM (fun t => PB code g e N x t ∧ (t : Int) < to) T (bs x)
theorem GB_0 {code T : Nat → Int} {g e N : Int} {bs : Nat → Int} (h0 : 0 ≤ e) (h1 : e < 2147483647) (hb : ∀ x, x < 8 → bs x = -1) : GB code T g e N (i_or (e + 1) e) bs := by
  intro x hx
  rw [hb x hx]
  refine GM_0 (fun t ht => ?_)
  obtain ⟨⟨p1, p2, p3, p4, p5⟩, p6⟩ := ht
  have := or_nx_le h0 h1 h0 (by omega) (Nat.and_self _) p3 p1
  omega
theorem GB_no {code T : Nat → Int} {g e N to : Int} {bs : Nat → Int} (h : GB code T g e N to bs) (h0 : 0 ≤ to) (h1 : to < 2147483647) (h2 : 0 ≤ e) (h3 : e < 2147483648) (hs : e.toNat &&& to.toNat = e.toNat) (hn : ∀ x : Nat, x < 8 → ¬ PB code g e N x to.toNat) : GB code T g e N (i_or (to + 1) e) bs := by
  intro x hx
  refine GM_cg (h x hx) (fun t => ⟨fun ht => ⟨ht.1, ?_⟩, fun ht => ⟨ht.1, ?_⟩⟩) (fun _ _ => rfl)
  · have := i_or_ge (a := to + 1) (b := e) (by omega) (by omega) h2 h3
    have := ht.2
    omega
  · refine Decidable.byContradiction (fun h4 => ?_)
    by_cases h5 : (t : Int) = to
    · exact hn x hx (by rw [show to.toNat = t by omega]; exact ht.1)
    · have := or_nx_le h0 h1 h2 h3 hs ht.1.2.2.1 (by omega)
      have := ht.2
      omega
theorem GB_ad {code T : Nat → Int} {g e N to : Int} {bs : Nat → Int} {x0 : Int} (h : GB code T g e N to bs) (h0 : 0 ≤ to) (h1 : to < 2147483647) (h2 : 0 ≤ e) (h3 : e < 2147483648) (hs : e.toNat &&& to.toNat = e.toNat) (hx0 : 0 ≤ x0) (hx1 : x0 < 8) (hp : PB code g e N x0 to.toNat) (hT : 0 ≤ T to.toNat) : GB code T g e N (i_or (to + 1) e) (up1 bs x0.toNat (max (bs x0.toNat) (T to.toNat))) := by
  have hor := i_or_ge (a := to + 1) (b := e) (by omega) (by omega) h2 h3
  intro x hx
  by_cases hxx : x = x0.toNat
  · subst hxx
    rw [up1_s]
    refine GM_ad (h x0.toNat hx) (fun t => ?_) hT
    constructor
    · intro ht
      by_cases h6 : (t : Int) < to
      · exact Or.inl ⟨ht.1, h6⟩
      · right
        refine Decidable.byContradiction (fun h7 => ?_)
        have := or_nx_le h0 h1 h2 h3 hs ht.1.2.2.1 (by omega)
        have := ht.2
        omega
    · intro ht
      rcases ht with ht | rfl
      · have := ht.2
        exact ⟨ht.1, by omega⟩
      · rw [show ((x0.toNat : Nat) : Int) = x0 by omega]
        exact ⟨hp, by omega⟩
  · rw [up1_n _ _ hxx]
    refine GM_cg (h x hx) (fun t => ⟨fun ht => ⟨ht.1, ?_⟩, fun ht => ⟨ht.1, ?_⟩⟩) (fun _ _ => rfl)
    · have := ht.2
      omega
    · refine Decidable.byContradiction (fun h4 => ?_)
      by_cases h5 : (t : Int) = to
      · have h6 := ht.1.2.2.2.2
        have h7 := hp.2.2.2.2
        rw [show to.toNat = t by omega] at h7
        omega
      · have := or_nx_le h0 h1 h2 h3 hs ht.1.2.2.1 (by omega)
        have := ht.2
        omega
theorem GB_at {code T : Nat → Int} {g e N to : Int} {bs : Nat → Int} (h : GB code T g e N to bs) (h1 : N ≤ to) {x : Nat} (hx : x < 8) : GM (PB code g e N x) T (bs x) :=
  GM_cg (h x hx) (fun t => ⟨fun ht => ht.1, fun ht => ⟨ht, by have := ht.2.1; omega⟩⟩) (fun _ _ => rfl)
theorem GB_r {code T : Nat → Int} {g e N to B : Int} {bs : Nat → Int} (h : GB code T g e N to bs) (hT : ∀ t : Nat, e < t → (t : Int) < N → e.toNat &&& t = e.toNat → ¬ code t = -1 → 0 ≤ T t ∧ T t ≤ B) (hB : -1 ≤ B) : ∀ x, x < 8 → -1 ≤ bs x ∧ bs x ≤ B := fun x hx => by
  rcases (h x hx).2 with ⟨h1, -⟩ | ⟨t, h1, h2⟩
  · omega
  · have h4 := h1.1.2.2.2.2
    have h3 := hT t h1.1.1 h1.1.2.1 h1.1.2.2.1 (by omega)
    omega
/-- one term fewer, where a STATE's own NEWS is among them -/
theorem mS_r2 {U own B : Int} {r : Nat → Int} (hU : 0 ≤ U) (hB : 0 ≤ B) (ho : 0 ≤ own) : ∀ q : Nat, own < q → (∀ x, x < q → -1 ≤ r x ∧ r x ≤ B) → mS U own r q ≤ U + ((q : Int) - 1) * (U + B)
  | 0, h, _ => absurd h (by omega)
  | q + 1, h, h2 => by
    rw [mS_s, show (((q + 1 : Nat) : Int) - 1) = (q : Int) by omega]
    by_cases e : (q : Int) = own
    · rw [if_pos (Or.inl e)]
      exact (mS_r hU hB q (fun x hx => h2 x (by omega))).2
    · have ih := mS_r2 hU hB ho q (by omega) (fun x hx => h2 x (by omega))
      have h3 := h2 q (by omega)
      have e2 : (q : Int) * (U + B) = ((q : Int) - 1) * (U + B) + (U + B) := by
        rw [Int.sub_mul, Int.one_mul]
        omega
      rw [e2]
      split <;> omega
theorem MB8_of {n K U own B p v tg : Int} {r : Nat → Int} (hU : 1 ≤ U) (hp : 0 ≤ n - p) (hp8 : n - p ≤ 8) (hK : 2 ≤ K) (hK8 : K ≤ 8) (ho : -1 ≤ own ∧ own < K) (hB : B = 2 * (n - p) * U) (hr : ∀ x, x < K.toNat → -1 ≤ r x ∧ r x ≤ B) (ht : tg = mS U own r K.toNat) (hv : v = if own = -1 then tg else tg / (K - 1)) : MB8 n U own p v := by
  have hB0 : 0 ≤ B := by
    rw [hB]
    exact Int.mul_nonneg (by omega) (by omega)
  have hB16 : B ≤ 16 * U := by
    rw [hB]
    exact Int.mul_le_mul_of_nonneg_right (by omega) (by omega)
  have h1 := mS_r (U := U) (B := B) (own := own) (by omega) hB0 K.toNat hr
  rw [← ht, show ((K.toNat : Nat) : Int) = K by omega] at h1
  have h2 : ∀ P : Int, 1 ≤ P → P ≤ 8 → P * (U + B) ≤ 8 * (U + B) := fun P _ h9 => Int.mul_le_mul_of_nonneg_right h9 (by omega)
  have h3 := h2 K (by omega) hK8
  have e1 : 2 * (n - p + 1) * U = B + 2 * U := by
    rw [hB, show 2 * (n - p + 1) = 2 * (n - p) + 2 by omega, Int.add_mul]
  unfold MB8
  rw [e1]
  by_cases ho1 : own = -1
  · rw [if_pos ho1] at hv
    exact ⟨by omega, by omega, fun h9 => absurd ho1 h9⟩
  · rw [if_neg ho1] at hv
    have h4 := mS_r2 (U := U) (B := B) (own := own) (by omega) hB0 (by omega) K.toNat (by omega) hr
    rw [← ht, show ((K.toNat : Nat) : Int) = K by omega] at h4
    have h5 := Int.ediv_nonneg h1.1 (show 0 ≤ K - 1 by omega)
    have h6 : tg / (K - 1) ≤ (U * (K - 1) + (K - 1) * (U + B)) / (K - 1) := by
      refine Int.ediv_le_ediv (by omega) ?_
      have h7 : U * 1 ≤ U * (K - 1) := Int.mul_le_mul_of_nonneg_left (by omega) (by omega)
      omega
    rw [Int.mul_comm U (K - 1), ← Int.mul_add, Int.mul_ediv_cancel_left _ (by omega)] at h6
    exact ⟨by omega, by omega, fun _ => by omega⟩
theorem pw9 {K : Int} (h1 : 2 ≤ K) (h2 : K ≤ 8) : 1 ≤ (K - 1) ^ 9 ∧ (K - 1) ^ 9 ≤ 40353607 := by
  rcases (show K = 2 ∨ K = 3 ∨ K = 4 ∨ K = 5 ∨ K = 6 ∨ K = 7 ∨ K = 8 by omega) with rfl | rfl | rfl | rfl | rfl | rfl | rfl <;> decide
theorem two_c (k : Nat) : ((2 ^ k : Nat) : Int) = 2 ^ k := by norm_cast
/-- how many can be lit by n LAMPS -/
theorem pcn_n {n : Int} {t : Nat} (h1 : 1 ≤ n) (h2 : n ≤ 8) (h : (t : Int) ≤ FU n) : pcn t ≤ n := by
  have key : ∀ m : Fin 9, ∀ t : Fin 256, t.val < 2 ^ m.val → pcn t.val ≤ (m.val : Int) := by decide +kernel
  have h3 := (FU_r h1 h2).2.2
  have h4 : ((2 ^ n.toNat : Nat) : Int) = 2 ^ n.toNat := two_c _
  have h5 := (FU_r h1 h2).2.1
  have := key ⟨n.toNat, by omega⟩ ⟨t, by omega⟩ (show t < 2 ^ n.toNat by omega)
  have h6 : (((⟨n.toNat, by omega⟩ : Fin 9).val : Nat) : Int) = n := by
    show ((n.toNat : Nat) : Int) = n
    omega
  rw [h6] at this
  exact this

set_option maxHeartbeats 4000000 in
set_option maxRecDepth 20000 in
theorem c8_X4_fillRichest (l0 : Launch) {Ia Ja : aI1} {Ra : aR1} {Sa : aS1} (hL : LY Ra Sa) (hI : XI Ia) {a B : Int} (ha0 : 0 ≤ a) (ha1 : a ≤ FU (Ia 1 5)) (hB0 : 0 ≤ B) (hB1 : B ≤ 1000000000000) (hTM : ∀ t : Nat, a < t → (t : Int) < (FU (Ia 1 5) + 1) → a.toNat &&& t = a.toNat → ¬ Ia 3 t = -1 → 0 ≤ Ja 28 t ∧ Ja 28 t ≤ B)  : CT l0 1 0 0 mX4_fillRichest [kR (some 18), kI a] Ia Ja Ra Sa (cV (fun I' J' => Ia = I' ∧ Kp 29 30 Ja J' ∧ (∀ x : Nat, x < 8 → GM (PB (Ia 3) (Ia 1 7) a (FU (Ia 1 5) + 1) x) (Ja 28) (J' 29 x)) ∧ (∀ x, x < 8 → -1 ≤ J' 29 x ∧ J' 29 x ≤ B)) Ra Sa) := by
  refine ct_in pn_X4 (Nat.le_of_ble_eq_true rfl) (fun X hX hT hIn => ?_)
  have hX : aK l0 X cX4_fillRichest 5 RX4 none 1 0 0 := hX
  change WW X 0 [some (kR (some 18)), some (kI a), none, none, none] [] Ia Ja Ra Sa 0 0
  obtain ⟨hn1, hn2⟩ := hI.1
  obtain ⟨hk1, hk2⟩ := hI.2.1
  obtain ⟨hf1, hf2⟩ := hI.fu
  refine ww_aload_n hX (pc := 0) dX4_fillRichest_0 rfl ?_
  refine ww_getR hX (pc := 1) fX4_37 (by decide) (xs_18 hL) (xr_18_7 hL) dX4_fillRichest_1 ?_
  refine ww_ldc2 hX (pc := 4) (x := (-1)) dX4_fillRichest_4 tb_763 ?_
  refine sV2 hX (pc := 7) sX4_163 (c_J7_fill_d0a16 l0 (xs_29 hL) (by decide)) (by decide) (Nat.le_refl 0) (Nat.le_refl 0) (Nat.le_of_ble_eq_true rfl) dX4_fillRichest_7 (fun I_7 J_7 h_7 => ?_)
  obtain ⟨rfl, eJ_7⟩ := h_7
  have kJ_7 : Kp 29 30 Ja J_7 := by rw [eJ_7]; exact Kp_upR (Kp_rf (a := 29) (b := 30)) _ (by decide)
  refine ww_aload_n hX (pc := 10) dX4_fillRichest_10 rfl ?_
  refine ww_getR hX (pc := 11) fX4_47 (by decide) (xs_18 hL) (xr_18_0 hL) dX4_fillRichest_11 ?_
  refine vI0 hX (pc := 14) sX4_75 (xs_1 hL) (c_X1_full l0 hL hI) (by decide) (Nat.le_refl 0) (Nat.le_refl 0) (Nat.le_of_ble_eq_true rfl) dX4_fillRichest_14 (fun x_14 I_14 J_14 h_14 => ?_)
  obtain ⟨rfl, rfl, h_14⟩ := h_14
  refine ww_istore_n hX (pc := 17) (lv' := [some (kR (some 18)), some (kI a), some (kI x_14), none, none]) dX4_fillRichest_17 (by decide) rfl rfl ?_
  refine ww_iload_n hX (pc := 18) dX4_fillRichest_18 rfl ?_
  refine ww_iconst hX (pc := 19) (x := 1) dX4_fillRichest_19 rfl ?_
  refine ww_iadd hX (pc := 20) dX4_fillRichest_20 ?_
  refine ww_iload_n hX (pc := 21) dX4_fillRichest_21 rfl ?_
  refine ww_ior hX (pc := 22) dX4_fillRichest_22 ?_
  refine ww_nmI (fun v_23 hv_23 => ?_)
  refine ww_istore_n hX (pc := 23) (lv' := [some (kR (some 18)), some (kI a), some (kI x_14), some (kI v_23), none]) dX4_fillRichest_23 (by decide) rfl rfl ?_
  have hor0 := i_or_ge (a := a + 1) (b := a) (by omega) (by omega) (by omega) (by omega)
  have hl_24 : ∀ (n_24 : Nat) (to : Int) (J2 : aI1), (x_14 + 1 - to).toNat = n_24 → (Kp 29 30 Ja J2 ∧ (a < to ∧ to < 2147483648) ∧ a.toNat &&& to.toNat = a.toNat ∧ GB (Ia 3) (Ja 28) (Ia 1 7) a (FU (Ia 1 5) + 1) (to) (J2 29)) → WW X 24 [some (kR (some 18)), some (kI a), some (kI x_14), some (kI to), none] [] Ia J2 Ra Sa 0 0 := by
    intro n_24
    induction n_24 using Nat.strongRecOn with
    | ind n_24 ih_24 =>
      intro to J2 hm_24 hv_24
      have hq_24 := Sh0_i hm_24
      clear hm_24
      obtain ⟨kJ2, ⟨hto0, hto1⟩, hsu, hgb⟩ := hv_24
      refine ww_iload_n hX (pc := 24) dX4_fillRichest_24 rfl ?_
      refine ww_iload_n hX (pc := 25) dX4_fillRichest_25 rfl ?_
      refine ww_icmp_gt hX (pc := 26) (tgt := 96) dX4_fillRichest_26 (by decide) (fun h_26 => ?_) (fun h_26 => ?_)
      · simp only [w32_mod] at h_26
        refine rV hX (pc := 96) hT (Nat.le_refl 0) (Nat.le_refl 0) dX4_fillRichest_96 ?_
        exact ⟨rfl, kJ2, fun x hx => GB_at hgb (by omega) hx, GB_r hgb hTM (by omega)⟩
      · simp only [w32_mod] at h_26
        have hcd := hI.2.2.2.2.2.2.2.2.2.1 to.toNat (by omega)
        have hbr := GB_r hgb hTM (by omega)
        refine ww_aload_n hX (pc := 29) dX4_fillRichest_29 rfl ?_
        refine ww_getR hX (pc := 30) fX4_47 (by decide) (xs_18 hL) (xr_18_0 hL) dX4_fillRichest_30 ?_
        refine ww_getR hX (pc := 33) fX4_70 (by decide) (xs_1 hL) (xr_1_1 hL) dX4_fillRichest_33 ?_
        refine ww_iload_n hX (pc := 36) dX4_fillRichest_36 rfl ?_
        refine ww_iald hX (pc := 37) (xs_3 hL) (by decide) (by omega) (by omega) dX4_fillRichest_37 ?_
        refine ww_nmI (fun v_38 hv_38 => ?_)
        refine ww_istore hX (pc := 38) (lv' := [some (kR (some 18)), some (kI a), some (kI x_14), some (kI to), some (kI v_38)]) dX4_fillRichest_38 (by decide) rfl rfl ?_
        refine ww_iload hX (pc := 40) dX4_fillRichest_40 rfl ?_
        refine ww_if_lt hX (pc := 42) (tgt := 87) dX4_fillRichest_42 (by decide) (fun h_42 => ?_) (fun h_42 => ?_)
        · simp only [w32_mod] at h_42
          have hgb2 : GB (Ia 3) (Ja 28) (Ia 1 7) a (FU (Ia 1 5) + 1) (i_or (to + 1) a) (J2 29) := GB_no hgb (by omega) (by omega) (by omega) (by omega) hsu (fun x hx h9 => by
            have := h9.2.2.2.2; omega)
          refine ww_iload_n hX (pc := 87) dX4_fillRichest_87 rfl ?_
          refine ww_iconst hX (pc := 88) (x := 1) dX4_fillRichest_88 rfl ?_
          refine ww_iadd hX (pc := 89) dX4_fillRichest_89 ?_
          refine ww_iload_n hX (pc := 90) dX4_fillRichest_90 rfl ?_
          refine ww_ior hX (pc := 91) dX4_fillRichest_91 ?_
          refine ww_nmI (fun v_92 hv_92 => ?_)
          refine ww_istore_n hX (pc := 92) (lv' := [some (kR (some 18)), some (kI a), some (kI x_14), some (kI v_92), some (kI v_38)]) dX4_fillRichest_92 (by decide) rfl rfl ?_
          refine ww_goto hX (pc := 93) (tgt := 24) dX4_fillRichest_93 (by decide) ?_
          refine ww_sub [some (kR (some 18)), some (kI a), some (kI x_14), some (kI v_92), none] (aLe_s (aLe_s (aLe_s (aLe_s (aLe_n aLe_0))))) ?_
          have hor := i_or_ge (a := to + 1) (b := a) (by omega) (by omega) (by omega) (by omega)
          exact ih_24 _ (by have hm9 := Sh0_e hq_24; omega) v_92 J2 rfl ⟨kJ2, ⟨by omega, by omega⟩, by rw [hv_92]; exact or_nx_sub (by omega) (by omega) (by omega) (by omega), by rw [hv_92]; exact hgb2⟩
        · simp only [w32_mod] at h_42
          refine ww_iload hX (pc := 45) dX4_fillRichest_45 rfl ?_
          refine ww_bipush hX (pc := 47) (x := 8) dX4_fillRichest_47 (by decide) ?_
          refine ww_icmp_ge hX (pc := 49) (tgt := 87) dX4_fillRichest_49 (by decide) (fun h_49 => ?_) (fun h_49 => ?_)
          · simp only [w32_mod] at h_49
            have hgb2 : GB (Ia 3) (Ja 28) (Ia 1 7) a (FU (Ia 1 5) + 1) (i_or (to + 1) a) (J2 29) := GB_no hgb (by omega) (by omega) (by omega) (by omega) hsu (fun x hx h9 => by
              have := h9.2.2.2.2; omega)
            refine ww_iload_n hX (pc := 87) dX4_fillRichest_87 rfl ?_
            refine ww_iconst hX (pc := 88) (x := 1) dX4_fillRichest_88 rfl ?_
            refine ww_iadd hX (pc := 89) dX4_fillRichest_89 ?_
            refine ww_iload_n hX (pc := 90) dX4_fillRichest_90 rfl ?_
            refine ww_ior hX (pc := 91) dX4_fillRichest_91 ?_
            refine ww_nmI (fun v_92 hv_92 => ?_)
            refine ww_istore_n hX (pc := 92) (lv' := [some (kR (some 18)), some (kI a), some (kI x_14), some (kI v_92), some (kI v_38)]) dX4_fillRichest_92 (by decide) rfl rfl ?_
            refine ww_goto hX (pc := 93) (tgt := 24) dX4_fillRichest_93 (by decide) ?_
            refine ww_sub [some (kR (some 18)), some (kI a), some (kI x_14), some (kI v_92), none] (aLe_s (aLe_s (aLe_s (aLe_s (aLe_n aLe_0))))) ?_
            have hor := i_or_ge (a := to + 1) (b := a) (by omega) (by omega) (by omega) (by omega)
            exact ih_24 _ (by have hm9 := Sh0_e hq_24; omega) v_92 J2 rfl ⟨kJ2, ⟨by omega, by omega⟩, by rw [hv_92]; exact or_nx_sub (by omega) (by omega) (by omega) (by omega), by rw [hv_92]; exact hgb2⟩
          · simp only [w32_mod] at h_49
            refine ww_aload_n hX (pc := 52) dX4_fillRichest_52 rfl ?_
            refine ww_getR hX (pc := 53) fX4_47 (by decide) (xs_18 hL) (xr_18_0 hL) dX4_fillRichest_53 ?_
            refine ww_iload_n hX (pc := 56) dX4_fillRichest_56 rfl ?_
            refine ww_iload_n hX (pc := 57) dX4_fillRichest_57 rfl ?_
            refine vI2 hX (pc := 58) sX4_111 (xs_1 hL) (c7_X1_canLight l0 hL hI) (by decide) (Nat.le_refl 0) (Nat.le_refl 0) (Nat.le_of_ble_eq_true rfl) dX4_fillRichest_58 (fun x_58 I_58 J_58 h_58 => ?_)
            obtain ⟨rfl, rfl, h_58⟩ := h_58
            refine ww_if_eq hX (pc := 61) (tgt := 87) dX4_fillRichest_61 (by decide) (fun h_61 => ?_) (fun h_61 => ?_)
            · simp only [w32_mod] at h_61
              have hgb2 : GB (Ia 3) (Ja 28) (Ia 1 7) a (FU (Ia 1 5) + 1) (i_or (to + 1) a) (J2 29) := GB_no hgb (by omega) (by omega) (by omega) (by omega) hsu (fun x hx h9 => by
                have h8 := h9.2.2.2.1
                rw [show ((to.toNat : Nat) : Int) = to by omega] at h8
                have := h_58.2.mpr h8
                omega)
              refine ww_iload_n hX (pc := 87) dX4_fillRichest_87 rfl ?_
              refine ww_iconst hX (pc := 88) (x := 1) dX4_fillRichest_88 rfl ?_
              refine ww_iadd hX (pc := 89) dX4_fillRichest_89 ?_
              refine ww_iload_n hX (pc := 90) dX4_fillRichest_90 rfl ?_
              refine ww_ior hX (pc := 91) dX4_fillRichest_91 ?_
              refine ww_nmI (fun v_92 hv_92 => ?_)
              refine ww_istore_n hX (pc := 92) (lv' := [some (kR (some 18)), some (kI a), some (kI x_14), some (kI v_92), some (kI v_38)]) dX4_fillRichest_92 (by decide) rfl rfl ?_
              refine ww_goto hX (pc := 93) (tgt := 24) dX4_fillRichest_93 (by decide) ?_
              refine ww_sub [some (kR (some 18)), some (kI a), some (kI x_14), some (kI v_92), none] (aLe_s (aLe_s (aLe_s (aLe_s (aLe_n aLe_0))))) ?_
              have hor := i_or_ge (a := to + 1) (b := a) (by omega) (by omega) (by omega) (by omega)
              exact ih_24 _ (by have hm9 := Sh0_e hq_24; omega) v_92 J2 rfl ⟨kJ2, ⟨by omega, by omega⟩, by rw [hv_92]; exact or_nx_sub (by omega) (by omega) (by omega) (by omega), by rw [hv_92]; exact hgb2⟩
            · simp only [w32_mod] at h_61
              have hpb : PB (Ia 3) (Ia 1 7) a (FU (Ia 1 5) + 1) v_38 to.toNat := ⟨by omega, by omega, hsu, by rw [show ((to.toNat : Nat) : Int) = to by omega]; exact h_58.2.mp (by omega), by omega⟩
              have hT9 := hTM to.toNat (by omega) (by omega) hsu (by omega)
              have hb9 := hbr v_38.toNat (by omega)
              refine ww_aload_n hX (pc := 64) dX4_fillRichest_64 rfl ?_
              refine ww_getR hX (pc := 65) fX4_37 (by decide) (xs_18 hL) (xr_18_7 hL) dX4_fillRichest_65 ?_
              refine ww_iload hX (pc := 68) dX4_fillRichest_68 rfl ?_
              refine ww_aload_n hX (pc := 70) dX4_fillRichest_70 rfl ?_
              refine ww_getR hX (pc := 71) fX4_37 (by decide) (xs_18 hL) (xr_18_7 hL) dX4_fillRichest_71 ?_
              refine ww_iload hX (pc := 74) dX4_fillRichest_74 rfl ?_
              refine ww_lald hX (pc := 76) (xs_29 hL) (by decide) (by omega) (by omega) dX4_fillRichest_76 ?_
              refine ww_aload_n hX (pc := 77) dX4_fillRichest_77 rfl ?_
              refine ww_getR hX (pc := 78) fX4_33 (by decide) (xs_18 hL) (xr_18_6 hL) dX4_fillRichest_78 ?_
              refine ww_iload_n hX (pc := 81) dX4_fillRichest_81 rfl ?_
              refine ww_lald hX (pc := 82) (xs_28 hL) (by decide) (by omega) (by omega) dX4_fillRichest_82 ?_
              refine ww_lmax hX (pc := 83) tb_771 tb_772 tb_13 tb_773 (by decide) (Nat.le_refl 0) (Nat.le_refl 0) (Nat.le_of_ble_eq_true rfl) dX4_fillRichest_83 ?_
              refine ww_toL (b := max (J2 29 v_38.toNat) (Ja 28 to.toNat)) (by rw [show J2 28 = Ja 28 from kJ2 28 (by decide)]; exact l_max_v (by omega) (by omega) (by omega) (by omega)) ?_
              refine ww_last hX (pc := 86) (xs_29 hL) (by decide) (by omega) (by omega) dX4_fillRichest_86 ?_
              refine ww_nmK (fun J_86 eJ_86 => ?_)
              have kJ_86 : Kp 29 30 Ja J_86 := by rw [eJ_86]; exact Kp_up kJ2 _ _ (by decide)
              refine ww_iload_n hX (pc := 87) dX4_fillRichest_87 rfl ?_
              refine ww_iconst hX (pc := 88) (x := 1) dX4_fillRichest_88 rfl ?_
              refine ww_iadd hX (pc := 89) dX4_fillRichest_89 ?_
              refine ww_iload_n hX (pc := 90) dX4_fillRichest_90 rfl ?_
              refine ww_ior hX (pc := 91) dX4_fillRichest_91 ?_
              refine ww_nmI (fun v_92 hv_92 => ?_)
              refine ww_istore_n hX (pc := 92) (lv' := [some (kR (some 18)), some (kI a), some (kI x_14), some (kI v_92), some (kI v_38)]) dX4_fillRichest_92 (by decide) rfl rfl ?_
              refine ww_goto hX (pc := 93) (tgt := 24) dX4_fillRichest_93 (by decide) ?_
              refine ww_sub [some (kR (some 18)), some (kI a), some (kI x_14), some (kI v_92), none] (aLe_s (aLe_s (aLe_s (aLe_s (aLe_n aLe_0))))) ?_
              have hor := i_or_ge (a := to + 1) (b := a) (by omega) (by omega) (by omega) (by omega)
              have hgb2 : GB (Ia 3) (Ja 28) (Ia 1 7) a (FU (Ia 1 5) + 1) (i_or (to + 1) a) (J_86 29) := by
                rw [eJ_86, up2_row]
                exact GB_ad hgb (by omega) (by omega) (by omega) (by omega) hsu (by omega) (by omega) hpb (by omega)
              exact ih_24 _ (by have hm9 := Sh0_e hq_24; omega) v_92 J_86 rfl ⟨kJ_86, ⟨by omega, by omega⟩, by rw [hv_92]; exact or_nx_sub (by omega) (by omega) (by omega) (by omega), by rw [hv_92]; exact hgb2⟩
  exact hl_24 _ v_23 J_7 rfl ⟨kJ_7, ⟨by omega, by omega⟩, by rw [hv_23]; exact or_nx_sub (by omega) (by omega) (by omega) (by omega), by rw [hv_23]; exact GB_0 (by omega) (by omega) (fun x hx => by rw [eJ_7, upR_s, if_pos hx])⟩
set_option maxHeartbeats 4000000 in
set_option maxRecDepth 20000 in
theorem c8_X4_meanOf (l0 : Launch) {Ia Ja : aI1} {Ra : aR1} {Sa : aS1} (hL : LY Ra Sa) (hI : XI Ia) {a : Int} (ha0 : 0 ≤ a) (ha1 : a ≤ FU (Ia 1 5)) (hU : Ja 18 9 = (Ia 1 6 - 1) ^ 9) (hcK : Ia 3 a.toNat < Ia 1 6) (hTM : ∀ t : Nat, a < t → (t : Int) ≤ FU (Ia 1 5) → MB8 (Ia 1 5) (Ja 18 9) (Ia 3 t) (pcn t) (Ja 28 t))  : CT l0 2 0 0 mX4_meanOf [kR (some 18), kI a] Ia Ja Ra Sa (cJ (fun x I' J' => Ia = I' ∧ Kp 29 30 Ja J' ∧ MCs (Ia 3) (Ia 1 7) (FU (Ia 1 5) + 1) (Ia 1 6) (Ja 18 9) (Ja 28) a.toNat x ∧ MB8 (Ia 1 5) (Ja 18 9) (Ia 3 a.toNat) (pcn a.toNat) x) Ra Sa) := by
  refine ct_in pn_X4 (Nat.le_of_ble_eq_true rfl) (fun X hX hT hIn => ?_)
  have hX : aK l0 X cX4_meanOf 6 RX4 (some .long) 2 0 0 := hX
  change WW X 0 [some (kR (some 18)), some (kI a), none, none, none, none] [] Ia Ja Ra Sa 0 0
  obtain ⟨hn1, hn2⟩ := hI.1
  obtain ⟨hk1, hk2⟩ := hI.2.1
  obtain ⟨hf1, hf2⟩ := hI.fu
  have hU1 := pw9 (K := Ia 1 6) (by omega) (by omega)
  rw [← hU] at hU1
  have hpn := pcn_n (n := Ia 1 5) (t := a.toNat) (by omega) (by omega) (by omega)
  have hpr := pcn_r a.toNat
  have hB0 : 0 ≤ (2 * (Ia 1 5 - pcn a.toNat) * Ja 18 9) := Int.mul_nonneg (by omega) (by omega)
  have hB16 : (2 * (Ia 1 5 - pcn a.toNat) * Ja 18 9) ≤ 16 * Ja 18 9 := Int.mul_le_mul_of_nonneg_right (by omega) (by omega)
  have hT9 : ∀ t : Nat, a < t → (t : Int) < (FU (Ia 1 5) + 1) → a.toNat &&& t = a.toNat → ¬ Ia 3 t = -1 → 0 ≤ Ja 28 t ∧ Ja 28 t ≤ (2 * (Ia 1 5 - pcn a.toNat) * Ja 18 9) := fun t h1 h2 h3 h4 => by
    have h5 := hTM t h1 (by omega)
    have h6 := pcn_lt h3 (by omega) (by omega)
    exact ⟨h5.1, Int.le_trans (h5.2.2 h4) (Int.mul_le_mul_of_nonneg_right (by omega) (by omega))⟩
  have hcd := hI.2.2.2.2.2.2.2.2.2.1 a.toNat (by omega)
  refine ww_aload_n hX (pc := 0) dX4_meanOf_0 rfl ?_
  refine ww_iload_n hX (pc := 1) dX4_meanOf_1 rfl ?_
  refine vV1 hX (pc := 2) sX4_156 (xs_18 hL) (c8_X4_fillRichest l0 hL hI (B := (2 * (Ia 1 5 - pcn a.toNat) * Ja 18 9)) (by omega) (by omega) hB0 (by omega) hT9) (by decide) (Nat.le_refl 0) (Nat.le_refl 0) (Nat.le_of_ble_eq_true rfl) dX4_meanOf_2 (fun I_2 J_2 h_2 => ?_)
  obtain ⟨rfl, kJ_2, hg_2, hr_2⟩ := h_2
  have j9 : J_2 18 9 = Ja 18 9 := by rw [kJ_2 18 (by decide)]
  refine ww_aload_n hX (pc := 5) dX4_meanOf_5 rfl ?_
  refine ww_getR hX (pc := 6) fX4_47 (by decide) (xs_18 hL) (xr_18_0 hL) dX4_meanOf_6 ?_
  refine ww_getR hX (pc := 9) fX4_70 (by decide) (xs_1 hL) (xr_1_1 hL) dX4_meanOf_9 ?_
  refine ww_iload_n hX (pc := 12) dX4_meanOf_12 rfl ?_
  refine ww_iald hX (pc := 13) (xs_3 hL) (by decide) (by omega) (by omega) dX4_meanOf_13 ?_
  refine ww_nmI (fun v_14 hv_14 => ?_)
  refine ww_istore_n hX (pc := 14) (lv' := [some (kR (some 18)), some (kI a), some (kI v_14), none, none, none]) dX4_meanOf_14 (by decide) rfl rfl ?_
  refine ww_iload_n hX (pc := 15) dX4_meanOf_15 rfl ?_
  refine ww_iconst hX (pc := 16) (x := (-1)) dX4_meanOf_16 rfl ?_
  refine ww_icmp_ne hX (pc := 17) (tgt := 24) dX4_meanOf_17 (by decide) (fun h_17 => ?_) (fun h_17 => ?_)
  · simp only [w32_mod] at h_17
    refine ww_aload_n hX (pc := 24) dX4_meanOf_24 rfl ?_
    refine ww_getJ hX (pc := 25) fX4_43 (by decide) (xs_18 hL) dX4_meanOf_25 ?_
    refine ww_nmL (fun v_28 hv_28 => ?_)
    refine ww_lstore_n hX (pc := 28) (lv' := [some (kR (some 18)), some (kI a), some (kI v_14), some (kL v_28), none, none]) dX4_meanOf_28 (by decide) rfl rfl ?_
    refine ww_iconst hX (pc := 29) (x := 0) dX4_meanOf_29 rfl ?_
    refine ww_istore hX (pc := 30) (lv' := [some (kR (some 18)), some (kI a), some (kI v_14), some (kL v_28), none, some (kI 0)]) dX4_meanOf_30 (by decide) rfl rfl ?_
    have hl_32 : ∀ (n_32 : Nat) (tg : Int) (w : Int), (Ia 1 6 - w).toNat = n_32 → ((0 ≤ w ∧ w ≤ Ia 1 6) ∧ tg = mS (Ja 18 9) (Ia 3 a.toNat) (J_2 29) w.toNat) → WW X 32 [some (kR (some 18)), some (kI a), some (kI v_14), some (kL tg), none, some (kI w)] [] Ia J_2 Ra Sa 0 0 := by
      intro n_32
      induction n_32 using Nat.strongRecOn with
      | ind n_32 ih_32 =>
        intro tg w hm_32 hv_32
        have hq_32 := Sh0_i hm_32
        clear hm_32
        obtain ⟨⟨hw0, hw1⟩, htg⟩ := hv_32
        refine ww_iload hX (pc := 32) dX4_meanOf_32 rfl ?_
        refine ww_aload_n hX (pc := 34) dX4_meanOf_34 rfl ?_
        refine ww_getR hX (pc := 35) fX4_47 (by decide) (xs_18 hL) (xr_18_0 hL) dX4_meanOf_35 ?_
        refine ww_getI hX (pc := 38) fX4_83 (by decide) (xs_1 hL) dX4_meanOf_38 ?_
        refine ww_icmp_ge hX (pc := 41) (tgt := 85) dX4_meanOf_41 (by decide) (fun h_41 => ?_) (fun h_41 => ?_)
        · simp only [w32_mod] at h_41
          have hmr := mS_r (own := Ia 3 a.toNat) (r := J_2 29) (U := Ja 18 9) (B := (2 * (Ia 1 5 - pcn a.toNat) * Ja 18 9)) (by omega) hB0 (Ia 1 6).toNat (fun x hx => hr_2 x (by omega))
          rw [show (((Ia 1 6).toNat : Nat) : Int) = Ia 1 6 by omega] at hmr
          have hmk : Ia 1 6 * (Ja 18 9 + (2 * (Ia 1 5 - pcn a.toNat) * Ja 18 9)) ≤ 8 * (Ja 18 9 + (2 * (Ia 1 5 - pcn a.toNat) * Ja 18 9)) := Int.mul_le_mul_of_nonneg_right (by omega) (by omega)
          have htg9 : tg = mS (Ja 18 9) (Ia 3 a.toNat) (J_2 29) (Ia 1 6).toNat := by rw [htg, show w = Ia 1 6 by omega]
          rw [← htg9] at hmr
          refine ww_iload_n hX (pc := 85) dX4_meanOf_85 rfl ?_
          refine ww_iconst hX (pc := 86) (x := (-1)) dX4_meanOf_86 rfl ?_
          refine ww_icmp_ne hX (pc := 87) (tgt := 94) dX4_meanOf_87 (by decide) (fun h_87 => ?_) (fun h_87 => ?_)
          · simp only [w32_mod] at h_87
            refine ww_lload_n hX (pc := 94) dX4_meanOf_94 rfl ?_
            refine ww_iconst hX (pc := 95) (x := 1) dX4_meanOf_95 rfl ?_
            refine ww_aload_n hX (pc := 96) dX4_meanOf_96 rfl ?_
            refine ww_getR hX (pc := 97) fX4_47 (by decide) (xs_18 hL) (xr_18_0 hL) dX4_meanOf_97 ?_
            refine ww_getI hX (pc := 100) fX4_83 (by decide) (xs_1 hL) dX4_meanOf_100 ?_
            refine ww_iconst hX (pc := 103) (x := 1) dX4_meanOf_103 rfl ?_
            refine ww_isub hX (pc := 104) dX4_meanOf_104 ?_
            refine ww_mmax hX (pc := 105) tb_774 tb_460 tb_13 tb_461 (by decide) (Nat.le_refl 0) (Nat.le_refl 0) (Nat.le_of_ble_eq_true rfl) dX4_meanOf_105 ?_
            refine ww_i2l hX (pc := 108) dX4_meanOf_108 ?_
            refine ww_ldiv hX (pc := 109) dX4_meanOf_109 (by rw [i_max_r (by omega) (by omega) (by omega) (by omega), w32_id (by omega) (by omega), w64_id (by omega) (by omega)]; omega) ?_
            refine ww_toL (b := tg / (Ia 1 6 - 1)) (by rw [i_max_r (by omega) (by omega) (by omega) (by omega), w32_id (by omega) (by omega), show max 1 (Ia 1 6 - 1) = Ia 1 6 - 1 by omega]; exact l_div_v (by omega) (by omega) (by omega) (by omega)) ?_
            refine rJ hX (pc := 110) hT (Nat.le_refl 0) (Nat.le_refl 0) dX4_meanOf_110 ?_
            exact ⟨rfl, kJ_2, ⟨J_2 29, fun x hx => by rw [show ((a.toNat : Nat) : Int) = a by omega]; exact hg_2 x (by omega), (by rw [if_neg (by omega), ← htg9])⟩, MB8_of (by omega) (by omega) (by omega) (by omega) (by omega) (by omega) rfl (fun x hx => hr_2 x (by omega)) htg9 (by rw [if_neg (by omega)])⟩
          · simp only [w32_mod] at h_87
            exfalso
            omega
        · simp only [w32_mod] at h_41
          refine ww_iload hX (pc := 44) dX4_meanOf_44 rfl ?_
          refine ww_iload_n hX (pc := 46) dX4_meanOf_46 rfl ?_
          refine ww_icmp_eq hX (pc := 47) (tgt := 79) dX4_meanOf_47 (by decide) (fun h_47 => ?_) (fun h_47 => ?_)
          · simp only [w32_mod] at h_47
            have hst : mS (Ja 18 9) (Ia 3 a.toNat) (J_2 29) (w + 1).toNat = tg := by
              rw [show (w + 1).toNat = w.toNat + 1 by omega, mS_s, if_pos (Or.inl (by omega)), ← htg]
            refine ww_iinc hX (pc := 79) (lv' := [some (kR (some 18)), some (kI a), some (kI v_14), some (kL tg), none, some (kI (w + 1))]) dX4_meanOf_79 rfl (by decide) rfl rfl ?_
            refine ww_goto hX (pc := 82) (tgt := 32) dX4_meanOf_82 (by decide) ?_
            exact ih_32 _ (by have hm9 := Sh0_e hq_32; omega) tg (w + 1) rfl ⟨⟨by omega, by omega⟩, hst.symm⟩
          · simp only [w32_mod] at h_47
            have hrw := hr_2 w.toNat (by omega)
            have hlc := l_cmp_v (J_2 29 w.toNat) (-1)
            rw [w64_id (x := J_2 29 w.toNat) (by omega) (by omega), show w64 (-1) = -1 from rfl] at hlc
            refine ww_aload_n hX (pc := 50) dX4_meanOf_50 rfl ?_
            refine ww_getR hX (pc := 51) fX4_37 (by decide) (xs_18 hL) (xr_18_7 hL) dX4_meanOf_51 ?_
            refine ww_iload hX (pc := 54) dX4_meanOf_54 rfl ?_
            refine ww_lald hX (pc := 56) (xs_29 hL) (by decide) (by omega) (by omega) dX4_meanOf_56 ?_
            refine ww_ldc2 hX (pc := 57) (x := (-1)) dX4_meanOf_57 tb_763 ?_
            refine ww_lcmp hX (pc := 60) dX4_meanOf_60 ?_
            refine ww_if_eq hX (pc := 61) (tgt := 79) dX4_meanOf_61 (by decide) (fun h_61 => ?_) (fun h_61 => ?_)
            · simp only [w32_mod] at h_61
              have hst : mS (Ja 18 9) (Ia 3 a.toNat) (J_2 29) (w + 1).toNat = tg := by
                rw [show (w + 1).toNat = w.toNat + 1 by omega, mS_s, if_pos (Or.inr (by omega)), ← htg]
              refine ww_iinc hX (pc := 79) (lv' := [some (kR (some 18)), some (kI a), some (kI v_14), some (kL tg), none, some (kI (w + 1))]) dX4_meanOf_79 rfl (by decide) rfl rfl ?_
              refine ww_goto hX (pc := 82) (tgt := 32) dX4_meanOf_82 (by decide) ?_
              exact ih_32 _ (by have hm9 := Sh0_e hq_32; omega) tg (w + 1) rfl ⟨⟨by omega, by omega⟩, hst.symm⟩
            · simp only [w32_mod] at h_61
              refine ww_lload_n hX (pc := 64) dX4_meanOf_64 rfl ?_
              refine ww_aload_n hX (pc := 65) dX4_meanOf_65 rfl ?_
              refine ww_getJ hX (pc := 66) fX4_43 (by decide) (xs_18 hL) dX4_meanOf_66 ?_
              refine ww_aload_n hX (pc := 69) dX4_meanOf_69 rfl ?_
              refine ww_getR hX (pc := 70) fX4_37 (by decide) (xs_18 hL) (xr_18_7 hL) dX4_meanOf_70 ?_
              refine ww_iload hX (pc := 73) dX4_meanOf_73 rfl ?_
              refine ww_lald hX (pc := 75) (xs_29 hL) (by decide) (by omega) (by omega) dX4_meanOf_75 ?_
              refine ww_ladd hX (pc := 76) dX4_meanOf_76 ?_
              refine ww_ladd hX (pc := 77) dX4_meanOf_77 ?_
              refine ww_nmL (fun v_78 hv_78 => ?_)
              refine ww_lstore_n hX (pc := 78) (lv' := [some (kR (some 18)), some (kI a), some (kI v_14), some (kL v_78), none, some (kI w)]) dX4_meanOf_78 (by decide) rfl rfl ?_
              have hst : mS (Ja 18 9) (Ia 3 a.toNat) (J_2 29) (w + 1).toNat = v_78 := by
                rw [show (w + 1).toNat = w.toNat + 1 by omega, mS_s, if_neg (by omega), ← htg, hv_78, j9]
              refine ww_iinc hX (pc := 79) (lv' := [some (kR (some 18)), some (kI a), some (kI v_14), some (kL v_78), none, some (kI (w + 1))]) dX4_meanOf_79 rfl (by decide) rfl rfl ?_
              refine ww_goto hX (pc := 82) (tgt := 32) dX4_meanOf_82 (by decide) ?_
              exact ih_32 _ (by have hm9 := Sh0_e hq_32; omega) v_78 (w + 1) rfl ⟨⟨by omega, by omega⟩, hst.symm⟩
    exact hl_32 _ v_28 0 rfl ⟨⟨by omega, by omega⟩, by
      show _ = (if Ia 3 a.toNat = -1 then 0 else Ja 18 9)
      first
      | rw [if_pos (by omega)]
      | (rw [if_neg (by omega)]; omega)⟩
  · simp only [w32_mod] at h_17
    refine ww_lconst hX (pc := 20) (x := 0) dX4_meanOf_20 (by decide) ?_
    refine ww_goto hX (pc := 21) (tgt := 28) dX4_meanOf_21 (by decide) ?_
    refine ww_lstore_n hX (pc := 28) (lv' := [some (kR (some 18)), some (kI a), some (kI v_14), some (kL 0), none, none]) dX4_meanOf_28 (by decide) rfl rfl ?_
    refine ww_iconst hX (pc := 29) (x := 0) dX4_meanOf_29 rfl ?_
    refine ww_istore hX (pc := 30) (lv' := [some (kR (some 18)), some (kI a), some (kI v_14), some (kL 0), none, some (kI 0)]) dX4_meanOf_30 (by decide) rfl rfl ?_
    have hl_32 : ∀ (n_32 : Nat) (tg : Int) (w : Int), (Ia 1 6 - w).toNat = n_32 → ((0 ≤ w ∧ w ≤ Ia 1 6) ∧ tg = mS (Ja 18 9) (Ia 3 a.toNat) (J_2 29) w.toNat) → WW X 32 [some (kR (some 18)), some (kI a), some (kI v_14), some (kL tg), none, some (kI w)] [] Ia J_2 Ra Sa 0 0 := by
      intro n_32
      induction n_32 using Nat.strongRecOn with
      | ind n_32 ih_32 =>
        intro tg w hm_32 hv_32
        have hq_32 := Sh0_i hm_32
        clear hm_32
        obtain ⟨⟨hw0, hw1⟩, htg⟩ := hv_32
        refine ww_iload hX (pc := 32) dX4_meanOf_32 rfl ?_
        refine ww_aload_n hX (pc := 34) dX4_meanOf_34 rfl ?_
        refine ww_getR hX (pc := 35) fX4_47 (by decide) (xs_18 hL) (xr_18_0 hL) dX4_meanOf_35 ?_
        refine ww_getI hX (pc := 38) fX4_83 (by decide) (xs_1 hL) dX4_meanOf_38 ?_
        refine ww_icmp_ge hX (pc := 41) (tgt := 85) dX4_meanOf_41 (by decide) (fun h_41 => ?_) (fun h_41 => ?_)
        · simp only [w32_mod] at h_41
          have hmr := mS_r (own := Ia 3 a.toNat) (r := J_2 29) (U := Ja 18 9) (B := (2 * (Ia 1 5 - pcn a.toNat) * Ja 18 9)) (by omega) hB0 (Ia 1 6).toNat (fun x hx => hr_2 x (by omega))
          rw [show (((Ia 1 6).toNat : Nat) : Int) = Ia 1 6 by omega] at hmr
          have hmk : Ia 1 6 * (Ja 18 9 + (2 * (Ia 1 5 - pcn a.toNat) * Ja 18 9)) ≤ 8 * (Ja 18 9 + (2 * (Ia 1 5 - pcn a.toNat) * Ja 18 9)) := Int.mul_le_mul_of_nonneg_right (by omega) (by omega)
          have htg9 : tg = mS (Ja 18 9) (Ia 3 a.toNat) (J_2 29) (Ia 1 6).toNat := by rw [htg, show w = Ia 1 6 by omega]
          rw [← htg9] at hmr
          refine ww_iload_n hX (pc := 85) dX4_meanOf_85 rfl ?_
          refine ww_iconst hX (pc := 86) (x := (-1)) dX4_meanOf_86 rfl ?_
          refine ww_icmp_ne hX (pc := 87) (tgt := 94) dX4_meanOf_87 (by decide) (fun h_87 => ?_) (fun h_87 => ?_)
          · simp only [w32_mod] at h_87
            exfalso
            omega
          · simp only [w32_mod] at h_87
            refine ww_lload_n hX (pc := 90) dX4_meanOf_90 rfl ?_
            refine ww_goto hX (pc := 91) (tgt := 110) dX4_meanOf_91 (by decide) ?_
            refine rJ hX (pc := 110) hT (Nat.le_refl 0) (Nat.le_refl 0) dX4_meanOf_110 ?_
            exact ⟨rfl, kJ_2, ⟨J_2 29, fun x hx => by rw [show ((a.toNat : Nat) : Int) = a by omega]; exact hg_2 x (by omega), (by rw [if_pos (by omega)]; exact htg9)⟩, MB8_of (by omega) (by omega) (by omega) (by omega) (by omega) (by omega) rfl (fun x hx => hr_2 x (by omega)) htg9 (by rw [if_pos (by omega)])⟩
        · simp only [w32_mod] at h_41
          refine ww_iload hX (pc := 44) dX4_meanOf_44 rfl ?_
          refine ww_iload_n hX (pc := 46) dX4_meanOf_46 rfl ?_
          refine ww_icmp_eq hX (pc := 47) (tgt := 79) dX4_meanOf_47 (by decide) (fun h_47 => ?_) (fun h_47 => ?_)
          · simp only [w32_mod] at h_47
            have hst : mS (Ja 18 9) (Ia 3 a.toNat) (J_2 29) (w + 1).toNat = tg := by
              rw [show (w + 1).toNat = w.toNat + 1 by omega, mS_s, if_pos (Or.inl (by omega)), ← htg]
            refine ww_iinc hX (pc := 79) (lv' := [some (kR (some 18)), some (kI a), some (kI v_14), some (kL tg), none, some (kI (w + 1))]) dX4_meanOf_79 rfl (by decide) rfl rfl ?_
            refine ww_goto hX (pc := 82) (tgt := 32) dX4_meanOf_82 (by decide) ?_
            exact ih_32 _ (by have hm9 := Sh0_e hq_32; omega) tg (w + 1) rfl ⟨⟨by omega, by omega⟩, hst.symm⟩
          · simp only [w32_mod] at h_47
            have hrw := hr_2 w.toNat (by omega)
            have hlc := l_cmp_v (J_2 29 w.toNat) (-1)
            rw [w64_id (x := J_2 29 w.toNat) (by omega) (by omega), show w64 (-1) = -1 from rfl] at hlc
            refine ww_aload_n hX (pc := 50) dX4_meanOf_50 rfl ?_
            refine ww_getR hX (pc := 51) fX4_37 (by decide) (xs_18 hL) (xr_18_7 hL) dX4_meanOf_51 ?_
            refine ww_iload hX (pc := 54) dX4_meanOf_54 rfl ?_
            refine ww_lald hX (pc := 56) (xs_29 hL) (by decide) (by omega) (by omega) dX4_meanOf_56 ?_
            refine ww_ldc2 hX (pc := 57) (x := (-1)) dX4_meanOf_57 tb_763 ?_
            refine ww_lcmp hX (pc := 60) dX4_meanOf_60 ?_
            refine ww_if_eq hX (pc := 61) (tgt := 79) dX4_meanOf_61 (by decide) (fun h_61 => ?_) (fun h_61 => ?_)
            · simp only [w32_mod] at h_61
              have hst : mS (Ja 18 9) (Ia 3 a.toNat) (J_2 29) (w + 1).toNat = tg := by
                rw [show (w + 1).toNat = w.toNat + 1 by omega, mS_s, if_pos (Or.inr (by omega)), ← htg]
              refine ww_iinc hX (pc := 79) (lv' := [some (kR (some 18)), some (kI a), some (kI v_14), some (kL tg), none, some (kI (w + 1))]) dX4_meanOf_79 rfl (by decide) rfl rfl ?_
              refine ww_goto hX (pc := 82) (tgt := 32) dX4_meanOf_82 (by decide) ?_
              exact ih_32 _ (by have hm9 := Sh0_e hq_32; omega) tg (w + 1) rfl ⟨⟨by omega, by omega⟩, hst.symm⟩
            · simp only [w32_mod] at h_61
              refine ww_lload_n hX (pc := 64) dX4_meanOf_64 rfl ?_
              refine ww_aload_n hX (pc := 65) dX4_meanOf_65 rfl ?_
              refine ww_getJ hX (pc := 66) fX4_43 (by decide) (xs_18 hL) dX4_meanOf_66 ?_
              refine ww_aload_n hX (pc := 69) dX4_meanOf_69 rfl ?_
              refine ww_getR hX (pc := 70) fX4_37 (by decide) (xs_18 hL) (xr_18_7 hL) dX4_meanOf_70 ?_
              refine ww_iload hX (pc := 73) dX4_meanOf_73 rfl ?_
              refine ww_lald hX (pc := 75) (xs_29 hL) (by decide) (by omega) (by omega) dX4_meanOf_75 ?_
              refine ww_ladd hX (pc := 76) dX4_meanOf_76 ?_
              refine ww_ladd hX (pc := 77) dX4_meanOf_77 ?_
              refine ww_nmL (fun v_78 hv_78 => ?_)
              refine ww_lstore_n hX (pc := 78) (lv' := [some (kR (some 18)), some (kI a), some (kI v_14), some (kL v_78), none, some (kI w)]) dX4_meanOf_78 (by decide) rfl rfl ?_
              have hst : mS (Ja 18 9) (Ia 3 a.toNat) (J_2 29) (w + 1).toNat = v_78 := by
                rw [show (w + 1).toNat = w.toNat + 1 by omega, mS_s, if_neg (by omega), ← htg, hv_78, j9]
              refine ww_iinc hX (pc := 79) (lv' := [some (kR (some 18)), some (kI a), some (kI v_14), some (kL v_78), none, some (kI (w + 1))]) dX4_meanOf_79 rfl (by decide) rfl rfl ?_
              refine ww_goto hX (pc := 82) (tgt := 32) dX4_meanOf_82 (by decide) ?_
              exact ih_32 _ (by have hm9 := Sh0_e hq_32; omega) v_78 (w + 1) rfl ⟨⟨by omega, by omega⟩, hst.symm⟩
    exact hl_32 _ 0 0 rfl ⟨⟨by omega, by omega⟩, by
      show _ = (if Ia 3 a.toNat = -1 then 0 else Ja 18 9)
      first
      | rw [if_pos (by omega)]
      | (rw [if_neg (by omega)]; omega)⟩
set_option maxHeartbeats 4000000 in
set_option maxRecDepth 20000 in
theorem c8_X4_fillMean (l0 : Launch) {Ia Ja : aI1} {Ra : aR1} {Sa : aS1} (hL : LY Ra Sa) (hI : XI Ia) (hF : FRk Ia Ja) (hK : ∀ s : Nat, (s : Int) ≤ FU (Ia 1 5) → Ia 3 s < Ia 1 6)  : CT l0 3 0 0 mX4_fillMean [kR (some 18)] Ia Ja Ra Sa (cV (fun I' J' => Kp 18 19 Ia I' ∧ Kp 18 30 Ja J' ∧ FRk I' J' ∧ MT I' J') Ra Sa) := by
  refine ct_in pn_X4 (Nat.le_of_ble_eq_true rfl) (fun X hX hT hIn => ?_)
  have hX : aK l0 X cX4_fillMean 2 RX4 none 3 0 0 := hX
  change WW X 0 [some (kR (some 18)), none] [] Ia Ja Ra Sa 0 0
  obtain ⟨hn1, hn2⟩ := hI.1
  obtain ⟨hk1, hk2⟩ := hI.2.1
  obtain ⟨hf1, hf2⟩ := hI.fu
  obtain ⟨hff, hf10, hf11, hf12⟩ := id hF
  refine ww_aload_n hX (pc := 0) dX4_fillMean_0 rfl ?_
  refine ww_getI hX (pc := 1) fX4_58 (by decide) (xs_18 hL) dX4_fillMean_1 ?_
  refine ww_if_eq hX (pc := 4) (tgt := 8) dX4_fillMean_4 (by decide) (fun h_4 => ?_) (fun h_4 => ?_)
  · simp only [w32_mod] at h_4
    refine ww_aload_n hX (pc := 8) dX4_fillMean_8 rfl ?_
    refine ww_iconst hX (pc := 9) (x := 1) dX4_fillMean_9 rfl ?_
    refine ww_putZ hX (pc := 10) (fun h9 => absurd h9 (by decide)) gX4_58 rfl (by decide) (xs_18 hL) dX4_fillMean_10 ?_
    refine ww_nmH (fun I_10 eI_10 => ?_)
    have kI_10 : Kp 18 30 Ia I_10 := by rw [eI_10]; exact Kp_up (Kp_rf (a := 18) (b := 30)) _ _ (by decide)
    have r1_5_I_10 : I_10 1 5 = Ia 1 5 := Kp_at kI_10 1 5 (by decide)
    have r1_6_I_10 : I_10 1 6 = Ia 1 6 := Kp_at kI_10 1 6 (by decide)
    have rf_I_10 : FU (I_10 1 5) = FU (Ia 1 5) := by rw [r1_5_I_10]
    refine ww_aload_n hX (pc := 13) dX4_fillMean_13 rfl ?_
    refine ww_lconst hX (pc := 14) (x := 1) dX4_fillMean_14 (by decide) ?_
    refine ww_putJ hX (pc := 15) (fun h9 => absurd h9 (by decide)) gX4_43 rfl (xs_18 hL) dX4_fillMean_15 ?_
    refine ww_nmK (fun J_15 eJ_15 => ?_)
    have kJ_15 : Kp 18 30 Ja J_15 := by rw [eJ_15]; exact Kp_up (Kp_rf (a := 18) (b := 30)) _ _ (by decide)
    refine ww_iconst hX (pc := 18) (x := 0) dX4_fillMean_18 rfl ?_
    refine ww_istore_n hX (pc := 19) (lv' := [some (kR (some 18)), some (kI 0)]) dX4_fillMean_19 (by decide) rfl rfl ?_
    have hl_20 : ∀ (n_20 : Nat) (i : Int) (J2 : aI1), (9 - i).toNat = n_20 → (Kp 18 30 Ja J2 ∧ (0 ≤ i ∧ i ≤ 9) ∧ J2 18 9 = (Ia 1 6 - 1) ^ i.toNat) → WW X 20 [some (kR (some 18)), some (kI i)] [] I_10 J2 Ra Sa 0 0 := by
      intro n_20
      induction n_20 using Nat.strongRecOn with
      | ind n_20 ih_20 =>
        intro i J2 hm_20 hv_20
        have hq_20 := Sh0_i hm_20
        clear hm_20
        obtain ⟨kJ2, ⟨hi0, hi1⟩, hpw⟩ := hv_20
        refine ww_iload_n hX (pc := 20) dX4_fillMean_20 rfl ?_
        refine ww_bipush hX (pc := 21) (x := 9) dX4_fillMean_21 (by decide) ?_
        refine ww_icmp_ge hX (pc := 23) (tgt := 51) dX4_fillMean_23 (by decide) (fun h_23 => ?_) (fun h_23 => ?_)
        · simp only [w32_mod] at h_23
          refine ww_aload_n hX (pc := 51) dX4_fillMean_51 rfl ?_
          refine ww_getR hX (pc := 52) fX4_47 (by decide) (xs_18 hL) (xr_18_0 hL) dX4_fillMean_52 ?_
          refine vI0 hX (pc := 55) sX4_75 (xs_1 hL) (c_X1_full l0 hL (XI_kp hI kI_10 (by decide))) (by decide) (Nat.le_refl 0) (Nat.le_refl 0) (Nat.le_of_ble_eq_true rfl) dX4_fillMean_55 (fun x_55 I_55 J_55 h_55 => ?_)
          obtain ⟨rfl, rfl, h_55⟩ := h_55
          refine ww_istore_n hX (pc := 58) (lv' := [some (kR (some 18)), some (kI x_55)]) dX4_fillMean_58 (by decide) rfl rfl ?_
          have hl_59 : ∀ (n_59 : Nat) (i : Int) (J3 : aI1), (i + 1).toNat = n_59 → (Kp 18 30 Ja J3 ∧ (-1 ≤ i ∧ i ≤ FU (Ia 1 5)) ∧ J3 18 9 = (Ia 1 6 - 1) ^ 9 ∧ (∀ s : Nat, i < s → (s : Int) ≤ FU (Ia 1 5) → MCs (Ia 3) (Ia 1 7) (FU (Ia 1 5) + 1) (Ia 1 6) (J3 18 9) (J3 28) s (J3 28 s) ∧ MB8 (Ia 1 5) (J3 18 9) (Ia 3 s) (pcn s) (J3 28 s))) → WW X 59 [some (kR (some 18)), some (kI i)] [] I_10 J3 Ra Sa 0 0 := by
            intro n_59
            induction n_59 using Nat.strongRecOn with
            | ind n_59 ih_59 =>
              intro i J3 hm_59 hv_59
              have hq_59 := Sh0_i hm_59
              clear hm_59
              obtain ⟨kJ3, ⟨hi0, hi1⟩, hu9, hms⟩ := hv_59
              refine ww_iload_n hX (pc := 59) dX4_fillMean_59 rfl ?_
              refine ww_if_lt hX (pc := 60) (tgt := 80) dX4_fillMean_60 (by decide) (fun h_60 => ?_) (fun h_60 => ?_)
              · simp only [w32_mod] at h_60
                refine rV hX (pc := 80) hT (Nat.le_refl 0) (Nat.le_refl 0) dX4_fillMean_80 ?_
                have h18 : I_10 18 = up1 (Ia 18) 12 1 := by rw [eI_10, up2_row]
                have k10 : Kp 18 19 Ia I_10 := by rw [eI_10]; exact Kp_up Kp_rf _ _ (by decide)
                have hmt : MT I_10 J3 := by
                  unfold MT
                  rw [kI_10 3 (by decide), kI_10 1 (by decide)]
                  exact ⟨hu9, fun s hs => hms s (by omega) hs⟩
                exact ⟨k10, kJ3, ⟨by unfold FRf; rw [h18]; exact ⟨by rw [up1_n _ _ (by decide)]; exact hff.1, by rw [up1_n _ _ (by decide)]; exact hff.2.1, by rw [up1_s]; omega⟩, fun g => OT_of (hf10 (by rw [h18, up1_n _ _ (by decide)] at g; exact g)) r1_5_I_10 (kI_10 2 (by decide)) (k10 19 (by decide)), fun g => LT_of (hf11 (by rw [h18, up1_n _ _ (by decide)] at g; exact g)) r1_5_I_10 r1_6_I_10 (by rw [kI_10 1 (by decide)]) (kI_10 3 (by decide)) (k10 24 (by decide)), fun _ => hmt⟩, hmt⟩
              · simp only [w32_mod] at h_60
                refine ww_aload_n hX (pc := 63) dX4_fillMean_63 rfl ?_
                refine ww_getR hX (pc := 64) fX4_33 (by decide) (xs_18 hL) (xr_18_6 hL) dX4_fillMean_64 ?_
                refine ww_iload_n hX (pc := 67) dX4_fillMean_67 rfl ?_
                refine ww_aload_n hX (pc := 68) dX4_fillMean_68 rfl ?_
                refine ww_iload_n hX (pc := 69) dX4_fillMean_69 rfl ?_
                refine vJ1 hX (pc := 70) sX4_152 (xs_18 hL) (c8_X4_meanOf l0 hL (XI_kp hI kI_10 (by decide)) (by omega) (by omega) (by rw [kI_10 1 (by decide)]; exact hu9) (by rw [kI_10 3 (by decide), kI_10 1 (by decide)]; exact hK i.toNat (by omega)) (fun t h1 h2 => by rw [kI_10 3 (by decide), kI_10 1 (by decide)]; rw [kI_10 1 (by decide)] at h2; exact (hms t h1 h2).2)) (by decide) (Nat.le_refl 0) (Nat.le_refl 0) (Nat.le_of_ble_eq_true rfl) dX4_fillMean_70 (fun x_70 I_70 J_70 h_70 => ?_)
                obtain ⟨rfl, kx_70, hmc, hmb⟩ := h_70
                rw [kI_10 3 (by decide), kI_10 1 (by decide)] at hmc hmb
                have kJ_70 : Kp 18 30 Ja J_70 := Kp_tr kJ3 (Kp_wd kx_70 (by decide) (by decide))
                refine ww_last hX (pc := 73) (xs_28 hL) (by decide) (by omega) (by omega) dX4_fillMean_73 ?_
                refine ww_nmK (fun J_73 eJ_73 => ?_)
                have kJ_73 : Kp 18 30 Ja J_73 := by rw [eJ_73]; exact Kp_up kJ_70 _ _ (by decide)
                refine ww_iinc hX (pc := 74) (lv' := [some (kR (some 18)), some (kI (i + (-1)))]) dX4_fillMean_74 rfl (by decide) rfl rfl ?_
                refine ww_goto hX (pc := 77) (tgt := 59) dX4_fillMean_77 (by decide) ?_
                exact ih_59 _ (by have hm9 := Sh0_e hq_59; omega) (i + (-1)) J_73 rfl ⟨kJ_73, ⟨by omega, by omega⟩, by rw [eJ_73, up2_off _ _ _ (by decide), kx_70 18 (by decide)]; exact hu9, fun s h1 h2 => by
      have e18 : J_73 18 = J3 18 := by rw [eJ_73, up2_off _ _ _ (by decide), kx_70 18 (by decide)]
      have e28 : J_73 28 = up1 (J3 28) i.toNat x_70 := by rw [eJ_73, up2_row, kx_70 28 (by decide)]
      rw [e18, e28]
      by_cases e9 : s = i.toNat
      · rw [e9, up1_s]
        exact ⟨MCs_cg hmc (fun t g1 g2 => (up1_n _ _ (by omega)).symm), hmb⟩
      · rw [up1_n _ _ e9]
        have hs := hms s (by omega) h2
        exact ⟨MCs_cg hs.1 (fun t g1 g2 => (up1_n _ _ (by omega)).symm), hs.2⟩⟩
          exact hl_59 _ x_55 J2 rfl ⟨kJ2, ⟨by omega, by omega⟩, by rw [hpw, show i = 9 by omega]; rfl, fun s h1 h2 => absurd h2 (by omega)⟩
        · simp only [w32_mod] at h_23
          refine ww_aload_n hX (pc := 26) dX4_fillMean_26 rfl ?_
          refine ww_dupR hX (pc := 27) dX4_fillMean_27 ?_
          refine ww_getJ hX (pc := 28) fX4_43 (by decide) (xs_18 hL) dX4_fillMean_28 ?_
          refine ww_aload_n hX (pc := 31) dX4_fillMean_31 rfl ?_
          refine ww_getR hX (pc := 32) fX4_47 (by decide) (xs_18 hL) (xr_18_0 hL) dX4_fillMean_32 ?_
          refine ww_getI hX (pc := 35) fX4_83 (by decide) (xs_1 hL) dX4_fillMean_35 ?_
          refine ww_iconst hX (pc := 38) (x := 1) dX4_fillMean_38 rfl ?_
          refine ww_isub hX (pc := 39) dX4_fillMean_39 ?_
          refine ww_i2l hX (pc := 40) dX4_fillMean_40 ?_
          refine ww_lmul hX (pc := 41) dX4_fillMean_41 ?_
          refine ww_toL (b := (Ia 1 6 - 1) ^ (i.toNat + 1)) (by rw [w32_id (by omega) (by omega), hpw, r1_6_I_10, Int.pow_succ]) ?_
          refine ww_putJ hX (pc := 42) (fun h9 => absurd h9 (by decide)) gX4_43 rfl (xs_18 hL) dX4_fillMean_42 ?_
          refine ww_nmK (fun J_42 eJ_42 => ?_)
          have kJ_42 : Kp 18 30 Ja J_42 := by rw [eJ_42]; exact Kp_up kJ2 _ _ (by decide)
          refine ww_iinc hX (pc := 45) (lv' := [some (kR (some 18)), some (kI (i + 1))]) dX4_fillMean_45 rfl (by decide) rfl rfl ?_
          refine ww_goto hX (pc := 48) (tgt := 20) dX4_fillMean_48 (by decide) ?_
          exact ih_20 _ (by have hm9 := Sh0_e hq_20; omega) (i + 1) J_42 rfl ⟨kJ_42, ⟨by omega, by omega⟩, by rw [eJ_42, up2_s, show (i + 1).toNat = i.toNat + 1 by omega]⟩
    exact hl_20 _ 0 J_15 rfl ⟨kJ_15, ⟨by omega, by omega⟩, by rw [eJ_15, up2_s]; exact (Int.pow_zero _).symm⟩
  · simp only [w32_mod] at h_4
    refine rV hX (pc := 7) hT (Nat.le_refl 0) (Nat.le_refl 0) dX4_fillMean_7 ?_
    exact ⟨Kp_rf, Kp_rf, hF, hf12 (by have := hff.2.2; omega)⟩
set_option maxHeartbeats 4000000 in
set_option maxRecDepth 20000 in
theorem c8_X4_prepare (l0 : Launch) {Ia Ja : aI1} {Ra : aR1} {Sa : aS1} (hL : LY Ra Sa) (hI : XI Ia) (hF : FRk Ia Ja) (hK : ∀ s : Nat, (s : Int) ≤ FU (Ia 1 5) → Ia 3 s < Ia 1 6) {m : Int} (hm0 : 0 ≤ m) (hm1 : m ≤ 3)  : CT l0 5 0 0 mX4_prepare [kR (some 18), kI m] Ia Ja Ra Sa (cV (fun I' J' => Kp 18 31 Ia I' ∧ Kp 18 31 Ja J' ∧ FRk I' J' ∧ (m = 1 → OT I') ∧ (m = 2 → LT I') ∧ (m = 3 → MT I' J')) Ra Sa) := by
  refine ct_in pn_X4 (Nat.le_of_ble_eq_true rfl) (fun X hX hT hIn => ?_)
  have hX : aK l0 X cX4_prepare 2 RX4 none 5 0 0 := hX
  change WW X 0 [some (kR (some 18)), some (kI m)] [] Ia Ja Ra Sa 0 0
  obtain ⟨hn1, hn2⟩ := hI.1
  obtain ⟨hk1, hk2⟩ := hI.2.1
  obtain ⟨hf1, hf2⟩ := hI.fu
  refine ww_iload_n hX (pc := 0) dX4_prepare_0 rfl ?_
  refine ww_table hX (pc := 1) dX4_prepare_1 49 (by decide) (fun h_1 => ?_) (fun i_1 h_1 e_1 => ?_)
  · simp only [w32_mod] at h_1
    refine rV hX (pc := 49) hT (Nat.le_refl 0) (Nat.le_refl 0) dX4_prepare_49 ?_
    exact ⟨Kp_rf, Kp_rf, hF, fun h9 => absurd h9 (by omega), fun h9 => absurd h9 (by omega), fun h9 => absurd h9 (by omega)⟩
  · simp only [w32_mod] at e_1
    rcases (show i_1 = 0 ∨ i_1 = 1 ∨ i_1 = 2 by omega) with rfl | rfl | rfl
    · refine ⟨27, 28, rfl, by decide, ?_⟩
      refine ww_aload_n hX (pc := 28) dX4_prepare_28 rfl ?_
      refine vV0 hX (pc := 29) sX4_61 (xs_18 hL) (c8_X4_fillOil l0 hL hI hF) (by decide) (Nat.le_refl 0) (Nat.le_refl 0) (Nat.le_of_ble_eq_true rfl) dX4_prepare_29 (fun I_29 J_29 h_29 => ?_)
      refine ww_goto hX (pc := 32) (tgt := 49) dX4_prepare_32 (by decide) ?_
      refine rV hX (pc := 49) hT (Nat.le_refl 0) (Nat.le_refl 0) dX4_prepare_49 ?_
      obtain ⟨g1, rfl, g3, g4⟩ := h_29
      exact ⟨Kp_wd g1 (by decide) (by decide), Kp_rf, g3, fun _ => g4, fun h9 => absurd h9 (by omega), fun h9 => absurd h9 (by omega)⟩
    · refine ⟨34, 35, rfl, by decide, ?_⟩
      refine ww_aload_n hX (pc := 35) dX4_prepare_35 rfl ?_
      refine vV0 hX (pc := 36) sX4_64 (xs_18 hL) (c8_X4_fillLasting l0 hL hI hF) (by decide) (Nat.le_refl 0) (Nat.le_refl 0) (Nat.le_of_ble_eq_true rfl) dX4_prepare_36 (fun I_36 J_36 h_36 => ?_)
      refine ww_goto hX (pc := 39) (tgt := 49) dX4_prepare_39 (by decide) ?_
      refine rV hX (pc := 49) hT (Nat.le_refl 0) (Nat.le_refl 0) dX4_prepare_49 ?_
      obtain ⟨g1, rfl, g3, g4⟩ := h_36
      exact ⟨Kp_wd g1 (by decide) (by decide), Kp_rf, g3, fun h9 => absurd h9 (by omega), fun _ => g4, fun h9 => absurd h9 (by omega)⟩
    · refine ⟨41, 42, rfl, by decide, ?_⟩
      refine ww_aload_n hX (pc := 42) dX4_prepare_42 rfl ?_
      refine vV0 hX (pc := 43) sX4_90 (xs_18 hL) (c8_X4_fillMean l0 hL hI hF hK) (by decide) (Nat.le_refl 0) (Nat.le_refl 0) (Nat.le_of_ble_eq_true rfl) dX4_prepare_43 (fun I_43 J_43 h_43 => ?_)
      refine ww_goto hX (pc := 46) (tgt := 49) dX4_prepare_46 (by decide) ?_
      refine rV hX (pc := 49) hT (Nat.le_refl 0) (Nat.le_refl 0) dX4_prepare_49 ?_
      obtain ⟨g1, g2, g3, g4⟩ := h_43
      exact ⟨Kp_wd g1 (by decide) (by decide), Kp_wd g2 (by decide) (by decide), g3, fun h9 => absurd h9 (by omega), fun h9 => absurd h9 (by omega), fun _ => g4⟩
/-- what prepare leaves can be compared -/
theorem TR_p {m : Int} {I J : aI1} (hX : XI I) (hO : ∀ j, j < 8 → 0 ≤ I 2 j ∧ I 2 j ≤ 99) (h1 : m = 1 → OT I) (h2 : m = 2 → LT I) (h3 : m = 3 → MT I J) : ∀ t : Nat, (t : Int) ≤ FU (I 1 5) → TR m I J t := fun t ht => by
  have hn := hX.1
  have hk := hX.2.1
  refine ⟨fun e => ?_, fun e => ?_, fun e => ?_⟩
  · have g := h1 e t ht
    have r := oilS_r (o := I 2) (s := t) hO (I 1 5).toNat (by omega)
    omega
  · have g := ((h2 e) t (by omega) (by omega)).2
    have r := pcn_r t
    omega
  · have g := ((h3 e).2 t ht).2
    have u := pw9 hk.1 hk.2
    rw [← (h3 e).1] at u
    have g1 := g.1
    have g2 := g.2.1
    omega
