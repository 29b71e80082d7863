/-! what is asked of a STATE -/
def zOn (s : Int) : Nat → Int
  | 0 => 0
  | l + 1 => zOn s l + i_and (i_shr s l) 1
def zA (s : Int) : Nat → Int × Int × Int × Int
  | 0 => (0, 0, -1, -1)
  | l + 1 => if i_and (i_shr s l) 1 = 0 then zA s l else ((zA s l).1 + (l + 1), i_xor (zA s l).2.1 (l + 1), (if (zA s l).2.2.1 = -1 then (l : Int) else (zA s l).2.2.1), (l : Int))
def zEn (s n K : Int) : zE
  | 0 => s
  | 1 => zOn s 16
  | 2 => (zA s n.toNat).1
  | 3 => (zA s n.toNat).2.1
  | 4 => (zA s n.toNat).2.2.1
  | 5 => (zA s n.toNat).2.2.2
  | 6 => n
  | 7 => K
  | _ => 0
theorem zOn_b (s : Int) : ∀ l : Nat, 0 ≤ zOn s l ∧ zOn s l ≤ l
  | 0 => by unfold zOn; omega
  | l + 1 => by
    have h1 := zOn_b s l
    have h2 := i_and_1 (i_shr s l)
    unfold zOn
    omega
theorem zA_b (s : Int) : ∀ l : Nat, l ≤ 8 → (0 ≤ (zA s l).1 ∧ (zA s l).1 ≤ 8 * l) ∧ (0 ≤ (zA s l).2.1 ∧ (zA s l).2.1 < 16) ∧ (-1 ≤ (zA s l).2.2.1 ∧ (zA s l).2.2.1 < 8) ∧ (-1 ≤ (zA s l).2.2.2 ∧ (zA s l).2.2.2 < 8)
  | 0, _ => by
    show (0 ≤ (0 : Int) ∧ (0 : Int) ≤ 8 * ((0 : Nat) : Int)) ∧ (0 ≤ (0 : Int) ∧ (0 : Int) < 16) ∧ (-1 ≤ (-1 : Int) ∧ (-1 : Int) < 8) ∧ (-1 ≤ (-1 : Int) ∧ (-1 : Int) < 8)
    omega
  | l + 1, hl => by
    obtain ⟨h1, h2, h3, h4⟩ := zA_b s l (by omega)
    unfold zA
    by_cases hc : i_and (i_shr s l) 1 = 0
    · rw [if_pos hc]
      exact ⟨by omega, h2, h3, h4⟩
    · rw [if_neg hc]
      refine ⟨by show 0 ≤ (zA s l).1 + (l + 1) ∧ (zA s l).1 + (l + 1) ≤ _; omega, ?_, ?_, by show -1 ≤ (l : Int) ∧ (l : Int) < 8; omega⟩
      · obtain ⟨m, hm⟩ : ∃ m : Nat, (zA s l).2.1 = m := ⟨(zA s l).2.1.toNat, by omega⟩
        show 0 ≤ i_xor (zA s l).2.1 (l + 1) ∧ i_xor (zA s l).2.1 (l + 1) < 16
        rw [hm, show ((l : Int) + 1) = ((l + 1 : Nat) : Int) by omega, i_xor_N (by omega) (by omega)]
        have h5 : m ^^^ (l + 1) < 2 ^ 4 := Nat.xor_lt_two_pow (by omega) (by omega)
        omega
      · show -1 ≤ (if (zA s l).2.2.1 = -1 then (l : Int) else (zA s l).2.2.1) ∧ (if (zA s l).2.2.1 = -1 then (l : Int) else (zA s l).2.2.1) < 8
        split <;> omega
theorem zEn_b {s n K : Int} (hs : 0 ≤ s ∧ s < 256) (hn : 0 ≤ n ∧ n ≤ 8) (hK : 0 ≤ K ∧ K ≤ 8) : ∀ j, j < 8 → -1000 ≤ zEn s n K j ∧ zEn s n K j ≤ 1000 := fun j hj => by
  have h1 := zOn_b s 16
  obtain ⟨h2, h3, h4, h5⟩ := zA_b s n.toNat (by omega)
  rcases (show j = 0 ∨ j = 1 ∨ j = 2 ∨ j = 3 ∨ j = 4 ∨ j = 5 ∨ j = 6 ∨ j = 7 by omega) with rfl | rfl | rfl | rfl | rfl | rfl | rfl | rfl
  · show -1000 ≤ s ∧ s ≤ 1000; omega
  · show -1000 ≤ zOn s 16 ∧ zOn s 16 ≤ 1000; omega
  · show -1000 ≤ (zA s n.toNat).1 ∧ (zA s n.toNat).1 ≤ 1000; omega
  · show -1000 ≤ (zA s n.toNat).2.1 ∧ (zA s n.toNat).2.1 ≤ 1000; omega
  · show -1000 ≤ (zA s n.toNat).2.2.1 ∧ (zA s n.toNat).2.2.1 ≤ 1000; omega
  · show -1000 ≤ (zA s n.toNat).2.2.2 ∧ (zA s n.toNat).2.2.2 ≤ 1000; omega
  · show -1000 ≤ n ∧ n ≤ 1000; omega
  · show -1000 ≤ K ∧ K ≤ 1000; omega
/-- the loop's four words after l LAMPS -/
def zAQ (s l a b c d : Int) : Prop := a = (zA s l.toNat).1 ∧ b = (zA s l.toNat).2.1 ∧ c = (zA s l.toNat).2.2.1 ∧ d = (zA s l.toNat).2.2.2
theorem zAQ_0 (s : Int) : zAQ s 0 0 0 (-1) (-1) := ⟨rfl, rfl, rfl, rfl⟩
theorem zAQ_b {s l a b c d : Int} (h : zAQ s l a b c d) (h0 : 0 ≤ l ∧ l ≤ 8) : (0 ≤ a ∧ a ≤ 64) ∧ (0 ≤ b ∧ b < 16) ∧ (-1 ≤ c ∧ c < 8) ∧ (-1 ≤ d ∧ d < 8) := by
  obtain ⟨rfl, rfl, rfl, rfl⟩ := h
  have h9 := zA_b s l.toNat (by omega)
  omega
theorem zAQ_n {s l a b c d : Int} (h : zAQ s l a b c d) (h0 : 0 ≤ l) (hc : i_and (i_shr s l) 1 = 0) : zAQ s (l + 1) a b c d := by
  obtain ⟨k, rfl⟩ : ∃ k : Nat, l = k := ⟨l.toNat, by omega⟩
  have e : zA s (k + 1) = zA s k := if_pos hc
  unfold zAQ at h ⊢
  rw [show ((k : Int) + 1).toNat = k + 1 by omega, e]
  exact h
theorem zAQ_s {s l a b c d a' b' c' : Int} (h : zAQ s l a b c d) (h0 : 0 ≤ l) (hc : ¬ i_and (i_shr s l) 1 = 0) (ha : a' = a + (l + 1)) (hb : b' = i_xor b (l + 1)) (hc1 : c = -1 → c' = l) (hc2 : ¬ c = -1 → c' = c) : zAQ s (l + 1) a' b' c' l := by
  obtain ⟨k, rfl⟩ : ∃ k : Nat, l = k := ⟨l.toNat, by omega⟩
  obtain ⟨h1, h2, h3, h4⟩ := h
  have e : zA s (k + 1) = ((zA s k).1 + (k + 1), i_xor (zA s k).2.1 (k + 1), (if (zA s k).2.2.1 = -1 then (k : Int) else (zA s k).2.2.1), (k : Int)) := if_neg hc
  have e0 : (k : Int).toNat = k := rfl
  rw [e0] at h1 h2 h3
  unfold zAQ
  rw [show ((k : Int) + 1).toNat = k + 1 by omega, e]
  refine ⟨by rw [ha, h1], by rw [hb, h2], ?_, rfl⟩
  show c' = if (zA s k).2.2.1 = -1 then (k : Int) else (zA s k).2.2.1
  rw [← h3]
  by_cases g : c = -1
  · rw [if_pos g]; exact hc1 g
  · rw [if_neg g]; exact hc2 g
theorem zOn_s {s i v : Int} (h : v = zOn s i.toNat) (h0 : 0 ≤ i) : v + i_and (i_shr s i) 1 = zOn s (i + 1).toNat := by
  obtain ⟨k, rfl⟩ : ∃ k : Nat, i = k := ⟨i.toNat, by omega⟩
  rw [show ((k : Int) + 1).toNat = k + 1 by omega, h]
  rfl
set_option maxHeartbeats 4000000 in
set_option maxRecDepth 20000 in
theorem c6_X11_ones (l0 : Launch) {Ia Ja : aI1} {Ra : aR1} {Sa : aS1} {a : Int}  : CT l0 0 0 0 mX11_ones [kI a] Ia Ja Ra Sa (cI (fun x I' J' => Ia = I' ∧ Ja = J' ∧ x = zOn a 16) Ra Sa) := by
  refine ct_in pn_X11 (Nat.le_of_ble_eq_true rfl) (fun X hX hT hIn => ?_)
  have hX : aK l0 X cX11_ones 3 RX11 (some .int) 0 0 0 := hX
  change WW X 0 [some (kI a), none, none] [] Ia Ja Ra Sa 0 0
  refine ww_iconst hX (pc := 0) (x := 0) dX11_ones_0 rfl ?_
  refine ww_istore_n hX (pc := 1) (lv' := [some (kI a), some (kI 0), none]) dX11_ones_1 (by decide) rfl rfl ?_
  refine ww_iconst hX (pc := 2) (x := 0) dX11_ones_2 rfl ?_
  refine ww_istore_n hX (pc := 3) (lv' := [some (kI a), some (kI 0), some (kI 0)]) dX11_ones_3 (by decide) rfl rfl ?_
  have hl_4 : ∀ (n_4 : Nat) (n : Int) (i : Int), (16 - i).toNat = n_4 → ((0 ≤ i ∧ i ≤ 16 ∧ 0 ≤ n ∧ n ≤ i) ∧ n = zOn a i.toNat) → WW X 4 [some (kI a), some (kI n), some (kI i)] [] Ia Ja Ra Sa 0 0 := by
    intro n_4
    induction n_4 using Nat.strongRecOn with
    | ind n_4 ih_4 =>
      intro n i hm_4 hv_4
      have hq_4 := Sh0_i hm_4
      clear hm_4
      obtain ⟨hv, hon⟩ := hv_4
      refine ww_iload_n hX (pc := 4) dX11_ones_4 rfl ?_
      refine ww_bipush hX (pc := 5) (x := 16) dX11_ones_5 (by decide) ?_
      refine ww_icmp_ge hX (pc := 7) (tgt := 24) dX11_ones_7 (by decide) (fun h_7 => ?_) (fun h_7 => ?_)
      · simp only [w32_mod] at h_7
        refine ww_iload_n hX (pc := 24) dX11_ones_24 rfl ?_
        refine rI hX (pc := 25) hT (Nat.le_refl 0) (Nat.le_refl 0) dX11_ones_25 ?_
        exact ⟨rfl, rfl, (by rw [hon]; exact congrArg (zOn a) (by omega))⟩
      · simp only [w32_mod] at h_7
        refine ww_iload_n hX (pc := 10) dX11_ones_10 rfl ?_
        refine ww_iload_n hX (pc := 11) dX11_ones_11 rfl ?_
        refine ww_iload_n hX (pc := 12) dX11_ones_12 rfl ?_
        refine ww_ishr hX (pc := 13) dX11_ones_13 ?_
        refine ww_iconst hX (pc := 14) (x := 1) dX11_ones_14 rfl ?_
        refine ww_iand hX (pc := 15) dX11_ones_15 ?_
        have hb1 := i_and_1 (i_shr a i)
        have hb2 := zOn_s hon (by omega)
        refine ww_iadd hX (pc := 16) dX11_ones_16 ?_
        refine ww_nmI (fun v_17 hv_17 => ?_)
        refine ww_istore_n hX (pc := 17) (lv' := [some (kI a), some (kI v_17), some (kI i)]) dX11_ones_17 (by decide) rfl rfl ?_
        refine ww_iinc hX (pc := 18) (lv' := [some (kI a), some (kI v_17), some (kI (i + 1))]) dX11_ones_18 rfl (by decide) rfl rfl ?_
        refine ww_goto hX (pc := 21) (tgt := 4) dX11_ones_21 (by decide) ?_
        exact ih_4 _ (by have hm9 := Sh0_e hq_4; omega) v_17 (i + 1) rfl ⟨by omega, hv_17.trans hb2⟩
  exact hl_4 _ 0 0 rfl ⟨by omega, rfl⟩
set_option maxHeartbeats 4000000 in
set_option maxRecDepth 20000 in
theorem c6_X11_asksOf (l0 : Launch) {Ia Ja : aI1} {Ra : aR1} {Sa : aS1} (hL : LY Ra Sa) (hQ : RX Ia) {a : Int}  : CT l0 1 0 0 mX11_asksOf [kR (some 49), kI a] Ia Ja Ra Sa (cV (fun I' J' => Ch [60] [] Ia I' ∧ Kp 49 73 Ja J' ∧ RX I' ∧ ∀ j, j < 8 → I' 60 j = zEn a (Ia 51 304) (Ia 51 305) j) Ra Sa) := by
  refine ct_in pn_X11 (Nat.le_of_ble_eq_true rfl) (fun X hX hT hIn => ?_)
  have hX : aK l0 X cX11_asksOf 7 RX11 none 1 0 0 := hX
  change WW X 0 [some (kR (some 49)), some (kI a), none, none, none, none, none] [] Ia Ja Ra Sa 0 0
  have qIa := RX_o hQ
  refine ww_iconst hX (pc := 0) (x := 0) dX11_asksOf_0 rfl ?_
  refine ww_istore_n hX (pc := 1) (lv' := [some (kR (some 49)), some (kI a), some (kI 0), none, none, none, none]) dX11_asksOf_1 (by decide) rfl rfl ?_
  refine ww_iconst hX (pc := 2) (x := 0) dX11_asksOf_2 rfl ?_
  refine ww_istore_n hX (pc := 3) (lv' := [some (kR (some 49)), some (kI a), some (kI 0), some (kI 0), none, none, none]) dX11_asksOf_3 (by decide) rfl rfl ?_
  refine ww_iconst hX (pc := 4) (x := (-1)) dX11_asksOf_4 rfl ?_
  refine ww_istore hX (pc := 5) (lv' := [some (kR (some 49)), some (kI a), some (kI 0), some (kI 0), some (kI (-1)), none, none]) dX11_asksOf_5 (by decide) rfl rfl ?_
  refine ww_iconst hX (pc := 7) (x := (-1)) dX11_asksOf_7 rfl ?_
  refine ww_istore hX (pc := 8) (lv' := [some (kR (some 49)), some (kI a), some (kI 0), some (kI 0), some (kI (-1)), some (kI (-1)), none]) dX11_asksOf_8 (by decide) rfl rfl ?_
  refine ww_iconst hX (pc := 10) (x := 0) dX11_asksOf_10 rfl ?_
  refine ww_istore hX (pc := 11) (lv' := [some (kR (some 49)), some (kI a), some (kI 0), some (kI 0), some (kI (-1)), some (kI (-1)), some (kI 0)]) dX11_asksOf_11 (by decide) rfl rfl ?_
  have hl_13 : ∀ (n_13 : Nat) (v2 : Int) (v3 : Int) (v4 : Int) (v5 : Int) (v6 : Int), (8 - v6).toNat = n_13 → ((0 ≤ v6 ∧ v6 ≤ Ia 51 304) ∧ zAQ a v6 v2 v3 v4 v5) → WW X 13 [some (kR (some 49)), some (kI a), some (kI v2), some (kI v3), some (kI v4), some (kI v5), some (kI v6)] [] Ia Ja Ra Sa 0 0 := by
    intro n_13
    induction n_13 using Nat.strongRecOn with
    | ind n_13 ih_13 =>
      intro v2 v3 v4 v5 v6 hm_13 hv_13
      have hq_13 := Sh0_i hm_13
      clear hm_13
      obtain ⟨hv, hq⟩ := hv_13
      have hqb := zAQ_b hq (by omega)
      refine ww_iload hX (pc := 13) dX11_asksOf_13 rfl ?_
      refine ww_aload_n hX (pc := 15) dX11_asksOf_15 rfl ?_
      refine ww_getR hX (pc := 16) fX11_20 (by decide) (xs_49 hL) (xr_49_3 hL) dX11_asksOf_16 ?_
      refine ww_sipush hX (pc := 19) (x := 304) dX11_asksOf_19 (by decide) ?_
      refine ww_iald hX (pc := 22) (xs_51 hL) (by decide) (by omega) (by omega) dX11_asksOf_22 ?_
      refine ww_toI (b := Ia 51 304) rfl ?_
      refine ww_icmp_ge hX (pc := 23) (tgt := 77) dX11_asksOf_23 (by decide) (fun h_23 => ?_) (fun h_23 => ?_)
      · simp only [w32_mod] at h_23
        refine ww_aload_n hX (pc := 77) dX11_asksOf_77 rfl ?_
        refine ww_getR hX (pc := 78) fX11_52 (by decide) (xs_49 hL) (xr_49_22 hL) dX11_asksOf_78 ?_
        refine ww_iconst hX (pc := 81) (x := 0) dX11_asksOf_81 rfl ?_
        refine ww_iload_n hX (pc := 82) dX11_asksOf_82 rfl ?_
        refine ww_iast hX (pc := 83) (xs_60 hL) (by decide) (by omega) (by omega) dX11_asksOf_83 ?_
        refine ww_nmH (fun I_83 eI_83 => ?_)
        have kI_83 : Ch [60] [] Ia I_83 := by rw [eI_83]; exact Ch_r Ch_rf (by decide) (by decide)
        have cI_83 : RX I_83 := by rw [eI_83]; exact RX_r hQ (by decide)
        have qI_83 := RX_o cI_83
        have r304_I_83 : I_83 51 304 = Ia 51 304 := by rw [eI_83, up2_off _ _ _ (by decide)]
        have r305_I_83 : I_83 51 305 = Ia 51 305 := by rw [eI_83, up2_off _ _ _ (by decide)]
        have rf_I_83 : FU (I_83 51 304) = FU (Ia 51 304) := by rw [r304_I_83]
        have g83_0 : I_83 60 0 = a := by rw [eI_83]; exact up2_s ..
        refine ww_aload_n hX (pc := 84) dX11_asksOf_84 rfl ?_
        refine ww_getR hX (pc := 85) fX11_52 (by decide) (xs_49 hL) (xr_49_22 hL) dX11_asksOf_85 ?_
        refine ww_iconst hX (pc := 88) (x := 1) dX11_asksOf_88 rfl ?_
        refine ww_iload_n hX (pc := 89) dX11_asksOf_89 rfl ?_
        refine sI1 hX (pc := 90) sX11_259 (c6_X11_ones l0 ) (by decide) (Nat.le_refl 0) (Nat.le_refl 0) (Nat.le_of_ble_eq_true rfl) dX11_asksOf_90 (fun x_90 I_90 J_90 h_90 => ?_)
        obtain ⟨rfl, rfl, h_90⟩ := h_90
        refine ww_iast hX (pc := 93) (xs_60 hL) (by decide) (by omega) (by omega) dX11_asksOf_93 ?_
        refine ww_nmH (fun I_93 eI_93 => ?_)
        have kI_93 : Ch [60] [] Ia I_93 := by rw [eI_93]; exact Ch_r kI_83 (by decide) (by decide)
        have cI_93 : RX I_93 := by rw [eI_93]; exact RX_r cI_83 (by decide)
        have qI_93 := RX_o cI_93
        have r304_I_93 : I_93 51 304 = I_83 51 304 := by rw [eI_93, up2_off _ _ _ (by decide)]
        have r305_I_93 : I_93 51 305 = I_83 51 305 := by rw [eI_93, up2_off _ _ _ (by decide)]
        have rf_I_93 : FU (I_93 51 304) = FU (I_83 51 304) := by rw [r304_I_93]
        have g93_1 : I_93 60 1 = zOn a 16 := by rw [eI_93]; exact (up2_s ..).trans h_90
        have g93_0 : I_93 60 0 = a := by rw [eI_93, up2_n _ _ (Or.inr (by decide))]; exact g83_0
        refine ww_aload_n hX (pc := 94) dX11_asksOf_94 rfl ?_
        refine ww_getR hX (pc := 95) fX11_52 (by decide) (xs_49 hL) (xr_49_22 hL) dX11_asksOf_95 ?_
        refine ww_iconst hX (pc := 98) (x := 2) dX11_asksOf_98 rfl ?_
        refine ww_iload_n hX (pc := 99) dX11_asksOf_99 rfl ?_
        refine ww_iast hX (pc := 100) (xs_60 hL) (by decide) (by omega) (by omega) dX11_asksOf_100 ?_
        refine ww_nmH (fun I_100 eI_100 => ?_)
        have kI_100 : Ch [60] [] Ia I_100 := by rw [eI_100]; exact Ch_r kI_93 (by decide) (by decide)
        have cI_100 : RX I_100 := by rw [eI_100]; exact RX_r cI_93 (by decide)
        have qI_100 := RX_o cI_100
        have r304_I_100 : I_100 51 304 = I_93 51 304 := by rw [eI_100, up2_off _ _ _ (by decide)]
        have r305_I_100 : I_100 51 305 = I_93 51 305 := by rw [eI_100, up2_off _ _ _ (by decide)]
        have rf_I_100 : FU (I_100 51 304) = FU (I_93 51 304) := by rw [r304_I_100]
        have g100_2 : I_100 60 2 = v2 := by rw [eI_100]; exact up2_s ..
        have g100_0 : I_100 60 0 = a := by rw [eI_100, up2_n _ _ (Or.inr (by decide))]; exact g93_0
        have g100_1 : I_100 60 1 = zOn a 16 := by rw [eI_100, up2_n _ _ (Or.inr (by decide))]; exact g93_1
        refine ww_aload_n hX (pc := 101) dX11_asksOf_101 rfl ?_
        refine ww_getR hX (pc := 102) fX11_52 (by decide) (xs_49 hL) (xr_49_22 hL) dX11_asksOf_102 ?_
        refine ww_iconst hX (pc := 105) (x := 3) dX11_asksOf_105 rfl ?_
        refine ww_iload_n hX (pc := 106) dX11_asksOf_106 rfl ?_
        refine ww_iast hX (pc := 107) (xs_60 hL) (by decide) (by omega) (by omega) dX11_asksOf_107 ?_
        refine ww_nmH (fun I_107 eI_107 => ?_)
        have kI_107 : Ch [60] [] Ia I_107 := by rw [eI_107]; exact Ch_r kI_100 (by decide) (by decide)
        have cI_107 : RX I_107 := by rw [eI_107]; exact RX_r cI_100 (by decide)
        have qI_107 := RX_o cI_107
        have r304_I_107 : I_107 51 304 = I_100 51 304 := by rw [eI_107, up2_off _ _ _ (by decide)]
        have r305_I_107 : I_107 51 305 = I_100 51 305 := by rw [eI_107, up2_off _ _ _ (by decide)]
        have rf_I_107 : FU (I_107 51 304) = FU (I_100 51 304) := by rw [r304_I_107]
        have g107_3 : I_107 60 3 = v3 := by rw [eI_107]; exact up2_s ..
        have g107_0 : I_107 60 0 = a := by rw [eI_107, up2_n _ _ (Or.inr (by decide))]; exact g100_0
        have g107_1 : I_107 60 1 = zOn a 16 := by rw [eI_107, up2_n _ _ (Or.inr (by decide))]; exact g100_1
        have g107_2 : I_107 60 2 = v2 := by rw [eI_107, up2_n _ _ (Or.inr (by decide))]; exact g100_2
        refine ww_aload_n hX (pc := 108) dX11_asksOf_108 rfl ?_
        refine ww_getR hX (pc := 109) fX11_52 (by decide) (xs_49 hL) (xr_49_22 hL) dX11_asksOf_109 ?_
        refine ww_iconst hX (pc := 112) (x := 4) dX11_asksOf_112 rfl ?_
        refine ww_iload hX (pc := 113) dX11_asksOf_113 rfl ?_
        refine ww_iast hX (pc := 115) (xs_60 hL) (by decide) (by omega) (by omega) dX11_asksOf_115 ?_
        refine ww_nmH (fun I_115 eI_115 => ?_)
        have kI_115 : Ch [60] [] Ia I_115 := by rw [eI_115]; exact Ch_r kI_107 (by decide) (by decide)
        have cI_115 : RX I_115 := by rw [eI_115]; exact RX_r cI_107 (by decide)
        have qI_115 := RX_o cI_115
        have r304_I_115 : I_115 51 304 = I_107 51 304 := by rw [eI_115, up2_off _ _ _ (by decide)]
        have r305_I_115 : I_115 51 305 = I_107 51 305 := by rw [eI_115, up2_off _ _ _ (by decide)]
        have rf_I_115 : FU (I_115 51 304) = FU (I_107 51 304) := by rw [r304_I_115]
        have g115_4 : I_115 60 4 = v4 := by rw [eI_115]; exact up2_s ..
        have g115_0 : I_115 60 0 = a := by rw [eI_115, up2_n _ _ (Or.inr (by decide))]; exact g107_0
        have g115_1 : I_115 60 1 = zOn a 16 := by rw [eI_115, up2_n _ _ (Or.inr (by decide))]; exact g107_1
        have g115_2 : I_115 60 2 = v2 := by rw [eI_115, up2_n _ _ (Or.inr (by decide))]; exact g107_2
        have g115_3 : I_115 60 3 = v3 := by rw [eI_115, up2_n _ _ (Or.inr (by decide))]; exact g107_3
        refine ww_aload_n hX (pc := 116) dX11_asksOf_116 rfl ?_
        refine ww_getR hX (pc := 117) fX11_52 (by decide) (xs_49 hL) (xr_49_22 hL) dX11_asksOf_117 ?_
        refine ww_iconst hX (pc := 120) (x := 5) dX11_asksOf_120 rfl ?_
        refine ww_iload hX (pc := 121) dX11_asksOf_121 rfl ?_
        refine ww_iast hX (pc := 123) (xs_60 hL) (by decide) (by omega) (by omega) dX11_asksOf_123 ?_
        refine ww_nmH (fun I_123 eI_123 => ?_)
        have kI_123 : Ch [60] [] Ia I_123 := by rw [eI_123]; exact Ch_r kI_115 (by decide) (by decide)
        have cI_123 : RX I_123 := by rw [eI_123]; exact RX_r cI_115 (by decide)
        have qI_123 := RX_o cI_123
        have r304_I_123 : I_123 51 304 = I_115 51 304 := by rw [eI_123, up2_off _ _ _ (by decide)]
        have r305_I_123 : I_123 51 305 = I_115 51 305 := by rw [eI_123, up2_off _ _ _ (by decide)]
        have rf_I_123 : FU (I_123 51 304) = FU (I_115 51 304) := by rw [r304_I_123]
        have g123_5 : I_123 60 5 = v5 := by rw [eI_123]; exact up2_s ..
        have g123_0 : I_123 60 0 = a := by rw [eI_123, up2_n _ _ (Or.inr (by decide))]; exact g115_0
        have g123_1 : I_123 60 1 = zOn a 16 := by rw [eI_123, up2_n _ _ (Or.inr (by decide))]; exact g115_1
        have g123_2 : I_123 60 2 = v2 := by rw [eI_123, up2_n _ _ (Or.inr (by decide))]; exact g115_2
        have g123_3 : I_123 60 3 = v3 := by rw [eI_123, up2_n _ _ (Or.inr (by decide))]; exact g115_3
        have g123_4 : I_123 60 4 = v4 := by rw [eI_123, up2_n _ _ (Or.inr (by decide))]; exact g115_4
        refine ww_aload_n hX (pc := 124) dX11_asksOf_124 rfl ?_
        refine ww_getR hX (pc := 125) fX11_52 (by decide) (xs_49 hL) (xr_49_22 hL) dX11_asksOf_125 ?_
        refine ww_bipush hX (pc := 128) (x := 6) dX11_asksOf_128 (by decide) ?_
        refine ww_aload_n hX (pc := 130) dX11_asksOf_130 rfl ?_
        refine ww_getR hX (pc := 131) fX11_20 (by decide) (xs_49 hL) (xr_49_3 hL) dX11_asksOf_131 ?_
        refine ww_sipush hX (pc := 134) (x := 304) dX11_asksOf_134 (by decide) ?_
        refine ww_iald hX (pc := 137) (xs_51 hL) (by decide) (by omega) (by omega) dX11_asksOf_137 ?_
        refine ww_toI (b := I_123 51 304) rfl ?_
        refine ww_iast hX (pc := 138) (xs_60 hL) (by decide) (by omega) (by omega) dX11_asksOf_138 ?_
        refine ww_nmH (fun I_138 eI_138 => ?_)
        have kI_138 : Ch [60] [] Ia I_138 := by rw [eI_138]; exact Ch_r kI_123 (by decide) (by decide)
        have cI_138 : RX I_138 := by rw [eI_138]; exact RX_r cI_123 (by decide)
        have qI_138 := RX_o cI_138
        have r304_I_138 : I_138 51 304 = I_123 51 304 := by rw [eI_138, up2_off _ _ _ (by decide)]
        have r305_I_138 : I_138 51 305 = I_123 51 305 := by rw [eI_138, up2_off _ _ _ (by decide)]
        have rf_I_138 : FU (I_138 51 304) = FU (I_123 51 304) := by rw [r304_I_138]
        have g138_6 : I_138 60 6 = Ia 51 304 := by rw [eI_138]; exact (up2_s ..).trans (by omega)
        have g138_0 : I_138 60 0 = a := by rw [eI_138, up2_n _ _ (Or.inr (by decide))]; exact g123_0
        have g138_1 : I_138 60 1 = zOn a 16 := by rw [eI_138, up2_n _ _ (Or.inr (by decide))]; exact g123_1
        have g138_2 : I_138 60 2 = v2 := by rw [eI_138, up2_n _ _ (Or.inr (by decide))]; exact g123_2
        have g138_3 : I_138 60 3 = v3 := by rw [eI_138, up2_n _ _ (Or.inr (by decide))]; exact g123_3
        have g138_4 : I_138 60 4 = v4 := by rw [eI_138, up2_n _ _ (Or.inr (by decide))]; exact g123_4
        have g138_5 : I_138 60 5 = v5 := by rw [eI_138, up2_n _ _ (Or.inr (by decide))]; exact g123_5
        refine ww_aload_n hX (pc := 139) dX11_asksOf_139 rfl ?_
        refine ww_getR hX (pc := 140) fX11_52 (by decide) (xs_49 hL) (xr_49_22 hL) dX11_asksOf_140 ?_
        refine ww_bipush hX (pc := 143) (x := 7) dX11_asksOf_143 (by decide) ?_
        refine ww_aload_n hX (pc := 145) dX11_asksOf_145 rfl ?_
        refine ww_getR hX (pc := 146) fX11_20 (by decide) (xs_49 hL) (xr_49_3 hL) dX11_asksOf_146 ?_
        refine ww_sipush hX (pc := 149) (x := 305) dX11_asksOf_149 (by decide) ?_
        refine ww_iald hX (pc := 152) (xs_51 hL) (by decide) (by omega) (by omega) dX11_asksOf_152 ?_
        refine ww_toI (b := I_138 51 305) rfl ?_
        refine ww_iast hX (pc := 153) (xs_60 hL) (by decide) (by omega) (by omega) dX11_asksOf_153 ?_
        refine ww_nmH (fun I_153 eI_153 => ?_)
        have kI_153 : Ch [60] [] Ia I_153 := by rw [eI_153]; exact Ch_r kI_138 (by decide) (by decide)
        have cI_153 : RX I_153 := by rw [eI_153]; exact RX_r cI_138 (by decide)
        have qI_153 := RX_o cI_153
        have r304_I_153 : I_153 51 304 = I_138 51 304 := by rw [eI_153, up2_off _ _ _ (by decide)]
        have r305_I_153 : I_153 51 305 = I_138 51 305 := by rw [eI_153, up2_off _ _ _ (by decide)]
        have rf_I_153 : FU (I_153 51 304) = FU (I_138 51 304) := by rw [r304_I_153]
        have g153_7 : I_153 60 7 = Ia 51 305 := by rw [eI_153]; exact (up2_s ..).trans (by omega)
        have g153_0 : I_153 60 0 = a := by rw [eI_153, up2_n _ _ (Or.inr (by decide))]; exact g138_0
        have g153_1 : I_153 60 1 = zOn a 16 := by rw [eI_153, up2_n _ _ (Or.inr (by decide))]; exact g138_1
        have g153_2 : I_153 60 2 = v2 := by rw [eI_153, up2_n _ _ (Or.inr (by decide))]; exact g138_2
        have g153_3 : I_153 60 3 = v3 := by rw [eI_153, up2_n _ _ (Or.inr (by decide))]; exact g138_3
        have g153_4 : I_153 60 4 = v4 := by rw [eI_153, up2_n _ _ (Or.inr (by decide))]; exact g138_4
        have g153_5 : I_153 60 5 = v5 := by rw [eI_153, up2_n _ _ (Or.inr (by decide))]; exact g138_5
        have g153_6 : I_153 60 6 = Ia 51 304 := by rw [eI_153, up2_n _ _ (Or.inr (by decide))]; exact g138_6
        refine rV hX (pc := 154) hT (Nat.le_refl 0) (Nat.le_refl 0) dX11_asksOf_154 ?_
        exact ⟨kI_153, (Kp_rf (a := 49) (b := 73)), cI_153, (fun j hj => by
            have e8 : v6 = Ia 51 304 := by omega
            obtain ⟨q1, q2, q3, q4⟩ := hq
            rw [e8] at q1 q2 q3 q4
            rcases (show j = 0 ∨ j = 1 ∨ j = 2 ∨ j = 3 ∨ j = 4 ∨ j = 5 ∨ j = 6 ∨ j = 7 by omega) with rfl | rfl | rfl | rfl | rfl | rfl | rfl | rfl
            · exact g153_0
            · exact g153_1
            · exact g153_2.trans q1
            · exact g153_3.trans q2
            · exact g153_4.trans q3
            · exact g153_5.trans q4
            · exact g153_6
            · exact g153_7)⟩
      · simp only [w32_mod] at h_23
        refine ww_iload_n hX (pc := 26) dX11_asksOf_26 rfl ?_
        refine ww_iload hX (pc := 27) dX11_asksOf_27 rfl ?_
        refine ww_ishr hX (pc := 29) dX11_asksOf_29 ?_
        refine ww_iconst hX (pc := 30) (x := 1) dX11_asksOf_30 rfl ?_
        refine ww_iand hX (pc := 31) dX11_asksOf_31 ?_
        have hb1 := i_and_1 (i_shr a v6)
        refine ww_if_ne hX (pc := 32) (tgt := 38) dX11_asksOf_32 (by decide) (fun h_32 => ?_) (fun h_32 => ?_)
        · simp only [w32_mod] at h_32
          refine ww_iload_n hX (pc := 38) dX11_asksOf_38 rfl ?_
          refine ww_iload hX (pc := 39) dX11_asksOf_39 rfl ?_
          refine ww_iconst hX (pc := 41) (x := 1) dX11_asksOf_41 rfl ?_
          refine ww_iadd hX (pc := 42) dX11_asksOf_42 ?_
          refine ww_iadd hX (pc := 43) dX11_asksOf_43 ?_
          refine ww_nmI (fun v_44 hv_44 => ?_)
          refine ww_istore_n hX (pc := 44) (lv' := [some (kR (some 49)), some (kI a), some (kI v_44), some (kI v3), some (kI v4), some (kI v5), some (kI v6)]) dX11_asksOf_44 (by decide) rfl rfl ?_
          refine ww_iload_n hX (pc := 45) dX11_asksOf_45 rfl ?_
          refine ww_iload hX (pc := 46) dX11_asksOf_46 rfl ?_
          refine ww_iconst hX (pc := 48) (x := 1) dX11_asksOf_48 rfl ?_
          refine ww_iadd hX (pc := 49) dX11_asksOf_49 ?_
          refine ww_ixor hX (pc := 50) dX11_asksOf_50 ?_
          refine ww_nmI (fun v_51 hv_51 => ?_)
          refine ww_istore_n hX (pc := 51) (lv' := [some (kR (some 49)), some (kI a), some (kI v_44), some (kI v_51), some (kI v4), some (kI v5), some (kI v6)]) dX11_asksOf_51 (by decide) rfl rfl ?_
          refine ww_iload hX (pc := 52) dX11_asksOf_52 rfl ?_
          refine ww_iconst hX (pc := 54) (x := (-1)) dX11_asksOf_54 rfl ?_
          refine ww_icmp_ne hX (pc := 55) (tgt := 63) dX11_asksOf_55 (by decide) (fun h_55 => ?_) (fun h_55 => ?_)
          · simp only [w32_mod] at h_55
            refine ww_iload hX (pc := 63) dX11_asksOf_63 rfl ?_
            refine ww_istore hX (pc := 65) (lv' := [some (kR (some 49)), some (kI a), some (kI v_44), some (kI v_51), some (kI v4), some (kI v5), some (kI v6)]) dX11_asksOf_65 (by decide) rfl rfl ?_
            refine ww_iload hX (pc := 67) dX11_asksOf_67 rfl ?_
            refine ww_istore hX (pc := 69) (lv' := [some (kR (some 49)), some (kI a), some (kI v_44), some (kI v_51), some (kI v4), some (kI v6), some (kI v6)]) dX11_asksOf_69 (by decide) rfl rfl ?_
            refine ww_iinc hX (pc := 71) (lv' := [some (kR (some 49)), some (kI a), some (kI v_44), some (kI v_51), some (kI v4), some (kI v6), some (kI (v6 + 1))]) dX11_asksOf_71 rfl (by decide) rfl rfl ?_
            refine ww_goto hX (pc := 74) (tgt := 13) dX11_asksOf_74 (by decide) ?_
            exact ih_13 _ (by have hm9 := Sh0_e hq_13; omega) v_44 v_51 v4 v6 (v6 + 1) rfl ⟨by omega, zAQ_s hq (by omega) (by omega) (by omega) hv_51 (fun g => by omega) (fun g => by omega)⟩
          · simp only [w32_mod] at h_55
            refine ww_iload hX (pc := 58) dX11_asksOf_58 rfl ?_
            refine ww_goto hX (pc := 60) (tgt := 65) dX11_asksOf_60 (by decide) ?_
            refine ww_istore hX (pc := 65) (lv' := [some (kR (some 49)), some (kI a), some (kI v_44), some (kI v_51), some (kI v6), some (kI v5), some (kI v6)]) dX11_asksOf_65 (by decide) rfl rfl ?_
            refine ww_iload hX (pc := 67) dX11_asksOf_67 rfl ?_
            refine ww_istore hX (pc := 69) (lv' := [some (kR (some 49)), some (kI a), some (kI v_44), some (kI v_51), some (kI v6), some (kI v6), some (kI v6)]) dX11_asksOf_69 (by decide) rfl rfl ?_
            refine ww_iinc hX (pc := 71) (lv' := [some (kR (some 49)), some (kI a), some (kI v_44), some (kI v_51), some (kI v6), some (kI v6), some (kI (v6 + 1))]) dX11_asksOf_71 rfl (by decide) rfl rfl ?_
            refine ww_goto hX (pc := 74) (tgt := 13) dX11_asksOf_74 (by decide) ?_
            exact ih_13 _ (by have hm9 := Sh0_e hq_13; omega) v_44 v_51 v6 v6 (v6 + 1) rfl ⟨by omega, zAQ_s hq (by omega) (by omega) (by omega) hv_51 (fun g => by omega) (fun g => by omega)⟩
        · simp only [w32_mod] at h_32
          refine ww_goto hX (pc := 35) (tgt := 71) dX11_asksOf_35 (by decide) ?_
          refine ww_iinc hX (pc := 71) (lv' := [some (kR (some 49)), some (kI a), some (kI v2), some (kI v3), some (kI v4), some (kI v5), some (kI (v6 + 1))]) dX11_asksOf_71 rfl (by decide) rfl rfl ?_
          refine ww_goto hX (pc := 74) (tgt := 13) dX11_asksOf_74 (by decide) ?_
          exact ih_13 _ (by have hm9 := Sh0_e hq_13; omega) v2 v3 v4 v5 (v6 + 1) rfl ⟨by omega, zAQ_n hq (by omega) (by omega)⟩
  exact hl_13 _ 0 0 (-1) (-1) 0 rfl ⟨by omega, zAQ_0 a⟩
