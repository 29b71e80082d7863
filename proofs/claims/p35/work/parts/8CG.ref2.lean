def FDr (F G : Nat → Int) (l a b c e f : Int) : Prop := (∀ j : Nat, (j : Int) < l → G j = F j) ∧ (∀ k : Nat, k < 20 → G (l.toNat + k) = i_b (i_shr (sel5 a b c e f (k / 4)) (24 - 8 * ((k % 4 : Nat) : Int))))
def FIr (F G : Nat → Int) (l a b c e f n : Int) : Prop := (∀ j : Nat, (j : Int) < l → G j = F j) ∧ (∀ k : Nat, (k : Int) < n → G (l.toNat + k) = i_b (i_shr (sel5 a b c e f (k / 4)) (24 - 8 * ((k % 4 : Nat) : Int))))
theorem FIr_0 {F : Nat → Int} {l a b c e f : Int} : FIr F F l a b c e f 0 := ⟨fun _ _ => rfl, fun q hq => absurd hq (by omega)⟩
theorem FIr_s {F G : Nat → Int} {l a b c e f n v : Int} {p : Nat} (h : FIr F G l a b c e f n) (h0 : 0 ≤ l) (hn : 0 ≤ n) (hp : p = (l + n).toNat) (hv : v = i_b (i_shr (sel5 a b c e f (n / 4).toNat) (24 - 8 * (n % 4)))) : FIr F (up1 G p v) l a b c e f (n + 1) := by
  subst hp hv
  refine ⟨fun j hj => ?_, fun q hq => ?_⟩
  · rw [up1_n _ _ (by omega)]
    exact h.1 j hj
  · by_cases e1 : (q : Int) = n
    · rw [show l.toNat + q = (l + n).toNat by omega, up1_s, ← e1]
      rfl
    · rw [up1_n _ _ (by omega)]
      exact h.2 q (by omega)
theorem ib_e (y : Int) : i_b y = (w32 y).bmod 256 := by
  show (Int32.ofInt y).toInt8.toInt32.toInt = _
  rw [Int8.toInt_toInt32, Int32.toInt_toInt8]
  rfl
theorem ib_ib (y : Int) : i_b (i_b y) = i_b y := by
  rw [ib_e (i_b y)]
  have h1 := Int.le_bmod (x := w32 y) (m := 256) (by decide)
  have h2 := Int.bmod_lt (x := w32 y) (m := 256) (by decide)
  rw [ib_e y, w32_id (by omega) (by omega)]
  exact Int.bmod_eq_of_le (by omega) (by omega)
theorem U5_v (F : Nat → Int) (a b c e g : Int) {q : Nat} (hq : q < 5) : up1 (up1 (up1 (up1 (up1 F 0 a) 1 b) 2 c) 3 e) 4 g q = sel5 a b c e g q := by
  unfold sel5
  rcases (show q = 0 ∨ q = 1 ∨ q = 2 ∨ q = 3 ∨ q = 4 by omega) with rfl | rfl | rfl | rfl | rfl
  · rw [up1_n _ _ (by decide), up1_n _ _ (by decide), up1_n _ _ (by decide), up1_n _ _ (by decide), up1_s, if_pos rfl]
  · rw [up1_n _ _ (by decide), up1_n _ _ (by decide), up1_n _ _ (by decide), up1_s, if_neg (by decide), if_pos rfl]
  · rw [up1_n _ _ (by decide), up1_n _ _ (by decide), up1_s, if_neg (by decide), if_neg (by decide), if_pos rfl]
  · rw [up1_n _ _ (by decide), up1_s, if_neg (by decide), if_neg (by decide), if_neg (by decide), if_pos rfl]
  · rw [up1_s, if_neg (by decide), if_neg (by decide), if_neg (by decide), if_neg (by decide)]
set_option maxHeartbeats 4000000 in
set_option maxRecDepth 20000 in
theorem c5_X11_feed (l0 : Launch) {Ia Ja : aI1} {Ra : aR1} {Sa : aS1} (hL : LY Ra Sa) (hQ : RX Ia) {a b c e g : Int}  : CT l0 0 0 0 mX11_feed [kR (some 49), kI a, kI b, kI c, kI e, kI g] Ia Ja Ra Sa (cI (fun x I' J' => Ch [55, 56] [10] Ia I' ∧ Kp 49 73 Ja J' ∧ RX I' ∧ (Ia 49 10 ≤ 380 → x = Ia 49 10 + 20 ∧ I' 49 10 = Ia 49 10 + 20 ∧ FDr (Ia 55) (I' 55) (Ia 49 10) a b c e g) ∧ (¬ Ia 49 10 ≤ 380 → x = -1 ∧ I' 49 10 = Ia 49 10 ∧ I' 55 = Ia 55)) Ra Sa) := by
  refine ct_in pn_X11 (Nat.le_of_ble_eq_true rfl) (fun X hX hT hIn => ?_)
  have hX : aK l0 X cX11_feed 7 RX11 (some .int) 0 0 0 := hX
  change WW X 0 [some (kR (some 49)), some (kI a), some (kI b), some (kI c), some (kI e), some (kI g), none] [] Ia Ja Ra Sa 0 0
  have qIa := RX_o hQ
  refine ww_aload_n hX (pc := 0) dX11_feed_0 rfl ?_
  refine ww_getI hX (pc := 1) fX11_129 (by decide) (xs_49 hL) dX11_feed_1 ?_
  refine ww_bipush hX (pc := 4) (x := 20) dX11_feed_4 (by decide) ?_
  refine ww_iadd hX (pc := 6) dX11_feed_6 ?_
  refine ww_sipush hX (pc := 7) (x := 400) dX11_feed_7 (by decide) ?_
  refine ww_icmp_le hX (pc := 10) (tgt := 15) dX11_feed_10 (by decide) (fun h_10 => ?_) (fun h_10 => ?_)
  · simp only [w32_mod] at h_10
    refine ww_aload_n hX (pc := 15) dX11_feed_15 rfl ?_
    refine ww_getR hX (pc := 16) fX11_37 (by decide) (xs_49 hL) (xr_49_9 hL) dX11_feed_16 ?_
    refine ww_iconst hX (pc := 19) (x := 0) dX11_feed_19 rfl ?_
    refine ww_iload_n hX (pc := 20) dX11_feed_20 rfl ?_
    refine ww_iast hX (pc := 21) (xs_56 hL) (by decide) (by omega) (by omega) dX11_feed_21 ?_
    refine ww_nmH (fun I_21 eI_21 => ?_)
    have kI_21 : Ch [55, 56] [10] Ia I_21 := by rw [eI_21]; exact Ch_r Ch_rf (by decide) (by decide)
    have cI_21 : RX I_21 := by rw [eI_21]; exact RX_r hQ (by decide)
    have qI_21 := RX_o cI_21
    have f10_I_21 : I_21 49 10 = Ia 49 10 := by rw [eI_21, up2_off _ _ _ (by decide)]
    have g21 : I_21 56 = up1 (Ia 56) 0 a := by rw [eI_21, up2_row]; rfl
    have h21 : I_21 55 = Ia 55 := by rw [eI_21, up2_off _ _ _ (by decide)]
    refine ww_aload_n hX (pc := 22) dX11_feed_22 rfl ?_
    refine ww_getR hX (pc := 23) fX11_37 (by decide) (xs_49 hL) (xr_49_9 hL) dX11_feed_23 ?_
    refine ww_iconst hX (pc := 26) (x := 1) dX11_feed_26 rfl ?_
    refine ww_iload_n hX (pc := 27) dX11_feed_27 rfl ?_
    refine ww_iast hX (pc := 28) (xs_56 hL) (by decide) (by omega) (by omega) dX11_feed_28 ?_
    refine ww_nmH (fun I_28 eI_28 => ?_)
    have kI_28 : Ch [55, 56] [10] Ia I_28 := by rw [eI_28]; exact Ch_r kI_21 (by decide) (by decide)
    have cI_28 : RX I_28 := by rw [eI_28]; exact RX_r cI_21 (by decide)
    have qI_28 := RX_o cI_28
    have f10_I_28 : I_28 49 10 = I_21 49 10 := by rw [eI_28, up2_off _ _ _ (by decide)]
    have g28 : I_28 56 = up1 (up1 (Ia 56) 0 a) 1 b := by rw [eI_28, up2_row, g21]; rfl
    have h28 : I_28 55 = Ia 55 := by rw [eI_28, up2_off _ _ _ (by decide)]; exact h21
    refine ww_aload_n hX (pc := 29) dX11_feed_29 rfl ?_
    refine ww_getR hX (pc := 30) fX11_37 (by decide) (xs_49 hL) (xr_49_9 hL) dX11_feed_30 ?_
    refine ww_iconst hX (pc := 33) (x := 2) dX11_feed_33 rfl ?_
    refine ww_iload_n hX (pc := 34) dX11_feed_34 rfl ?_
    refine ww_iast hX (pc := 35) (xs_56 hL) (by decide) (by omega) (by omega) dX11_feed_35 ?_
    refine ww_nmH (fun I_35 eI_35 => ?_)
    have kI_35 : Ch [55, 56] [10] Ia I_35 := by rw [eI_35]; exact Ch_r kI_28 (by decide) (by decide)
    have cI_35 : RX I_35 := by rw [eI_35]; exact RX_r cI_28 (by decide)
    have qI_35 := RX_o cI_35
    have f10_I_35 : I_35 49 10 = I_28 49 10 := by rw [eI_35, up2_off _ _ _ (by decide)]
    have g35 : I_35 56 = up1 (up1 (up1 (Ia 56) 0 a) 1 b) 2 c := by rw [eI_35, up2_row, g28]; rfl
    have h35 : I_35 55 = Ia 55 := by rw [eI_35, up2_off _ _ _ (by decide)]; exact h28
    refine ww_aload_n hX (pc := 36) dX11_feed_36 rfl ?_
    refine ww_getR hX (pc := 37) fX11_37 (by decide) (xs_49 hL) (xr_49_9 hL) dX11_feed_37 ?_
    refine ww_iconst hX (pc := 40) (x := 3) dX11_feed_40 rfl ?_
    refine ww_iload hX (pc := 41) dX11_feed_41 rfl ?_
    refine ww_iast hX (pc := 43) (xs_56 hL) (by decide) (by omega) (by omega) dX11_feed_43 ?_
    refine ww_nmH (fun I_43 eI_43 => ?_)
    have kI_43 : Ch [55, 56] [10] Ia I_43 := by rw [eI_43]; exact Ch_r kI_35 (by decide) (by decide)
    have cI_43 : RX I_43 := by rw [eI_43]; exact RX_r cI_35 (by decide)
    have qI_43 := RX_o cI_43
    have f10_I_43 : I_43 49 10 = I_35 49 10 := by rw [eI_43, up2_off _ _ _ (by decide)]
    have g43 : I_43 56 = up1 (up1 (up1 (up1 (Ia 56) 0 a) 1 b) 2 c) 3 e := by rw [eI_43, up2_row, g35]; rfl
    have h43 : I_43 55 = Ia 55 := by rw [eI_43, up2_off _ _ _ (by decide)]; exact h35
    refine ww_aload_n hX (pc := 44) dX11_feed_44 rfl ?_
    refine ww_getR hX (pc := 45) fX11_37 (by decide) (xs_49 hL) (xr_49_9 hL) dX11_feed_45 ?_
    refine ww_iconst hX (pc := 48) (x := 4) dX11_feed_48 rfl ?_
    refine ww_iload hX (pc := 49) dX11_feed_49 rfl ?_
    refine ww_iast hX (pc := 51) (xs_56 hL) (by decide) (by omega) (by omega) dX11_feed_51 ?_
    refine ww_nmH (fun I_51 eI_51 => ?_)
    have kI_51 : Ch [55, 56] [10] Ia I_51 := by rw [eI_51]; exact Ch_r kI_43 (by decide) (by decide)
    have cI_51 : RX I_51 := by rw [eI_51]; exact RX_r cI_43 (by decide)
    have qI_51 := RX_o cI_51
    have f10_I_51 : I_51 49 10 = I_43 49 10 := by rw [eI_51, up2_off _ _ _ (by decide)]
    have g51 : I_51 56 = up1 (up1 (up1 (up1 (up1 (Ia 56) 0 a) 1 b) 2 c) 3 e) 4 g := by rw [eI_51, up2_row, g43]; rfl
    have h51 : I_51 55 = Ia 55 := by rw [eI_51, up2_off _ _ _ (by decide)]; exact h43
    refine ww_iconst hX (pc := 52) (x := 0) dX11_feed_52 rfl ?_
    refine ww_istore hX (pc := 53) (lv' := [some (kR (some 49)), some (kI a), some (kI b), some (kI c), some (kI e), some (kI g), some (kI 0)]) dX11_feed_53 (by decide) rfl rfl ?_
    have hl_55 : ∀ (n_55 : Nat) (i : Int) (I55 : aI1) (J55 : aI1), (20 - i).toNat = n_55 → (Ch [55, 56] [10] Ia I55 ∧ RX I55 ∧ Kp 49 73 Ja J55 ∧ I55 49 10 = I_51 49 10 ∧ (0 ≤ i ∧ i ≤ 20) ∧ I55 56 = up1 (up1 (up1 (up1 (up1 (Ia 56) 0 a) 1 b) 2 c) 3 e) 4 g ∧ FIr (Ia 55) (I55 55) (Ia 49 10) a b c e g i) → WW X 55 [some (kR (some 49)), some (kI a), some (kI b), some (kI c), some (kI e), some (kI g), some (kI i)] [] I55 J55 Ra Sa 0 0 := by
      intro n_55
      induction n_55 using Nat.strongRecOn with
      | ind n_55 ih_55 =>
        intro i I55 J55 hm_55 hv_55
        have hq_55 := Sh0_i hm_55
        clear hm_55
        obtain ⟨kI55, cI55, kJ55, f10_I55, hv, gj, hfi⟩ := hv_55
        have qI55 := RX_o cI55
        refine ww_iload hX (pc := 55) dX11_feed_55 rfl ?_
        refine ww_bipush hX (pc := 57) (x := 20) dX11_feed_57 (by decide) ?_
        refine ww_icmp_ge hX (pc := 59) (tgt := 101) dX11_feed_59 (by decide) (fun h_59 => ?_) (fun h_59 => ?_)
        · simp only [w32_mod] at h_59
          refine ww_aload_n hX (pc := 101) dX11_feed_101 rfl ?_
          refine ww_dupR hX (pc := 102) dX11_feed_102 ?_
          refine ww_getI hX (pc := 103) fX11_129 (by decide) (xs_49 hL) dX11_feed_103 ?_
          refine ww_bipush hX (pc := 106) (x := 20) dX11_feed_106 (by decide) ?_
          refine ww_iadd hX (pc := 108) dX11_feed_108 ?_
          refine ww_putI hX (pc := 109) (fun h9 => absurd h9 (by decide)) gX11_129 rfl (xs_49 hL) dX11_feed_109 ?_
          refine ww_nmH (fun I_109 eI_109 => ?_)
          have kI_109 : Ch [55, 56] [10] Ia I_109 := by rw [eI_109]; exact Ch_f kI55 (by decide)
          have cI_109 : RX I_109 := by rw [eI_109]; exact RX_10 cI55 (by omega) (by omega)
          have qI_109 := RX_o cI_109
          have z10 : I_109 49 10 = I55 49 10 + 20 := by rw [eI_109, up2_s]
          have h109 : I_109 55 = I55 55 := by rw [eI_109, up2_off _ _ _ (by decide)]
          refine ww_aload_n hX (pc := 112) dX11_feed_112 rfl ?_
          refine ww_getI hX (pc := 113) fX11_129 (by decide) (xs_49 hL) dX11_feed_113 ?_
          refine rI hX (pc := 116) hT (Nat.le_refl 0) (Nat.le_refl 0) dX11_feed_116 ?_
          exact ⟨kI_109, kJ55, cI_109, (fun _ => ⟨by omega, by omega, by rw [h109]; exact ⟨hfi.1, fun k hk => hfi.2 k (by omega)⟩⟩), (fun h9 => absurd (by omega) h9)⟩
        · simp only [w32_mod] at h_59
          refine ww_aload_n hX (pc := 62) dX11_feed_62 rfl ?_
          refine ww_getR hX (pc := 63) fX11_34 (by decide) (xs_49 hL) (xr_49_8 hL) dX11_feed_63 ?_
          refine ww_aload_n hX (pc := 66) dX11_feed_66 rfl ?_
          refine ww_getI hX (pc := 67) fX11_129 (by decide) (xs_49 hL) dX11_feed_67 ?_
          refine ww_iload hX (pc := 70) dX11_feed_70 rfl ?_
          refine ww_iadd hX (pc := 72) dX11_feed_72 ?_
          refine ww_aload_n hX (pc := 73) dX11_feed_73 rfl ?_
          refine ww_getR hX (pc := 74) fX11_37 (by decide) (xs_49 hL) (xr_49_9 hL) dX11_feed_74 ?_
          refine ww_iload hX (pc := 77) dX11_feed_77 rfl ?_
          refine ww_iconst hX (pc := 79) (x := 4) dX11_feed_79 rfl ?_
          refine ww_idiv hX (pc := 80) dX11_feed_80 (by decide) ?_
          have hd4 : i_div i 4 = i / 4 := i_div_v (by omega) (by omega) (by decide) (by decide)
          refine ww_iald hX (pc := 81) (xs_56 hL) (by decide) (by omega) (by omega) dX11_feed_81 ?_
          refine ww_bipush hX (pc := 82) (x := 24) dX11_feed_82 (by decide) ?_
          refine ww_bipush hX (pc := 84) (x := 8) dX11_feed_84 (by decide) ?_
          refine ww_iload hX (pc := 86) dX11_feed_86 rfl ?_
          refine ww_iconst hX (pc := 88) (x := 4) dX11_feed_88 rfl ?_
          refine ww_irem hX (pc := 89) dX11_feed_89 (by decide) ?_
          have hr4 : i_rem i 4 = i % 4 := i_rem_v (by omega) (by omega) (by decide) (by decide)
          refine ww_imul hX (pc := 90) dX11_feed_90 ?_
          refine ww_isub hX (pc := 91) dX11_feed_91 ?_
          refine ww_ishr hX (pc := 92) dX11_feed_92 ?_
          refine ww_i2b hX (pc := 93) dX11_feed_93 ?_
          refine ww_bast hX (pc := 94) (xs_55 hL) (by decide) (by omega) (by omega) dX11_feed_94 ?_
          refine ww_nmH (fun I_94 eI_94 => ?_)
          have kI_94 : Ch [55, 56] [10] Ia I_94 := by rw [eI_94]; exact Ch_r kI55 (by decide) (by decide)
          have cI_94 : RX I_94 := by rw [eI_94]; exact RX_r cI55 (by decide)
          have qI_94 := RX_o cI_94
          have f10_I_94 : I_94 49 10 = I55 49 10 := by rw [eI_94, up2_off _ _ _ (by decide)]
          have g94 : I_94 56 = up1 (up1 (up1 (up1 (up1 (Ia 56) 0 a) 1 b) 2 c) 3 e) 4 g := by rw [eI_94, up2_off _ _ _ (by decide)]; exact gj
          have t94 : FIr (Ia 55) (I_94 55) (Ia 49 10) a b c e g (i + 1) := by
            rw [eI_94, up2_row]
            refine FIr_s hfi (by omega) (by omega) (by omega) ?_
            rw [hd4, hr4, gj, U5_v _ _ _ _ _ _ (by omega), ib_ib]
          refine ww_iinc hX (pc := 95) (lv' := [some (kR (some 49)), some (kI a), some (kI b), some (kI c), some (kI e), some (kI g), some (kI (i + 1))]) dX11_feed_95 rfl (by decide) rfl rfl ?_
          refine ww_goto hX (pc := 98) (tgt := 55) dX11_feed_98 (by decide) ?_
          exact ih_55 _ (by have hm9 := Sh0_e hq_55; omega) (i + 1) I_94 J55 rfl ⟨kI_94, cI_94, kJ55, by omega, ⟨by omega, by omega⟩, g94, t94⟩
    exact hl_55 _ 0 I_51 Ja rfl ⟨kI_51, cI_51, (Kp_rf (a := 49) (b := 73)), rfl, ⟨by omega, by omega⟩, g51, by rw [h51]; exact FIr_0⟩
  · simp only [w32_mod] at h_10
    refine ww_iconst hX (pc := 13) (x := (-1)) dX11_feed_13 rfl ?_
    refine rI hX (pc := 14) hT (Nat.le_refl 0) (Nat.le_refl 0) dX11_feed_14 ?_
    exact ⟨Ch_rf, (Kp_rf (a := 49) (b := 73)), hQ, (fun h9 => absurd h9 (by omega)), (fun _ => ⟨rfl, rfl, rfl⟩)⟩
set_option maxHeartbeats 4000000 in
set_option maxRecDepth 20000 in
theorem c5_X11_trail (l0 : Launch) {Ia Ja : aI1} {Ra : aR1} {Sa : aS1} (hL : LY Ra Sa) (hQ : RX Ia)  : CT l0 1 0 0 mX11_trail [kR (some 49)] Ia Ja Ra Sa (cI (fun x I' J' => Ch [50, 67] [0, 1, 10, 33] Ia I' ∧ Kp 49 73 Ja J' ∧ RX I' ∧ I' 49 10 = 0 ∧ (Ia 49 10 = 0 → x = -6 ∧ I' 49 33 = Ia 49 33 ∧ I' 67 = Ia 67) ∧ (¬ Ia 49 10 = 0 → x = min (Ia 49 10) 30 ∧ I' 49 33 = min (Ia 49 10) 30 ∧ (∀ j : Nat, (j : Int) < min (Ia 49 10) 30 → I' 67 j = i_and (Ia 55 j) 255))) Ra Sa) := by
  refine ct_in pn_X11 (Nat.le_of_ble_eq_true rfl) (fun X hX hT hIn => ?_)
  have hX : aK l0 X cX11_trail 3 RX11 (some .int) 1 0 0 := hX
  change WW X 0 [some (kR (some 49)), none, none] [] Ia Ja Ra Sa 0 0
  have qIa := RX_o hQ
  refine ww_aload_n hX (pc := 0) dX11_trail_0 rfl ?_
  refine ww_getI hX (pc := 1) fX11_129 (by decide) (xs_49 hL) dX11_trail_1 ?_
  refine ww_nmI (fun v_4 hv_4 => ?_)
  refine ww_istore_n hX (pc := 4) (lv' := [some (kR (some 49)), some (kI v_4), none]) dX11_trail_4 (by decide) rfl rfl ?_
  refine ww_aload_n hX (pc := 5) dX11_trail_5 rfl ?_
  refine ww_iconst hX (pc := 6) (x := 0) dX11_trail_6 rfl ?_
  refine ww_putI hX (pc := 7) (fun h9 => absurd h9 (by decide)) gX11_129 rfl (xs_49 hL) dX11_trail_7 ?_
  refine ww_nmH (fun I_7 eI_7 => ?_)
  have kI_7 : Ch [50, 67] [0, 1, 10, 33] Ia I_7 := by rw [eI_7]; exact Ch_f Ch_rf (by decide)
  have cI_7 : RX I_7 := by rw [eI_7]; exact RX_10 hQ (by omega) (by omega)
  have qI_7 := RX_o cI_7
  have r304_I_7 : I_7 51 304 = Ia 51 304 := by rw [eI_7, up2_off _ _ _ (by decide)]
  have r305_I_7 : I_7 51 305 = Ia 51 305 := by rw [eI_7, up2_off _ _ _ (by decide)]
  have f33_I_7 : I_7 49 33 = Ia 49 33 := by rw [eI_7, up2_n _ _ (Or.inr (by decide))]
  have rf_I_7 : FU (I_7 51 304) = FU (Ia 51 304) := by rw [r304_I_7]
  have z10 : I_7 49 10 = 0 := by rw [eI_7, up2_s]
  have w7 : I_7 55 = Ia 55 := by rw [eI_7, up2_off _ _ _ (by decide)]
  refine ww_iload_n hX (pc := 10) dX11_trail_10 rfl ?_
  refine ww_if_ne hX (pc := 11) (tgt := 21) dX11_trail_11 (by decide) (fun h_11 => ?_) (fun h_11 => ?_)
  · simp only [w32_mod] at h_11
    refine ww_aload_n hX (pc := 21) dX11_trail_21 rfl ?_
    refine ww_iload_n hX (pc := 22) dX11_trail_22 rfl ?_
    refine ww_bipush hX (pc := 23) (x := 30) dX11_trail_23 (by decide) ?_
    refine ww_icmp_ge hX (pc := 25) (tgt := 32) dX11_trail_25 (by decide) (fun h_25 => ?_) (fun h_25 => ?_)
    · simp only [w32_mod] at h_25
      refine ww_bipush hX (pc := 32) (x := 30) dX11_trail_32 (by decide) ?_
      refine ww_putI hX (pc := 34) (fun h9 => absurd h9 (by decide)) gX11_334 rfl (xs_49 hL) dX11_trail_34 ?_
      refine ww_nmH (fun I_34 eI_34 => ?_)
      have kI_34 : Ch [50, 67] [0, 1, 10, 33] Ia I_34 := by rw [eI_34]; exact Ch_f kI_7 (by decide)
      have cI_34 : RX I_34 := by rw [eI_34]; exact RX_33 cI_7 (by omega) (by omega)
      have qI_34 := RX_o cI_34
      have r304_I_34 : I_34 51 304 = I_7 51 304 := by rw [eI_34, up2_off _ _ _ (by decide)]
      have r305_I_34 : I_34 51 305 = I_7 51 305 := by rw [eI_34, up2_off _ _ _ (by decide)]
      have f10_I_34 : I_34 49 10 = I_7 49 10 := by rw [eI_34, up2_n _ _ (Or.inr (by decide))]
      have rf_I_34 : FU (I_34 51 304) = FU (I_7 51 304) := by rw [r304_I_34]
      have z33 : I_34 49 33 = 30 := by rw [eI_34, up2_s]
      have w34 : I_34 55 = Ia 55 := by rw [eI_34, up2_off _ _ _ (by decide)]; exact w7
      refine ww_iconst hX (pc := 37) (x := 0) dX11_trail_37 rfl ?_
      refine ww_istore_n hX (pc := 38) (lv' := [some (kR (some 49)), some (kI v_4), some (kI 0)]) dX11_trail_38 (by decide) rfl rfl ?_
      have hl_39 : ∀ (n_39 : Nat) (i : Int) (I39 : aI1) (J39 : aI1), (30 - i).toNat = n_39 → (Ch [50, 67] [0, 1, 10, 33] Ia I39 ∧ RX I39 ∧ Kp 49 73 Ja J39 ∧ I39 51 304 = I_34 51 304 ∧ I39 51 305 = I_34 51 305 ∧ I39 49 10 = I_34 49 10 ∧ I39 49 33 = I_34 49 33 ∧ (0 ≤ i ∧ i ≤ 30) ∧ I39 55 = Ia 55 ∧ (∀ j : Nat, (j : Int) < i → I39 67 j = i_and (Ia 55 j) 255)) → WW X 39 [some (kR (some 49)), some (kI v_4), some (kI i)] [] I39 J39 Ra Sa 0 0 := by
        intro n_39
        induction n_39 using Nat.strongRecOn with
        | ind n_39 ih_39 =>
          intro i I39 J39 hm_39 hv_39
          have hq_39 := Sh0_i hm_39
          clear hm_39
          obtain ⟨kI39, cI39, kJ39, r304_I39, r305_I39, f10_I39, f33_I39, hv, wj, htj⟩ := hv_39
          have qI39 := RX_o cI39
          have rf_I39 : FU (I39 51 304) = FU (I_34 51 304) := by rw [r304_I39]
          refine ww_iload_n hX (pc := 39) dX11_trail_39 rfl ?_
          refine ww_aload_n hX (pc := 40) dX11_trail_40 rfl ?_
          refine ww_getI hX (pc := 41) fX11_334 (by decide) (xs_49 hL) dX11_trail_41 ?_
          refine ww_icmp_ge hX (pc := 44) (tgt := 69) dX11_trail_44 (by decide) (fun h_44 => ?_) (fun h_44 => ?_)
          · simp only [w32_mod] at h_44
            refine ww_aload_n hX (pc := 69) dX11_trail_69 rfl ?_
            refine ww_aload_n hX (pc := 70) dX11_trail_70 rfl ?_
            refine ww_getI hX (pc := 71) fX11_334 (by decide) (xs_49 hL) dX11_trail_71 ?_
            refine vI1 hX (pc := 74) sX11_109 (xs_49 hL) (c_X11_good l0 hL cI39 ) (by decide) (Nat.le_refl 0) (Nat.le_refl 0) (Nat.le_of_ble_eq_true rfl) dX11_trail_74 (fun x_74 I_74 J_74 h_74 => ?_)
            have kJ_74 : Kp 49 73 Ja J_74 := Kp_tr kJ39 h_74.2.1
            have kI_74 : Ch [50, 67] [0, 1, 10, 33] Ia I_74 := Ch_tr kI39 (Ch_wd h_74.1 (by decide) (by decide))
            have cI_74 : RX I_74 := h_74.2.2.1
            have qI_74 := RX_o cI_74
            have r304_I_74 : I_74 51 304 = I39 51 304 := by rw [h_74.1.1 51 (by decide) (by decide)]
            have r305_I_74 : I_74 51 305 = I39 51 305 := by rw [h_74.1.1 51 (by decide) (by decide)]
            have f10_I_74 : I_74 49 10 = I39 49 10 := h_74.1.2 10 (by decide)
            have f33_I_74 : I_74 49 33 = I39 49 33 := h_74.1.2 33 (by decide)
            have rf_I_74 : FU (I_74 51 304) = FU (I39 51 304) := by rw [r304_I_74]
            have xv74 := h_74.2.2.2
            refine rI hX (pc := 77) hT (Nat.le_refl 0) (Nat.le_refl 0) dX11_trail_77 ?_
            exact ⟨kI_74, kJ_74, cI_74, by omega, (fun h9 => absurd h9 (by omega)), (fun _ => ⟨by omega, by omega, fun j hj => by rw [h_74.1.1 67 (by decide) (by decide)]; exact htj j (by omega)⟩)⟩
          · simp only [w32_mod] at h_44
            refine ww_aload_n hX (pc := 47) dX11_trail_47 rfl ?_
            refine ww_getR hX (pc := 48) fX11_77 (by decide) (xs_49 hL) (xr_49_32 hL) dX11_trail_48 ?_
            refine ww_iload_n hX (pc := 51) dX11_trail_51 rfl ?_
            refine ww_aload_n hX (pc := 52) dX11_trail_52 rfl ?_
            refine ww_getR hX (pc := 53) fX11_34 (by decide) (xs_49 hL) (xr_49_8 hL) dX11_trail_53 ?_
            refine ww_iload_n hX (pc := 56) dX11_trail_56 rfl ?_
            refine ww_bald hX (pc := 57) (xs_55 hL) (by decide) (by omega) (by omega) dX11_trail_57 ?_
            refine ww_sipush hX (pc := 58) (x := 255) dX11_trail_58 (by decide) ?_
            refine ww_iand hX (pc := 61) dX11_trail_61 ?_
            refine ww_iast hX (pc := 62) (xs_67 hL) (by decide) (by omega) (by omega) dX11_trail_62 ?_
            refine ww_nmH (fun I_62 eI_62 => ?_)
            have kI_62 : Ch [50, 67] [0, 1, 10, 33] Ia I_62 := by rw [eI_62]; exact Ch_r kI39 (by decide) (by decide)
            have cI_62 : RX I_62 := by rw [eI_62]; exact RX_r cI39 (by decide)
            have qI_62 := RX_o cI_62
            have r304_I_62 : I_62 51 304 = I39 51 304 := by rw [eI_62, up2_off _ _ _ (by decide)]
            have r305_I_62 : I_62 51 305 = I39 51 305 := by rw [eI_62, up2_off _ _ _ (by decide)]
            have f10_I_62 : I_62 49 10 = I39 49 10 := by rw [eI_62, up2_off _ _ _ (by decide)]
            have f33_I_62 : I_62 49 33 = I39 49 33 := by rw [eI_62, up2_off _ _ _ (by decide)]
            have rf_I_62 : FU (I_62 51 304) = FU (I39 51 304) := by rw [r304_I_62]
            have w62 : I_62 55 = Ia 55 := by rw [eI_62, up2_off _ _ _ (by decide)]; exact wj
            have t62 : ∀ j : Nat, (j : Int) < i + 1 → I_62 67 j = i_and (Ia 55 j) 255 := fun j hj => by
              rw [eI_62, up2_row]
              by_cases e9 : j = i.toNat
              · rw [e9, up1_s, wj]
              · rw [up1_n _ _ e9]; exact htj j (by omega)
            refine ww_iinc hX (pc := 63) (lv' := [some (kR (some 49)), some (kI v_4), some (kI (i + 1))]) dX11_trail_63 rfl (by decide) rfl rfl ?_
            refine ww_goto hX (pc := 66) (tgt := 39) dX11_trail_66 (by decide) ?_
            exact ih_39 _ (by have hm9 := Sh0_e hq_39; omega) (i + 1) I_62 J39 rfl ⟨kI_62, cI_62, kJ39, by omega, by omega, by omega, by omega, ⟨by omega, by omega⟩, w62, t62⟩
      exact hl_39 _ 0 I_34 Ja rfl ⟨kI_34, cI_34, (Kp_rf (a := 49) (b := 73)), rfl, rfl, rfl, rfl, ⟨by omega, by omega⟩, w34, fun j hj => absurd hj (by omega)⟩
    · simp only [w32_mod] at h_25
      refine ww_iload_n hX (pc := 28) dX11_trail_28 rfl ?_
      refine ww_goto hX (pc := 29) (tgt := 34) dX11_trail_29 (by decide) ?_
      refine ww_putI hX (pc := 34) (fun h9 => absurd h9 (by decide)) gX11_334 rfl (xs_49 hL) dX11_trail_34 ?_
      refine ww_nmH (fun I_34 eI_34 => ?_)
      have kI_34 : Ch [50, 67] [0, 1, 10, 33] Ia I_34 := by rw [eI_34]; exact Ch_f kI_7 (by decide)
      have cI_34 : RX I_34 := by rw [eI_34]; exact RX_33 cI_7 (by omega) (by omega)
      have qI_34 := RX_o cI_34
      have r304_I_34 : I_34 51 304 = I_7 51 304 := by rw [eI_34, up2_off _ _ _ (by decide)]
      have r305_I_34 : I_34 51 305 = I_7 51 305 := by rw [eI_34, up2_off _ _ _ (by decide)]
      have f10_I_34 : I_34 49 10 = I_7 49 10 := by rw [eI_34, up2_n _ _ (Or.inr (by decide))]
      have rf_I_34 : FU (I_34 51 304) = FU (I_7 51 304) := by rw [r304_I_34]
      have z33 : I_34 49 33 = v_4 := by rw [eI_34, up2_s]
      have w34 : I_34 55 = Ia 55 := by rw [eI_34, up2_off _ _ _ (by decide)]; exact w7
      refine ww_iconst hX (pc := 37) (x := 0) dX11_trail_37 rfl ?_
      refine ww_istore_n hX (pc := 38) (lv' := [some (kR (some 49)), some (kI v_4), some (kI 0)]) dX11_trail_38 (by decide) rfl rfl ?_
      have hl_39 : ∀ (n_39 : Nat) (i : Int) (I39 : aI1) (J39 : aI1), (30 - i).toNat = n_39 → (Ch [50, 67] [0, 1, 10, 33] Ia I39 ∧ RX I39 ∧ Kp 49 73 Ja J39 ∧ I39 51 304 = I_34 51 304 ∧ I39 51 305 = I_34 51 305 ∧ I39 49 10 = I_34 49 10 ∧ I39 49 33 = I_34 49 33 ∧ (0 ≤ i ∧ i ≤ 30) ∧ I39 55 = Ia 55 ∧ (∀ j : Nat, (j : Int) < i → I39 67 j = i_and (Ia 55 j) 255)) → WW X 39 [some (kR (some 49)), some (kI v_4), some (kI i)] [] I39 J39 Ra Sa 0 0 := by
        intro n_39
        induction n_39 using Nat.strongRecOn with
        | ind n_39 ih_39 =>
          intro i I39 J39 hm_39 hv_39
          have hq_39 := Sh0_i hm_39
          clear hm_39
          obtain ⟨kI39, cI39, kJ39, r304_I39, r305_I39, f10_I39, f33_I39, hv, wj, htj⟩ := hv_39
          have qI39 := RX_o cI39
          have rf_I39 : FU (I39 51 304) = FU (I_34 51 304) := by rw [r304_I39]
          refine ww_iload_n hX (pc := 39) dX11_trail_39 rfl ?_
          refine ww_aload_n hX (pc := 40) dX11_trail_40 rfl ?_
          refine ww_getI hX (pc := 41) fX11_334 (by decide) (xs_49 hL) dX11_trail_41 ?_
          refine ww_icmp_ge hX (pc := 44) (tgt := 69) dX11_trail_44 (by decide) (fun h_44 => ?_) (fun h_44 => ?_)
          · simp only [w32_mod] at h_44
            refine ww_aload_n hX (pc := 69) dX11_trail_69 rfl ?_
            refine ww_aload_n hX (pc := 70) dX11_trail_70 rfl ?_
            refine ww_getI hX (pc := 71) fX11_334 (by decide) (xs_49 hL) dX11_trail_71 ?_
            refine vI1 hX (pc := 74) sX11_109 (xs_49 hL) (c_X11_good l0 hL cI39 ) (by decide) (Nat.le_refl 0) (Nat.le_refl 0) (Nat.le_of_ble_eq_true rfl) dX11_trail_74 (fun x_74 I_74 J_74 h_74 => ?_)
            have kJ_74 : Kp 49 73 Ja J_74 := Kp_tr kJ39 h_74.2.1
            have kI_74 : Ch [50, 67] [0, 1, 10, 33] Ia I_74 := Ch_tr kI39 (Ch_wd h_74.1 (by decide) (by decide))
            have cI_74 : RX I_74 := h_74.2.2.1
            have qI_74 := RX_o cI_74
            have r304_I_74 : I_74 51 304 = I39 51 304 := by rw [h_74.1.1 51 (by decide) (by decide)]
            have r305_I_74 : I_74 51 305 = I39 51 305 := by rw [h_74.1.1 51 (by decide) (by decide)]
            have f10_I_74 : I_74 49 10 = I39 49 10 := h_74.1.2 10 (by decide)
            have f33_I_74 : I_74 49 33 = I39 49 33 := h_74.1.2 33 (by decide)
            have rf_I_74 : FU (I_74 51 304) = FU (I39 51 304) := by rw [r304_I_74]
            have xv74 := h_74.2.2.2
            refine rI hX (pc := 77) hT (Nat.le_refl 0) (Nat.le_refl 0) dX11_trail_77 ?_
            exact ⟨kI_74, kJ_74, cI_74, by omega, (fun h9 => absurd h9 (by omega)), (fun _ => ⟨by omega, by omega, fun j hj => by rw [h_74.1.1 67 (by decide) (by decide)]; exact htj j (by omega)⟩)⟩
          · simp only [w32_mod] at h_44
            refine ww_aload_n hX (pc := 47) dX11_trail_47 rfl ?_
            refine ww_getR hX (pc := 48) fX11_77 (by decide) (xs_49 hL) (xr_49_32 hL) dX11_trail_48 ?_
            refine ww_iload_n hX (pc := 51) dX11_trail_51 rfl ?_
            refine ww_aload_n hX (pc := 52) dX11_trail_52 rfl ?_
            refine ww_getR hX (pc := 53) fX11_34 (by decide) (xs_49 hL) (xr_49_8 hL) dX11_trail_53 ?_
            refine ww_iload_n hX (pc := 56) dX11_trail_56 rfl ?_
            refine ww_bald hX (pc := 57) (xs_55 hL) (by decide) (by omega) (by omega) dX11_trail_57 ?_
            refine ww_sipush hX (pc := 58) (x := 255) dX11_trail_58 (by decide) ?_
            refine ww_iand hX (pc := 61) dX11_trail_61 ?_
            refine ww_iast hX (pc := 62) (xs_67 hL) (by decide) (by omega) (by omega) dX11_trail_62 ?_
            refine ww_nmH (fun I_62 eI_62 => ?_)
            have kI_62 : Ch [50, 67] [0, 1, 10, 33] Ia I_62 := by rw [eI_62]; exact Ch_r kI39 (by decide) (by decide)
            have cI_62 : RX I_62 := by rw [eI_62]; exact RX_r cI39 (by decide)
            have qI_62 := RX_o cI_62
            have r304_I_62 : I_62 51 304 = I39 51 304 := by rw [eI_62, up2_off _ _ _ (by decide)]
            have r305_I_62 : I_62 51 305 = I39 51 305 := by rw [eI_62, up2_off _ _ _ (by decide)]
            have f10_I_62 : I_62 49 10 = I39 49 10 := by rw [eI_62, up2_off _ _ _ (by decide)]
            have f33_I_62 : I_62 49 33 = I39 49 33 := by rw [eI_62, up2_off _ _ _ (by decide)]
            have rf_I_62 : FU (I_62 51 304) = FU (I39 51 304) := by rw [r304_I_62]
            have w62 : I_62 55 = Ia 55 := by rw [eI_62, up2_off _ _ _ (by decide)]; exact wj
            have t62 : ∀ j : Nat, (j : Int) < i + 1 → I_62 67 j = i_and (Ia 55 j) 255 := fun j hj => by
              rw [eI_62, up2_row]
              by_cases e9 : j = i.toNat
              · rw [e9, up1_s, wj]
              · rw [up1_n _ _ e9]; exact htj j (by omega)
            refine ww_iinc hX (pc := 63) (lv' := [some (kR (some 49)), some (kI v_4), some (kI (i + 1))]) dX11_trail_63 rfl (by decide) rfl rfl ?_
            refine ww_goto hX (pc := 66) (tgt := 39) dX11_trail_66 (by decide) ?_
            exact ih_39 _ (by have hm9 := Sh0_e hq_39; omega) (i + 1) I_62 J39 rfl ⟨kI_62, cI_62, kJ39, by omega, by omega, by omega, by omega, ⟨by omega, by omega⟩, w62, t62⟩
      exact hl_39 _ 0 I_34 Ja rfl ⟨kI_34, cI_34, (Kp_rf (a := 49) (b := 73)), rfl, rfl, rfl, rfl, ⟨by omega, by omega⟩, w34, fun j hj => absurd hj (by omega)⟩
  · simp only [w32_mod] at h_11
    refine ww_aload_n hX (pc := 14) dX11_trail_14 rfl ?_
    refine ww_bipush hX (pc := 15) (x := (-6)) dX11_trail_15 (by decide) ?_
    refine vI1 hX (pc := 17) sX11_105 (xs_49 hL) (c_X11_refuses l0 hL cI_7 (by omega) (by omega)) (by decide) (Nat.le_refl 0) (Nat.le_refl 0) (Nat.le_of_ble_eq_true rfl) dX11_trail_17 (fun x_17 I_17 J_17 h_17 => ?_)
    have kJ_17 : Kp 49 73 Ja J_17 := Kp_tr (Kp_rf (a := 49) (b := 73)) h_17.2.1
    have kI_17 : Ch [50, 67] [0, 1, 10, 33] Ia I_17 := Ch_tr kI_7 (Ch_wd h_17.1 (by decide) (by decide))
    have cI_17 : RX I_17 := h_17.2.2.1
    have qI_17 := RX_o cI_17
    have r304_I_17 : I_17 51 304 = I_7 51 304 := by rw [h_17.1.1 51 (by decide) (by decide)]
    have r305_I_17 : I_17 51 305 = I_7 51 305 := by rw [h_17.1.1 51 (by decide) (by decide)]
    have f10_I_17 : I_17 49 10 = I_7 49 10 := h_17.1.2 10 (by decide)
    have f33_I_17 : I_17 49 33 = I_7 49 33 := h_17.1.2 33 (by decide)
    have rf_I_17 : FU (I_17 51 304) = FU (I_7 51 304) := by rw [r304_I_17]
    have xv17 := h_17.2.2.2
    refine rI hX (pc := 20) hT (Nat.le_refl 0) (Nat.le_refl 0) dX11_trail_20 ?_
    exact ⟨kI_17, kJ_17, cI_17, by omega, (fun _ => ⟨by omega, by omega, by rw [h_17.1.1 67 (by decide) (by decide), eI_7, up2_off _ _ _ (by decide)]⟩), (fun h9 => absurd (by omega) h9)⟩
set_option maxHeartbeats 4000000 in
set_option maxRecDepth 20000 in
theorem c5_X11_readMany (l0 : Launch) {Ia Ja : aI1} {Ra : aR1} {Sa : aS1} (hL : LY Ra Sa) (hQ : RX Ia) (hcr : ∀ t : Nat, (t : Int) ≤ FU (Ia 51 304) → -1 ≤ Ia 51 t ∧ Ia 51 t ≤ 7)  : CT l0 1 0 0 mX11_readMany [kR (some 49)] Ia Ja Ra Sa (cI (fun x I' J' => Ia = I' ∧ Ja = J' ∧ x = cnR (Ia 51) (FU (Ia 51 304) + 1).toNat) Ra Sa) := by
  refine ct_in pn_X11 (Nat.le_of_ble_eq_true rfl) (fun X hX hT hIn => ?_)
  have hX : aK l0 X cX11_readMany 3 RX11 (some .int) 1 0 0 := hX
  change WW X 0 [some (kR (some 49)), none, none] [] Ia Ja Ra Sa 0 0
  have qIa := RX_o hQ
  refine ww_iconst hX (pc := 0) (x := 0) dX11_readMany_0 rfl ?_
  refine ww_istore_n hX (pc := 1) (lv' := [some (kR (some 49)), some (kI 0), none]) dX11_readMany_1 (by decide) rfl rfl ?_
  refine ww_iconst hX (pc := 2) (x := 0) dX11_readMany_2 rfl ?_
  refine ww_istore_n hX (pc := 3) (lv' := [some (kR (some 49)), some (kI 0), some (kI 0)]) dX11_readMany_3 (by decide) rfl rfl ?_
  have hl_4 : ∀ (n_4 : Nat) (n : Int) (i : Int), (256 - i).toNat = n_4 → ((0 ≤ i ∧ i ≤ FU (Ia 51 304) + 1) ∧ n = cnR (Ia 51) i.toNat) → WW X 4 [some (kR (some 49)), some (kI n), some (kI i)] [] Ia Ja Ra Sa 0 0 := by
    intro n_4
    induction n_4 using Nat.strongRecOn with
    | ind n_4 ih_4 =>
      intro n i hm_4 hv_4
      have hq_4 := Sh0_i hm_4
      clear hm_4
      obtain ⟨hv, hn⟩ := hv_4
      refine ww_iload_n hX (pc := 4) dX11_readMany_4 rfl ?_
      refine ww_aload_n hX (pc := 5) dX11_readMany_5 rfl ?_
      refine vI0 hX (pc := 6) sX11_112 (xs_49 hL) (c_X11_states l0 hL hQ ) (by decide) (Nat.le_refl 0) (Nat.le_refl 0) (Nat.le_of_ble_eq_true rfl) dX11_readMany_6 (fun x_6 I_6 J_6 h_6 => ?_)
      obtain ⟨rfl, rfl, h_6⟩ := h_6
      refine ww_icmp_ge hX (pc := 9) (tgt := 35) dX11_readMany_9 (by decide) (fun h_9 => ?_) (fun h_9 => ?_)
      · simp only [w32_mod] at h_9
        refine ww_iload_n hX (pc := 35) dX11_readMany_35 rfl ?_
        refine rI hX (pc := 36) hT (Nat.le_refl 0) (Nat.le_refl 0) dX11_readMany_36 ?_
        exact ⟨rfl, rfl, (by rw [hn, show i = FU (Ia 51 304) + 1 by omega])⟩
      · simp only [w32_mod] at h_9
        have hcd := hcr i.toNat (by omega)
        have hcs := cnR_s (Ia 51) (i := i) (by omega)
        refine ww_iload_n hX (pc := 12) dX11_readMany_12 rfl ?_
        refine ww_aload_n hX (pc := 13) dX11_readMany_13 rfl ?_
        refine ww_iload_n hX (pc := 14) dX11_readMany_14 rfl ?_
        refine vI1 hX (pc := 15) sX11_126 (xs_49 hL) (c_X11_readOf l0 hL hQ (by omega) (by omega)) (by decide) (Nat.le_refl 0) (Nat.le_refl 0) (Nat.le_of_ble_eq_true rfl) dX11_readMany_15 (fun x_15 I_15 J_15 h_15 => ?_)
        obtain ⟨rfl, rfl, h_15⟩ := h_15
        refine ww_iconst hX (pc := 18) (x := (-1)) dX11_readMany_18 rfl ?_
        refine ww_icmp_ne hX (pc := 19) (tgt := 26) dX11_readMany_19 (by decide) (fun h_19 => ?_) (fun h_19 => ?_)
        · simp only [w32_mod] at h_19
          rw [if_neg (by omega)] at hcs
          refine ww_iconst hX (pc := 26) (x := 1) dX11_readMany_26 rfl ?_
          refine ww_iadd hX (pc := 27) dX11_readMany_27 ?_
          refine ww_nmI (fun v_28 hv_28 => ?_)
          refine ww_istore_n hX (pc := 28) (lv' := [some (kR (some 49)), some (kI v_28), some (kI i)]) dX11_readMany_28 (by decide) rfl rfl ?_
          refine ww_iinc hX (pc := 29) (lv' := [some (kR (some 49)), some (kI v_28), some (kI (i + 1))]) dX11_readMany_29 rfl (by decide) rfl rfl ?_
          refine ww_goto hX (pc := 32) (tgt := 4) dX11_readMany_32 (by decide) ?_
          exact ih_4 _ (by have hm9 := Sh0_e hq_4; omega) v_28 (i + 1) rfl ⟨⟨by omega, by omega⟩, by omega⟩
        · simp only [w32_mod] at h_19
          rw [if_pos (by omega)] at hcs
          refine ww_iconst hX (pc := 22) (x := 0) dX11_readMany_22 rfl ?_
          refine ww_goto hX (pc := 23) (tgt := 27) dX11_readMany_23 (by decide) ?_
          refine ww_iadd hX (pc := 27) dX11_readMany_27 ?_
          refine ww_nmI (fun v_28 hv_28 => ?_)
          refine ww_istore_n hX (pc := 28) (lv' := [some (kR (some 49)), some (kI v_28), some (kI i)]) dX11_readMany_28 (by decide) rfl rfl ?_
          refine ww_iinc hX (pc := 29) (lv' := [some (kR (some 49)), some (kI v_28), some (kI (i + 1))]) dX11_readMany_29 rfl (by decide) rfl rfl ?_
          refine ww_goto hX (pc := 32) (tgt := 4) dX11_readMany_32 (by decide) ?_
          exact ih_4 _ (by have hm9 := Sh0_e hq_4; omega) v_28 (i + 1) rfl ⟨⟨by omega, by omega⟩, by omega⟩
  exact hl_4 _ 0 0 rfl ⟨⟨by omega, by omega⟩, rfl⟩
set_option maxHeartbeats 4000000 in
set_option maxRecDepth 20000 in
theorem c5_X11_row (l0 : Launch) {Ia Ja : aI1} {Ra : aR1} {Sa : aS1} (hL : LY Ra Sa) (hQ : RX Ia) (hbr : ∀ j : Nat, (j : Int) < Ia 49 10 → -128 ≤ Ia 55 j ∧ Ia 55 j ≤ 127)  : CT l0 2 0 0 mX11_row [kR (some 49)] Ia Ja Ra Sa (cI (fun x I' J' => Ch [50, 51] [0, 1, 6, 10] Ia I' ∧ Kp 49 73 Ja J' ∧ RX I' ∧ I' 49 10 = 0 ∧ (Ia 49 10 = 0 → x = -6 ∧ I' 49 6 = Ia 49 6 ∧ I' 51 = Ia 51) ∧ (¬ Ia 49 10 = 0 → I' 49 6 = max 0 (Ia 49 10 - (FU (Ia 51 304) + 1)) ∧ (∀ j : Nat, I' 51 j = if (j : Int) < FU (Ia 51 304) + 1 then RWv (Ia 55) (Ia 49 10) (Ia 51 305) j else Ia 51 j) ∧ x = cnR (I' 51) (FU (Ia 51 304) + 1).toNat)) Ra Sa) := by
  refine ct_in pn_X11 (Nat.le_of_ble_eq_true rfl) (fun X hX hT hIn => ?_)
  have hX : aK l0 X cX11_row 3 RX11 (some .int) 2 0 0 := hX
  change WW X 0 [some (kR (some 49)), none, none] [] Ia Ja Ra Sa 0 0
  have qIa := RX_o hQ
  refine ww_aload_n hX (pc := 0) dX11_row_0 rfl ?_
  refine ww_getI hX (pc := 1) fX11_129 (by decide) (xs_49 hL) dX11_row_1 ?_
  refine ww_nmI (fun v_4 hv_4 => ?_)
  refine ww_istore_n hX (pc := 4) (lv' := [some (kR (some 49)), some (kI v_4), none]) dX11_row_4 (by decide) rfl rfl ?_
  refine ww_aload_n hX (pc := 5) dX11_row_5 rfl ?_
  refine ww_iconst hX (pc := 6) (x := 0) dX11_row_6 rfl ?_
  refine ww_putI hX (pc := 7) (fun h9 => absurd h9 (by decide)) gX11_129 rfl (xs_49 hL) dX11_row_7 ?_
  refine ww_nmH (fun I_7 eI_7 => ?_)
  have kI_7 : Ch [50, 51] [0, 1, 6, 10] Ia I_7 := by rw [eI_7]; exact Ch_f Ch_rf (by decide)
  have cI_7 : RX I_7 := by rw [eI_7]; exact RX_10 hQ (by omega) (by omega)
  have qI_7 := RX_o cI_7
  have r304_I_7 : I_7 51 304 = Ia 51 304 := by rw [eI_7, up2_off _ _ _ (by decide)]
  have r305_I_7 : I_7 51 305 = Ia 51 305 := by rw [eI_7, up2_off _ _ _ (by decide)]
  have f6_I_7 : I_7 49 6 = Ia 49 6 := by rw [eI_7, up2_n _ _ (Or.inr (by decide))]
  have rf_I_7 : FU (I_7 51 304) = FU (Ia 51 304) := by rw [r304_I_7]
  have z10 : I_7 49 10 = 0 := by rw [eI_7, up2_s]
  have w7 : I_7 55 = Ia 55 := by rw [eI_7, up2_off _ _ _ (by decide)]
  have g7 : I_7 51 = Ia 51 := by rw [eI_7, up2_off _ _ _ (by decide)]
  refine ww_iload_n hX (pc := 10) dX11_row_10 rfl ?_
  refine ww_if_ne hX (pc := 11) (tgt := 21) dX11_row_11 (by decide) (fun h_11 => ?_) (fun h_11 => ?_)
  · simp only [w32_mod] at h_11
    refine ww_iconst hX (pc := 21) (x := 0) dX11_row_21 rfl ?_
    refine ww_istore_n hX (pc := 22) (lv' := [some (kR (some 49)), some (kI v_4), some (kI 0)]) dX11_row_22 (by decide) rfl rfl ?_
    have hl_23 : ∀ (n_23 : Nat) (i : Int) (I23 : aI1) (J23 : aI1), (256 - i).toNat = n_23 → (Ch [50, 51] [0, 1, 6, 10] Ia I23 ∧ RX I23 ∧ Kp 49 73 Ja J23 ∧ I23 51 304 = I_7 51 304 ∧ I23 51 305 = I_7 51 305 ∧ I23 49 6 = I_7 49 6 ∧ I23 49 10 = I_7 49 10 ∧ (0 ≤ i ∧ i ≤ FU (Ia 51 304) + 1) ∧ I23 55 = Ia 55 ∧ (∀ j : Nat, I23 51 j = if (j : Int) < i then RWv (Ia 55) (Ia 49 10) (Ia 51 305) j else Ia 51 j)) → WW X 23 [some (kR (some 49)), some (kI v_4), some (kI i)] [] I23 J23 Ra Sa 0 0 := by
      intro n_23
      induction n_23 using Nat.strongRecOn with
      | ind n_23 ih_23 =>
        intro i I23 J23 hm_23 hv_23
        have hq_23 := Sh0_i hm_23
        clear hm_23
        obtain ⟨kI23, cI23, kJ23, r304_I23, r305_I23, f6_I23, f10_I23, hv, wj, hej⟩ := hv_23
        have qI23 := RX_o cI23
        have rf_I23 : FU (I23 51 304) = FU (I_7 51 304) := by rw [r304_I23]
        refine ww_iload_n hX (pc := 23) dX11_row_23 rfl ?_
        refine ww_aload_n hX (pc := 24) dX11_row_24 rfl ?_
        refine vI0 hX (pc := 25) sX11_112 (xs_49 hL) (c_X11_states l0 hL cI23 ) (by decide) (Nat.le_refl 0) (Nat.le_refl 0) (Nat.le_of_ble_eq_true rfl) dX11_row_25 (fun x_25 I_25 J_25 h_25 => ?_)
        obtain ⟨rfl, rfl, h_25⟩ := h_25
        refine ww_icmp_ge hX (pc := 28) (tgt := 73) dX11_row_28 (by decide) (fun h_28 => ?_) (fun h_28 => ?_)
        · simp only [w32_mod] at h_28
          refine ww_aload_n hX (pc := 73) dX11_row_73 rfl ?_
          refine ww_iconst hX (pc := 74) (x := 0) dX11_row_74 rfl ?_
          refine ww_iload_n hX (pc := 75) dX11_row_75 rfl ?_
          refine ww_aload_n hX (pc := 76) dX11_row_76 rfl ?_
          refine vI0 hX (pc := 77) sX11_112 (xs_49 hL) (c_X11_states l0 hL cI23 ) (by decide) (Nat.le_refl 0) (Nat.le_refl 0) (Nat.le_of_ble_eq_true rfl) dX11_row_77 (fun x_77 I_77 J_77 h_77 => ?_)
          obtain ⟨rfl, rfl, h_77⟩ := h_77
          refine ww_isub hX (pc := 80) dX11_row_80 ?_
          refine sI2 hX (pc := 81) sX11_132 (c_X11_greater l0 (by omega) (by omega) (by omega) (by omega)) (by decide) (Nat.le_refl 0) (Nat.le_refl 0) (Nat.le_of_ble_eq_true rfl) dX11_row_81 (fun x_81 I_81 J_81 h_81 => ?_)
          obtain ⟨rfl, rfl, h_81⟩ := h_81
          refine ww_putI hX (pc := 84) (fun h9 => absurd h9 (by decide)) gX11_136 rfl (xs_49 hL) dX11_row_84 ?_
          refine ww_nmH (fun I_84 eI_84 => ?_)
          have kI_84 : Ch [50, 51] [0, 1, 6, 10] Ia I_84 := by rw [eI_84]; exact Ch_f kI23 (by decide)
          have cI_84 : RX I_84 := by rw [eI_84]; exact RX_f cI23 (by decide)
          have qI_84 := RX_o cI_84
          have r304_I_84 : I_84 51 304 = I23 51 304 := by rw [eI_84, up2_off _ _ _ (by decide)]
          have r305_I_84 : I_84 51 305 = I23 51 305 := by rw [eI_84, up2_off _ _ _ (by decide)]
          have f10_I_84 : I_84 49 10 = I23 49 10 := by rw [eI_84, up2_n _ _ (Or.inr (by decide))]
          have rf_I_84 : FU (I_84 51 304) = FU (I23 51 304) := by rw [r304_I_84]
          have z6 : I_84 49 6 = x_81 := by rw [eI_84, up2_s]
          have g84 : I_84 51 = I23 51 := by rw [eI_84, up2_off _ _ _ (by decide)]
          have hcr9 : ∀ t : Nat, (t : Int) ≤ FU (I_84 51 304) → -1 ≤ I_84 51 t ∧ I_84 51 t ≤ 7 := fun t ht => by
            rw [g84, hej t, if_pos (by omega)]
            unfold RWv
            split <;> omega
          refine ww_aload_n hX (pc := 87) dX11_row_87 rfl ?_
          refine ww_aload_n hX (pc := 88) dX11_row_88 rfl ?_
          refine vI0 hX (pc := 89) sX11_139 (xs_49 hL) (c5_X11_readMany l0 hL cI_84 hcr9) (by decide) (Nat.le_refl 0) (Nat.le_refl 0) (Nat.le_of_ble_eq_true rfl) dX11_row_89 (fun x_89 I_89 J_89 h_89 => ?_)
          obtain ⟨rfl, rfl, h_89⟩ := h_89
          refine vI1 hX (pc := 92) sX11_109 (xs_49 hL) (c_X11_good l0 hL cI_84 ) (by decide) (Nat.le_refl 0) (Nat.le_refl 0) (Nat.le_of_ble_eq_true rfl) dX11_row_92 (fun x_92 I_92 J_92 h_92 => ?_)
          have kJ_92 : Kp 49 73 Ja J_92 := Kp_tr kJ23 h_92.2.1
          have kI_92 : Ch [50, 51] [0, 1, 6, 10] Ia I_92 := Ch_tr kI_84 (Ch_wd h_92.1 (by decide) (by decide))
          have cI_92 : RX I_92 := h_92.2.2.1
          have qI_92 := RX_o cI_92
          have r304_I_92 : I_92 51 304 = I_84 51 304 := by rw [h_92.1.1 51 (by decide) (by decide)]
          have r305_I_92 : I_92 51 305 = I_84 51 305 := by rw [h_92.1.1 51 (by decide) (by decide)]
          have f6_I_92 : I_92 49 6 = I_84 49 6 := h_92.1.2 6 (by decide)
          have f10_I_92 : I_92 49 10 = I_84 49 10 := h_92.1.2 10 (by decide)
          have rf_I_92 : FU (I_92 51 304) = FU (I_84 51 304) := by rw [r304_I_92]
          have xv92 := h_92.2.2.2
          refine rI hX (pc := 95) hT (Nat.le_refl 0) (Nat.le_refl 0) dX11_row_95 ?_
          exact ⟨kI_92, kJ_92, cI_92, by omega, (fun h9 => absurd h9 (by omega)), (fun _ => ⟨by omega, (fun j => by rw [h_92.1.1 51 (by decide) (by decide), g84, hej j, show i = FU (Ia 51 304) + 1 by omega]), by rw [xv92, h_89, h_92.1.1 51 (by decide) (by decide), rf_I_84, rf_I23]; exact congrArg (fun z : Int => cnR (I_84 51) (z + 1).toNat) (by omega)⟩)⟩
        · simp only [w32_mod] at h_28
          refine ww_aload_n hX (pc := 31) dX11_row_31 rfl ?_
          refine ww_getR hX (pc := 32) fX11_20 (by decide) (xs_49 hL) (xr_49_3 hL) dX11_row_32 ?_
          refine ww_iconst hX (pc := 35) (x := 0) dX11_row_35 rfl ?_
          refine ww_iload_n hX (pc := 36) dX11_row_36 rfl ?_
          refine ww_iadd hX (pc := 37) dX11_row_37 ?_
          refine ww_iload_n hX (pc := 38) dX11_row_38 rfl ?_
          refine ww_iload_n hX (pc := 39) dX11_row_39 rfl ?_
          refine ww_icmp_ge hX (pc := 40) (tgt := 65) dX11_row_40 (by decide) (fun h_40 => ?_) (fun h_40 => ?_)
          · simp only [w32_mod] at h_40
            refine ww_iconst hX (pc := 65) (x := (-1)) dX11_row_65 rfl ?_
            refine ww_iast hX (pc := 66) (xs_51 hL) (by decide) (by omega) (by omega) dX11_row_66 ?_
            refine ww_nmH (fun I_66 eI_66 => ?_)
            have kI_66 : Ch [50, 51] [0, 1, 6, 10] Ia I_66 := by rw [eI_66]; exact Ch_r kI23 (by decide) (by decide)
            have cI_66 : RX I_66 := by rw [eI_66]; exact RX_lo cI23 (by omega)
            have qI_66 := RX_o cI_66
            have r304_I_66 : I_66 51 304 = I23 51 304 := by rw [eI_66, up2_n _ _ (Or.inr (by omega))]
            have r305_I_66 : I_66 51 305 = I23 51 305 := by rw [eI_66, up2_n _ _ (Or.inr (by omega))]
            have f6_I_66 : I_66 49 6 = I23 49 6 := by rw [eI_66, up2_off _ _ _ (by decide)]
            have f10_I_66 : I_66 49 10 = I23 49 10 := by rw [eI_66, up2_off _ _ _ (by decide)]
            have rf_I_66 : FU (I_66 51 304) = FU (I23 51 304) := by rw [r304_I_66]
            have w66 : I_66 55 = Ia 55 := by rw [eI_66, up2_off _ _ _ (by decide)]; exact wj
            have t66 : ∀ j : Nat, I_66 51 j = if (j : Int) < i + 1 then RWv (Ia 55) (Ia 49 10) (Ia 51 305) j else Ia 51 j := fun j => by
              rw [eI_66, up2_row]
              by_cases e9 : j = (0 + i).toNat
              · rw [e9, up1_s, if_pos (by omega)]
                unfold RWv
                rw [← wj, show (0 + i).toNat = i.toNat by omega]
                first
                | rw [if_pos ⟨by omega, by omega, by omega⟩]
                | rw [if_neg (by omega)]
              · rw [up1_n _ _ e9, hej j]
                by_cases e8 : (j : Int) < i
                · rw [if_pos e8, if_pos (by omega)]
                · rw [if_neg e8, if_neg (by omega)]
            refine ww_iinc hX (pc := 67) (lv' := [some (kR (some 49)), some (kI v_4), some (kI (i + 1))]) dX11_row_67 rfl (by decide) rfl rfl ?_
            refine ww_goto hX (pc := 70) (tgt := 23) dX11_row_70 (by decide) ?_
            exact ih_23 _ (by have hm9 := Sh0_e hq_23; omega) (i + 1) I_66 J23 rfl ⟨kI_66, cI_66, kJ23, by omega, by omega, by omega, by omega, ⟨by omega, by omega⟩, w66, t66⟩
          · simp only [w32_mod] at h_40
            have hb9 := hbr i.toNat (by omega)
            rw [← wj] at hb9
            refine ww_aload_n hX (pc := 43) dX11_row_43 rfl ?_
            refine ww_aload_n hX (pc := 44) dX11_row_44 rfl ?_
            refine ww_getR hX (pc := 45) fX11_34 (by decide) (xs_49 hL) (xr_49_8 hL) dX11_row_45 ?_
            refine ww_iload_n hX (pc := 48) dX11_row_48 rfl ?_
            refine ww_bald hX (pc := 49) (xs_55 hL) (by decide) (by omega) (by omega) dX11_row_49 ?_
            refine vI1 hX (pc := 50) sX11_123 (xs_49 hL) (c_X11_isNews l0 hL cI23 (by omega) (by omega)) (by decide) (Nat.le_refl 0) (Nat.le_refl 0) (Nat.le_of_ble_eq_true rfl) dX11_row_50 (fun x_50 I_50 J_50 h_50 => ?_)
            obtain ⟨rfl, rfl, h_50⟩ := h_50
            refine ww_if_eq hX (pc := 53) (tgt := 65) dX11_row_53 (by decide) (fun h_53 => ?_) (fun h_53 => ?_)
            · simp only [w32_mod] at h_53
              refine ww_iconst hX (pc := 65) (x := (-1)) dX11_row_65 rfl ?_
              refine ww_iast hX (pc := 66) (xs_51 hL) (by decide) (by omega) (by omega) dX11_row_66 ?_
              refine ww_nmH (fun I_66 eI_66 => ?_)
              have kI_66 : Ch [50, 51] [0, 1, 6, 10] Ia I_66 := by rw [eI_66]; exact Ch_r kI23 (by decide) (by decide)
              have cI_66 : RX I_66 := by rw [eI_66]; exact RX_lo cI23 (by omega)
              have qI_66 := RX_o cI_66
              have r304_I_66 : I_66 51 304 = I23 51 304 := by rw [eI_66, up2_n _ _ (Or.inr (by omega))]
              have r305_I_66 : I_66 51 305 = I23 51 305 := by rw [eI_66, up2_n _ _ (Or.inr (by omega))]
              have f6_I_66 : I_66 49 6 = I23 49 6 := by rw [eI_66, up2_off _ _ _ (by decide)]
              have f10_I_66 : I_66 49 10 = I23 49 10 := by rw [eI_66, up2_off _ _ _ (by decide)]
              have rf_I_66 : FU (I_66 51 304) = FU (I23 51 304) := by rw [r304_I_66]
              have w66 : I_66 55 = Ia 55 := by rw [eI_66, up2_off _ _ _ (by decide)]; exact wj
              have t66 : ∀ j : Nat, I_66 51 j = if (j : Int) < i + 1 then RWv (Ia 55) (Ia 49 10) (Ia 51 305) j else Ia 51 j := fun j => by
                rw [eI_66, up2_row]
                by_cases e9 : j = (0 + i).toNat
                · rw [e9, up1_s, if_pos (by omega)]
                  unfold RWv
                  rw [← wj, show (0 + i).toNat = i.toNat by omega]
                  first
                  | rw [if_pos ⟨by omega, by omega, by omega⟩]
                  | rw [if_neg (by omega)]
                · rw [up1_n _ _ e9, hej j]
                  by_cases e8 : (j : Int) < i
                  · rw [if_pos e8, if_pos (by omega)]
                  · rw [if_neg e8, if_neg (by omega)]
              refine ww_iinc hX (pc := 67) (lv' := [some (kR (some 49)), some (kI v_4), some (kI (i + 1))]) dX11_row_67 rfl (by decide) rfl rfl ?_
              refine ww_goto hX (pc := 70) (tgt := 23) dX11_row_70 (by decide) ?_
              exact ih_23 _ (by have hm9 := Sh0_e hq_23; omega) (i + 1) I_66 J23 rfl ⟨kI_66, cI_66, kJ23, by omega, by omega, by omega, by omega, ⟨by omega, by omega⟩, w66, t66⟩
            · simp only [w32_mod] at h_53
              have k_50 := h_50.2.mp (by omega)
              clear h_50
              refine ww_aload_n hX (pc := 56) dX11_row_56 rfl ?_
              refine ww_getR hX (pc := 57) fX11_34 (by decide) (xs_49 hL) (xr_49_8 hL) dX11_row_57 ?_
              refine ww_iload_n hX (pc := 60) dX11_row_60 rfl ?_
              refine ww_bald hX (pc := 61) (xs_55 hL) (by decide) (by omega) (by omega) dX11_row_61 ?_
              refine ww_goto hX (pc := 62) (tgt := 66) dX11_row_62 (by decide) ?_
              refine ww_iast hX (pc := 66) (xs_51 hL) (by decide) (by omega) (by omega) dX11_row_66 ?_
              refine ww_nmH (fun I_66 eI_66 => ?_)
              have kI_66 : Ch [50, 51] [0, 1, 6, 10] Ia I_66 := by rw [eI_66]; exact Ch_r kI23 (by decide) (by decide)
              have cI_66 : RX I_66 := by rw [eI_66]; exact RX_lo cI23 (by omega)
              have qI_66 := RX_o cI_66
              have r304_I_66 : I_66 51 304 = I23 51 304 := by rw [eI_66, up2_n _ _ (Or.inr (by omega))]
              have r305_I_66 : I_66 51 305 = I23 51 305 := by rw [eI_66, up2_n _ _ (Or.inr (by omega))]
              have f6_I_66 : I_66 49 6 = I23 49 6 := by rw [eI_66, up2_off _ _ _ (by decide)]
              have f10_I_66 : I_66 49 10 = I23 49 10 := by rw [eI_66, up2_off _ _ _ (by decide)]
              have rf_I_66 : FU (I_66 51 304) = FU (I23 51 304) := by rw [r304_I_66]
              have w66 : I_66 55 = Ia 55 := by rw [eI_66, up2_off _ _ _ (by decide)]; exact wj
              have t66 : ∀ j : Nat, I_66 51 j = if (j : Int) < i + 1 then RWv (Ia 55) (Ia 49 10) (Ia 51 305) j else Ia 51 j := fun j => by
                rw [eI_66, up2_row]
                by_cases e9 : j = (0 + i).toNat
                · rw [e9, up1_s, if_pos (by omega)]
                  unfold RWv
                  rw [← wj, show (0 + i).toNat = i.toNat by omega]
                  first
                  | rw [if_pos ⟨by omega, by omega, by omega⟩]
                  | rw [if_neg (by omega)]
                · rw [up1_n _ _ e9, hej j]
                  by_cases e8 : (j : Int) < i
                  · rw [if_pos e8, if_pos (by omega)]
                  · rw [if_neg e8, if_neg (by omega)]
              refine ww_iinc hX (pc := 67) (lv' := [some (kR (some 49)), some (kI v_4), some (kI (i + 1))]) dX11_row_67 rfl (by decide) rfl rfl ?_
              refine ww_goto hX (pc := 70) (tgt := 23) dX11_row_70 (by decide) ?_
              exact ih_23 _ (by have hm9 := Sh0_e hq_23; omega) (i + 1) I_66 J23 rfl ⟨kI_66, cI_66, kJ23, by omega, by omega, by omega, by omega, ⟨by omega, by omega⟩, w66, t66⟩
    exact hl_23 _ 0 I_7 Ja rfl ⟨kI_7, cI_7, (Kp_rf (a := 49) (b := 73)), rfl, rfl, rfl, rfl, ⟨by omega, by omega⟩, w7, fun j => by rw [if_neg (by omega), g7]⟩
  · simp only [w32_mod] at h_11
    refine ww_aload_n hX (pc := 14) dX11_row_14 rfl ?_
    refine ww_bipush hX (pc := 15) (x := (-6)) dX11_row_15 (by decide) ?_
    refine vI1 hX (pc := 17) sX11_105 (xs_49 hL) (c_X11_refuses l0 hL cI_7 (by omega) (by omega)) (by decide) (Nat.le_refl 0) (Nat.le_refl 0) (Nat.le_of_ble_eq_true rfl) dX11_row_17 (fun x_17 I_17 J_17 h_17 => ?_)
    have kJ_17 : Kp 49 73 Ja J_17 := Kp_tr (Kp_rf (a := 49) (b := 73)) h_17.2.1
    have kI_17 : Ch [50, 51] [0, 1, 6, 10] Ia I_17 := Ch_tr kI_7 (Ch_wd h_17.1 (by decide) (by decide))
    have cI_17 : RX I_17 := h_17.2.2.1
    have qI_17 := RX_o cI_17
    have r304_I_17 : I_17 51 304 = I_7 51 304 := by rw [h_17.1.1 51 (by decide) (by decide)]
    have r305_I_17 : I_17 51 305 = I_7 51 305 := by rw [h_17.1.1 51 (by decide) (by decide)]
    have f6_I_17 : I_17 49 6 = I_7 49 6 := h_17.1.2 6 (by decide)
    have f10_I_17 : I_17 49 10 = I_7 49 10 := h_17.1.2 10 (by decide)
    have rf_I_17 : FU (I_17 51 304) = FU (I_7 51 304) := by rw [r304_I_17]
    have xv17 := h_17.2.2.2
    refine rI hX (pc := 20) hT (Nat.le_refl 0) (Nat.le_refl 0) dX11_row_20 ?_
    exact ⟨kI_17, kJ_17, cI_17, by omega, (fun _ => ⟨by omega, by omega, (h_17.1.1 51 (by decide) (by decide)).trans g7⟩), (fun h9 => absurd (by omega) h9)⟩
set_option maxHeartbeats 4000000 in
set_option maxRecDepth 20000 in
theorem c5_X11_send (l0 : Launch) {Ia Ja : aI1} {Ra : aR1} {Sa : aS1} (hL : LY Ra Sa) (hQ : RX Ia) {a b : Int} (ha0 : -2147483648 ≤ a) (ha1 : a < 2147483648) (hb0 : -2147483648 ≤ b) (hb1 : b < 2147483648)  : CT l0 5 0 0 mX11_send [kR (some 49), kI a, kI b] Ia Ja Ra Sa (cI (fun x I' J' => Ch [50, 51, 61] [0, 1, 25] Ia I' ∧ Kp 49 73 Ja J' ∧ RX I' ∧ (∀ j : Nat, (j < 264 ∨ 288 ≤ j) → j ≠ 307 → j ≠ 308 → I' 51 j = Ia 51 j)) Ra Sa) := by
  refine ct_in pn_X11 (Nat.le_of_ble_eq_true rfl) (fun X hX hT hIn => ?_)
  have hX : aK l0 X cX11_send 5 RX11 (some .int) 5 0 0 := hX
  change WW X 0 [some (kR (some 49)), some (kI a), some (kI b), none, none] [] Ia Ja Ra Sa 0 0
  have qIa := RX_o hQ
  refine ww_aload_n hX (pc := 0) dX11_send_0 rfl ?_
  refine ww_iload_n hX (pc := 1) dX11_send_1 rfl ?_
  refine vI1 hX (pc := 2) sX11_123 (xs_49 hL) (c_X11_isNews l0 hL hQ (by omega) (by omega)) (by decide) (Nat.le_refl 0) (Nat.le_refl 0) (Nat.le_of_ble_eq_true rfl) dX11_send_2 (fun x_2 I_2 J_2 h_2 => ?_)
  obtain ⟨rfl, rfl, h_2⟩ := h_2
  refine ww_if_eq hX (pc := 5) (tgt := 15) dX11_send_5 (by decide) (fun h_5 => ?_) (fun h_5 => ?_)
  · simp only [w32_mod] at h_5
    refine ww_aload_n hX (pc := 15) dX11_send_15 rfl ?_
    refine ww_iconst hX (pc := 16) (x := (-1)) dX11_send_16 rfl ?_
    refine vI1 hX (pc := 17) sX11_105 (xs_49 hL) (c_X11_refuses l0 hL hQ (by omega) (by omega)) (by decide) (Nat.le_refl 0) (Nat.le_refl 0) (Nat.le_of_ble_eq_true rfl) dX11_send_17 (fun x_17 I_17 J_17 h_17 => ?_)
    have kJ_17 : Kp 49 73 Ja J_17 := Kp_tr (Kp_rf (a := 49) (b := 73)) h_17.2.1
    have kI_17 : Ch [50, 51, 61] [0, 1, 25] Ia I_17 := Ch_tr Ch_rf (Ch_wd h_17.1 (by decide) (by decide))
    have cI_17 : RX I_17 := h_17.2.2.1
    have qI_17 := RX_o cI_17
    have r304_I_17 : I_17 51 304 = Ia 51 304 := by rw [h_17.1.1 51 (by decide) (by decide)]
    have r305_I_17 : I_17 51 305 = Ia 51 305 := by rw [h_17.1.1 51 (by decide) (by decide)]
    have r307_I_17 : I_17 51 307 = Ia 51 307 := by rw [h_17.1.1 51 (by decide) (by decide)]
    have r308_I_17 : I_17 51 308 = Ia 51 308 := by rw [h_17.1.1 51 (by decide) (by decide)]
    have r309_I_17 : I_17 51 309 = Ia 51 309 := by rw [h_17.1.1 51 (by decide) (by decide)]
    have rf_I_17 : FU (I_17 51 304) = FU (Ia 51 304) := by rw [r304_I_17]
    have o_I_17 : ∀ j : Nat, (j < 264 ∨ 288 ≤ j) → j ≠ 307 → j ≠ 308 → I_17 51 j = Ia 51 j := fun j h1 h2 h3 => (congrFun (h_17.1.1 51 (by decide) (by decide)) j).trans ((fun _ _ _ _ => rfl) j h1 h2 h3)
    refine rI hX (pc := 20) hT (Nat.le_refl 0) (Nat.le_refl 0) dX11_send_20 ?_
    exact ⟨kI_17, kJ_17, cI_17, o_I_17⟩
  · simp only [w32_mod] at h_5
    have k_2 := h_2.2.mp (by omega)
    clear h_2
    refine ww_iload_n hX (pc := 8) dX11_send_8 rfl ?_
    refine sI1 hX (pc := 9) sX11_308 (c_X11_isManner l0 (by omega) (by omega)) (by decide) (Nat.le_refl 0) (Nat.le_refl 0) (Nat.le_of_ble_eq_true rfl) dX11_send_9 (fun x_9 I_9 J_9 h_9 => ?_)
    obtain ⟨rfl, rfl, h_9⟩ := h_9
    refine ww_if_ne hX (pc := 12) (tgt := 21) dX11_send_12 (by decide) (fun h_12 => ?_) (fun h_12 => ?_)
    · simp only [w32_mod] at h_12
      have k_9 := h_9.2.mp (by omega)
      clear h_9
      refine ww_aload_n hX (pc := 21) dX11_send_21 rfl ?_
      refine vV0 hX (pc := 22) sX11_294 (xs_49 hL) (c_X11_looks l0 hL hQ ) (by decide) (Nat.le_refl 0) (Nat.le_refl 0) (Nat.le_of_ble_eq_true rfl) dX11_send_22 (fun I_22 J_22 h_22 => ?_)
      have kJ_22 : Kp 49 73 Ja J_22 := Kp_tr (Kp_rf (a := 49) (b := 73)) h_22.2.1
      have kI_22 : Ch [50, 51, 61] [0, 1, 25] Ia I_22 := Ch_tr Ch_rf (Ch_wd h_22.1 (by decide) (by decide))
      have cI_22 : RX I_22 := h_22.2.2.1
      have qI_22 := RX_o cI_22
      have r304_I_22 : I_22 51 304 = Ia 51 304 := by rw [h_22.1.1 51 (by decide) (by decide)]
      have r305_I_22 : I_22 51 305 = Ia 51 305 := by rw [h_22.1.1 51 (by decide) (by decide)]
      have r307_I_22 : I_22 51 307 = Ia 51 307 := by rw [h_22.1.1 51 (by decide) (by decide)]
      have r308_I_22 : I_22 51 308 = Ia 51 308 := by rw [h_22.1.1 51 (by decide) (by decide)]
      have r309_I_22 : I_22 51 309 = Ia 51 309 := by rw [h_22.1.1 51 (by decide) (by decide)]
      have rf_I_22 : FU (I_22 51 304) = FU (Ia 51 304) := by rw [r304_I_22]
      have o_I_22 : ∀ j : Nat, (j < 264 ∨ 288 ≤ j) → j ≠ 307 → j ≠ 308 → I_22 51 j = Ia 51 j := fun j h1 h2 h3 => (congrFun (h_22.1.1 51 (by decide) (by decide)) j).trans ((fun _ _ _ _ => rfl) j h1 h2 h3)
      refine ww_aload_n hX (pc := 25) dX11_send_25 rfl ?_
      refine ww_aload_n hX (pc := 26) dX11_send_26 rfl ?_
      refine ww_getR hX (pc := 27) fX11_20 (by decide) (xs_49 hL) (xr_49_3 hL) dX11_send_27 ?_
      refine ww_sipush hX (pc := 30) (x := 307) dX11_send_30 (by decide) ?_
      refine ww_iald hX (pc := 33) (xs_51 hL) (by decide) (by omega) (by omega) dX11_send_33 ?_
      refine ww_toI (b := I_22 51 307) rfl ?_
      refine ww_iload_n hX (pc := 34) dX11_send_34 rfl ?_
      refine ww_iload_n hX (pc := 35) dX11_send_35 rfl ?_
      refine vI3 hX (pc := 36) sX11_311 (xs_49 hL) (c_X11_nextOf l0 hL cI_22 (by omega) (by omega)) (by decide) (Nat.le_refl 0) (Nat.le_refl 0) (Nat.le_of_ble_eq_true rfl) dX11_send_36 (fun x_36 I_36 J_36 h_36 => ?_)
      obtain ⟨rfl, rfl, h_36⟩ := h_36
      refine ww_istore_n hX (pc := 39) (lv' := [some (kR (some 49)), some (kI a), some (kI b), some (kI x_36), none]) dX11_send_39 (by decide) rfl rfl ?_
      refine ww_iload_n hX (pc := 40) dX11_send_40 rfl ?_
      refine ww_iconst hX (pc := 41) (x := (-1)) dX11_send_41 rfl ?_
      refine ww_icmp_ne hX (pc := 42) (tgt := 52) dX11_send_42 (by decide) (fun h_42 => ?_) (fun h_42 => ?_)
      · simp only [w32_mod] at h_42
        refine ww_aload_n hX (pc := 52) dX11_send_52 rfl ?_
        refine ww_getR hX (pc := 53) fX11_20 (by decide) (xs_49 hL) (xr_49_3 hL) dX11_send_53 ?_
        refine ww_sipush hX (pc := 56) (x := 308) dX11_send_56 (by decide) ?_
        refine ww_iald hX (pc := 59) (xs_51 hL) (by decide) (by omega) (by omega) dX11_send_59 ?_
        refine ww_toI (b := I_22 51 308) rfl ?_
        refine ww_bipush hX (pc := 60) (x := 24) dX11_send_60 (by decide) ?_
        refine ww_icmp_ne hX (pc := 62) (tgt := 72) dX11_send_62 (by decide) (fun h_62 => ?_) (fun h_62 => ?_)
        · simp only [w32_mod] at h_62
          refine ww_iload_n hX (pc := 72) dX11_send_72 rfl ?_
          refine sI1 hX (pc := 73) sX11_259 (c_X11_ones l0 ) (by decide) (Nat.le_refl 0) (Nat.le_refl 0) (Nat.le_of_ble_eq_true rfl) dX11_send_73 (fun x_73 I_73 J_73 h_73 => ?_)
          obtain ⟨rfl, rfl, h_73⟩ := h_73
          refine ww_aload_n hX (pc := 76) dX11_send_76 rfl ?_
          refine ww_getR hX (pc := 77) fX11_20 (by decide) (xs_49 hL) (xr_49_3 hL) dX11_send_77 ?_
          refine ww_sipush hX (pc := 80) (x := 307) dX11_send_80 (by decide) ?_
          refine ww_iald hX (pc := 83) (xs_51 hL) (by decide) (by omega) (by omega) dX11_send_83 ?_
          refine ww_toI (b := I_22 51 307) rfl ?_
          refine sI1 hX (pc := 84) sX11_259 (c_X11_ones l0 ) (by decide) (Nat.le_refl 0) (Nat.le_refl 0) (Nat.le_of_ble_eq_true rfl) dX11_send_84 (fun x_84 I_84 J_84 h_84 => ?_)
          obtain ⟨rfl, rfl, h_84⟩ := h_84
          refine ww_isub hX (pc := 87) dX11_send_87 ?_
          refine ww_nmI (fun v_88 hv_88 => ?_)
          refine ww_istore hX (pc := 88) (lv' := [some (kR (some 49)), some (kI a), some (kI b), some (kI x_36), some (kI v_88)]) dX11_send_88 (by decide) rfl rfl ?_
          refine ww_aload_n hX (pc := 90) dX11_send_90 rfl ?_
          refine ww_getR hX (pc := 91) fX11_20 (by decide) (xs_49 hL) (xr_49_3 hL) dX11_send_91 ?_
          refine ww_sipush hX (pc := 94) (x := 307) dX11_send_94 (by decide) ?_
          refine ww_iload_n hX (pc := 97) dX11_send_97 rfl ?_
          refine ww_iast hX (pc := 98) (xs_51 hL) (by decide) (by omega) (by omega) dX11_send_98 ?_
          refine ww_nmH (fun I_98 eI_98 => ?_)
          have kI_98 : Ch [50, 51, 61] [0, 1, 25] Ia I_98 := by rw [eI_98]; exact Ch_r kI_22 (by decide) (by decide)
          have cI_98 : RX I_98 := by rw [eI_98]; exact RX_307 cI_22 (by omega) (by omega)
          have qI_98 := RX_o cI_98
          have r304_I_98 : I_98 51 304 = I_22 51 304 := by rw [eI_98, up2_n _ _ (Or.inr (by decide))]
          have r305_I_98 : I_98 51 305 = I_22 51 305 := by rw [eI_98, up2_n _ _ (Or.inr (by decide))]
          have r308_I_98 : I_98 51 308 = I_22 51 308 := by rw [eI_98, up2_n _ _ (Or.inr (by decide))]
          have r309_I_98 : I_98 51 309 = I_22 51 309 := by rw [eI_98, up2_n _ _ (Or.inr (by decide))]
          have rf_I_98 : FU (I_98 51 304) = FU (I_22 51 304) := by rw [r304_I_98]
          have o_I_98 : ∀ j : Nat, (j < 264 ∨ 288 ≤ j) → j ≠ 307 → j ≠ 308 → I_98 51 j = Ia 51 j := fun j h1 h2 h3 => (by rw [eI_98, up2_n _ _ (Or.inr (by omega))] : I_98 51 j = I_22 51 j).trans (o_I_22 j h1 h2 h3)
          refine ww_aload_n hX (pc := 99) dX11_send_99 rfl ?_
          refine ww_getR hX (pc := 100) fX11_20 (by decide) (xs_49 hL) (xr_49_3 hL) dX11_send_100 ?_
          refine ww_sipush hX (pc := 103) (x := 264) dX11_send_103 (by decide) ?_
          refine ww_aload_n hX (pc := 106) dX11_send_106 rfl ?_
          refine ww_getR hX (pc := 107) fX11_20 (by decide) (xs_49 hL) (xr_49_3 hL) dX11_send_107 ?_
          refine ww_sipush hX (pc := 110) (x := 308) dX11_send_110 (by decide) ?_
          refine ww_iald hX (pc := 113) (xs_51 hL) (by decide) (by omega) (by omega) dX11_send_113 ?_
          refine ww_toI (b := I_98 51 308) rfl ?_
          refine ww_iadd hX (pc := 114) dX11_send_114 ?_
          refine ww_iload_n hX (pc := 115) dX11_send_115 rfl ?_
          refine ww_iast hX (pc := 116) (xs_51 hL) (by decide) (by omega) (by omega) dX11_send_116 ?_
          refine ww_nmH (fun I_116 eI_116 => ?_)
          have kI_116 : Ch [50, 51, 61] [0, 1, 25] Ia I_116 := by rw [eI_116]; exact Ch_r kI_98 (by decide) (by decide)
          have cI_116 : RX I_116 := by rw [eI_116]; exact RX_lo cI_98 (by omega)
          have qI_116 := RX_o cI_116
          have r304_I_116 : I_116 51 304 = I_98 51 304 := by rw [eI_116, up2_n _ _ (Or.inr (by omega))]
          have r305_I_116 : I_116 51 305 = I_98 51 305 := by rw [eI_116, up2_n _ _ (Or.inr (by omega))]
          have r307_I_116 : I_116 51 307 = I_98 51 307 := by rw [eI_116, up2_n _ _ (Or.inr (by omega))]
          have r308_I_116 : I_116 51 308 = I_98 51 308 := by rw [eI_116, up2_n _ _ (Or.inr (by omega))]
          have r309_I_116 : I_116 51 309 = I_98 51 309 := by rw [eI_116, up2_n _ _ (Or.inr (by omega))]
          have rf_I_116 : FU (I_116 51 304) = FU (I_98 51 304) := by rw [r304_I_116]
          have o_I_116 : ∀ j : Nat, (j < 264 ∨ 288 ≤ j) → j ≠ 307 → j ≠ 308 → I_116 51 j = Ia 51 j := fun j h1 h2 h3 => (by rw [eI_116, up2_n _ _ (Or.inr (by omega))] : I_116 51 j = I_98 51 j).trans (o_I_98 j h1 h2 h3)
          refine ww_aload_n hX (pc := 117) dX11_send_117 rfl ?_
          refine ww_getR hX (pc := 118) fX11_20 (by decide) (xs_49 hL) (xr_49_3 hL) dX11_send_118 ?_
          refine ww_sipush hX (pc := 121) (x := 308) dX11_send_121 (by decide) ?_
          refine ww_dup2 hX (pc := 124) dX11_send_124 ?_
          refine ww_iald hX (pc := 125) (xs_51 hL) (by decide) (by omega) (by omega) dX11_send_125 ?_
          refine ww_toI (b := I_116 51 308) rfl ?_
          refine ww_iconst hX (pc := 126) (x := 1) dX11_send_126 rfl ?_
          refine ww_iadd hX (pc := 127) dX11_send_127 ?_
          refine ww_iast hX (pc := 128) (xs_51 hL) (by decide) (by omega) (by omega) dX11_send_128 ?_
          refine ww_nmH (fun I_128 eI_128 => ?_)
          have kI_128 : Ch [50, 51, 61] [0, 1, 25] Ia I_128 := by rw [eI_128]; exact Ch_r kI_116 (by decide) (by decide)
          have cI_128 : RX I_128 := by rw [eI_128]; exact RX_308 cI_116 (by omega) (by omega)
          have qI_128 := RX_o cI_128
          have r304_I_128 : I_128 51 304 = I_116 51 304 := by rw [eI_128, up2_n _ _ (Or.inr (by decide))]
          have r305_I_128 : I_128 51 305 = I_116 51 305 := by rw [eI_128, up2_n _ _ (Or.inr (by decide))]
          have r307_I_128 : I_128 51 307 = I_116 51 307 := by rw [eI_128, up2_n _ _ (Or.inr (by decide))]
          have r309_I_128 : I_128 51 309 = I_116 51 309 := by rw [eI_128, up2_n _ _ (Or.inr (by decide))]
          have rf_I_128 : FU (I_128 51 304) = FU (I_116 51 304) := by rw [r304_I_128]
          have o_I_128 : ∀ j : Nat, (j < 264 ∨ 288 ≤ j) → j ≠ 307 → j ≠ 308 → I_128 51 j = Ia 51 j := fun j h1 h2 h3 => (by rw [eI_128, up2_n _ _ (Or.inr (by omega))] : I_128 51 j = I_116 51 j).trans (o_I_116 j h1 h2 h3)
          refine ww_aload_n hX (pc := 129) dX11_send_129 rfl ?_
          refine ww_iload hX (pc := 130) dX11_send_130 rfl ?_
          refine vI1 hX (pc := 132) sX11_109 (xs_49 hL) (c_X11_good l0 hL cI_128 ) (by decide) (Nat.le_refl 0) (Nat.le_refl 0) (Nat.le_of_ble_eq_true rfl) dX11_send_132 (fun x_132 I_132 J_132 h_132 => ?_)
          have kJ_132 : Kp 49 73 Ja J_132 := Kp_tr kJ_22 h_132.2.1
          have kI_132 : Ch [50, 51, 61] [0, 1, 25] Ia I_132 := Ch_tr kI_128 (Ch_wd h_132.1 (by decide) (by decide))
          have cI_132 : RX I_132 := h_132.2.2.1
          have qI_132 := RX_o cI_132
          have r304_I_132 : I_132 51 304 = I_128 51 304 := by rw [h_132.1.1 51 (by decide) (by decide)]
          have r305_I_132 : I_132 51 305 = I_128 51 305 := by rw [h_132.1.1 51 (by decide) (by decide)]
          have r307_I_132 : I_132 51 307 = I_128 51 307 := by rw [h_132.1.1 51 (by decide) (by decide)]
          have r308_I_132 : I_132 51 308 = I_128 51 308 := by rw [h_132.1.1 51 (by decide) (by decide)]
          have r309_I_132 : I_132 51 309 = I_128 51 309 := by rw [h_132.1.1 51 (by decide) (by decide)]
          have rf_I_132 : FU (I_132 51 304) = FU (I_128 51 304) := by rw [r304_I_132]
          have o_I_132 : ∀ j : Nat, (j < 264 ∨ 288 ≤ j) → j ≠ 307 → j ≠ 308 → I_132 51 j = Ia 51 j := fun j h1 h2 h3 => (congrFun (h_132.1.1 51 (by decide) (by decide)) j).trans (o_I_128 j h1 h2 h3)
          refine rI hX (pc := 135) hT (Nat.le_refl 0) (Nat.le_refl 0) dX11_send_135 ?_
          exact ⟨kI_132, kJ_132, cI_132, o_I_132⟩
        · simp only [w32_mod] at h_62
          refine ww_aload_n hX (pc := 65) dX11_send_65 rfl ?_
          refine ww_bipush hX (pc := 66) (x := (-5)) dX11_send_66 (by decide) ?_
          refine vI1 hX (pc := 68) sX11_105 (xs_49 hL) (c_X11_refuses l0 hL cI_22 (by omega) (by omega)) (by decide) (Nat.le_refl 0) (Nat.le_refl 0) (Nat.le_of_ble_eq_true rfl) dX11_send_68 (fun x_68 I_68 J_68 h_68 => ?_)
          have kJ_68 : Kp 49 73 Ja J_68 := Kp_tr kJ_22 h_68.2.1
          have kI_68 : Ch [50, 51, 61] [0, 1, 25] Ia I_68 := Ch_tr kI_22 (Ch_wd h_68.1 (by decide) (by decide))
          have cI_68 : RX I_68 := h_68.2.2.1
          have qI_68 := RX_o cI_68
          have r304_I_68 : I_68 51 304 = I_22 51 304 := by rw [h_68.1.1 51 (by decide) (by decide)]
          have r305_I_68 : I_68 51 305 = I_22 51 305 := by rw [h_68.1.1 51 (by decide) (by decide)]
          have r307_I_68 : I_68 51 307 = I_22 51 307 := by rw [h_68.1.1 51 (by decide) (by decide)]
          have r308_I_68 : I_68 51 308 = I_22 51 308 := by rw [h_68.1.1 51 (by decide) (by decide)]
          have r309_I_68 : I_68 51 309 = I_22 51 309 := by rw [h_68.1.1 51 (by decide) (by decide)]
          have rf_I_68 : FU (I_68 51 304) = FU (I_22 51 304) := by rw [r304_I_68]
          have o_I_68 : ∀ j : Nat, (j < 264 ∨ 288 ≤ j) → j ≠ 307 → j ≠ 308 → I_68 51 j = Ia 51 j := fun j h1 h2 h3 => (congrFun (h_68.1.1 51 (by decide) (by decide)) j).trans (o_I_22 j h1 h2 h3)
          refine rI hX (pc := 71) hT (Nat.le_refl 0) (Nat.le_refl 0) dX11_send_71 ?_
          exact ⟨kI_68, kJ_68, cI_68, o_I_68⟩
      · simp only [w32_mod] at h_42
        refine ww_aload_n hX (pc := 45) dX11_send_45 rfl ?_
        refine ww_bipush hX (pc := 46) (x := (-3)) dX11_send_46 (by decide) ?_
        refine vI1 hX (pc := 48) sX11_105 (xs_49 hL) (c_X11_refuses l0 hL cI_22 (by omega) (by omega)) (by decide) (Nat.le_refl 0) (Nat.le_refl 0) (Nat.le_of_ble_eq_true rfl) dX11_send_48 (fun x_48 I_48 J_48 h_48 => ?_)
        have kJ_48 : Kp 49 73 Ja J_48 := Kp_tr kJ_22 h_48.2.1
        have kI_48 : Ch [50, 51, 61] [0, 1, 25] Ia I_48 := Ch_tr kI_22 (Ch_wd h_48.1 (by decide) (by decide))
        have cI_48 : RX I_48 := h_48.2.2.1
        have qI_48 := RX_o cI_48
        have r304_I_48 : I_48 51 304 = I_22 51 304 := by rw [h_48.1.1 51 (by decide) (by decide)]
        have r305_I_48 : I_48 51 305 = I_22 51 305 := by rw [h_48.1.1 51 (by decide) (by decide)]
        have r307_I_48 : I_48 51 307 = I_22 51 307 := by rw [h_48.1.1 51 (by decide) (by decide)]
        have r308_I_48 : I_48 51 308 = I_22 51 308 := by rw [h_48.1.1 51 (by decide) (by decide)]
        have r309_I_48 : I_48 51 309 = I_22 51 309 := by rw [h_48.1.1 51 (by decide) (by decide)]
        have rf_I_48 : FU (I_48 51 304) = FU (I_22 51 304) := by rw [r304_I_48]
        have o_I_48 : ∀ j : Nat, (j < 264 ∨ 288 ≤ j) → j ≠ 307 → j ≠ 308 → I_48 51 j = Ia 51 j := fun j h1 h2 h3 => (congrFun (h_48.1.1 51 (by decide) (by decide)) j).trans (o_I_22 j h1 h2 h3)
        refine rI hX (pc := 51) hT (Nat.le_refl 0) (Nat.le_refl 0) dX11_send_51 ?_
        exact ⟨kI_48, kJ_48, cI_48, o_I_48⟩
    · simp only [w32_mod] at h_12
      refine ww_aload_n hX (pc := 15) dX11_send_15 rfl ?_
      refine ww_iconst hX (pc := 16) (x := (-1)) dX11_send_16 rfl ?_
      refine vI1 hX (pc := 17) sX11_105 (xs_49 hL) (c_X11_refuses l0 hL hQ (by omega) (by omega)) (by decide) (Nat.le_refl 0) (Nat.le_refl 0) (Nat.le_of_ble_eq_true rfl) dX11_send_17 (fun x_17 I_17 J_17 h_17 => ?_)
      have kJ_17 : Kp 49 73 Ja J_17 := Kp_tr (Kp_rf (a := 49) (b := 73)) h_17.2.1
      have kI_17 : Ch [50, 51, 61] [0, 1, 25] Ia I_17 := Ch_tr Ch_rf (Ch_wd h_17.1 (by decide) (by decide))
      have cI_17 : RX I_17 := h_17.2.2.1
      have qI_17 := RX_o cI_17
      have r304_I_17 : I_17 51 304 = Ia 51 304 := by rw [h_17.1.1 51 (by decide) (by decide)]
      have r305_I_17 : I_17 51 305 = Ia 51 305 := by rw [h_17.1.1 51 (by decide) (by decide)]
      have r307_I_17 : I_17 51 307 = Ia 51 307 := by rw [h_17.1.1 51 (by decide) (by decide)]
      have r308_I_17 : I_17 51 308 = Ia 51 308 := by rw [h_17.1.1 51 (by decide) (by decide)]
      have r309_I_17 : I_17 51 309 = Ia 51 309 := by rw [h_17.1.1 51 (by decide) (by decide)]
      have rf_I_17 : FU (I_17 51 304) = FU (Ia 51 304) := by rw [r304_I_17]
      have o_I_17 : ∀ j : Nat, (j < 264 ∨ 288 ≤ j) → j ≠ 307 → j ≠ 308 → I_17 51 j = Ia 51 j := fun j h1 h2 h3 => (congrFun (h_17.1.1 51 (by decide) (by decide)) j).trans ((fun _ _ _ _ => rfl) j h1 h2 h3)
      refine rI hX (pc := 20) hT (Nat.le_refl 0) (Nat.le_refl 0) dX11_send_20 ?_
      exact ⟨kI_17, kJ_17, cI_17, o_I_17⟩
set_option maxHeartbeats 4000000 in
set_option maxRecDepth 20000 in
theorem c5_X11_learn (l0 : Launch) {Ia Ja : aI1} {Ra : aR1} {Sa : aS1} (hL : LY Ra Sa) (hQ : RX Ia) {a : Int} (ha0 : -2147483648 ≤ a) (ha1 : a < 2147483648)  : CT l0 48 0 0 mX11_learn [kR (some 49), kI a] Ia Ja Ra Sa (cI (fun x I' J' => Ch [50, 51, 60] [0, 1, 19, 20, 21] Ia I' ∧ Kp 49 73 Ja J' ∧ RX I' ∧ (∀ j : Nat, 256 ≤ j → I' 51 j = Ia 51 j)) Ra Sa) := by
  refine ct_in pn_X11 (Nat.le_of_ble_eq_true rfl) (fun X hX hT hIn => ?_)
  have hX : aK l0 X cX11_learn 3 RX11 (some .int) 48 0 0 := hX
  change WW X 0 [some (kR (some 49)), some (kI a), none] [] Ia Ja Ra Sa 0 0
  have qIa := RX_o hQ
  refine ww_iload_n hX (pc := 0) dX11_learn_0 rfl ?_
  refine ww_iconst hX (pc := 1) (x := 0) dX11_learn_1 rfl ?_
  refine ww_aload_n hX (pc := 2) dX11_learn_2 rfl ?_
  refine ww_getR hX (pc := 3) fX11_20 (by decide) (xs_49 hL) (xr_49_3 hL) dX11_learn_3 ?_
  refine ww_sipush hX (pc := 6) (x := 310) dX11_learn_6 (by decide) ?_
  refine ww_iald hX (pc := 9) (xs_51 hL) (by decide) (by omega) (by omega) dX11_learn_9 ?_
  refine ww_toI (b := Ia 51 310) rfl ?_
  refine ww_iconst hX (pc := 10) (x := 1) dX11_learn_10 rfl ?_
  refine ww_isub hX (pc := 11) dX11_learn_11 ?_
  refine sI3 hX (pc := 12) sX11_101 (c_X11_lies l0 (by omega) (by omega) (by omega) (by omega) (by omega) (by omega)) (by decide) (Nat.le_refl 0) (Nat.le_refl 0) (Nat.le_of_ble_eq_true rfl) dX11_learn_12 (fun x_12 I_12 J_12 h_12 => ?_)
  obtain ⟨rfl, rfl, h_12⟩ := h_12
  refine ww_if_ne hX (pc := 15) (tgt := 25) dX11_learn_15 (by decide) (fun h_15 => ?_) (fun h_15 => ?_)
  · simp only [w32_mod] at h_15
    have k_12 := h_12.2.mp (by omega)
    clear h_12
    refine ww_iconst hX (pc := 25) (x := 0) dX11_learn_25 rfl ?_
    refine ww_istore_n hX (pc := 26) (lv' := [some (kR (some 49)), some (kI a), some (kI 0)]) dX11_learn_26 (by decide) rfl rfl ?_
    have hl_27 : ∀ (n_27 : Nat) (i : Int) (I27 : aI1) (J27 : aI1), (256 - i).toNat = n_27 → (Ch [50, 51, 60] [0, 1, 19, 20, 21] Ia I27 ∧ RX I27 ∧ Kp 49 73 Ja J27 ∧ I27 51 304 = Ia 51 304 ∧ I27 51 305 = Ia 51 305 ∧ I27 51 310 = Ia 51 310 ∧ (∀ j : Nat, 256 ≤ j → I27 51 j = Ia 51 j) ∧ (0 ≤ i ∧ i ≤ 256)) → WW X 27 [some (kR (some 49)), some (kI a), some (kI i)] [] I27 J27 Ra Sa 0 0 := by
      intro n_27
      induction n_27 using Nat.strongRecOn with
      | ind n_27 ih_27 =>
        intro i I27 J27 hm_27 hv_27
        have hq_27 := Sh0_i hm_27
        clear hm_27
        obtain ⟨kI27, cI27, kJ27, r304_I27, r305_I27, r310_I27, o_I27, hv⟩ := hv_27
        have qI27 := RX_o cI27
        have rf_I27 : FU (I27 51 304) = FU (Ia 51 304) := by rw [r304_I27]
        refine ww_iload_n hX (pc := 27) dX11_learn_27 rfl ?_
        refine ww_aload_n hX (pc := 28) dX11_learn_28 rfl ?_
        refine vI0 hX (pc := 29) sX11_112 (xs_49 hL) (c_X11_states l0 hL cI27 ) (by decide) (Nat.le_refl 0) (Nat.le_refl 0) (Nat.le_of_ble_eq_true rfl) dX11_learn_29 (fun x_29 I_29 J_29 h_29 => ?_)
        obtain ⟨rfl, rfl, h_29⟩ := h_29
        refine ww_icmp_ge hX (pc := 32) (tgt := 59) dX11_learn_32 (by decide) (fun h_32 => ?_) (fun h_32 => ?_)
        · simp only [w32_mod] at h_32
          refine ww_aload_n hX (pc := 59) dX11_learn_59 rfl ?_
          refine ww_aload_n hX (pc := 60) dX11_learn_60 rfl ?_
          refine vI0 hX (pc := 61) sX11_139 (xs_49 hL) (c_X11_readMany l0 hL cI27 ) (by decide) (Nat.le_refl 0) (Nat.le_refl 0) (Nat.le_of_ble_eq_true rfl) dX11_learn_61 (fun x_61 I_61 J_61 h_61 => ?_)
          obtain ⟨rfl, rfl, h_61⟩ := h_61
          refine vI1 hX (pc := 64) sX11_109 (xs_49 hL) (c_X11_good l0 hL cI27 ) (by decide) (Nat.le_refl 0) (Nat.le_refl 0) (Nat.le_of_ble_eq_true rfl) dX11_learn_64 (fun x_64 I_64 J_64 h_64 => ?_)
          have kJ_64 : Kp 49 73 Ja J_64 := Kp_tr kJ27 h_64.2.1
          have kI_64 : Ch [50, 51, 60] [0, 1, 19, 20, 21] Ia I_64 := Ch_tr kI27 (Ch_wd h_64.1 (by decide) (by decide))
          have cI_64 : RX I_64 := h_64.2.2.1
          have qI_64 := RX_o cI_64
          have r304_I_64 : I_64 51 304 = I27 51 304 := by rw [h_64.1.1 51 (by decide) (by decide)]
          have r305_I_64 : I_64 51 305 = I27 51 305 := by rw [h_64.1.1 51 (by decide) (by decide)]
          have r310_I_64 : I_64 51 310 = I27 51 310 := by rw [h_64.1.1 51 (by decide) (by decide)]
          have rf_I_64 : FU (I_64 51 304) = FU (I27 51 304) := by rw [r304_I_64]
          have o_I_64 : ∀ j : Nat, 256 ≤ j → I_64 51 j = Ia 51 j := fun j h1 => (congrFun (h_64.1.1 51 (by decide) (by decide)) j).trans (o_I27 j h1)
          refine rI hX (pc := 67) hT (Nat.le_refl 0) (Nat.le_refl 0) dX11_learn_67 ?_
          exact ⟨kI_64, kJ_64, cI_64, o_I_64⟩
        · simp only [w32_mod] at h_32
          refine ww_aload_n hX (pc := 35) dX11_learn_35 rfl ?_
          refine ww_iload_n hX (pc := 36) dX11_learn_36 rfl ?_
          refine vV1 hX (pc := 37) sX11_264 (xs_49 hL) (c_X11_asksOf l0 hL cI27 ) (by decide) (Nat.le_refl 0) (Nat.le_refl 0) (Nat.le_of_ble_eq_true rfl) dX11_learn_37 (fun I_37 J_37 h_37 => ?_)
          have kJ_37 : Kp 49 73 Ja J_37 := Kp_tr kJ27 h_37.2.1
          have kI_37 : Ch [50, 51, 60] [0, 1, 19, 20, 21] Ia I_37 := Ch_tr kI27 (Ch_wd h_37.1 (by decide) (by decide))
          have cI_37 : RX I_37 := h_37.2.2.1
          have qI_37 := RX_o cI_37
          have r304_I_37 : I_37 51 304 = I27 51 304 := by rw [h_37.1.1 51 (by decide) (by decide)]
          have r305_I_37 : I_37 51 305 = I27 51 305 := by rw [h_37.1.1 51 (by decide) (by decide)]
          have r310_I_37 : I_37 51 310 = I27 51 310 := by rw [h_37.1.1 51 (by decide) (by decide)]
          have rf_I_37 : FU (I_37 51 304) = FU (I27 51 304) := by rw [r304_I_37]
          have o_I_37 : ∀ j : Nat, 256 ≤ j → I_37 51 j = Ia 51 j := fun j h1 => (congrFun (h_37.1.1 51 (by decide) (by decide)) j).trans (o_I27 j h1)
          refine ww_aload_n hX (pc := 40) dX11_learn_40 rfl ?_
          refine ww_getR hX (pc := 41) fX11_20 (by decide) (xs_49 hL) (xr_49_3 hL) dX11_learn_41 ?_
          refine ww_iconst hX (pc := 44) (x := 0) dX11_learn_44 rfl ?_
          refine ww_iload_n hX (pc := 45) dX11_learn_45 rfl ?_
          refine ww_iadd hX (pc := 46) dX11_learn_46 ?_
          refine ww_aload_n hX (pc := 47) dX11_learn_47 rfl ?_
          refine ww_iload_n hX (pc := 48) dX11_learn_48 rfl ?_
          refine vI1 hX (pc := 49) sX11_267 (xs_49 hL) (c_X11_toldBy l0 hL cI_37 (by omega) (by omega)) (by decide) (Nat.le_refl 0) (Nat.le_refl 0) (Nat.le_of_ble_eq_true rfl) dX11_learn_49 (fun x_49 I_49 J_49 h_49 => ?_)
          have kJ_49 : Kp 49 73 Ja J_49 := Kp_tr kJ_37 h_49.2.1
          have kI_49 : Ch [50, 51, 60] [0, 1, 19, 20, 21] Ia I_49 := Ch_tr kI_37 (Ch_wd h_49.1 (by decide) (by decide))
          have cI_49 : RX I_49 := h_49.2.2.1
          have qI_49 := RX_o cI_49
          have r304_I_49 : I_49 51 304 = I_37 51 304 := by rw [h_49.1.1 51 (by decide) (by decide)]
          have r305_I_49 : I_49 51 305 = I_37 51 305 := by rw [h_49.1.1 51 (by decide) (by decide)]
          have r310_I_49 : I_49 51 310 = I_37 51 310 := by rw [h_49.1.1 51 (by decide) (by decide)]
          have rf_I_49 : FU (I_49 51 304) = FU (I_37 51 304) := by rw [r304_I_49]
          have o_I_49 : ∀ j : Nat, 256 ≤ j → I_49 51 j = Ia 51 j := fun j h1 => (congrFun (h_49.1.1 51 (by decide) (by decide)) j).trans (o_I_37 j h1)
          refine ww_iast hX (pc := 52) (xs_51 hL) (by decide) (by omega) (by omega) dX11_learn_52 ?_
          refine ww_nmH (fun I_52 eI_52 => ?_)
          have kI_52 : Ch [50, 51, 60] [0, 1, 19, 20, 21] Ia I_52 := by rw [eI_52]; exact Ch_r kI_49 (by decide) (by decide)
          have cI_52 : RX I_52 := by rw [eI_52]; exact RX_lo cI_49 (by omega)
          have qI_52 := RX_o cI_52
          have r304_I_52 : I_52 51 304 = I_49 51 304 := by rw [eI_52, up2_n _ _ (Or.inr (by omega))]
          have r305_I_52 : I_52 51 305 = I_49 51 305 := by rw [eI_52, up2_n _ _ (Or.inr (by omega))]
          have r310_I_52 : I_52 51 310 = I_49 51 310 := by rw [eI_52, up2_n _ _ (Or.inr (by omega))]
          have rf_I_52 : FU (I_52 51 304) = FU (I_49 51 304) := by rw [r304_I_52]
          have o_I_52 : ∀ j : Nat, 256 ≤ j → I_52 51 j = Ia 51 j := fun j h1 => (by rw [eI_52, up2_n _ _ (Or.inr (by omega))] : I_52 51 j = I_49 51 j).trans (o_I_49 j h1)
          refine ww_iinc hX (pc := 53) (lv' := [some (kR (some 49)), some (kI a), some (kI (i + 1))]) dX11_learn_53 rfl (by decide) rfl rfl ?_
          refine ww_goto hX (pc := 56) (tgt := 27) dX11_learn_56 (by decide) ?_
          exact ih_27 _ (by have hm9 := Sh0_e hq_27; omega) (i + 1) I_52 J_49 rfl ⟨kI_52, cI_52, kJ_49, by omega, by omega, by omega, o_I_52, by omega⟩
    exact hl_27 _ 0 Ia Ja rfl ⟨Ch_rf, hQ, (Kp_rf (a := 49) (b := 73)), rfl, rfl, rfl, (fun _ _ => rfl), by omega⟩
  · simp only [w32_mod] at h_15
    refine ww_aload_n hX (pc := 18) dX11_learn_18 rfl ?_
    refine ww_bipush hX (pc := 19) (x := (-2)) dX11_learn_19 (by decide) ?_
    refine vI1 hX (pc := 21) sX11_105 (xs_49 hL) (c_X11_refuses l0 hL hQ (by omega) (by omega)) (by decide) (Nat.le_refl 0) (Nat.le_refl 0) (Nat.le_of_ble_eq_true rfl) dX11_learn_21 (fun x_21 I_21 J_21 h_21 => ?_)
    have kJ_21 : Kp 49 73 Ja J_21 := Kp_tr (Kp_rf (a := 49) (b := 73)) h_21.2.1
    have kI_21 : Ch [50, 51, 60] [0, 1, 19, 20, 21] Ia I_21 := Ch_tr Ch_rf (Ch_wd h_21.1 (by decide) (by decide))
    have cI_21 : RX I_21 := h_21.2.2.1
    have qI_21 := RX_o cI_21
    have r304_I_21 : I_21 51 304 = Ia 51 304 := by rw [h_21.1.1 51 (by decide) (by decide)]
    have r305_I_21 : I_21 51 305 = Ia 51 305 := by rw [h_21.1.1 51 (by decide) (by decide)]
    have r310_I_21 : I_21 51 310 = Ia 51 310 := by rw [h_21.1.1 51 (by decide) (by decide)]
    have rf_I_21 : FU (I_21 51 304) = FU (Ia 51 304) := by rw [r304_I_21]
    have o_I_21 : ∀ j : Nat, 256 ≤ j → I_21 51 j = Ia 51 j := fun j h1 => (congrFun (h_21.1.1 51 (by decide) (by decide)) j).trans ((fun _ _ => rfl) j h1)
    refine rI hX (pc := 24) hT (Nat.le_refl 0) (Nat.le_refl 0) dX11_learn_24 ?_
    exact ⟨kI_21, kJ_21, cI_21, o_I_21⟩
set_option maxHeartbeats 4000000 in
set_option maxRecDepth 20000 in
theorem c5_X11_law (l0 : Launch) {Ia Ja : aI1} {Ra : aR1} {Sa : aS1} (hL : LY Ra Sa) (hQ : RX Ia)  : CT l0 36 0 0 mX11_law [kR (some 49)] Ia Ja Ra Sa (cI (fun x I' J' => Ch [50, 51, 57, 58, 59] [0, 1, 10, 11, 15, 16, 17, 18] Ia I' ∧ Kp 49 73 Ja J' ∧ RX I' ∧ I' 49 10 = 0 ∧ (∀ j : Nat, j < 310 → I' 51 j = Ia 51 j)) Ra Sa) := by
  refine ct_in pn_X11 (Nat.le_of_ble_eq_true rfl) (fun X hX hT hIn => ?_)
  have hX : aK l0 X cX11_law 3 RX11 (some .int) 36 0 0 := hX
  change WW X 0 [some (kR (some 49)), none, none] [] Ia Ja Ra Sa 0 0
  have qIa := RX_l hQ
  refine ww_aload_n hX (pc := 0) dX11_law_0 rfl ?_
  refine ww_getR hX (pc := 1) fX11_20 (by decide) (xs_49 hL) (xr_49_3 hL) dX11_law_1 ?_
  refine ww_sipush hX (pc := 4) (x := 310) dX11_law_4 (by decide) ?_
  refine ww_iald hX (pc := 7) (xs_51 hL) (by decide) (by omega) (by omega) dX11_law_7 ?_
  refine ww_toI (b := Ia 51 310) rfl ?_
  refine ww_bipush hX (pc := 8) (x := 6) dX11_law_8 (by decide) ?_
  refine ww_icmp_ne hX (pc := 10) (tgt := 25) dX11_law_10 (by decide) (fun h_10 => ?_) (fun h_10 => ?_)
  · simp only [w32_mod] at h_10
    refine ww_aload_n hX (pc := 25) dX11_law_25 rfl ?_
    refine vI0 hX (pc := 26) sX11_209 (xs_49 hL) (c5_X11_reads l0 hL hQ ) (by decide) (Nat.le_refl 0) (Nat.le_refl 0) (Nat.le_of_ble_eq_true rfl) dX11_law_26 (fun x_26 I_26 J_26 h_26 => ?_)
    have kJ_26 : Kp 49 73 Ja J_26 := Kp_tr (Kp_rf (a := 49) (b := 73)) h_26.2.1
    have kI_26 : Ch [50, 51, 57, 58, 59] [0, 1, 10, 11, 15, 16, 17, 18] Ia I_26 := Ch_tr Ch_rf (Ch_wd h_26.1 (by decide) (by decide))
    have cI_26 : RX I_26 := h_26.2.2.1
    have qI_26 := RX_l cI_26
    have r310_I_26 : I_26 51 310 = Ia 51 310 := by rw [h_26.1.1 51 (by decide) (by decide)]
    have z26 := h_26.2.2.2.2.2
    have o_I_26 : ∀ j : Nat, j < 310 → I_26 51 j = Ia 51 j := fun j h1 => (congrFun (h_26.1.1 51 (by decide) (by decide)) j).trans ((fun _ _ => rfl) j h1)
    refine ww_if_ne hX (pc := 29) (tgt := 39) dX11_law_29 (by decide) (fun h_29 => ?_) (fun h_29 => ?_)
    · simp only [w32_mod] at h_29
      have hrd := h_26.2.2.2.2.1 (by omega)
      have hl26 := hrd.2.2
      have hr26 := hrd.2.1
      refine ww_aload_n hX (pc := 39) dX11_law_39 rfl ?_
      refine ww_getR hX (pc := 40) fX11_20 (by decide) (xs_49 hL) (xr_49_3 hL) dX11_law_40 ?_
      refine ww_sipush hX (pc := 43) (x := 310) dX11_law_43 (by decide) ?_
      refine ww_iald hX (pc := 46) (xs_51 hL) (by decide) (by omega) (by omega) dX11_law_46 ?_
      refine ww_toI (b := I_26 51 310) rfl ?_
      refine ww_nmI (fun v_47 hv_47 => ?_)
      refine ww_istore_n hX (pc := 47) (lv' := [some (kR (some 49)), some (kI v_47), none]) dX11_law_47 (by decide) rfl rfl ?_
      refine ww_aload_n hX (pc := 48) dX11_law_48 rfl ?_
      refine ww_getR hX (pc := 49) fX11_20 (by decide) (xs_49 hL) (xr_49_3 hL) dX11_law_49 ?_
      refine ww_sipush hX (pc := 52) (x := 311) dX11_law_52 (by decide) ?_
      refine ww_iload_n hX (pc := 55) dX11_law_55 rfl ?_
      refine ww_iadd hX (pc := 56) dX11_law_56 ?_
      refine ww_aload_n hX (pc := 57) dX11_law_57 rfl ?_
      refine ww_getI hX (pc := 58) fX11_142 (by decide) (xs_49 hL) dX11_law_58 ?_
      refine ww_iast hX (pc := 61) (xs_51 hL) (by decide) (by omega) (by omega) dX11_law_61 ?_
      refine ww_nmH (fun I_61 eI_61 => ?_)
      have kI_61 : Ch [50, 51, 57, 58, 59] [0, 1, 10, 11, 15, 16, 17, 18] Ia I_61 := by rw [eI_61]; exact Ch_r kI_26 (by decide) (by decide)
      have cI_61 : RX I_61 := by rw [eI_61]; exact RX_up cI_26 (by omega)
      have qI_61 := RX_l cI_61
      have r310_I_61 : I_61 51 310 = I_26 51 310 := by rw [eI_61, up2_n _ _ (Or.inr (by omega))]
      have f10_I_61 : I_61 49 10 = I_26 49 10 := by rw [eI_61, up2_off _ _ _ (by decide)]
      have f15_I_61 : I_61 49 15 = I_26 49 15 := by rw [eI_61, up2_off _ _ _ (by decide)]
      have s61 : I_61 51 (311 + v_47.toNat) = I_26 49 15 := by rw [eI_61, show (311 + v_47).toNat = 311 + v_47.toNat by omega, up2_s]
      have s57 : I_61 57 = I_26 57 := by rw [eI_61, up2_off _ _ _ (by decide)]
      have o_I_61 : ∀ j : Nat, j < 310 → I_61 51 j = Ia 51 j := fun j h1 => (by rw [eI_61, up2_n _ _ (Or.inr (by omega))] : I_61 51 j = I_26 51 j).trans (o_I_26 j h1)
      refine ww_iconst hX (pc := 62) (x := 0) dX11_law_62 rfl ?_
      refine ww_istore_n hX (pc := 63) (lv' := [some (kR (some 49)), some (kI v_47), some (kI 0)]) dX11_law_63 (by decide) rfl rfl ?_
      have hl_64 : ∀ (n_64 : Nat) (i : Int) (I64 : aI1) (J64 : aI1), (I_26 49 15 - i).toNat = n_64 → (Ch [50, 51, 57, 58, 59] [0, 1, 10, 11, 15, 16, 17, 18] Ia I64 ∧ RX I64 ∧ Kp 49 73 Ja J64 ∧ I64 51 310 = I_61 51 310 ∧ I64 49 10 = I_61 49 10 ∧ I64 49 15 = I_61 49 15 ∧ (∀ j : Nat, j < 310 → I64 51 j = Ia 51 j) ∧ (0 ≤ i ∧ i ≤ I_26 49 15) ∧ I64 51 (311 + v_47.toNat) = I_26 49 15 ∧ I64 57 = I_26 57 ∧ (∀ j : Nat, (j : Int) < i → I64 51 (317 + 400 * v_47.toNat + j) = I_26 57 j)) → WW X 64 [some (kR (some 49)), some (kI v_47), some (kI i)] [] I64 J64 Ra Sa 0 0 := by
        intro n_64
        induction n_64 using Nat.strongRecOn with
        | ind n_64 ih_64 =>
          intro i I64 J64 hm_64 hv_64
          have hq_64 := Sh0_i hm_64
          clear hm_64
          obtain ⟨kI64, cI64, kJ64, r310_I64, f10_I64, f15_I64, o_I64, hv, hsz, hr57, hcp⟩ := hv_64
          have qI64 := RX_l cI64
          refine ww_iload_n hX (pc := 64) dX11_law_64 rfl ?_
          refine ww_aload_n hX (pc := 65) dX11_law_65 rfl ?_
          refine ww_getI hX (pc := 66) fX11_142 (by decide) (xs_49 hL) dX11_law_66 ?_
          refine ww_icmp_ge hX (pc := 69) (tgt := 122) dX11_law_69 (by decide) (fun h_69 => ?_) (fun h_69 => ?_)
          · simp only [w32_mod] at h_69
            refine ww_aload_n hX (pc := 122) dX11_law_122 rfl ?_
            refine ww_getR hX (pc := 123) fX11_20 (by decide) (xs_49 hL) (xr_49_3 hL) dX11_law_123 ?_
            refine ww_sipush hX (pc := 126) (x := 310) dX11_law_126 (by decide) ?_
            refine ww_dup2 hX (pc := 129) dX11_law_129 ?_
            refine ww_iald hX (pc := 130) (xs_51 hL) (by decide) (by omega) (by omega) dX11_law_130 ?_
            refine ww_toI (b := I64 51 310) rfl ?_
            refine ww_iconst hX (pc := 131) (x := 1) dX11_law_131 rfl ?_
            refine ww_iadd hX (pc := 132) dX11_law_132 ?_
            refine ww_iast hX (pc := 133) (xs_51 hL) (by decide) (by omega) (by omega) dX11_law_133 ?_
            refine ww_nmH (fun I_133 eI_133 => ?_)
            have kI_133 : Ch [50, 51, 57, 58, 59] [0, 1, 10, 11, 15, 16, 17, 18] Ia I_133 := by rw [eI_133]; exact Ch_r kI64 (by decide) (by decide)
            have cI_133 : RX I_133 := by rw [eI_133]; exact RX_tl (t := v_47.toNat) cI64 rfl (by omega) (by omega) (by rw [hsz]; omega) (by rw [hsz, cvw_pvw (I := I_26) (hsz.trans (by omega)) (fun j hj => hcp j (by omega))]; exact hl26)
            have qI_133 := RX_l cI_133
            have f10_I_133 : I_133 49 10 = I64 49 10 := by rw [eI_133, up2_off _ _ _ (by decide)]
            have f15_I_133 : I_133 49 15 = I64 49 15 := by rw [eI_133, up2_off _ _ _ (by decide)]
            have o_I_133 : ∀ j : Nat, j < 310 → I_133 51 j = Ia 51 j := fun j h1 => (by rw [eI_133, up2_n _ _ (Or.inr (by omega))] : I_133 51 j = I64 51 j).trans (o_I64 j h1)
            refine ww_aload_n hX (pc := 134) dX11_law_134 rfl ?_
            refine ww_iload_n hX (pc := 135) dX11_law_135 rfl ?_
            refine vI1 hX (pc := 136) sX11_109 (xs_49 hL) (c_X11_good l0 hL cI_133 ) (by decide) (Nat.le_refl 0) (Nat.le_refl 0) (Nat.le_of_ble_eq_true rfl) dX11_law_136 (fun x_136 I_136 J_136 h_136 => ?_)
            have kJ_136 : Kp 49 73 Ja J_136 := Kp_tr kJ64 h_136.2.1
            have kI_136 : Ch [50, 51, 57, 58, 59] [0, 1, 10, 11, 15, 16, 17, 18] Ia I_136 := Ch_tr kI_133 (Ch_wd h_136.1 (by decide) (by decide))
            have cI_136 : RX I_136 := h_136.2.2.1
            have qI_136 := RX_l cI_136
            have r310_I_136 : I_136 51 310 = I_133 51 310 := by rw [h_136.1.1 51 (by decide) (by decide)]
            have f10_I_136 : I_136 49 10 = I_133 49 10 := h_136.1.2 10 (by decide)
            have f15_I_136 : I_136 49 15 = I_133 49 15 := h_136.1.2 15 (by decide)
            have o_I_136 : ∀ j : Nat, j < 310 → I_136 51 j = Ia 51 j := fun j h1 => (congrFun (h_136.1.1 51 (by decide) (by decide)) j).trans (o_I_133 j h1)
            refine rI hX (pc := 139) hT (Nat.le_refl 0) (Nat.le_refl 0) dX11_law_139 ?_
            exact ⟨kI_136, kJ_136, cI_136, by omega, o_I_136⟩
          · simp only [w32_mod] at h_69
            refine ww_aload_n hX (pc := 72) dX11_law_72 rfl ?_
            refine ww_getR hX (pc := 73) fX11_20 (by decide) (xs_49 hL) (xr_49_3 hL) dX11_law_73 ?_
            refine ww_sipush hX (pc := 76) (x := 317) dX11_law_76 (by decide) ?_
            refine ww_sipush hX (pc := 79) (x := 400) dX11_law_79 (by decide) ?_
            refine ww_iload_n hX (pc := 82) dX11_law_82 rfl ?_
            refine ww_imul hX (pc := 83) dX11_law_83 ?_
            refine ww_iadd hX (pc := 84) dX11_law_84 ?_
            refine ww_iload_n hX (pc := 85) dX11_law_85 rfl ?_
            refine ww_iadd hX (pc := 86) dX11_law_86 ?_
            refine ww_aload_n hX (pc := 87) dX11_law_87 rfl ?_
            refine ww_getR hX (pc := 88) fX11_43 (by decide) (xs_49 hL) (xr_49_12 hL) dX11_law_88 ?_
            refine ww_iload_n hX (pc := 91) dX11_law_91 rfl ?_
            have hc92 := hr26 i.toNat (by omega)
            rw [← hr57] at hc92
            refine ww_iald hX (pc := 92) (xs_57 hL) (by decide) (by omega) (by omega) dX11_law_92 ?_
            refine ww_iast hX (pc := 93) (xs_51 hL) (by decide) (by omega) (by omega) dX11_law_93 ?_
            refine ww_nmH (fun I_93 eI_93 => ?_)
            have kI_93 : Ch [50, 51, 57, 58, 59] [0, 1, 10, 11, 15, 16, 17, 18] Ia I_93 := by rw [eI_93]; exact Ch_r kI64 (by decide) (by decide)
            have cI_93 : RX I_93 := by rw [eI_93]; exact RX_up cI64 (by omega)
            have qI_93 := RX_l cI_93
            have r310_I_93 : I_93 51 310 = I64 51 310 := by rw [eI_93, up2_n _ _ (Or.inr (by omega))]
            have f10_I_93 : I_93 49 10 = I64 49 10 := by rw [eI_93, up2_off _ _ _ (by decide)]
            have f15_I_93 : I_93 49 15 = I64 49 15 := by rw [eI_93, up2_off _ _ _ (by decide)]
            have z93 : I_93 51 (311 + v_47.toNat) = I64 51 (311 + v_47.toNat) := by rw [eI_93, up2_n _ _ (Or.inr (by omega))]
            have y93 : I_93 57 = I_26 57 := by rw [eI_93, up2_off _ _ _ (by decide)]; exact hr57
            have x93 : ∀ j : Nat, (j : Int) < i + 1 → I_93 51 (317 + 400 * v_47.toNat + j) = I_26 57 j := fun j hj => by
              rw [eI_93]
              by_cases e9 : (j : Int) = i
              · rw [show (317 + 400 * v_47 + i).toNat = 317 + 400 * v_47.toNat + j by omega, up2_s, hr57]
                exact congrArg _ (by omega)
              · rw [up2_n _ _ (Or.inr (by omega))]
                exact hcp j (by omega)
            have o_I_93 : ∀ j : Nat, j < 310 → I_93 51 j = Ia 51 j := fun j h1 => (by rw [eI_93, up2_n _ _ (Or.inr (by omega))] : I_93 51 j = I64 51 j).trans (o_I64 j h1)
            refine ww_aload_n hX (pc := 94) dX11_law_94 rfl ?_
            refine ww_getR hX (pc := 95) fX11_20 (by decide) (xs_49 hL) (xr_49_3 hL) dX11_law_95 ?_
            refine ww_sipush hX (pc := 98) (x := 2717) dX11_law_98 (by decide) ?_
            refine ww_sipush hX (pc := 101) (x := 400) dX11_law_101 (by decide) ?_
            refine ww_iload_n hX (pc := 104) dX11_law_104 rfl ?_
            refine ww_imul hX (pc := 105) dX11_law_105 ?_
            refine ww_iadd hX (pc := 106) dX11_law_106 ?_
            refine ww_iload_n hX (pc := 107) dX11_law_107 rfl ?_
            refine ww_iadd hX (pc := 108) dX11_law_108 ?_
            refine ww_aload_n hX (pc := 109) dX11_law_109 rfl ?_
            refine ww_getR hX (pc := 110) fX11_46 (by decide) (xs_49 hL) (xr_49_13 hL) dX11_law_110 ?_
            refine ww_iload_n hX (pc := 113) dX11_law_113 rfl ?_
            refine ww_iald hX (pc := 114) (xs_58 hL) (by decide) (by omega) (by omega) dX11_law_114 ?_
            refine ww_iast hX (pc := 115) (xs_51 hL) (by decide) (by omega) (by omega) dX11_law_115 ?_
            refine ww_nmH (fun I_115 eI_115 => ?_)
            have kI_115 : Ch [50, 51, 57, 58, 59] [0, 1, 10, 11, 15, 16, 17, 18] Ia I_115 := by rw [eI_115]; exact Ch_r kI_93 (by decide) (by decide)
            have cI_115 : RX I_115 := by rw [eI_115]; exact RX_up cI_93 (by omega)
            have qI_115 := RX_l cI_115
            have r310_I_115 : I_115 51 310 = I_93 51 310 := by rw [eI_115, up2_n _ _ (Or.inr (by omega))]
            have f10_I_115 : I_115 49 10 = I_93 49 10 := by rw [eI_115, up2_off _ _ _ (by decide)]
            have f15_I_115 : I_115 49 15 = I_93 49 15 := by rw [eI_115, up2_off _ _ _ (by decide)]
            have z115 : I_115 51 (311 + v_47.toNat) = I64 51 (311 + v_47.toNat) := by rw [eI_115, up2_n _ _ (Or.inr (by omega))]; exact z93
            have y115 : I_115 57 = I_26 57 := by rw [eI_115, up2_off _ _ _ (by decide)]; exact y93
            have x115 : ∀ j : Nat, (j : Int) < i + 1 → I_115 51 (317 + 400 * v_47.toNat + j) = I_26 57 j := fun j hj => by
              rw [eI_115, up2_n _ _ (Or.inr (by omega))]
              exact x93 j hj
            have o_I_115 : ∀ j : Nat, j < 310 → I_115 51 j = Ia 51 j := fun j h1 => (by rw [eI_115, up2_n _ _ (Or.inr (by omega))] : I_115 51 j = I_93 51 j).trans (o_I_93 j h1)
            refine ww_iinc hX (pc := 116) (lv' := [some (kR (some 49)), some (kI v_47), some (kI (i + 1))]) dX11_law_116 rfl (by decide) rfl rfl ?_
            refine ww_goto hX (pc := 119) (tgt := 64) dX11_law_119 (by decide) ?_
            exact ih_64 _ (by have hm9 := Sh0_e hq_64; omega) (i + 1) I_115 J64 rfl ⟨kI_115, cI_115, kJ64, by omega, by omega, by omega, o_I_115, ⟨by omega, by omega⟩, z115.trans hsz, y115, x115⟩
      exact hl_64 _ 0 I_61 J_26 rfl ⟨kI_61, cI_61, kJ_26, rfl, rfl, rfl, o_I_61, ⟨by omega, by omega⟩, s61, s57, fun j hj => absurd hj (by omega)⟩
    · simp only [w32_mod] at h_29
      refine ww_aload_n hX (pc := 32) dX11_law_32 rfl ?_
      refine ww_bipush hX (pc := 33) (x := (-6)) dX11_law_33 (by decide) ?_
      refine vI1 hX (pc := 35) sX11_105 (xs_49 hL) (c_X11_refuses l0 hL cI_26 (by omega) (by omega)) (by decide) (Nat.le_refl 0) (Nat.le_refl 0) (Nat.le_of_ble_eq_true rfl) dX11_law_35 (fun x_35 I_35 J_35 h_35 => ?_)
      have kJ_35 : Kp 49 73 Ja J_35 := Kp_tr kJ_26 h_35.2.1
      have kI_35 : Ch [50, 51, 57, 58, 59] [0, 1, 10, 11, 15, 16, 17, 18] Ia I_35 := Ch_tr kI_26 (Ch_wd h_35.1 (by decide) (by decide))
      have cI_35 : RX I_35 := h_35.2.2.1
      have qI_35 := RX_l cI_35
      have r310_I_35 : I_35 51 310 = I_26 51 310 := by rw [h_35.1.1 51 (by decide) (by decide)]
      have f10_I_35 : I_35 49 10 = I_26 49 10 := h_35.1.2 10 (by decide)
      have f15_I_35 : I_35 49 15 = I_26 49 15 := h_35.1.2 15 (by decide)
      have o_I_35 : ∀ j : Nat, j < 310 → I_35 51 j = Ia 51 j := fun j h1 => (congrFun (h_35.1.1 51 (by decide) (by decide)) j).trans (o_I_26 j h1)
      refine rI hX (pc := 38) hT (Nat.le_refl 0) (Nat.le_refl 0) dX11_law_38 ?_
      exact ⟨kI_35, kJ_35, cI_35, by omega, o_I_35⟩
  · simp only [w32_mod] at h_10
    refine ww_aload_n hX (pc := 13) dX11_law_13 rfl ?_
    refine ww_iconst hX (pc := 14) (x := 0) dX11_law_14 rfl ?_
    refine ww_putI hX (pc := 15) (fun h9 => absurd h9 (by decide)) gX11_129 rfl (xs_49 hL) dX11_law_15 ?_
    refine ww_nmH (fun I_15 eI_15 => ?_)
    have kI_15 : Ch [50, 51, 57, 58, 59] [0, 1, 10, 11, 15, 16, 17, 18] Ia I_15 := by rw [eI_15]; exact Ch_f Ch_rf (by decide)
    have cI_15 : RX I_15 := by rw [eI_15]; exact RX_10 hQ (by omega) (by omega)
    have qI_15 := RX_l cI_15
    have r310_I_15 : I_15 51 310 = Ia 51 310 := by rw [eI_15, up2_off _ _ _ (by decide)]
    have f15_I_15 : I_15 49 15 = Ia 49 15 := by rw [eI_15, up2_n _ _ (Or.inr (by decide))]
    have z10 : I_15 49 10 = 0 := by rw [eI_15, up2_s]
    have o_I_15 : ∀ j : Nat, j < 310 → I_15 51 j = Ia 51 j := fun j h1 => (by rw [eI_15, up2_off _ _ _ (by decide)] : I_15 51 j = Ia 51 j).trans ((fun _ _ => rfl) j h1)
    refine ww_aload_n hX (pc := 18) dX11_law_18 rfl ?_
    refine ww_bipush hX (pc := 19) (x := (-5)) dX11_law_19 (by decide) ?_
    refine vI1 hX (pc := 21) sX11_105 (xs_49 hL) (c_X11_refuses l0 hL cI_15 (by omega) (by omega)) (by decide) (Nat.le_refl 0) (Nat.le_refl 0) (Nat.le_of_ble_eq_true rfl) dX11_law_21 (fun x_21 I_21 J_21 h_21 => ?_)
    have kJ_21 : Kp 49 73 Ja J_21 := Kp_tr (Kp_rf (a := 49) (b := 73)) h_21.2.1
    have kI_21 : Ch [50, 51, 57, 58, 59] [0, 1, 10, 11, 15, 16, 17, 18] Ia I_21 := Ch_tr kI_15 (Ch_wd h_21.1 (by decide) (by decide))
    have cI_21 : RX I_21 := h_21.2.2.1
    have qI_21 := RX_l cI_21
    have r310_I_21 : I_21 51 310 = I_15 51 310 := by rw [h_21.1.1 51 (by decide) (by decide)]
    have f10_I_21 : I_21 49 10 = I_15 49 10 := h_21.1.2 10 (by decide)
    have f15_I_21 : I_21 49 15 = I_15 49 15 := h_21.1.2 15 (by decide)
    have o_I_21 : ∀ j : Nat, j < 310 → I_21 51 j = Ia 51 j := fun j h1 => (congrFun (h_21.1.1 51 (by decide) (by decide)) j).trans (o_I_15 j h1)
    refine rI hX (pc := 24) hT (Nat.le_refl 0) (Nat.le_refl 0) dX11_law_24 ?_
    exact ⟨kI_21, kJ_21, cI_21, by omega, o_I_21⟩
