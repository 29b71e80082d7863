def FDr (F G : Nat → Int) (l a b c e f : Int) : Prop := (∀ j : Nat, (j : Int) < l → G j = F j) ∧ (∀ k : Nat, k < 20 → G (l.toNat + k) = i_b (i_shr (sel5 a b c e f (k / 4)) (24 - 8 * ((k % 4 : Nat) : Int))))
def FIr (F G : Nat → Int) (l a b c e f n : Int) : Prop := (∀ j : Nat, (j : Int) < l → G j = F j) ∧ (∀ k : Nat, (k : Int) < n → G (l.toNat + k) = i_b (i_shr (sel5 a b c e f (k / 4)) (24 - 8 * ((k % 4 : Nat) : Int))))
theorem FIr_0 {F : Nat → Int} {l a b c e f : Int} : FIr F F l a b c e f 0 := ⟨fun _ _ => rfl, fun q hq => absurd hq (by omega)⟩
theorem FIr_s {F G : Nat → Int} {l a b c e f n v : Int} {p : Nat} (h : FIr F G l a b c e f n) (h0 : 0 ≤ l) (hn : 0 ≤ n) (hp : p = (l + n).toNat) (hv : v = i_b (i_shr (sel5 a b c e f (n / 4).toNat) (24 - 8 * (n % 4)))) : FIr F (up1 G p v) l a b c e f (n + 1) := by
  subst hp hv
  refine ⟨fun j hj => ?_, fun q hq => ?_⟩
  · rw [up1_n _ _ (by omega)]
    exact h.1 j hj
  · by_cases e1 : (q : Int) = n
    · rw [show l.toNat + q = (l + n).toNat by omega, up1_s, ← e1]
      rfl
    · rw [up1_n _ _ (by omega)]
      exact h.2 q (by omega)
theorem ib_e (y : Int) : i_b y = (w32 y).bmod 256 := by
  show (Int32.ofInt y).toInt8.toInt32.toInt = _
  rw [Int8.toInt_toInt32, Int32.toInt_toInt8]
  rfl
theorem ib_ib (y : Int) : i_b (i_b y) = i_b y := by
  rw [ib_e (i_b y)]
  have h1 := Int.le_bmod (x := w32 y) (m := 256) (by decide)
  have h2 := Int.bmod_lt (x := w32 y) (m := 256) (by decide)
  rw [ib_e y, w32_id (by omega) (by omega)]
  exact Int.bmod_eq_of_le (by omega) (by omega)
theorem U5_v (F : Nat → Int) (a b c e g : Int) {q : Nat} (hq : q < 5) : up1 (up1 (up1 (up1 (up1 F 0 a) 1 b) 2 c) 3 e) 4 g q = sel5 a b c e g q := by
  unfold sel5
  rcases (show q = 0 ∨ q = 1 ∨ q = 2 ∨ q = 3 ∨ q = 4 by omega) with rfl | rfl | rfl | rfl | rfl
  · rw [up1_n _ _ (by decide), up1_n _ _ (by decide), up1_n _ _ (by decide), up1_n _ _ (by decide), up1_s, if_pos rfl]
  · rw [up1_n _ _ (by decide), up1_n _ _ (by decide), up1_n _ _ (by decide), up1_s, if_neg (by decide), if_pos rfl]
  · rw [up1_n _ _ (by decide), up1_n _ _ (by decide), up1_s, if_neg (by decide), if_neg (by decide), if_pos rfl]
  · rw [up1_n _ _ (by decide), up1_s, if_neg (by decide), if_neg (by decide), if_neg (by decide), if_pos rfl]
  · rw [up1_s, if_neg (by decide), if_neg (by decide), if_neg (by decide), if_neg (by decide)]
set_option maxHeartbeats 4000000 in
set_option maxRecDepth 20000 in
theorem c5_X11_readMany (l0 : Launch) {Ia Ja : aI1} {Ra : aR1} {Sa : aS1} (hL : LY Ra Sa) (hQ : RX Ia) (hcr : ∀ t : Nat, (t : Int) ≤ FU (Ia 51 304) → -1 ≤ Ia 51 t ∧ Ia 51 t ≤ 7)  : CT l0 1 0 0 mX11_readMany [kR (some 49)] Ia Ja Ra Sa (cI (fun x I' J' => Ia = I' ∧ Ja = J' ∧ x = cnR (Ia 51) (FU (Ia 51 304) + 1).toNat) Ra Sa) := by
  refine ct_in pn_X11 (Nat.le_of_ble_eq_true rfl) (fun X hX hT hIn => ?_)
  have hX : aK l0 X cX11_readMany 3 RX11 (some .int) 1 0 0 := hX
  change WW X 0 [some (kR (some 49)), none, none] [] Ia Ja Ra Sa 0 0
  have qIa := RX_o hQ
  refine ww_iconst hX (pc := 0) (x := 0) dX11_readMany_0 rfl ?_
  refine ww_istore_n hX (pc := 1) (lv' := [some (kR (some 49)), some (kI 0), none]) dX11_readMany_1 (by decide) rfl rfl ?_
  refine ww_iconst hX (pc := 2) (x := 0) dX11_readMany_2 rfl ?_
  refine ww_istore_n hX (pc := 3) (lv' := [some (kR (some 49)), some (kI 0), some (kI 0)]) dX11_readMany_3 (by decide) rfl rfl ?_
  have hl_4 : ∀ (n_4 : Nat) (n : Int) (i : Int), (256 - i).toNat = n_4 → ((0 ≤ i ∧ i ≤ FU (Ia 51 304) + 1) ∧ n = cnR (Ia 51) i.toNat) → WW X 4 [some (kR (some 49)), some (kI n), some (kI i)] [] Ia Ja Ra Sa 0 0 := by
    intro n_4
    induction n_4 using Nat.strongRecOn with
    | ind n_4 ih_4 =>
      intro n i hm_4 hv_4
      have hq_4 := Sh0_i hm_4
      clear hm_4
      obtain ⟨hv, hn⟩ := hv_4
      refine ww_iload_n hX (pc := 4) dX11_readMany_4 rfl ?_
      refine ww_aload_n hX (pc := 5) dX11_readMany_5 rfl ?_
      refine vI0 hX (pc := 6) sX11_112 (xs_49 hL) (c_X11_states l0 hL hQ ) (by decide) (Nat.le_refl 0) (Nat.le_refl 0) (Nat.le_of_ble_eq_true rfl) dX11_readMany_6 (fun x_6 I_6 J_6 h_6 => ?_)
      obtain ⟨rfl, rfl, h_6⟩ := h_6
      refine ww_icmp_ge hX (pc := 9) (tgt := 35) dX11_readMany_9 (by decide) (fun h_9 => ?_) (fun h_9 => ?_)
      · simp only [w32_mod] at h_9
        refine ww_iload_n hX (pc := 35) dX11_readMany_35 rfl ?_
        refine rI hX (pc := 36) hT (Nat.le_refl 0) (Nat.le_refl 0) dX11_readMany_36 ?_
        exact ⟨rfl, rfl, (by rw [hn, show i = FU (Ia 51 304) + 1 by omega])⟩
      · simp only [w32_mod] at h_9
        have hcd := hcr i.toNat (by omega)
        have hcs := cnR_s (Ia 51) (i := i) (by omega)
        refine ww_iload_n hX (pc := 12) dX11_readMany_12 rfl ?_
        refine ww_aload_n hX (pc := 13) dX11_readMany_13 rfl ?_
        refine ww_iload_n hX (pc := 14) dX11_readMany_14 rfl ?_
        refine vI1 hX (pc := 15) sX11_126 (xs_49 hL) (c_X11_readOf l0 hL hQ (by omega) (by omega)) (by decide) (Nat.le_refl 0) (Nat.le_refl 0) (Nat.le_of_ble_eq_true rfl) dX11_readMany_15 (fun x_15 I_15 J_15 h_15 => ?_)
        obtain ⟨rfl, rfl, h_15⟩ := h_15
        refine ww_iconst hX (pc := 18) (x := (-1)) dX11_readMany_18 rfl ?_
        refine ww_icmp_ne hX (pc := 19) (tgt := 26) dX11_readMany_19 (by decide) (fun h_19 => ?_) (fun h_19 => ?_)
        · simp only [w32_mod] at h_19
          rw [if_neg (by omega)] at hcs
          refine ww_iconst hX (pc := 26) (x := 1) dX11_readMany_26 rfl ?_
          refine ww_iadd hX (pc := 27) dX11_readMany_27 ?_
          refine ww_nmI (fun v_28 hv_28 => ?_)
          refine ww_istore_n hX (pc := 28) (lv' := [some (kR (some 49)), some (kI v_28), some (kI i)]) dX11_readMany_28 (by decide) rfl rfl ?_
          refine ww_iinc hX (pc := 29) (lv' := [some (kR (some 49)), some (kI v_28), some (kI (i + 1))]) dX11_readMany_29 rfl (by decide) rfl rfl ?_
          refine ww_goto hX (pc := 32) (tgt := 4) dX11_readMany_32 (by decide) ?_
          exact ih_4 _ (by have hm9 := Sh0_e hq_4; omega) v_28 (i + 1) rfl ⟨⟨by omega, by omega⟩, by omega⟩
        · simp only [w32_mod] at h_19
          rw [if_pos (by omega)] at hcs
          refine ww_iconst hX (pc := 22) (x := 0) dX11_readMany_22 rfl ?_
          refine ww_goto hX (pc := 23) (tgt := 27) dX11_readMany_23 (by decide) ?_
          refine ww_iadd hX (pc := 27) dX11_readMany_27 ?_
          refine ww_nmI (fun v_28 hv_28 => ?_)
          refine ww_istore_n hX (pc := 28) (lv' := [some (kR (some 49)), some (kI v_28), some (kI i)]) dX11_readMany_28 (by decide) rfl rfl ?_
          refine ww_iinc hX (pc := 29) (lv' := [some (kR (some 49)), some (kI v_28), some (kI (i + 1))]) dX11_readMany_29 rfl (by decide) rfl rfl ?_
          refine ww_goto hX (pc := 32) (tgt := 4) dX11_readMany_32 (by decide) ?_
          exact ih_4 _ (by have hm9 := Sh0_e hq_4; omega) v_28 (i + 1) rfl ⟨⟨by omega, by omega⟩, by omega⟩
  exact hl_4 _ 0 0 rfl ⟨⟨by omega, by omega⟩, rfl⟩
