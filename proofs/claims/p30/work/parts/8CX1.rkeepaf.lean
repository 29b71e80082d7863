def Sb7 (a b : Int) : Prop := ¬ b = -1 → a.toNat &&& b.toNat = a.toNat
theorem nx_cr {bt : Nat → Nat → Bool} {code : Nat → Int} {g s N x v : Int} {n : Nat} (h : v = fW (nxF bt code g s N x) (-1) n) (hN : 0 < N) : (-1 ≤ v ∧ v < N) ∧ Sb7 s v := by
  rcases nx_cd (bt := bt) (code := code) (g := g) (s := s) (N := N) (x := x) n with h1 | ⟨t, h1, h2, h3, h4⟩
  · rw [← h] at h1
    exact ⟨by omega, fun h9 => absurd h1 h9⟩
  · rw [← h] at h1
    refine ⟨by omega, fun _ => ?_⟩
    rw [h1, Int.toNat_natCast]
    exact h3

set_option maxHeartbeats 4000000 in
set_option maxRecDepth 20000 in
theorem c8_X11_nextOf (l0 : Launch) {Ia Ja : aI1} {Ra : aR1} {Sa : aS1} (hL : LY Ra Sa) (hQ : RX Ia) {a b m : Int} (ha0 : 0 ≤ a) (ha1 : a ≤ FU (Ia 51 304)) (hb0 : -2147483648 ≤ b) (hb1 : b < 2147483648) (hm0 : 0 ≤ m) (hm1 : m ≤ 3) (hO : ∀ l, l < 8 → 0 ≤ Ia 51 (256 + l) ∧ Ia 51 (256 + l) ≤ 99) (hcr : ∀ t : Nat, (t : Int) ≤ FU (Ia 51 304) → -1 ≤ Ia 51 t ∧ Ia 51 t ≤ 7) (hM : ∀ t : Nat, (t : Int) ≤ FU (Ia 51 304) → MR8 (Ia 51 304) (Ia 51 305 - 1) (Ia 51 t) (pcn t) (Ja 62 t))  : CT l0 3 0 0 mX11_nextOf [kR (some 49), kI a, kI b, kI m] Ia Ja Ra Sa (cI (fun x I' J' => Ia = I' ∧ Ja = J' ∧ x = NX (bR m a (Ia 51 304) (Ia 51 305) (Ia 51) (Ia 61) (Ja 62)) (Ia 51) (Ia 51 306) a (FU (Ia 51 304) + 1) b) Ra Sa) := by
  refine ct_in pn_X11 (Nat.le_of_ble_eq_true rfl) (fun X hX hT hIn => ?_)
  have hX : aK l0 X cX11_nextOf 6 RX11 (some .int) 3 0 0 := hX
  change WW X 0 [some (kR (some 49)), some (kI a), some (kI b), some (kI m), none, none] [] Ia Ja Ra Sa 0 0
  have qIa := RX_o hQ
  refine ww_iconst hX (pc := 0) (x := (-1)) dX11_nextOf_0 rfl ?_
  refine ww_istore hX (pc := 1) (lv' := [some (kR (some 49)), some (kI a), some (kI b), some (kI m), some (kI (-1)), none]) dX11_nextOf_1 (by decide) rfl rfl ?_
  refine ww_iload_n hX (pc := 3) dX11_nextOf_3 rfl ?_
  refine ww_istore hX (pc := 4) (lv' := [some (kR (some 49)), some (kI a), some (kI b), some (kI m), some (kI (-1)), some (kI a)]) dX11_nextOf_4 (by decide) rfl rfl ?_
  have hl_6 : ∀ (n_6 : Nat) (bs : Int) (t : Int), (256 - t).toNat = n_6 → (((a ≤ t ∧ t ≤ (FU (Ia 51 304) + 1)) ∧ (-1 ≤ bs ∧ bs ≤ FU (Ia 51 304))) ∧ bs = fW (nxF (bR m a (Ia 51 304) (Ia 51 305) (Ia 51) (Ia 61) (Ja 62)) (Ia 51) (Ia 51 306) a (FU (Ia 51 304) + 1) b) (-1) t.toNat) → WW X 6 [some (kR (some 49)), some (kI a), some (kI b), some (kI m), some (kI bs), some (kI t)] [] Ia Ja Ra Sa 0 0 := by
    intro n_6
    induction n_6 using Nat.strongRecOn with
    | ind n_6 ih_6 =>
      intro bs t hm_6 hv_6
      have hq_6 := Sh0_i hm_6
      clear hm_6
      obtain ⟨hv, hbs⟩ := hv_6
      have hcx := nx_cr hbs (by omega)
      refine ww_iload hX (pc := 6) dX11_nextOf_6 rfl ?_
      refine ww_aload_n hX (pc := 8) dX11_nextOf_8 rfl ?_
      refine vI0 hX (pc := 9) sX11_112 (xs_49 hL) (c_X11_states l0 hL hQ ) (by decide) (Nat.le_refl 0) (Nat.le_refl 0) (Nat.le_of_ble_eq_true rfl) dX11_nextOf_9 (fun x_9 I_9 J_9 h_9 => ?_)
      obtain ⟨rfl, rfl, h_9⟩ := h_9
      refine ww_icmp_ge hX (pc := 12) (tgt := 72) dX11_nextOf_12 (by decide) (fun h_12 => ?_) (fun h_12 => ?_)
      · simp only [w32_mod] at h_12
        refine ww_iload hX (pc := 72) dX11_nextOf_72 rfl ?_
        refine rI hX (pc := 74) hT (Nat.le_refl 0) (Nat.le_refl 0) dX11_nextOf_74 ?_
        exact ⟨rfl, rfl, (by rw [hbs, show t = FU (Ia 51 304) + 1 by omega]; rfl)⟩
      · simp only [w32_mod] at h_12
        have hct := hcr t.toNat (by omega)
        refine ww_aload_n hX (pc := 15) dX11_nextOf_15 rfl ?_
        refine ww_iload hX (pc := 16) dX11_nextOf_16 rfl ?_
        refine vI1 hX (pc := 18) sX11_126 (xs_49 hL) (c_X11_readOf l0 hL hQ (by omega) (by omega)) (by decide) (Nat.le_refl 0) (Nat.le_refl 0) (Nat.le_of_ble_eq_true rfl) dX11_nextOf_18 (fun x_18 I_18 J_18 h_18 => ?_)
        obtain ⟨rfl, rfl, h_18⟩ := h_18
        refine ww_iload_n hX (pc := 21) dX11_nextOf_21 rfl ?_
        refine ww_icmp_ne hX (pc := 22) (tgt := 66) dX11_nextOf_22 (by decide) (fun h_22 => ?_) (fun h_22 => ?_)
        · simp only [w32_mod] at h_22
          have hst : nxF (bR m a (Ia 51 304) (Ia 51 305) (Ia 51) (Ia 61) (Ja 62)) (Ia 51) (Ia 51 306) a (FU (Ia 51 304) + 1) b bs t.toNat = bs := nxF_x (by omega) (fun h9 => by
            have := h9.2.1; omega)
          refine ww_iinc hX (pc := 66) (lv' := [some (kR (some 49)), some (kI a), some (kI b), some (kI m), some (kI bs), some (kI (t + 1))]) dX11_nextOf_66 rfl (by decide) rfl rfl ?_
          refine ww_goto hX (pc := 69) (tgt := 6) dX11_nextOf_69 (by decide) ?_
          exact ih_6 _ (by have hm9 := Sh0_e hq_6; omega) bs (t + 1) rfl ⟨by omega, (by rw [fW_s _ _ (by omega), ← hbs, hst])⟩
        · simp only [w32_mod] at h_22
          refine ww_aload_n hX (pc := 25) dX11_nextOf_25 rfl ?_
          refine ww_iload_n hX (pc := 26) dX11_nextOf_26 rfl ?_
          refine ww_iload hX (pc := 27) dX11_nextOf_27 rfl ?_
          refine ww_aload_n hX (pc := 29) dX11_nextOf_29 rfl ?_
          refine ww_getR hX (pc := 30) fX11_20 (by decide) (xs_49 hL) (xr_49_3 hL) dX11_nextOf_30 ?_
          refine ww_sipush hX (pc := 33) (x := 306) dX11_nextOf_33 (by decide) ?_
          refine ww_iald hX (pc := 36) (xs_51 hL) (by decide) (by omega) (by omega) dX11_nextOf_36 ?_
          refine ww_toI (b := Ia 51 306) rfl ?_
          refine vI3 hX (pc := 37) sX11_271 (xs_49 hL) (c_X11_canCome l0 hL hQ ) (by decide) (Nat.le_refl 0) (Nat.le_refl 0) (Nat.le_of_ble_eq_true rfl) dX11_nextOf_37 (fun x_37 I_37 J_37 h_37 => ?_)
          obtain ⟨rfl, rfl, h_37⟩ := h_37
          refine ww_if_eq hX (pc := 40) (tgt := 66) dX11_nextOf_40 (by decide) (fun h_40 => ?_) (fun h_40 => ?_)
          · simp only [w32_mod] at h_40
            have hst : nxF (bR m a (Ia 51 304) (Ia 51 305) (Ia 51) (Ia 61) (Ja 62)) (Ia 51) (Ia 51 306) a (FU (Ia 51 304) + 1) b bs t.toNat = bs := if_neg (fun h9 => by
              have h8 := h9.2.2.1
              rw [show ((t.toNat : Nat) : Int) = t by omega] at h8
              have := h_37.2.mpr ((canC_iff (by omega) (by omega) (by omega) (by omega)).mpr ⟨h9.2.1, h8⟩)
              omega)
            refine ww_iinc hX (pc := 66) (lv' := [some (kR (some 49)), some (kI a), some (kI b), some (kI m), some (kI bs), some (kI (t + 1))]) dX11_nextOf_66 rfl (by decide) rfl rfl ?_
            refine ww_goto hX (pc := 69) (tgt := 6) dX11_nextOf_69 (by decide) ?_
            exact ih_6 _ (by have hm9 := Sh0_e hq_6; omega) bs (t + 1) rfl ⟨by omega, (by rw [fW_s _ _ (by omega), ← hbs, hst])⟩
          · simp only [w32_mod] at h_40
            have hcc := (canC_iff (by omega) (by omega) (by omega) (by omega)).mp (h_37.2.mp (by omega))
            refine ww_iload hX (pc := 43) dX11_nextOf_43 rfl ?_
            refine ww_iconst hX (pc := 45) (x := (-1)) dX11_nextOf_45 rfl ?_
            refine ww_icmp_eq hX (pc := 46) (tgt := 62) dX11_nextOf_46 (by decide) (fun h_46 => ?_) (fun h_46 => ?_)
            · simp only [w32_mod] at h_46
              have hst : nxF (bR m a (Ia 51 304) (Ia 51 305) (Ia 51) (Ia 61) (Ja 62)) (Ia 51) (Ia 51 306) a (FU (Ia 51 304) + 1) b bs t.toNat = t := nxF_y (by omega) (by omega) hcc.1 hcc.2 (by omega) (Or.inl (by omega))
              refine ww_iload hX (pc := 62) dX11_nextOf_62 rfl ?_
              refine ww_istore hX (pc := 64) (lv' := [some (kR (some 49)), some (kI a), some (kI b), some (kI m), some (kI t), some (kI t)]) dX11_nextOf_64 (by decide) rfl rfl ?_
              refine ww_iinc hX (pc := 66) (lv' := [some (kR (some 49)), some (kI a), some (kI b), some (kI m), some (kI t), some (kI (t + 1))]) dX11_nextOf_66 rfl (by decide) rfl rfl ?_
              refine ww_goto hX (pc := 69) (tgt := 6) dX11_nextOf_69 (by decide) ?_
              exact ih_6 _ (by have hm9 := Sh0_e hq_6; omega) t (t + 1) rfl ⟨by omega, (by rw [fW_s _ _ (by omega), ← hbs, hst])⟩
            · simp only [w32_mod] at h_46
              refine ww_aload_n hX (pc := 49) dX11_nextOf_49 rfl ?_
              refine ww_iload_n hX (pc := 50) dX11_nextOf_50 rfl ?_
              refine ww_iload hX (pc := 51) dX11_nextOf_51 rfl ?_
              refine ww_iload hX (pc := 53) dX11_nextOf_53 rfl ?_
              refine ww_iload_n hX (pc := 55) dX11_nextOf_55 rfl ?_
              refine vI4 hX (pc := 56) sX11_304 (xs_49 hL) (c8_X11_isBetter l0 hL hQ (by omega) (by omega) (by omega) (by omega) (by omega) (by omega) (by omega) (by omega) hO hcc.1 (hcx.2 (by omega)) hM) (by decide) (Nat.le_refl 0) (Nat.le_refl 0) (Nat.le_of_ble_eq_true rfl) dX11_nextOf_56 (fun x_56 I_56 J_56 h_56 => ?_)
              obtain ⟨rfl, rfl, h_56⟩ := h_56
              refine ww_if_eq hX (pc := 59) (tgt := 66) dX11_nextOf_59 (by decide) (fun h_59 => ?_) (fun h_59 => ?_)
              · simp only [w32_mod] at h_59
                have hst : nxF (bR m a (Ia 51 304) (Ia 51 305) (Ia 51) (Ia 61) (Ja 62)) (Ia 51) (Ia 51 306) a (FU (Ia 51 304) + 1) b bs t.toNat = bs := nxF_x (by omega) (fun h9 => by
                  have g3 := h9.2.2
                  rcases g3 with g3 | g3
                  · omega
                  · have := h_56.2.mpr g3; omega)
                refine ww_iinc hX (pc := 66) (lv' := [some (kR (some 49)), some (kI a), some (kI b), some (kI m), some (kI bs), some (kI (t + 1))]) dX11_nextOf_66 rfl (by decide) rfl rfl ?_
                refine ww_goto hX (pc := 69) (tgt := 6) dX11_nextOf_69 (by decide) ?_
                exact ih_6 _ (by have hm9 := Sh0_e hq_6; omega) bs (t + 1) rfl ⟨by omega, (by rw [fW_s _ _ (by omega), ← hbs, hst])⟩
              · simp only [w32_mod] at h_59
                have hst : nxF (bR m a (Ia 51 304) (Ia 51 305) (Ia 51) (Ia 61) (Ja 62)) (Ia 51) (Ia 51 306) a (FU (Ia 51 304) + 1) b bs t.toNat = t := nxF_y (by omega) (by omega) hcc.1 hcc.2 (by omega) (Or.inr (h_56.2.mp (by omega)))
                refine ww_iload hX (pc := 62) dX11_nextOf_62 rfl ?_
                refine ww_istore hX (pc := 64) (lv' := [some (kR (some 49)), some (kI a), some (kI b), some (kI m), some (kI t), some (kI t)]) dX11_nextOf_64 (by decide) rfl rfl ?_
                refine ww_iinc hX (pc := 66) (lv' := [some (kR (some 49)), some (kI a), some (kI b), some (kI m), some (kI t), some (kI (t + 1))]) dX11_nextOf_66 rfl (by decide) rfl rfl ?_
                refine ww_goto hX (pc := 69) (tgt := 6) dX11_nextOf_69 (by decide) ?_
                exact ih_6 _ (by have hm9 := Sh0_e hq_6; omega) t (t + 1) rfl ⟨by omega, (by rw [fW_s _ _ (by omega), ← hbs, hst])⟩
  exact hl_6 _ (-1) a rfl ⟨by omega, (fW_e nxF_n).symm⟩
