theorem zWs_l : ∀ n, n < 13 → (zWs.getD n []).length = strLen.getD n 0 := by
  have : ∀ n : Fin 13, (zWs.getD n.val []).length = strLen.getD n.val 0 := by decide
  exact fun n hn => this ⟨n, hn⟩
theorem chS_w {n : Nat} (hn : n < 13) {i : Nat} (hi : i < strLen.getD n 0) : chS n (i : Int) = (zWs.getD n []).getD i 0 ∧ 0 ≤ chS n (i : Int) ∧ chS n (i : Int) ≤ 255 := by
  have h5 := (strLen_r hn).2
  have : ∀ n : Fin 13, ∀ i : Fin 5, i.val < strLen.getD n.val 0 → chS n.val (i.val : Int) = (zWs.getD n.val []).getD i.val 0 ∧ 0 ≤ chS n.val (i.val : Int) ∧ chS n.val (i.val : Int) ≤ 255 := by decide +kernel
  exact this ⟨n, hn⟩ ⟨i, by omega⟩ hi
set_option maxHeartbeats 4000000 in
set_option maxRecDepth 20000 in
theorem c6_X9_spells (l0 : Launch) {Ia Ja : aI1} {Ra : aR1} {Sa : aS1} (hL : LY Ra Sa) (hI : XI Ia) {f : Nat → Int} {N : Nat} (hN : Ia 8 1 = N) (hf : ∀ j, j < N → f j = Ia 9 j) {n : Nat} {a b : Int} (hn : n < 13) (ha0 : 0 ≤ a) (hab : a ≤ b) (hbl : b ≤ Ia 8 1)  : CT l0 4 0 0 mX9_spells [kR (some 8), kS n, kI a, kI b] Ia Ja Ra Sa (cI (fun x I' J' => Ia = I' ∧ Ja = J' ∧ (x = 0 ∨ x = 1) ∧ (x = 1 ↔ zWm f a.toNat b.toNat (zWs.getD n []))) Ra Sa) := by
  refine ct_in pn_X9 (Nat.le_of_ble_eq_true rfl) (fun X hX hT hIn => ?_)
  have hX : aK l0 X cX9_spells 5 RX9 (some .boolean) 4 0 0 := hX
  change WW X 0 [some (kR (some 8)), some (kS n), some (kI a), some (kI b), none] [] Ia Ja Ra Sa 0 0
  obtain ⟨hn1, hn2⟩ := hI.1
  obtain ⟨hk1, hk2⟩ := hI.2.1
  obtain ⟨hf1, hf2⟩ := hI.fu
  obtain ⟨hl1, hl2⟩ := hI.2.2.2.2.2.2.1
  have hsl := strLen_r hn
  refine ww_iload_n hX (pc := 0) dX9_spells_0 rfl ?_
  refine ww_if_lt hX (pc := 1) (tgt := 22) dX9_spells_1 (by decide) (fun h_1 => ?_) (fun h_1 => ?_)
  · simp only [w32_mod] at h_1
    refine ww_iconst hX (pc := 22) (x := 0) dX9_spells_22 rfl ?_
    refine rZ hX (pc := 23) hT (Nat.le_refl 0) (Nat.le_refl 0) dX9_spells_23 (by decide) ?_
    exact ⟨rfl, rfl, by omega, ⟨fun h9 => absurd h9 (by decide), fun h9 => by have h8 := h9.1; have h7 := zWs_l n hn; omega⟩⟩
  · simp only [w32_mod] at h_1
    refine ww_iload_n hX (pc := 4) dX9_spells_4 rfl ?_
    refine ww_aload_n hX (pc := 5) dX9_spells_5 rfl ?_
    refine ww_getI hX (pc := 6) fX9_15 (by decide) (xs_8 hL) dX9_spells_6 ?_
    refine ww_icmp_gt hX (pc := 9) (tgt := 22) dX9_spells_9 (by decide) (fun h_9 => ?_) (fun h_9 => ?_)
    · simp only [w32_mod] at h_9
      refine ww_iconst hX (pc := 22) (x := 0) dX9_spells_22 rfl ?_
      refine rZ hX (pc := 23) hT (Nat.le_refl 0) (Nat.le_refl 0) dX9_spells_23 (by decide) ?_
      exact ⟨rfl, rfl, by omega, ⟨fun h9 => absurd h9 (by decide), fun h9 => by have h8 := h9.1; have h7 := zWs_l n hn; omega⟩⟩
    · simp only [w32_mod] at h_9
      refine ww_aload_nS hX (pc := 12) dX9_spells_12 rfl ?_
      refine xI0 hX (pc := 13) sX9_19 hn (c_J0_length_8abf5 l0 hn) (by decide) (Nat.le_refl 0) (Nat.le_refl 0) (Nat.le_of_ble_eq_true rfl) dX9_spells_13 (fun x_13 I_13 J_13 h_13 => ?_)
      obtain ⟨rfl, rfl, h_13⟩ := h_13
      refine ww_iload_n hX (pc := 16) dX9_spells_16 rfl ?_
      refine ww_iload_n hX (pc := 17) dX9_spells_17 rfl ?_
      refine ww_isub hX (pc := 18) dX9_spells_18 ?_
      refine ww_icmp_eq hX (pc := 19) (tgt := 24) dX9_spells_19 (by decide) (fun h_19 => ?_) (fun h_19 => ?_)
      · simp only [w32_mod] at h_19
        refine ww_iconst hX (pc := 24) (x := 0) dX9_spells_24 rfl ?_
        refine ww_istore hX (pc := 25) (lv' := [some (kR (some 8)), some (kS n), some (kI a), some (kI b), some (kI 0)]) dX9_spells_25 (by decide) rfl rfl ?_
        have hl_27 : ∀ (n_27 : Nat) (i : Int), (((strLen.getD n 0 : Nat) : Int) - i).toNat = n_27 → ((0 ≤ i ∧ i ≤ (strLen.getD n 0 : Nat)) ∧ ∀ j : Nat, (j : Int) < i → f (a.toNat + j) = (zWs.getD n []).getD j 0) → WW X 27 [some (kR (some 8)), some (kS n), some (kI a), some (kI b), some (kI i)] [] Ia Ja Ra Sa 0 0 := by
          intro n_27
          induction n_27 using Nat.strongRecOn with
          | ind n_27 ih_27 =>
            intro i hm_27 hv_27
            have hq_27 := Sh0_i hm_27
            clear hm_27
            obtain ⟨⟨hi0, hi1⟩, hw9⟩ := hv_27
            refine ww_iload hX (pc := 27) dX9_spells_27 rfl ?_
            refine ww_aload_nS hX (pc := 29) dX9_spells_29 rfl ?_
            refine xI0 hX (pc := 30) sX9_19 hn (c_J0_length_8abf5 l0 hn) (by decide) (Nat.le_refl 0) (Nat.le_refl 0) (Nat.le_of_ble_eq_true rfl) dX9_spells_30 (fun x_30 I_30 J_30 h_30 => ?_)
            obtain ⟨rfl, rfl, h_30⟩ := h_30
            refine ww_icmp_ge hX (pc := 33) (tgt := 62) dX9_spells_33 (by decide) (fun h_33 => ?_) (fun h_33 => ?_)
            · simp only [w32_mod] at h_33
              refine ww_iconst hX (pc := 62) (x := 1) dX9_spells_62 rfl ?_
              refine rZ hX (pc := 63) hT (Nat.le_refl 0) (Nat.le_refl 0) dX9_spells_63 (by decide) ?_
              exact ⟨rfl, rfl, by omega, ⟨fun _ => ⟨by rw [zWs_l n hn]; omega, fun j hj => hw9 j (by rw [zWs_l n hn] at hj; omega)⟩, fun _ => rfl⟩⟩
            · simp only [w32_mod] at h_33
              refine ww_aload_n hX (pc := 36) dX9_spells_36 rfl ?_
              refine ww_getR hX (pc := 37) fX9_9 (by decide) (xs_8 hL) (xr_8_0 hL) dX9_spells_37 ?_
              refine ww_iload_n hX (pc := 40) dX9_spells_40 rfl ?_
              refine ww_iload hX (pc := 41) dX9_spells_41 rfl ?_
              refine ww_iadd hX (pc := 43) dX9_spells_43 ?_
              have hby := hI.2.2.2.2.2.2.2.2.2.2 (a + i).toNat (by omega)
              have hq9 := chS_w hn (i := i.toNat) (by omega)
              rw [show (i.toNat : Int) = i by omega] at hq9
              have hff := hf (a + i).toNat (by omega)
              refine ww_iald hX (pc := 44) (xs_9 hL) (by decide) (by omega) (by omega) dX9_spells_44 ?_
              refine ww_aload_nS hX (pc := 45) dX9_spells_45 rfl ?_
              refine ww_iload hX (pc := 46) dX9_spells_46 rfl ?_
              refine xI1 hX (pc := 48) sX9_24 hn (c_J0_charAt_5068e l0 hn (by omega) (by omega)) (by decide) (Nat.le_refl 0) (Nat.le_refl 0) (Nat.le_of_ble_eq_true rfl) dX9_spells_48 (fun x_48 I_48 J_48 h_48 => ?_)
              obtain ⟨rfl, rfl, h_48⟩ := h_48
              refine ww_icmp_eq hX (pc := 51) (tgt := 56) dX9_spells_51 (by decide) (fun h_51 => ?_) (fun h_51 => ?_)
              · simp only [w32_mod] at h_51
                have heq : f (a + i).toNat = (zWs.getD n []).getD i.toNat 0 := by rw [hff, ← hq9.1]; omega
                refine ww_iinc hX (pc := 56) (lv' := [some (kR (some 8)), some (kS n), some (kI a), some (kI b), some (kI (i + 1))]) dX9_spells_56 rfl (by decide) rfl rfl ?_
                refine ww_goto hX (pc := 59) (tgt := 27) dX9_spells_59 (by decide) ?_
                exact ih_27 _ (by have hm9 := Sh0_e hq_27; omega) (i + 1) rfl ⟨⟨by omega, by omega⟩, fun j hj => (if h9 : (j : Int) < i then hw9 j h9 else by rw [show a.toNat + j = (a + i).toNat by omega, show j = i.toNat by omega]; exact heq)⟩
              · simp only [w32_mod] at h_51
                have hne : ¬ f (a + i).toNat = (zWs.getD n []).getD i.toNat 0 := by rw [hff, ← hq9.1]; omega
                refine ww_iconst hX (pc := 54) (x := 0) dX9_spells_54 rfl ?_
                refine rZ hX (pc := 55) hT (Nat.le_refl 0) (Nat.le_refl 0) dX9_spells_55 (by decide) ?_
                exact ⟨rfl, rfl, by omega, ⟨fun h9 => absurd h9 (by decide), fun h9 => by
                    have h8 := h9.2 i.toNat (by rw [zWs_l n hn]; omega)
                    rw [show a.toNat + i.toNat = (a + i).toNat by omega] at h8
                    exact absurd h8 hne⟩⟩
        exact hl_27 _ 0 rfl ⟨⟨by omega, by omega⟩, fun j hj => absurd hj (by omega)⟩
      · simp only [w32_mod] at h_19
        refine ww_iconst hX (pc := 22) (x := 0) dX9_spells_22 rfl ?_
        refine rZ hX (pc := 23) hT (Nat.le_refl 0) (Nat.le_refl 0) dX9_spells_23 (by decide) ?_
        exact ⟨rfl, rfl, by omega, ⟨fun h9 => absurd h9 (by decide), fun h9 => by have h8 := h9.1; have h7 := zWs_l n hn; omega⟩⟩
