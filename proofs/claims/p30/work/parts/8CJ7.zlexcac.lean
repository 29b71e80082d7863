set_option maxHeartbeats 4000000 in
set_option maxRecDepth 20000 in
theorem c6_X7_numberAt (l0 : Launch) {Ia Ja : aI1} {Ra : aR1} {Sa : aS1} (hL : LY Ra Sa) (hI : XI Ia) {f : Nat → Int} {N : Nat} (hN : Ia 8 1 = N) (hf : ∀ j, j < N → f j = Ia 9 j) {a b : Int} (ha0 : 0 ≤ a) (hab : a ≤ b) (hb : b ≤ Ia 8 1) (hdg : ∀ j : Int, a ≤ j → j < b → 48 ≤ Ia 9 j.toNat ∧ Ia 9 j.toNat ≤ 57)  : CT l0 1 0 0 mX7_numberAt [kR (some 10), kI a, kI b] Ia Ja Ra Sa (cI (fun x I' J' => Ia = I' ∧ Ja = J' ∧ (0 ≤ x ∧ x ≤ 1001) ∧ x = min (zNu f a.toNat (b.toNat - a.toNat)) 1001) Ra Sa) := by
  refine ct_in pn_X7 (Nat.le_of_ble_eq_true rfl) (fun X hX hT hIn => ?_)
  have hX : aK l0 X cX7_numberAt 5 RX7 (some .int) 1 0 0 := hX
  change WW X 0 [some (kR (some 10)), some (kI a), some (kI b), none, none] [] Ia Ja Ra Sa 0 0
  obtain ⟨hn1, hn2⟩ := hI.1
  obtain ⟨hk1, hk2⟩ := hI.2.1
  obtain ⟨hf1, hf2⟩ := hI.fu
  obtain ⟨hl1, hl2⟩ := hI.2.2.2.2.2.2.1
  have hd9 : ∀ i : Nat, i < b.toNat - a.toNat → 48 ≤ f (a.toNat + i) ∧ f (a.toNat + i) ≤ 57 := fun i hi => by
    have h9 := hdg (a + i) (by omega) (by omega)
    rw [hf _ (by omega), show a.toNat + i = (a + i).toNat by omega]
    exact h9
  refine ww_iconst hX (pc := 0) (x := 0) dX7_numberAt_0 rfl ?_
  refine ww_istore_n hX (pc := 1) (lv' := [some (kR (some 10)), some (kI a), some (kI b), some (kI 0), none]) dX7_numberAt_1 (by decide) rfl rfl ?_
  refine ww_iload_n hX (pc := 2) dX7_numberAt_2 rfl ?_
  refine ww_istore hX (pc := 3) (lv' := [some (kR (some 10)), some (kI a), some (kI b), some (kI 0), some (kI a)]) dX7_numberAt_3 (by decide) rfl rfl ?_
  have hl_5 : ∀ (n_5 : Nat) (nb : Int) (q : Int), (b - q).toNat = n_5 → ((a ≤ q ∧ q ≤ b) ∧ (0 ≤ nb ∧ nb ≤ 1001) ∧ nb = min (zNu f a.toNat (q.toNat - a.toNat)) 1001) → WW X 5 [some (kR (some 10)), some (kI a), some (kI b), some (kI nb), some (kI q)] [] Ia Ja Ra Sa 0 0 := by
    intro n_5
    induction n_5 using Nat.strongRecOn with
    | ind n_5 ih_5 =>
      intro nb q hm_5 hv_5
      have hq_5 := Sh0_i hm_5
      clear hm_5
      obtain ⟨hq0, hnb, hz9⟩ := hv_5
      refine ww_iload hX (pc := 5) dX7_numberAt_5 rfl ?_
      refine ww_iload_n hX (pc := 7) dX7_numberAt_7 rfl ?_
      refine ww_icmp_ge hX (pc := 8) (tgt := 41) dX7_numberAt_8 (by decide) (fun h_8 => ?_) (fun h_8 => ?_)
      · simp only [w32_mod] at h_8
        refine ww_iload_n hX (pc := 41) dX7_numberAt_41 rfl ?_
        refine rI hX (pc := 42) hT (Nat.le_refl 0) (Nat.le_refl 0) dX7_numberAt_42 ?_
        exact ⟨rfl, rfl, by omega, by rw [hz9, show q = b by omega]⟩
      · simp only [w32_mod] at h_8
        have hd1 := hdg q (by omega) (by omega)
        have hz8 := zNu_m (f := f) (a := a.toNat) (m := q.toNat - a.toNat) (fun i hi => hd9 i (by omega))
        rw [show a.toNat + (q.toNat - a.toNat) = q.toNat by omega, hf q.toNat (by omega), ← hz9] at hz8
        refine ww_iload_n hX (pc := 11) dX7_numberAt_11 rfl ?_
        refine ww_bipush hX (pc := 12) (x := 10) dX7_numberAt_12 (by decide) ?_
        refine ww_imul hX (pc := 14) dX7_numberAt_14 ?_
        refine ww_aload_n hX (pc := 15) dX7_numberAt_15 rfl ?_
        refine ww_getR hX (pc := 16) fX7_28 (by decide) (xs_10 hL) (xr_10_1 hL) dX7_numberAt_16 ?_
        refine ww_iload hX (pc := 19) dX7_numberAt_19 rfl ?_
        refine vI1 hX (pc := 21) sX7_139 (xs_8 hL) (c_X9_byteAt l0 hL hI (by omega) (by omega)) (by decide) (Nat.le_refl 0) (Nat.le_refl 0) (Nat.le_of_ble_eq_true rfl) dX7_numberAt_21 (fun x_21 I_21 J_21 h_21 => ?_)
        obtain ⟨rfl, rfl, h_21⟩ := h_21
        refine ww_iadd hX (pc := 24) dX7_numberAt_24 ?_
        refine ww_bipush hX (pc := 25) (x := 48) dX7_numberAt_25 (by decide) ?_
        refine ww_isub hX (pc := 27) dX7_numberAt_27 ?_
        refine ww_sipush hX (pc := 28) (x := 1001) dX7_numberAt_28 (by decide) ?_
        refine ww_mmin hX (pc := 31) tb_578 tb_579 tb_13 tb_580 (by decide) (Nat.le_refl 0) (Nat.le_refl 0) (Nat.le_of_ble_eq_true rfl) dX7_numberAt_31 ?_
        refine ww_nmI (fun v_34 hv_34 => ?_)
        refine ww_istore_n hX (pc := 34) (lv' := [some (kR (some 10)), some (kI a), some (kI b), some (kI v_34), some (kI q)]) dX7_numberAt_34 (by decide) rfl rfl ?_
        rw [i_min_r (by omega) (by omega) (by omega) (by omega)] at hv_34
        have hz7 : v_34 = min (zNu f a.toNat ((q + 1).toNat - a.toNat)) 1001 := by
          rw [show (q + 1).toNat - a.toNat = q.toNat - a.toNat + 1 by omega, hz8]
          omega
        refine ww_iinc hX (pc := 35) (lv' := [some (kR (some 10)), some (kI a), some (kI b), some (kI v_34), some (kI (q + 1))]) dX7_numberAt_35 rfl (by decide) rfl rfl ?_
        refine ww_goto hX (pc := 38) (tgt := 5) dX7_numberAt_38 (by decide) ?_
        exact ih_5 _ (by have hm9 := Sh0_e hq_5; omega) v_34 (q + 1) rfl ⟨by omega, by omega, hz7⟩
  exact hl_5 _ 0 a rfl ⟨by omega, by omega, by rw [Nat.sub_self]; rfl⟩
set_option maxHeartbeats 4000000 in
set_option maxRecDepth 20000 in
theorem c6_X7_partKind (l0 : Launch) {Ia Ja : aI1} {Ra : aR1} {Sa : aS1} (hL : LY Ra Sa) (hI : XI Ia) {f : Nat → Int} {N : Nat} (hN : Ia 8 1 = N) (hf : ∀ j, j < N → f j = Ia 9 j) {a b : Int} (ha0 : 0 ≤ a) (hab : a ≤ b) (hb : b ≤ Ia 8 1) (n5 : zWn f a.toNat b.toNat 5)  : CT l0 5 0 0 mX7_partKind [kR (some 10), kI a, kI b] Ia Ja Ra Sa (cI (fun x I' J' => Ia = I' ∧ Ja = J' ∧ (-8 ≤ x ∧ x ≤ 262) ∧ ((zWc f a.toNat b.toNat = 0 ∧ x = 257) ∨ (1 ≤ zWc f a.toNat b.toNat ∧ zWc f a.toNat b.toNat ≤ 5 ∧ x = 257 + zWc f a.toNat b.toNat) ∨ (6 ≤ zWc f a.toNat b.toNat ∧ x = 5 - zWc f a.toNat b.toNat))) Ra Sa) := by
  refine ct_in pn_X7 (Nat.le_of_ble_eq_true rfl) (fun X hX hT hIn => ?_)
  have hX : aK l0 X cX7_partKind 3 RX7 (some .int) 5 0 0 := hX
  change WW X 0 [some (kR (some 10)), some (kI a), some (kI b)] [] Ia Ja Ra Sa 0 0
  obtain ⟨hn1, hn2⟩ := hI.1
  obtain ⟨hk1, hk2⟩ := hI.2.1
  obtain ⟨hf1, hf2⟩ := hI.fu
  obtain ⟨hl1, hl2⟩ := hI.2.2.2.2.2.2.1
  refine ww_aload_n hX (pc := 0) dX7_partKind_0 rfl ?_
  refine ww_getR hX (pc := 1) fX7_28 (by decide) (xs_10 hL) (xr_10_1 hL) dX7_partKind_1 ?_
  refine ww_ldcS hX (pc := 4) (n := 5) (tx := "state") dX7_partKind_4 rfl ?_
  refine ww_iload_n hX (pc := 6) dX7_partKind_6 rfl ?_
  refine ww_iload_n hX (pc := 7) dX7_partKind_7 rfl ?_
  refine vI3 hX (pc := 8) sX7_156 (xs_8 hL) (c6_X9_spells l0 hL hI hN hf (n := 5) (by decide) (by omega) (by omega) (by omega)) (by decide) (Nat.le_refl 0) (Nat.le_refl 0) (Nat.le_of_ble_eq_true rfl) dX7_partKind_8 (fun x_8 I_8 J_8 h_8 => ?_)
  obtain ⟨rfl, rfl, h_8⟩ := h_8
  refine ww_if_eq hX (pc := 11) (tgt := 16) dX7_partKind_11 (by decide) (fun h_11 => ?_) (fun h_11 => ?_)
  · simp only [w32_mod] at h_11
    have n6 := zWn_s n5 (fun h9 => by have := h_8.2.mpr h9; omega)
    refine ww_aload_n hX (pc := 16) dX7_partKind_16 rfl ?_
    refine ww_getR hX (pc := 17) fX7_28 (by decide) (xs_10 hL) (xr_10_1 hL) dX7_partKind_17 ?_
    refine ww_ldcS hX (pc := 20) (n := 6) (tx := "lit") dX7_partKind_20 rfl ?_
    refine ww_iload_n hX (pc := 22) dX7_partKind_22 rfl ?_
    refine ww_iload_n hX (pc := 23) dX7_partKind_23 rfl ?_
    refine vI3 hX (pc := 24) sX7_156 (xs_8 hL) (c6_X9_spells l0 hL hI hN hf (n := 6) (by decide) (by omega) (by omega) (by omega)) (by decide) (Nat.le_refl 0) (Nat.le_refl 0) (Nat.le_of_ble_eq_true rfl) dX7_partKind_24 (fun x_24 I_24 J_24 h_24 => ?_)
    obtain ⟨rfl, rfl, h_24⟩ := h_24
    refine ww_if_eq hX (pc := 27) (tgt := 33) dX7_partKind_27 (by decide) (fun h_27 => ?_) (fun h_27 => ?_)
    · simp only [w32_mod] at h_27
      have n7 := zWn_s n6 (fun h9 => by have := h_24.2.mpr h9; omega)
      refine ww_aload_n hX (pc := 33) dX7_partKind_33 rfl ?_
      refine ww_getR hX (pc := 34) fX7_28 (by decide) (xs_10 hL) (xr_10_1 hL) dX7_partKind_34 ?_
      refine ww_ldcS hX (pc := 37) (n := 7) (tx := "sum") dX7_partKind_37 rfl ?_
      refine ww_iload_n hX (pc := 39) dX7_partKind_39 rfl ?_
      refine ww_iload_n hX (pc := 40) dX7_partKind_40 rfl ?_
      refine vI3 hX (pc := 41) sX7_156 (xs_8 hL) (c6_X9_spells l0 hL hI hN hf (n := 7) (by decide) (by omega) (by omega) (by omega)) (by decide) (Nat.le_refl 0) (Nat.le_refl 0) (Nat.le_of_ble_eq_true rfl) dX7_partKind_41 (fun x_41 I_41 J_41 h_41 => ?_)
      obtain ⟨rfl, rfl, h_41⟩ := h_41
      refine ww_if_eq hX (pc := 44) (tgt := 50) dX7_partKind_44 (by decide) (fun h_44 => ?_) (fun h_44 => ?_)
      · simp only [w32_mod] at h_44
        have n8 := zWn_s n7 (fun h9 => by have := h_41.2.mpr h9; omega)
        refine ww_aload_n hX (pc := 50) dX7_partKind_50 rfl ?_
        refine ww_getR hX (pc := 51) fX7_28 (by decide) (xs_10 hL) (xr_10_1 hL) dX7_partKind_51 ?_
        refine ww_ldcS hX (pc := 54) (n := 8) (tx := "mix") dX7_partKind_54 rfl ?_
        refine ww_iload_n hX (pc := 56) dX7_partKind_56 rfl ?_
        refine ww_iload_n hX (pc := 57) dX7_partKind_57 rfl ?_
        refine vI3 hX (pc := 58) sX7_156 (xs_8 hL) (c6_X9_spells l0 hL hI hN hf (n := 8) (by decide) (by omega) (by omega) (by omega)) (by decide) (Nat.le_refl 0) (Nat.le_refl 0) (Nat.le_of_ble_eq_true rfl) dX7_partKind_58 (fun x_58 I_58 J_58 h_58 => ?_)
        obtain ⟨rfl, rfl, h_58⟩ := h_58
        refine ww_if_eq hX (pc := 61) (tgt := 67) dX7_partKind_61 (by decide) (fun h_61 => ?_) (fun h_61 => ?_)
        · simp only [w32_mod] at h_61
          have n9 := zWn_s n8 (fun h9 => by have := h_58.2.mpr h9; omega)
          refine ww_aload_n hX (pc := 67) dX7_partKind_67 rfl ?_
          refine ww_getR hX (pc := 68) fX7_28 (by decide) (xs_10 hL) (xr_10_1 hL) dX7_partKind_68 ?_
          refine ww_ldcS hX (pc := 71) (n := 9) (tx := "first") dX7_partKind_71 rfl ?_
          refine ww_iload_n hX (pc := 73) dX7_partKind_73 rfl ?_
          refine ww_iload_n hX (pc := 74) dX7_partKind_74 rfl ?_
          refine vI3 hX (pc := 75) sX7_156 (xs_8 hL) (c6_X9_spells l0 hL hI hN hf (n := 9) (by decide) (by omega) (by omega) (by omega)) (by decide) (Nat.le_refl 0) (Nat.le_refl 0) (Nat.le_of_ble_eq_true rfl) dX7_partKind_75 (fun x_75 I_75 J_75 h_75 => ?_)
          obtain ⟨rfl, rfl, h_75⟩ := h_75
          refine ww_if_eq hX (pc := 78) (tgt := 84) dX7_partKind_78 (by decide) (fun h_78 => ?_) (fun h_78 => ?_)
          · simp only [w32_mod] at h_78
            have n10 := zWn_s n9 (fun h9 => by have := h_75.2.mpr h9; omega)
            refine ww_aload_n hX (pc := 84) dX7_partKind_84 rfl ?_
            refine ww_getR hX (pc := 85) fX7_28 (by decide) (xs_10 hL) (xr_10_1 hL) dX7_partKind_85 ?_
            refine ww_ldcS hX (pc := 88) (n := 10) (tx := "last") dX7_partKind_88 rfl ?_
            refine ww_iload_n hX (pc := 90) dX7_partKind_90 rfl ?_
            refine ww_iload_n hX (pc := 91) dX7_partKind_91 rfl ?_
            refine vI3 hX (pc := 92) sX7_156 (xs_8 hL) (c6_X9_spells l0 hL hI hN hf (n := 10) (by decide) (by omega) (by omega) (by omega)) (by decide) (Nat.le_refl 0) (Nat.le_refl 0) (Nat.le_of_ble_eq_true rfl) dX7_partKind_92 (fun x_92 I_92 J_92 h_92 => ?_)
            obtain ⟨rfl, rfl, h_92⟩ := h_92
            refine ww_if_eq hX (pc := 95) (tgt := 101) dX7_partKind_95 (by decide) (fun h_95 => ?_) (fun h_95 => ?_)
            · simp only [w32_mod] at h_95
              have n11 := zWn_s n10 (fun h9 => by have := h_92.2.mpr h9; omega)
              refine ww_aload_n hX (pc := 101) dX7_partKind_101 rfl ?_
              refine ww_getR hX (pc := 102) fX7_28 (by decide) (xs_10 hL) (xr_10_1 hL) dX7_partKind_102 ?_
              refine ww_ldcS hX (pc := 105) (n := 11) (tx := "lamps") dX7_partKind_105 rfl ?_
              refine ww_iload_n hX (pc := 107) dX7_partKind_107 rfl ?_
              refine ww_iload_n hX (pc := 108) dX7_partKind_108 rfl ?_
              refine vI3 hX (pc := 109) sX7_156 (xs_8 hL) (c6_X9_spells l0 hL hI hN hf (n := 11) (by decide) (by omega) (by omega) (by omega)) (by decide) (Nat.le_refl 0) (Nat.le_refl 0) (Nat.le_of_ble_eq_true rfl) dX7_partKind_109 (fun x_109 I_109 J_109 h_109 => ?_)
              obtain ⟨rfl, rfl, h_109⟩ := h_109
              refine ww_if_eq hX (pc := 112) (tgt := 118) dX7_partKind_112 (by decide) (fun h_112 => ?_) (fun h_112 => ?_)
              · simp only [w32_mod] at h_112
                have n12 := zWn_s n11 (fun h9 => by have := h_109.2.mpr h9; omega)
                refine ww_aload_n hX (pc := 118) dX7_partKind_118 rfl ?_
                refine ww_getR hX (pc := 119) fX7_28 (by decide) (xs_10 hL) (xr_10_1 hL) dX7_partKind_119 ?_
                refine ww_ldcS hX (pc := 122) (n := 12) (tx := "news") dX7_partKind_122 rfl ?_
                refine ww_iload_n hX (pc := 124) dX7_partKind_124 rfl ?_
                refine ww_iload_n hX (pc := 125) dX7_partKind_125 rfl ?_
                refine vI3 hX (pc := 126) sX7_156 (xs_8 hL) (c6_X9_spells l0 hL hI hN hf (n := 12) (by decide) (by omega) (by omega) (by omega)) (by decide) (Nat.le_refl 0) (Nat.le_refl 0) (Nat.le_of_ble_eq_true rfl) dX7_partKind_126 (fun x_126 I_126 J_126 h_126 => ?_)
                obtain ⟨rfl, rfl, h_126⟩ := h_126
                refine ww_if_eq hX (pc := 129) (tgt := 135) dX7_partKind_129 (by decide) (fun h_129 => ?_) (fun h_129 => ?_)
                · simp only [w32_mod] at h_129
                  have n13 := zWn_s n12 (fun h9 => by have := h_126.2.mpr h9; omega)
                  refine ww_sipush hX (pc := 135) (x := 257) dX7_partKind_135 (by decide) ?_
                  refine rI hX (pc := 138) hT (Nat.le_refl 0) (Nat.le_refl 0) dX7_partKind_138 ?_
                  exact ⟨rfl, rfl, by omega, by have w9 := zWc_no n13; omega⟩
                · simp only [w32_mod] at h_129
                  have w9 := zWc_at n12 (by decide) (h_126.2.mp (by omega))
                  refine ww_bipush hX (pc := 132) (x := (-8)) dX7_partKind_132 (by decide) ?_
                  refine rI hX (pc := 134) hT (Nat.le_refl 0) (Nat.le_refl 0) dX7_partKind_134 ?_
                  exact ⟨rfl, rfl, by omega, by omega⟩
              · simp only [w32_mod] at h_112
                have w9 := zWc_at n11 (by decide) (h_109.2.mp (by omega))
                refine ww_bipush hX (pc := 115) (x := (-7)) dX7_partKind_115 (by decide) ?_
                refine rI hX (pc := 117) hT (Nat.le_refl 0) (Nat.le_refl 0) dX7_partKind_117 ?_
                exact ⟨rfl, rfl, by omega, by omega⟩
            · simp only [w32_mod] at h_95
              have w9 := zWc_at n10 (by decide) (h_92.2.mp (by omega))
              refine ww_bipush hX (pc := 98) (x := (-6)) dX7_partKind_98 (by decide) ?_
              refine rI hX (pc := 100) hT (Nat.le_refl 0) (Nat.le_refl 0) dX7_partKind_100 ?_
              exact ⟨rfl, rfl, by omega, by omega⟩
          · simp only [w32_mod] at h_78
            have w9 := zWc_at n9 (by decide) (h_75.2.mp (by omega))
            refine ww_bipush hX (pc := 81) (x := (-5)) dX7_partKind_81 (by decide) ?_
            refine rI hX (pc := 83) hT (Nat.le_refl 0) (Nat.le_refl 0) dX7_partKind_83 ?_
            exact ⟨rfl, rfl, by omega, by omega⟩
        · simp only [w32_mod] at h_61
          have w9 := zWc_at n8 (by decide) (h_58.2.mp (by omega))
          refine ww_bipush hX (pc := 64) (x := (-4)) dX7_partKind_64 (by decide) ?_
          refine rI hX (pc := 66) hT (Nat.le_refl 0) (Nat.le_refl 0) dX7_partKind_66 ?_
          exact ⟨rfl, rfl, by omega, by omega⟩
      · simp only [w32_mod] at h_44
        have w9 := zWc_at n7 (by decide) (h_41.2.mp (by omega))
        refine ww_bipush hX (pc := 47) (x := (-3)) dX7_partKind_47 (by decide) ?_
        refine rI hX (pc := 49) hT (Nat.le_refl 0) (Nat.le_refl 0) dX7_partKind_49 ?_
        exact ⟨rfl, rfl, by omega, by omega⟩
    · simp only [w32_mod] at h_27
      have w9 := zWc_at n6 (by decide) (h_24.2.mp (by omega))
      refine ww_bipush hX (pc := 30) (x := (-2)) dX7_partKind_30 (by decide) ?_
      refine rI hX (pc := 32) hT (Nat.le_refl 0) (Nat.le_refl 0) dX7_partKind_32 ?_
      exact ⟨rfl, rfl, by omega, by omega⟩
  · simp only [w32_mod] at h_11
    have w9 := zWc_at n5 (by decide) (h_8.2.mp (by omega))
    refine ww_iconst hX (pc := 14) (x := (-1)) dX7_partKind_14 rfl ?_
    refine rI hX (pc := 15) hT (Nat.le_refl 0) (Nat.le_refl 0) dX7_partKind_15 ?_
    exact ⟨rfl, rfl, by omega, by omega⟩
