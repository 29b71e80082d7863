set_option maxHeartbeats 4000000 in
set_option maxRecDepth 20000 in
theorem c6_X11_wordOf (l0 : Launch) {Ia Ja : aI1} {Ra : aR1} {Sa : aS1} (hL : LY Ra Sa) (hQ : RX Ia) {a b : Int} (ha0 : 0 ≤ a) (hab : a < b) (hb : b ≤ 400) {f : Nat → Int} {N : Nat} (hw : WD Ia) (hf : zTB f N (Ia 55)) (hbN : b ≤ N)  : CT l0 0 0 0 mX11_wordOf [kR (some 49), kI a, kI b] Ia Ja Ra Sa (cI (fun x I' J' => Ia = I' ∧ Ja = J' ∧ x = zWc f a.toNat b.toNat) Ra Sa) := by
  refine ct_in pn_X11 (Nat.le_of_ble_eq_true rfl) (fun X hX hT hIn => ?_)
  have hX : aK l0 X cX11_wordOf 8 RX11 (some .int) 0 0 0 := hX
  change WW X 0 [some (kR (some 49)), some (kI a), some (kI b), none, none, none, none, none] [] Ia Ja Ra Sa 0 0
  have qIa := RX_w hQ
  refine ww_iconst hX (pc := 0) (x := 1) dX11_wordOf_0 rfl ?_
  refine ww_istore_n hX (pc := 1) (lv' := [some (kR (some 49)), some (kI a), some (kI b), some (kI 1), none, none, none, none]) dX11_wordOf_1 (by decide) rfl rfl ?_
  refine ww_iconst hX (pc := 2) (x := 0) dX11_wordOf_2 rfl ?_
  refine ww_istore hX (pc := 3) (lv' := [some (kR (some 49)), some (kI a), some (kI b), some (kI 1), some (kI 0), none, none, none]) dX11_wordOf_3 (by decide) rfl rfl ?_
  have hl_5 : ∀ (n_5 : Nat) (w : Int) (k : Int), (60 - k).toNat = n_5 → ((∃ j9 : Nat, j9 ≤ 13 ∧ w = j9 + 1 ∧ k = (zWk.getD j9 0 : Nat) ∧ zWn f a.toNat b.toNat j9)) → WW X 5 [some (kR (some 49)), some (kI a), some (kI b), some (kI w), some (kI k), none, none, none] [] Ia Ja Ra Sa 0 0 := by
    intro n_5
    induction n_5 using Nat.strongRecOn with
    | ind n_5 ih_5 =>
      intro w k hm_5 hv_5
      have hq_5 := Sh0_i hm_5
      clear hm_5
      obtain ⟨j9, hj1, hj2, hj3, hj4⟩ := hv_5
      have hk60 := zWk_le hj1
      refine ww_iload hX (pc := 5) dX11_wordOf_5 rfl ?_
      refine ww_aload_n hX (pc := 7) dX11_wordOf_7 rfl ?_
      refine ww_getR hX (pc := 8) fX11_30 (by decide) (xs_49 hL) (xr_49_7 hL) dX11_wordOf_8 ?_
      refine ww_alen hX (pc := 11) (by decide) (xs_54 hL) dX11_wordOf_11 ?_
      refine ww_icmp_ge hX (pc := 12) (tgt := 126) dX11_wordOf_12 (by decide) (fun h_12 => ?_) (fun h_12 => ?_)
      · simp only [w32_mod] at h_12
        refine ww_iconst hX (pc := 126) (x := 0) dX11_wordOf_126 rfl ?_
        refine rI hX (pc := 127) hT (Nat.le_refl 0) (Nat.le_refl 0) dX11_wordOf_127 ?_
        exact ⟨rfl, rfl, (by have hj0 := zWk_60 hj1 (by omega); subst hj0; exact (zWc_no hj4).symm)⟩
      · simp only [w32_mod] at h_12
        have hj5 : j9 < 13 := zWk_lt hj1 (by omega)
        obtain ⟨ht1, ht2, ht3, ht4⟩ := zWt_ok hj5
        refine ww_iconst hX (pc := 15) (x := 0) dX11_wordOf_15 rfl ?_
        refine ww_istore hX (pc := 16) (lv' := [some (kR (some 49)), some (kI a), some (kI b), some (kI w), some (kI k), some (kI 0), none, none]) dX11_wordOf_16 (by decide) rfl rfl ?_
        have hl_18 : ∀ (n_18 : Nat) (n : Int), (59 - n).toNat = n_18 → ((0 ≤ n ∧ n ≤ (zWs.getD j9 []).length)) → WW X 18 [some (kR (some 49)), some (kI a), some (kI b), some (kI w), some (kI k), some (kI n), none, none] [] Ia Ja Ra Sa 0 0 := by
          intro n_18
          induction n_18 using Nat.strongRecOn with
          | ind n_18 ih_18 =>
            intro n hm_18 hv_18
            have hq_18 := Sh0_i hm_18
            clear hm_18
            have hu := hv_18
            refine ww_aload_n hX (pc := 18) dX11_wordOf_18 rfl ?_
            refine ww_getR hX (pc := 19) fX11_30 (by decide) (xs_49 hL) (xr_49_7 hL) dX11_wordOf_19 ?_
            refine ww_iload hX (pc := 22) dX11_wordOf_22 rfl ?_
            refine ww_iload hX (pc := 24) dX11_wordOf_24 rfl ?_
            refine ww_iadd hX (pc := 26) dX11_wordOf_26 ?_
            have hw9 : Ia 54 (k + n).toNat = zWt.getD (zWk.getD j9 0 + n.toNat) 0 := by rw [hw _ (by omega)]; exact congrArg (fun q => zWt.getD q 0) (by omega)
            refine ww_bald hX (pc := 27) (xs_54 hL) (by decide) (by omega) (by omega) dX11_wordOf_27 ?_
            refine ww_bipush hX (pc := 28) (x := 32) dX11_wordOf_28 (by decide) ?_
            refine ww_icmp_eq hX (pc := 30) (tgt := 39) dX11_wordOf_30 (by decide) (fun h_30 => ?_) (fun h_30 => ?_)
            · simp only [w32_mod] at h_30
              have hnl : n = ((zWs.getD j9 []).length : Nat) := by
                by_cases h9 : n.toNat < (zWs.getD j9 []).length
                · have h8 := zWt_at hj5 h9
                  omega
                · omega
              refine ww_iload hX (pc := 39) dX11_wordOf_39 rfl ?_
              refine ww_iload_n hX (pc := 41) dX11_wordOf_41 rfl ?_
              refine ww_iload_n hX (pc := 42) dX11_wordOf_42 rfl ?_
              refine ww_isub hX (pc := 43) dX11_wordOf_43 ?_
              refine ww_icmp_ne hX (pc := 44) (tgt := 51) dX11_wordOf_44 (by decide) (fun h_44 => ?_) (fun h_44 => ?_)
              · simp only [w32_mod] at h_44
                refine ww_iconst hX (pc := 51) (x := 0) dX11_wordOf_51 rfl ?_
                refine ww_istore hX (pc := 52) (lv' := [some (kR (some 49)), some (kI a), some (kI b), some (kI w), some (kI k), some (kI n), some (kI 0), none]) dX11_wordOf_52 (by decide) rfl rfl ?_
                refine ww_iconst hX (pc := 54) (x := 0) dX11_wordOf_54 rfl ?_
                refine ww_istore hX (pc := 55) (lv' := [some (kR (some 49)), some (kI a), some (kI b), some (kI w), some (kI k), some (kI n), some (kI 0), some (kI 0)]) dX11_wordOf_55 (by decide) rfl rfl ?_
                have hl_57 : ∀ (n_57 : Nat) (sm : Int) (i : Int), (n - i).toNat = n_57 → (((0 ≤ i ∧ i ≤ n) ∧ (sm = 0 ∨ sm = 1) ∧ (sm = 1 → n = b - a ∧ ∀ q : Nat, (q : Int) < i → f (a.toNat + q) = (zWs.getD j9 []).getD q 0) ∧ (sm = 0 → ¬ zWm f a.toNat b.toNat (zWs.getD j9 [])))) → WW X 57 [some (kR (some 49)), some (kI a), some (kI b), some (kI w), some (kI k), some (kI n), some (kI sm), some (kI i)] [] Ia Ja Ra Sa 0 0 := by
                  intro n_57
                  induction n_57 using Nat.strongRecOn with
                  | ind n_57 ih_57 =>
                    intro sm i hm_57 hv_57
                    have hq_57 := Sh0_i hm_57
                    clear hm_57
                    obtain ⟨⟨hi8, hi9⟩, hs9, hs1x, hs0x⟩ := hv_57
                    have hs8 : 0 ≤ sm ∧ sm ≤ 1 := by omega
                    obtain ⟨hs6, hs7⟩ := hs8
                    have hs1 := Sh0_i hs1x
                    have hs0 := Sh0_i hs0x
                    clear hs9 hs1x hs0x
                    refine ww_iload hX (pc := 57) dX11_wordOf_57 rfl ?_
                    refine ww_iload hX (pc := 59) dX11_wordOf_59 rfl ?_
                    refine ww_icmp_ge hX (pc := 61) (tgt := 104) dX11_wordOf_61 (by decide) (fun h_61 => ?_) (fun h_61 => ?_)
                    · simp only [w32_mod] at h_61
                      refine ww_iload hX (pc := 104) dX11_wordOf_104 rfl ?_
                      refine ww_if_eq hX (pc := 106) (tgt := 111) dX11_wordOf_106 (by decide) (fun h_106 => ?_) (fun h_106 => ?_)
                      · simp only [w32_mod] at h_106
                        have hm8 := (Sh0_e hs0) (by omega)
                        refine ww_iload hX (pc := 111) dX11_wordOf_111 rfl ?_
                        refine ww_iload hX (pc := 113) dX11_wordOf_113 rfl ?_
                        refine ww_iconst hX (pc := 115) (x := 1) dX11_wordOf_115 rfl ?_
                        refine ww_iadd hX (pc := 116) dX11_wordOf_116 ?_
                        refine ww_iadd hX (pc := 117) dX11_wordOf_117 ?_
                        refine ww_nmI (fun v_118 hv_118 => ?_)
                        refine ww_istore hX (pc := 118) (lv' := [some (kR (some 49)), some (kI a), some (kI b), some (kI w), some (kI v_118), some (kI n), some (kI sm), some (kI i)]) dX11_wordOf_118 (by decide) rfl rfl ?_
                        refine ww_iinc hX (pc := 120) (lv' := [some (kR (some 49)), some (kI a), some (kI b), some (kI (w + 1)), some (kI v_118), some (kI n), some (kI sm), some (kI i)]) dX11_wordOf_120 rfl (by decide) rfl rfl ?_
                        refine ww_goto hX (pc := 123) (tgt := 5) dX11_wordOf_123 (by decide) ?_
                        refine ww_sub [some (kR (some 49)), some (kI a), some (kI b), some (kI (w + 1)), some (kI v_118), none, none, none] (aLe_s (aLe_s (aLe_s (aLe_s (aLe_s (aLe_n (aLe_n (aLe_n aLe_0)))))))) ?_
                        exact ih_5 _ (by have hm9 := Sh0_e hq_5; omega) (w + 1) v_118 rfl (⟨j9 + 1, by omega, by omega, by omega, zWn_s hj4 hm8⟩)
                      · simp only [w32_mod] at h_106
                        have hm9 : zWm f a.toNat b.toNat (zWs.getD j9 []) := ⟨by have h8 := ((Sh0_e hs1) (by omega)).1; omega, fun q hq => ((Sh0_e hs1) (by omega)).2 q (by omega)⟩
                        refine ww_iload_n hX (pc := 109) dX11_wordOf_109 rfl ?_
                        refine rI hX (pc := 110) hT (Nat.le_refl 0) (Nat.le_refl 0) dX11_wordOf_110 ?_
                        exact ⟨rfl, rfl, (by have h9 := zWc_at hj4 hj5 hm9; omega)⟩
                    · simp only [w32_mod] at h_61
                      refine ww_iload hX (pc := 64) dX11_wordOf_64 rfl ?_
                      refine ww_if_eq hX (pc := 66) (tgt := 104) dX11_wordOf_66 (by decide) (fun h_66 => ?_) (fun h_66 => ?_)
                      · simp only [w32_mod] at h_66
                        refine ww_iload hX (pc := 104) dX11_wordOf_104 rfl ?_
                        refine ww_if_eq hX (pc := 106) (tgt := 111) dX11_wordOf_106 (by decide) (fun h_106 => ?_) (fun h_106 => ?_)
                        · simp only [w32_mod] at h_106
                          have hm8 := (Sh0_e hs0) (by omega)
                          refine ww_iload hX (pc := 111) dX11_wordOf_111 rfl ?_
                          refine ww_iload hX (pc := 113) dX11_wordOf_113 rfl ?_
                          refine ww_iconst hX (pc := 115) (x := 1) dX11_wordOf_115 rfl ?_
                          refine ww_iadd hX (pc := 116) dX11_wordOf_116 ?_
                          refine ww_iadd hX (pc := 117) dX11_wordOf_117 ?_
                          refine ww_nmI (fun v_118 hv_118 => ?_)
                          refine ww_istore hX (pc := 118) (lv' := [some (kR (some 49)), some (kI a), some (kI b), some (kI w), some (kI v_118), some (kI n), some (kI sm), some (kI i)]) dX11_wordOf_118 (by decide) rfl rfl ?_
                          refine ww_iinc hX (pc := 120) (lv' := [some (kR (some 49)), some (kI a), some (kI b), some (kI (w + 1)), some (kI v_118), some (kI n), some (kI sm), some (kI i)]) dX11_wordOf_120 rfl (by decide) rfl rfl ?_
                          refine ww_goto hX (pc := 123) (tgt := 5) dX11_wordOf_123 (by decide) ?_
                          refine ww_sub [some (kR (some 49)), some (kI a), some (kI b), some (kI (w + 1)), some (kI v_118), none, none, none] (aLe_s (aLe_s (aLe_s (aLe_s (aLe_s (aLe_n (aLe_n (aLe_n aLe_0)))))))) ?_
                          exact ih_5 _ (by have hm9 := Sh0_e hq_5; omega) (w + 1) v_118 rfl (⟨j9 + 1, by omega, by omega, by omega, zWn_s hj4 hm8⟩)
                        · simp only [w32_mod] at h_106
                          exfalso
                          omega
                      · simp only [w32_mod] at h_66
                        have hn8 : n = b - a := ((Sh0_e hs1) (by omega)).1
                        refine ww_aload_n hX (pc := 69) dX11_wordOf_69 rfl ?_
                        refine ww_getR hX (pc := 70) fX11_30 (by decide) (xs_49 hL) (xr_49_7 hL) dX11_wordOf_70 ?_
                        refine ww_iload hX (pc := 73) dX11_wordOf_73 rfl ?_
                        refine ww_iload hX (pc := 75) dX11_wordOf_75 rfl ?_
                        refine ww_iadd hX (pc := 77) dX11_wordOf_77 ?_
                        have hw8 : Ia 54 (k + i).toNat = (zWs.getD j9 []).getD i.toNat 0 := by rw [hw _ (by omega), show (k + i).toNat = zWk.getD j9 0 + i.toNat by omega]; exact (zWt_at hj5 (by omega)).1
                        have hr8 := (zWt_at hj5 (i := i.toNat) (by omega)).2
                        refine ww_bald hX (pc := 78) (xs_54 hL) (by decide) (by omega) (by omega) dX11_wordOf_78 ?_
                        refine ww_aload_n hX (pc := 79) dX11_wordOf_79 rfl ?_
                        refine ww_getR hX (pc := 80) fX11_34 (by decide) (xs_49 hL) (xr_49_8 hL) dX11_wordOf_80 ?_
                        refine ww_iload_n hX (pc := 83) dX11_wordOf_83 rfl ?_
                        refine ww_iload hX (pc := 84) dX11_wordOf_84 rfl ?_
                        refine ww_iadd hX (pc := 86) dX11_wordOf_86 ?_
                        have hf8 : f (a.toNat + i.toNat) = Ia 55 (a + i).toNat % 256 ∧ -128 ≤ Ia 55 (a + i).toNat ∧ Ia 55 (a + i).toNat ≤ 127 := by rw [show a.toNat + i.toNat = (a + i).toNat by omega]; exact hf (a + i).toNat (by omega)
                        refine ww_bald hX (pc := 87) (xs_55 hL) (by decide) (by omega) (by omega) dX11_wordOf_87 ?_
                        refine ww_icmp_ne hX (pc := 88) (tgt := 95) dX11_wordOf_88 (by decide) (fun h_88 => ?_) (fun h_88 => ?_)
                        · simp only [w32_mod] at h_88
                          have hne : ¬ f (a.toNat + i.toNat) = (zWs.getD j9 []).getD i.toNat 0 := by omega
                          refine ww_iconst hX (pc := 95) (x := 0) dX11_wordOf_95 rfl ?_
                          refine ww_istore hX (pc := 96) (lv' := [some (kR (some 49)), some (kI a), some (kI b), some (kI w), some (kI k), some (kI n), some (kI 0), some (kI i)]) dX11_wordOf_96 (by decide) rfl rfl ?_
                          refine ww_iinc hX (pc := 98) (lv' := [some (kR (some 49)), some (kI a), some (kI b), some (kI w), some (kI k), some (kI n), some (kI 0), some (kI (i + 1))]) dX11_wordOf_98 rfl (by decide) rfl rfl ?_
                          refine ww_goto hX (pc := 101) (tgt := 57) dX11_wordOf_101 (by decide) ?_
                          exact ih_57 _ (by have hm9 := Sh0_e hq_57; omega) 0 (i + 1) rfl ⟨⟨by omega, by omega⟩, Or.inl rfl, fun h9 => absurd h9 (by decide), fun _ h9 => hne (h9.2 i.toNat (by omega))⟩
                        · simp only [w32_mod] at h_88
                          have heq : f (a.toNat + i.toNat) = (zWs.getD j9 []).getD i.toNat 0 := by omega
                          refine ww_iconst hX (pc := 91) (x := 1) dX11_wordOf_91 rfl ?_
                          refine ww_goto hX (pc := 92) (tgt := 96) dX11_wordOf_92 (by decide) ?_
                          refine ww_istore hX (pc := 96) (lv' := [some (kR (some 49)), some (kI a), some (kI b), some (kI w), some (kI k), some (kI n), some (kI 1), some (kI i)]) dX11_wordOf_96 (by decide) rfl rfl ?_
                          refine ww_iinc hX (pc := 98) (lv' := [some (kR (some 49)), some (kI a), some (kI b), some (kI w), some (kI k), some (kI n), some (kI 1), some (kI (i + 1))]) dX11_wordOf_98 rfl (by decide) rfl rfl ?_
                          refine ww_goto hX (pc := 101) (tgt := 57) dX11_wordOf_101 (by decide) ?_
                          exact ih_57 _ (by have hm9 := Sh0_e hq_57; omega) 1 (i + 1) rfl ⟨⟨by omega, by omega⟩, Or.inr rfl, fun _ => ⟨((Sh0_e hs1) (by omega)).1, fun q hq => (if h9 : (q : Int) < i then ((Sh0_e hs1) (by omega)).2 q h9 else by rw [show q = i.toNat by omega]; exact heq)⟩, fun h9 => absurd h9 (by decide)⟩
                exact hl_57 _ 0 0 rfl ⟨⟨by omega, by omega⟩, Or.inl rfl, fun h9 => absurd h9 (by decide), fun _ h9 => by have h8 := h9.1; omega⟩
              · simp only [w32_mod] at h_44
                refine ww_iconst hX (pc := 47) (x := 1) dX11_wordOf_47 rfl ?_
                refine ww_goto hX (pc := 48) (tgt := 52) dX11_wordOf_48 (by decide) ?_
                refine ww_istore hX (pc := 52) (lv' := [some (kR (some 49)), some (kI a), some (kI b), some (kI w), some (kI k), some (kI n), some (kI 1), none]) dX11_wordOf_52 (by decide) rfl rfl ?_
                refine ww_iconst hX (pc := 54) (x := 0) dX11_wordOf_54 rfl ?_
                refine ww_istore hX (pc := 55) (lv' := [some (kR (some 49)), some (kI a), some (kI b), some (kI w), some (kI k), some (kI n), some (kI 1), some (kI 0)]) dX11_wordOf_55 (by decide) rfl rfl ?_
                have hl_57 : ∀ (n_57 : Nat) (sm : Int) (i : Int), (n - i).toNat = n_57 → (((0 ≤ i ∧ i ≤ n) ∧ (sm = 0 ∨ sm = 1) ∧ (sm = 1 → n = b - a ∧ ∀ q : Nat, (q : Int) < i → f (a.toNat + q) = (zWs.getD j9 []).getD q 0) ∧ (sm = 0 → ¬ zWm f a.toNat b.toNat (zWs.getD j9 [])))) → WW X 57 [some (kR (some 49)), some (kI a), some (kI b), some (kI w), some (kI k), some (kI n), some (kI sm), some (kI i)] [] Ia Ja Ra Sa 0 0 := by
                  intro n_57
                  induction n_57 using Nat.strongRecOn with
                  | ind n_57 ih_57 =>
                    intro sm i hm_57 hv_57
                    have hq_57 := Sh0_i hm_57
                    clear hm_57
                    obtain ⟨⟨hi8, hi9⟩, hs9, hs1x, hs0x⟩ := hv_57
                    have hs8 : 0 ≤ sm ∧ sm ≤ 1 := by omega
                    obtain ⟨hs6, hs7⟩ := hs8
                    have hs1 := Sh0_i hs1x
                    have hs0 := Sh0_i hs0x
                    clear hs9 hs1x hs0x
                    refine ww_iload hX (pc := 57) dX11_wordOf_57 rfl ?_
                    refine ww_iload hX (pc := 59) dX11_wordOf_59 rfl ?_
                    refine ww_icmp_ge hX (pc := 61) (tgt := 104) dX11_wordOf_61 (by decide) (fun h_61 => ?_) (fun h_61 => ?_)
                    · simp only [w32_mod] at h_61
                      refine ww_iload hX (pc := 104) dX11_wordOf_104 rfl ?_
                      refine ww_if_eq hX (pc := 106) (tgt := 111) dX11_wordOf_106 (by decide) (fun h_106 => ?_) (fun h_106 => ?_)
                      · simp only [w32_mod] at h_106
                        have hm8 := (Sh0_e hs0) (by omega)
                        refine ww_iload hX (pc := 111) dX11_wordOf_111 rfl ?_
                        refine ww_iload hX (pc := 113) dX11_wordOf_113 rfl ?_
                        refine ww_iconst hX (pc := 115) (x := 1) dX11_wordOf_115 rfl ?_
                        refine ww_iadd hX (pc := 116) dX11_wordOf_116 ?_
                        refine ww_iadd hX (pc := 117) dX11_wordOf_117 ?_
                        refine ww_nmI (fun v_118 hv_118 => ?_)
                        refine ww_istore hX (pc := 118) (lv' := [some (kR (some 49)), some (kI a), some (kI b), some (kI w), some (kI v_118), some (kI n), some (kI sm), some (kI i)]) dX11_wordOf_118 (by decide) rfl rfl ?_
                        refine ww_iinc hX (pc := 120) (lv' := [some (kR (some 49)), some (kI a), some (kI b), some (kI (w + 1)), some (kI v_118), some (kI n), some (kI sm), some (kI i)]) dX11_wordOf_120 rfl (by decide) rfl rfl ?_
                        refine ww_goto hX (pc := 123) (tgt := 5) dX11_wordOf_123 (by decide) ?_
                        refine ww_sub [some (kR (some 49)), some (kI a), some (kI b), some (kI (w + 1)), some (kI v_118), none, none, none] (aLe_s (aLe_s (aLe_s (aLe_s (aLe_s (aLe_n (aLe_n (aLe_n aLe_0)))))))) ?_
                        exact ih_5 _ (by have hm9 := Sh0_e hq_5; omega) (w + 1) v_118 rfl (⟨j9 + 1, by omega, by omega, by omega, zWn_s hj4 hm8⟩)
                      · simp only [w32_mod] at h_106
                        have hm9 : zWm f a.toNat b.toNat (zWs.getD j9 []) := ⟨by have h8 := ((Sh0_e hs1) (by omega)).1; omega, fun q hq => ((Sh0_e hs1) (by omega)).2 q (by omega)⟩
                        refine ww_iload_n hX (pc := 109) dX11_wordOf_109 rfl ?_
                        refine rI hX (pc := 110) hT (Nat.le_refl 0) (Nat.le_refl 0) dX11_wordOf_110 ?_
                        exact ⟨rfl, rfl, (by have h9 := zWc_at hj4 hj5 hm9; omega)⟩
                    · simp only [w32_mod] at h_61
                      refine ww_iload hX (pc := 64) dX11_wordOf_64 rfl ?_
                      refine ww_if_eq hX (pc := 66) (tgt := 104) dX11_wordOf_66 (by decide) (fun h_66 => ?_) (fun h_66 => ?_)
                      · simp only [w32_mod] at h_66
                        refine ww_iload hX (pc := 104) dX11_wordOf_104 rfl ?_
                        refine ww_if_eq hX (pc := 106) (tgt := 111) dX11_wordOf_106 (by decide) (fun h_106 => ?_) (fun h_106 => ?_)
                        · simp only [w32_mod] at h_106
                          have hm8 := (Sh0_e hs0) (by omega)
                          refine ww_iload hX (pc := 111) dX11_wordOf_111 rfl ?_
                          refine ww_iload hX (pc := 113) dX11_wordOf_113 rfl ?_
                          refine ww_iconst hX (pc := 115) (x := 1) dX11_wordOf_115 rfl ?_
                          refine ww_iadd hX (pc := 116) dX11_wordOf_116 ?_
                          refine ww_iadd hX (pc := 117) dX11_wordOf_117 ?_
                          refine ww_nmI (fun v_118 hv_118 => ?_)
                          refine ww_istore hX (pc := 118) (lv' := [some (kR (some 49)), some (kI a), some (kI b), some (kI w), some (kI v_118), some (kI n), some (kI sm), some (kI i)]) dX11_wordOf_118 (by decide) rfl rfl ?_
                          refine ww_iinc hX (pc := 120) (lv' := [some (kR (some 49)), some (kI a), some (kI b), some (kI (w + 1)), some (kI v_118), some (kI n), some (kI sm), some (kI i)]) dX11_wordOf_120 rfl (by decide) rfl rfl ?_
                          refine ww_goto hX (pc := 123) (tgt := 5) dX11_wordOf_123 (by decide) ?_
                          refine ww_sub [some (kR (some 49)), some (kI a), some (kI b), some (kI (w + 1)), some (kI v_118), none, none, none] (aLe_s (aLe_s (aLe_s (aLe_s (aLe_s (aLe_n (aLe_n (aLe_n aLe_0)))))))) ?_
                          exact ih_5 _ (by have hm9 := Sh0_e hq_5; omega) (w + 1) v_118 rfl (⟨j9 + 1, by omega, by omega, by omega, zWn_s hj4 hm8⟩)
                        · simp only [w32_mod] at h_106
                          exfalso
                          omega
                      · simp only [w32_mod] at h_66
                        have hn8 : n = b - a := ((Sh0_e hs1) (by omega)).1
                        refine ww_aload_n hX (pc := 69) dX11_wordOf_69 rfl ?_
                        refine ww_getR hX (pc := 70) fX11_30 (by decide) (xs_49 hL) (xr_49_7 hL) dX11_wordOf_70 ?_
                        refine ww_iload hX (pc := 73) dX11_wordOf_73 rfl ?_
                        refine ww_iload hX (pc := 75) dX11_wordOf_75 rfl ?_
                        refine ww_iadd hX (pc := 77) dX11_wordOf_77 ?_
                        have hw8 : Ia 54 (k + i).toNat = (zWs.getD j9 []).getD i.toNat 0 := by rw [hw _ (by omega), show (k + i).toNat = zWk.getD j9 0 + i.toNat by omega]; exact (zWt_at hj5 (by omega)).1
                        have hr8 := (zWt_at hj5 (i := i.toNat) (by omega)).2
                        refine ww_bald hX (pc := 78) (xs_54 hL) (by decide) (by omega) (by omega) dX11_wordOf_78 ?_
                        refine ww_aload_n hX (pc := 79) dX11_wordOf_79 rfl ?_
                        refine ww_getR hX (pc := 80) fX11_34 (by decide) (xs_49 hL) (xr_49_8 hL) dX11_wordOf_80 ?_
                        refine ww_iload_n hX (pc := 83) dX11_wordOf_83 rfl ?_
                        refine ww_iload hX (pc := 84) dX11_wordOf_84 rfl ?_
                        refine ww_iadd hX (pc := 86) dX11_wordOf_86 ?_
                        have hf8 : f (a.toNat + i.toNat) = Ia 55 (a + i).toNat % 256 ∧ -128 ≤ Ia 55 (a + i).toNat ∧ Ia 55 (a + i).toNat ≤ 127 := by rw [show a.toNat + i.toNat = (a + i).toNat by omega]; exact hf (a + i).toNat (by omega)
                        refine ww_bald hX (pc := 87) (xs_55 hL) (by decide) (by omega) (by omega) dX11_wordOf_87 ?_
                        refine ww_icmp_ne hX (pc := 88) (tgt := 95) dX11_wordOf_88 (by decide) (fun h_88 => ?_) (fun h_88 => ?_)
                        · simp only [w32_mod] at h_88
                          have hne : ¬ f (a.toNat + i.toNat) = (zWs.getD j9 []).getD i.toNat 0 := by omega
                          refine ww_iconst hX (pc := 95) (x := 0) dX11_wordOf_95 rfl ?_
                          refine ww_istore hX (pc := 96) (lv' := [some (kR (some 49)), some (kI a), some (kI b), some (kI w), some (kI k), some (kI n), some (kI 0), some (kI i)]) dX11_wordOf_96 (by decide) rfl rfl ?_
                          refine ww_iinc hX (pc := 98) (lv' := [some (kR (some 49)), some (kI a), some (kI b), some (kI w), some (kI k), some (kI n), some (kI 0), some (kI (i + 1))]) dX11_wordOf_98 rfl (by decide) rfl rfl ?_
                          refine ww_goto hX (pc := 101) (tgt := 57) dX11_wordOf_101 (by decide) ?_
                          exact ih_57 _ (by have hm9 := Sh0_e hq_57; omega) 0 (i + 1) rfl ⟨⟨by omega, by omega⟩, Or.inl rfl, fun h9 => absurd h9 (by decide), fun _ h9 => hne (h9.2 i.toNat (by omega))⟩
                        · simp only [w32_mod] at h_88
                          have heq : f (a.toNat + i.toNat) = (zWs.getD j9 []).getD i.toNat 0 := by omega
                          refine ww_iconst hX (pc := 91) (x := 1) dX11_wordOf_91 rfl ?_
                          refine ww_goto hX (pc := 92) (tgt := 96) dX11_wordOf_92 (by decide) ?_
                          refine ww_istore hX (pc := 96) (lv' := [some (kR (some 49)), some (kI a), some (kI b), some (kI w), some (kI k), some (kI n), some (kI 1), some (kI i)]) dX11_wordOf_96 (by decide) rfl rfl ?_
                          refine ww_iinc hX (pc := 98) (lv' := [some (kR (some 49)), some (kI a), some (kI b), some (kI w), some (kI k), some (kI n), some (kI 1), some (kI (i + 1))]) dX11_wordOf_98 rfl (by decide) rfl rfl ?_
                          refine ww_goto hX (pc := 101) (tgt := 57) dX11_wordOf_101 (by decide) ?_
                          exact ih_57 _ (by have hm9 := Sh0_e hq_57; omega) 1 (i + 1) rfl ⟨⟨by omega, by omega⟩, Or.inr rfl, fun _ => ⟨((Sh0_e hs1) (by omega)).1, fun q hq => (if h9 : (q : Int) < i then ((Sh0_e hs1) (by omega)).2 q h9 else by rw [show q = i.toNat by omega]; exact heq)⟩, fun h9 => absurd h9 (by decide)⟩
                exact hl_57 _ 1 0 rfl ⟨⟨by omega, by omega⟩, Or.inr rfl, fun _ => ⟨by omega, fun q hq => absurd hq (by omega)⟩, fun h9 => absurd h9 (by decide)⟩
            · simp only [w32_mod] at h_30
              have hnl : n < ((zWs.getD j9 []).length : Nat) := by
                by_cases h9 : n.toNat = (zWs.getD j9 []).length
                · rw [h9, ht3] at hw9
                  omega
                · omega
              refine ww_iinc hX (pc := 33) (lv' := [some (kR (some 49)), some (kI a), some (kI b), some (kI w), some (kI k), some (kI (n + 1)), none, none]) dX11_wordOf_33 rfl (by decide) rfl rfl ?_
              refine ww_goto hX (pc := 36) (tgt := 18) dX11_wordOf_36 (by decide) ?_
              exact ih_18 _ (by have hm9 := Sh0_e hq_18; omega) (n + 1) rfl (by omega)
        exact hl_18 _ 0 rfl (by omega)
  exact hl_5 _ 1 0 rfl (⟨0, by omega, rfl, rfl, zWn_0⟩)
