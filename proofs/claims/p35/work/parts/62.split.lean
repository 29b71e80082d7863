def RG (f : Nat → Int) (n : Int) : Prop := ∀ j : Nat, (j : Int) < n → 0 ≤ f j ∧ f j ≤ 400
theorem RG_up {f : Nat → Int} {n v : Int} (h : RG f n) (hn : 0 ≤ n) (h0 : 0 ≤ v) (h1 : v ≤ 400) : RG (up1 f n.toNat v) (n + 1) := fun j hj => by
  by_cases e : j = n.toNat
  · rw [e, up1_s]; exact ⟨h0, h1⟩
  · rw [up1_n _ _ e]; exact h j (by omega)
theorem RX_w {I : aI1} (h : RX I) : (0 ≤ I 49 10 ∧ I 49 10 ≤ 400) := h.2.2.2.1
set_option maxHeartbeats 4000000 in
set_option maxRecDepth 20000 in
theorem c_X11_wordOf (l0 : Launch) {Ia Ja : aI1} {Ra : aR1} {Sa : aS1} (hL : LY Ra Sa) (hQ : RX Ia) {a b : Int} (ha0 : 0 ≤ a) (hab : a < b) (hb : b ≤ 400)  : CT l0 0 0 0 mX11_wordOf [kR (some 49), kI a, kI b] Ia Ja Ra Sa (cI (fun x I' J' => Ia = I' ∧ Ja = J' ∧ 0 ≤ x ∧ x ≤ 61) Ra Sa) := by
  refine ct_in pn_X11 (Nat.le_of_ble_eq_true rfl) (fun X hX hT hIn => ?_)
  have hX : aK l0 X cX11_wordOf 8 RX11 (some .int) 0 0 0 := hX
  change WW X 0 [some (kR (some 49)), some (kI a), some (kI b), none, none, none, none, none] [] Ia Ja Ra Sa 0 0
  have qIa := RX_w hQ
  refine ww_iconst hX (pc := 0) (x := 1) dX11_wordOf_0 rfl ?_
  refine ww_istore_n hX (pc := 1) (lv' := [some (kR (some 49)), some (kI a), some (kI b), some (kI 1), none, none, none, none]) dX11_wordOf_1 (by decide) rfl rfl ?_
  refine ww_iconst hX (pc := 2) (x := 0) dX11_wordOf_2 rfl ?_
  refine ww_istore hX (pc := 3) (lv' := [some (kR (some 49)), some (kI a), some (kI b), some (kI 1), some (kI 0), none, none, none]) dX11_wordOf_3 (by decide) rfl rfl ?_
  have hl_5 : ∀ (n_5 : Nat) (w : Int) (k : Int), (60 - k).toNat = n_5 → ((0 ≤ k ∧ k ≤ 60 ∧ 1 ≤ w ∧ w ≤ k + 1)) → WW X 5 [some (kR (some 49)), some (kI a), some (kI b), some (kI w), some (kI k), none, none, none] [] Ia Ja Ra Sa 0 0 := by
    intro n_5
    induction n_5 using Nat.strongRecOn with
    | ind n_5 ih_5 =>
      intro w k hm_5 hv_5
      have hq_5 := Sh0_i hm_5
      clear hm_5
      have hv := hv_5
      refine ww_iload hX (pc := 5) dX11_wordOf_5 rfl ?_
      refine ww_aload_n hX (pc := 7) dX11_wordOf_7 rfl ?_
      refine ww_getR hX (pc := 8) fX11_30 (by decide) (xs_49 hL) (xr_49_7 hL) dX11_wordOf_8 ?_
      refine ww_alen hX (pc := 11) (by decide) (xs_54 hL) dX11_wordOf_11 ?_
      refine ww_icmp_ge hX (pc := 12) (tgt := 126) dX11_wordOf_12 (by decide) (fun h_12 => ?_) (fun h_12 => ?_)
      · simp only [w32_mod] at h_12
        refine ww_iconst hX (pc := 126) (x := 0) dX11_wordOf_126 rfl ?_
        refine rI hX (pc := 127) hT (Nat.le_refl 0) (Nat.le_refl 0) dX11_wordOf_127 ?_
        exact ⟨rfl, rfl, by omega⟩
      · simp only [w32_mod] at h_12
        refine ww_iconst hX (pc := 15) (x := 0) dX11_wordOf_15 rfl ?_
        refine ww_istore hX (pc := 16) (lv' := [some (kR (some 49)), some (kI a), some (kI b), some (kI w), some (kI k), some (kI 0), none, none]) dX11_wordOf_16 (by decide) rfl rfl ?_
        have hl_18 : ∀ (n_18 : Nat) (n : Int), (59 - n).toNat = n_18 → ((0 ≤ n ∧ k + n ≤ 59)) → WW X 18 [some (kR (some 49)), some (kI a), some (kI b), some (kI w), some (kI k), some (kI n), none, none] [] Ia Ja Ra Sa 0 0 := by
          intro n_18
          induction n_18 using Nat.strongRecOn with
          | ind n_18 ih_18 =>
            intro n hm_18 hv_18
            have hq_18 := Sh0_i hm_18
            clear hm_18
            have hu := hv_18
            refine ww_aload_n hX (pc := 18) dX11_wordOf_18 rfl ?_
            refine ww_getR hX (pc := 19) fX11_30 (by decide) (xs_49 hL) (xr_49_7 hL) dX11_wordOf_19 ?_
            refine ww_iload hX (pc := 22) dX11_wordOf_22 rfl ?_
            refine ww_iload hX (pc := 24) dX11_wordOf_24 rfl ?_
            refine ww_iadd hX (pc := 26) dX11_wordOf_26 ?_
            refine ww_bald hX (pc := 27) (xs_54 hL) (by decide) (by omega) (by omega) dX11_wordOf_27 ?_
            refine ww_bipush hX (pc := 28) (x := 32) dX11_wordOf_28 (by decide) ?_
            refine ww_icmp_eq hX (pc := 30) (tgt := 39) dX11_wordOf_30 (by decide) (fun h_30 => ?_) (fun h_30 => ?_)
            · simp only [w32_mod] at h_30
              refine ww_iload hX (pc := 39) dX11_wordOf_39 rfl ?_
              refine ww_iload_n hX (pc := 41) dX11_wordOf_41 rfl ?_
              refine ww_iload_n hX (pc := 42) dX11_wordOf_42 rfl ?_
              refine ww_isub hX (pc := 43) dX11_wordOf_43 ?_
              refine ww_icmp_ne hX (pc := 44) (tgt := 51) dX11_wordOf_44 (by decide) (fun h_44 => ?_) (fun h_44 => ?_)
              · simp only [w32_mod] at h_44
                refine ww_iconst hX (pc := 51) (x := 0) dX11_wordOf_51 rfl ?_
                refine ww_istore hX (pc := 52) (lv' := [some (kR (some 49)), some (kI a), some (kI b), some (kI w), some (kI k), some (kI n), some (kI 0), none]) dX11_wordOf_52 (by decide) rfl rfl ?_
                refine ww_iconst hX (pc := 54) (x := 0) dX11_wordOf_54 rfl ?_
                refine ww_istore hX (pc := 55) (lv' := [some (kR (some 49)), some (kI a), some (kI b), some (kI w), some (kI k), some (kI n), some (kI 0), some (kI 0)]) dX11_wordOf_55 (by decide) rfl rfl ?_
                have hl_57 : ∀ (n_57 : Nat) (sm : Int) (i : Int), (n - i).toNat = n_57 → ((0 ≤ i ∧ i ≤ n ∧ (sm = 0 ∨ sm = 1) ∧ (sm = 0 ∨ n = b - a))) → WW X 57 [some (kR (some 49)), some (kI a), some (kI b), some (kI w), some (kI k), some (kI n), some (kI sm), some (kI i)] [] Ia Ja Ra Sa 0 0 := by
                  intro n_57
                  induction n_57 using Nat.strongRecOn with
                  | ind n_57 ih_57 =>
                    intro sm i hm_57 hv_57
                    have hq_57 := Sh0_i hm_57
                    clear hm_57
                    have hw := hv_57
                    refine ww_iload hX (pc := 57) dX11_wordOf_57 rfl ?_
                    refine ww_iload hX (pc := 59) dX11_wordOf_59 rfl ?_
                    refine ww_icmp_ge hX (pc := 61) (tgt := 104) dX11_wordOf_61 (by decide) (fun h_61 => ?_) (fun h_61 => ?_)
                    · simp only [w32_mod] at h_61
                      refine ww_iload hX (pc := 104) dX11_wordOf_104 rfl ?_
                      refine ww_if_eq hX (pc := 106) (tgt := 111) dX11_wordOf_106 (by decide) (fun h_106 => ?_) (fun h_106 => ?_)
                      · simp only [w32_mod] at h_106
                        refine ww_iload hX (pc := 111) dX11_wordOf_111 rfl ?_
                        refine ww_iload hX (pc := 113) dX11_wordOf_113 rfl ?_
                        refine ww_iconst hX (pc := 115) (x := 1) dX11_wordOf_115 rfl ?_
                        refine ww_iadd hX (pc := 116) dX11_wordOf_116 ?_
                        refine ww_iadd hX (pc := 117) dX11_wordOf_117 ?_
                        refine ww_nmI (fun v_118 hv_118 => ?_)
                        refine ww_istore hX (pc := 118) (lv' := [some (kR (some 49)), some (kI a), some (kI b), some (kI w), some (kI v_118), some (kI n), some (kI sm), some (kI i)]) dX11_wordOf_118 (by decide) rfl rfl ?_
                        refine ww_iinc hX (pc := 120) (lv' := [some (kR (some 49)), some (kI a), some (kI b), some (kI (w + 1)), some (kI v_118), some (kI n), some (kI sm), some (kI i)]) dX11_wordOf_120 rfl (by decide) rfl rfl ?_
                        refine ww_goto hX (pc := 123) (tgt := 5) dX11_wordOf_123 (by decide) ?_
                        refine ww_sub [some (kR (some 49)), some (kI a), some (kI b), some (kI (w + 1)), some (kI v_118), none, none, none] (aLe_s (aLe_s (aLe_s (aLe_s (aLe_s (aLe_n (aLe_n (aLe_n aLe_0)))))))) ?_
                        exact ih_5 _ (by have hm9 := Sh0_e hq_5; omega) (w + 1) v_118 rfl (by omega)
                      · simp only [w32_mod] at h_106
                        refine ww_iload_n hX (pc := 109) dX11_wordOf_109 rfl ?_
                        refine rI hX (pc := 110) hT (Nat.le_refl 0) (Nat.le_refl 0) dX11_wordOf_110 ?_
                        exact ⟨rfl, rfl, by omega⟩
                    · simp only [w32_mod] at h_61
                      refine ww_iload hX (pc := 64) dX11_wordOf_64 rfl ?_
                      refine ww_if_eq hX (pc := 66) (tgt := 104) dX11_wordOf_66 (by decide) (fun h_66 => ?_) (fun h_66 => ?_)
                      · simp only [w32_mod] at h_66
                        refine ww_iload hX (pc := 104) dX11_wordOf_104 rfl ?_
                        refine ww_if_eq hX (pc := 106) (tgt := 111) dX11_wordOf_106 (by decide) (fun h_106 => ?_) (fun h_106 => ?_)
                        · simp only [w32_mod] at h_106
                          refine ww_iload hX (pc := 111) dX11_wordOf_111 rfl ?_
                          refine ww_iload hX (pc := 113) dX11_wordOf_113 rfl ?_
                          refine ww_iconst hX (pc := 115) (x := 1) dX11_wordOf_115 rfl ?_
                          refine ww_iadd hX (pc := 116) dX11_wordOf_116 ?_
                          refine ww_iadd hX (pc := 117) dX11_wordOf_117 ?_
                          refine ww_nmI (fun v_118 hv_118 => ?_)
                          refine ww_istore hX (pc := 118) (lv' := [some (kR (some 49)), some (kI a), some (kI b), some (kI w), some (kI v_118), some (kI n), some (kI sm), some (kI i)]) dX11_wordOf_118 (by decide) rfl rfl ?_
                          refine ww_iinc hX (pc := 120) (lv' := [some (kR (some 49)), some (kI a), some (kI b), some (kI (w + 1)), some (kI v_118), some (kI n), some (kI sm), some (kI i)]) dX11_wordOf_120 rfl (by decide) rfl rfl ?_
                          refine ww_goto hX (pc := 123) (tgt := 5) dX11_wordOf_123 (by decide) ?_
                          refine ww_sub [some (kR (some 49)), some (kI a), some (kI b), some (kI (w + 1)), some (kI v_118), none, none, none] (aLe_s (aLe_s (aLe_s (aLe_s (aLe_s (aLe_n (aLe_n (aLe_n aLe_0)))))))) ?_
                          exact ih_5 _ (by have hm9 := Sh0_e hq_5; omega) (w + 1) v_118 rfl (by omega)
                        · simp only [w32_mod] at h_106
                          refine ww_iload_n hX (pc := 109) dX11_wordOf_109 rfl ?_
                          refine rI hX (pc := 110) hT (Nat.le_refl 0) (Nat.le_refl 0) dX11_wordOf_110 ?_
                          exact ⟨rfl, rfl, by omega⟩
                      · simp only [w32_mod] at h_66
                        refine ww_aload_n hX (pc := 69) dX11_wordOf_69 rfl ?_
                        refine ww_getR hX (pc := 70) fX11_30 (by decide) (xs_49 hL) (xr_49_7 hL) dX11_wordOf_70 ?_
                        refine ww_iload hX (pc := 73) dX11_wordOf_73 rfl ?_
                        refine ww_iload hX (pc := 75) dX11_wordOf_75 rfl ?_
                        refine ww_iadd hX (pc := 77) dX11_wordOf_77 ?_
                        refine ww_bald hX (pc := 78) (xs_54 hL) (by decide) (by omega) (by omega) dX11_wordOf_78 ?_
                        refine ww_aload_n hX (pc := 79) dX11_wordOf_79 rfl ?_
                        refine ww_getR hX (pc := 80) fX11_34 (by decide) (xs_49 hL) (xr_49_8 hL) dX11_wordOf_80 ?_
                        refine ww_iload_n hX (pc := 83) dX11_wordOf_83 rfl ?_
                        refine ww_iload hX (pc := 84) dX11_wordOf_84 rfl ?_
                        refine ww_iadd hX (pc := 86) dX11_wordOf_86 ?_
                        refine ww_bald hX (pc := 87) (xs_55 hL) (by decide) (by omega) (by omega) dX11_wordOf_87 ?_
                        refine ww_icmp_ne hX (pc := 88) (tgt := 95) dX11_wordOf_88 (by decide) (fun h_88 => ?_) (fun h_88 => ?_)
                        · simp only [w32_mod] at h_88
                          refine ww_iconst hX (pc := 95) (x := 0) dX11_wordOf_95 rfl ?_
                          refine ww_istore hX (pc := 96) (lv' := [some (kR (some 49)), some (kI a), some (kI b), some (kI w), some (kI k), some (kI n), some (kI 0), some (kI i)]) dX11_wordOf_96 (by decide) rfl rfl ?_
                          refine ww_iinc hX (pc := 98) (lv' := [some (kR (some 49)), some (kI a), some (kI b), some (kI w), some (kI k), some (kI n), some (kI 0), some (kI (i + 1))]) dX11_wordOf_98 rfl (by decide) rfl rfl ?_
                          refine ww_goto hX (pc := 101) (tgt := 57) dX11_wordOf_101 (by decide) ?_
                          exact ih_57 _ (by have hm9 := Sh0_e hq_57; omega) 0 (i + 1) rfl (by omega)
                        · simp only [w32_mod] at h_88
                          refine ww_iconst hX (pc := 91) (x := 1) dX11_wordOf_91 rfl ?_
                          refine ww_goto hX (pc := 92) (tgt := 96) dX11_wordOf_92 (by decide) ?_
                          refine ww_istore hX (pc := 96) (lv' := [some (kR (some 49)), some (kI a), some (kI b), some (kI w), some (kI k), some (kI n), some (kI 1), some (kI i)]) dX11_wordOf_96 (by decide) rfl rfl ?_
                          refine ww_iinc hX (pc := 98) (lv' := [some (kR (some 49)), some (kI a), some (kI b), some (kI w), some (kI k), some (kI n), some (kI 1), some (kI (i + 1))]) dX11_wordOf_98 rfl (by decide) rfl rfl ?_
                          refine ww_goto hX (pc := 101) (tgt := 57) dX11_wordOf_101 (by decide) ?_
                          exact ih_57 _ (by have hm9 := Sh0_e hq_57; omega) 1 (i + 1) rfl (by omega)
                exact hl_57 _ 0 0 rfl (by omega)
              · simp only [w32_mod] at h_44
                refine ww_iconst hX (pc := 47) (x := 1) dX11_wordOf_47 rfl ?_
                refine ww_goto hX (pc := 48) (tgt := 52) dX11_wordOf_48 (by decide) ?_
                refine ww_istore hX (pc := 52) (lv' := [some (kR (some 49)), some (kI a), some (kI b), some (kI w), some (kI k), some (kI n), some (kI 1), none]) dX11_wordOf_52 (by decide) rfl rfl ?_
                refine ww_iconst hX (pc := 54) (x := 0) dX11_wordOf_54 rfl ?_
                refine ww_istore hX (pc := 55) (lv' := [some (kR (some 49)), some (kI a), some (kI b), some (kI w), some (kI k), some (kI n), some (kI 1), some (kI 0)]) dX11_wordOf_55 (by decide) rfl rfl ?_
                have hl_57 : ∀ (n_57 : Nat) (sm : Int) (i : Int), (n - i).toNat = n_57 → ((0 ≤ i ∧ i ≤ n ∧ (sm = 0 ∨ sm = 1) ∧ (sm = 0 ∨ n = b - a))) → WW X 57 [some (kR (some 49)), some (kI a), some (kI b), some (kI w), some (kI k), some (kI n), some (kI sm), some (kI i)] [] Ia Ja Ra Sa 0 0 := by
                  intro n_57
                  induction n_57 using Nat.strongRecOn with
                  | ind n_57 ih_57 =>
                    intro sm i hm_57 hv_57
                    have hq_57 := Sh0_i hm_57
                    clear hm_57
                    have hw := hv_57
                    refine ww_iload hX (pc := 57) dX11_wordOf_57 rfl ?_
                    refine ww_iload hX (pc := 59) dX11_wordOf_59 rfl ?_
                    refine ww_icmp_ge hX (pc := 61) (tgt := 104) dX11_wordOf_61 (by decide) (fun h_61 => ?_) (fun h_61 => ?_)
                    · simp only [w32_mod] at h_61
                      refine ww_iload hX (pc := 104) dX11_wordOf_104 rfl ?_
                      refine ww_if_eq hX (pc := 106) (tgt := 111) dX11_wordOf_106 (by decide) (fun h_106 => ?_) (fun h_106 => ?_)
                      · simp only [w32_mod] at h_106
                        refine ww_iload hX (pc := 111) dX11_wordOf_111 rfl ?_
                        refine ww_iload hX (pc := 113) dX11_wordOf_113 rfl ?_
                        refine ww_iconst hX (pc := 115) (x := 1) dX11_wordOf_115 rfl ?_
                        refine ww_iadd hX (pc := 116) dX11_wordOf_116 ?_
                        refine ww_iadd hX (pc := 117) dX11_wordOf_117 ?_
                        refine ww_nmI (fun v_118 hv_118 => ?_)
                        refine ww_istore hX (pc := 118) (lv' := [some (kR (some 49)), some (kI a), some (kI b), some (kI w), some (kI v_118), some (kI n), some (kI sm), some (kI i)]) dX11_wordOf_118 (by decide) rfl rfl ?_
                        refine ww_iinc hX (pc := 120) (lv' := [some (kR (some 49)), some (kI a), some (kI b), some (kI (w + 1)), some (kI v_118), some (kI n), some (kI sm), some (kI i)]) dX11_wordOf_120 rfl (by decide) rfl rfl ?_
                        refine ww_goto hX (pc := 123) (tgt := 5) dX11_wordOf_123 (by decide) ?_
                        refine ww_sub [some (kR (some 49)), some (kI a), some (kI b), some (kI (w + 1)), some (kI v_118), none, none, none] (aLe_s (aLe_s (aLe_s (aLe_s (aLe_s (aLe_n (aLe_n (aLe_n aLe_0)))))))) ?_
                        exact ih_5 _ (by have hm9 := Sh0_e hq_5; omega) (w + 1) v_118 rfl (by omega)
                      · simp only [w32_mod] at h_106
                        refine ww_iload_n hX (pc := 109) dX11_wordOf_109 rfl ?_
                        refine rI hX (pc := 110) hT (Nat.le_refl 0) (Nat.le_refl 0) dX11_wordOf_110 ?_
                        exact ⟨rfl, rfl, by omega⟩
                    · simp only [w32_mod] at h_61
                      refine ww_iload hX (pc := 64) dX11_wordOf_64 rfl ?_
                      refine ww_if_eq hX (pc := 66) (tgt := 104) dX11_wordOf_66 (by decide) (fun h_66 => ?_) (fun h_66 => ?_)
                      · simp only [w32_mod] at h_66
                        refine ww_iload hX (pc := 104) dX11_wordOf_104 rfl ?_
                        refine ww_if_eq hX (pc := 106) (tgt := 111) dX11_wordOf_106 (by decide) (fun h_106 => ?_) (fun h_106 => ?_)
                        · simp only [w32_mod] at h_106
                          refine ww_iload hX (pc := 111) dX11_wordOf_111 rfl ?_
                          refine ww_iload hX (pc := 113) dX11_wordOf_113 rfl ?_
                          refine ww_iconst hX (pc := 115) (x := 1) dX11_wordOf_115 rfl ?_
                          refine ww_iadd hX (pc := 116) dX11_wordOf_116 ?_
                          refine ww_iadd hX (pc := 117) dX11_wordOf_117 ?_
                          refine ww_nmI (fun v_118 hv_118 => ?_)
                          refine ww_istore hX (pc := 118) (lv' := [some (kR (some 49)), some (kI a), some (kI b), some (kI w), some (kI v_118), some (kI n), some (kI sm), some (kI i)]) dX11_wordOf_118 (by decide) rfl rfl ?_
                          refine ww_iinc hX (pc := 120) (lv' := [some (kR (some 49)), some (kI a), some (kI b), some (kI (w + 1)), some (kI v_118), some (kI n), some (kI sm), some (kI i)]) dX11_wordOf_120 rfl (by decide) rfl rfl ?_
                          refine ww_goto hX (pc := 123) (tgt := 5) dX11_wordOf_123 (by decide) ?_
                          refine ww_sub [some (kR (some 49)), some (kI a), some (kI b), some (kI (w + 1)), some (kI v_118), none, none, none] (aLe_s (aLe_s (aLe_s (aLe_s (aLe_s (aLe_n (aLe_n (aLe_n aLe_0)))))))) ?_
                          exact ih_5 _ (by have hm9 := Sh0_e hq_5; omega) (w + 1) v_118 rfl (by omega)
                        · simp only [w32_mod] at h_106
                          refine ww_iload_n hX (pc := 109) dX11_wordOf_109 rfl ?_
                          refine rI hX (pc := 110) hT (Nat.le_refl 0) (Nat.le_refl 0) dX11_wordOf_110 ?_
                          exact ⟨rfl, rfl, by omega⟩
                      · simp only [w32_mod] at h_66
                        refine ww_aload_n hX (pc := 69) dX11_wordOf_69 rfl ?_
                        refine ww_getR hX (pc := 70) fX11_30 (by decide) (xs_49 hL) (xr_49_7 hL) dX11_wordOf_70 ?_
                        refine ww_iload hX (pc := 73) dX11_wordOf_73 rfl ?_
                        refine ww_iload hX (pc := 75) dX11_wordOf_75 rfl ?_
                        refine ww_iadd hX (pc := 77) dX11_wordOf_77 ?_
                        refine ww_bald hX (pc := 78) (xs_54 hL) (by decide) (by omega) (by omega) dX11_wordOf_78 ?_
                        refine ww_aload_n hX (pc := 79) dX11_wordOf_79 rfl ?_
                        refine ww_getR hX (pc := 80) fX11_34 (by decide) (xs_49 hL) (xr_49_8 hL) dX11_wordOf_80 ?_
                        refine ww_iload_n hX (pc := 83) dX11_wordOf_83 rfl ?_
                        refine ww_iload hX (pc := 84) dX11_wordOf_84 rfl ?_
                        refine ww_iadd hX (pc := 86) dX11_wordOf_86 ?_
                        refine ww_bald hX (pc := 87) (xs_55 hL) (by decide) (by omega) (by omega) dX11_wordOf_87 ?_
                        refine ww_icmp_ne hX (pc := 88) (tgt := 95) dX11_wordOf_88 (by decide) (fun h_88 => ?_) (fun h_88 => ?_)
                        · simp only [w32_mod] at h_88
                          refine ww_iconst hX (pc := 95) (x := 0) dX11_wordOf_95 rfl ?_
                          refine ww_istore hX (pc := 96) (lv' := [some (kR (some 49)), some (kI a), some (kI b), some (kI w), some (kI k), some (kI n), some (kI 0), some (kI i)]) dX11_wordOf_96 (by decide) rfl rfl ?_
                          refine ww_iinc hX (pc := 98) (lv' := [some (kR (some 49)), some (kI a), some (kI b), some (kI w), some (kI k), some (kI n), some (kI 0), some (kI (i + 1))]) dX11_wordOf_98 rfl (by decide) rfl rfl ?_
                          refine ww_goto hX (pc := 101) (tgt := 57) dX11_wordOf_101 (by decide) ?_
                          exact ih_57 _ (by have hm9 := Sh0_e hq_57; omega) 0 (i + 1) rfl (by omega)
                        · simp only [w32_mod] at h_88
                          refine ww_iconst hX (pc := 91) (x := 1) dX11_wordOf_91 rfl ?_
                          refine ww_goto hX (pc := 92) (tgt := 96) dX11_wordOf_92 (by decide) ?_
                          refine ww_istore hX (pc := 96) (lv' := [some (kR (some 49)), some (kI a), some (kI b), some (kI w), some (kI k), some (kI n), some (kI 1), some (kI i)]) dX11_wordOf_96 (by decide) rfl rfl ?_
                          refine ww_iinc hX (pc := 98) (lv' := [some (kR (some 49)), some (kI a), some (kI b), some (kI w), some (kI k), some (kI n), some (kI 1), some (kI (i + 1))]) dX11_wordOf_98 rfl (by decide) rfl rfl ?_
                          refine ww_goto hX (pc := 101) (tgt := 57) dX11_wordOf_101 (by decide) ?_
                          exact ih_57 _ (by have hm9 := Sh0_e hq_57; omega) 1 (i + 1) rfl (by omega)
                exact hl_57 _ 1 0 rfl (by omega)
            · simp only [w32_mod] at h_30
              have hne : ¬ k + n = 59 := fun e9 => by rw [e9, show (59 : Int).toNat = 59 from rfl] at h_30; have := hQ.2.2.2.2.2.2; omega
              refine ww_iinc hX (pc := 33) (lv' := [some (kR (some 49)), some (kI a), some (kI b), some (kI w), some (kI k), some (kI (n + 1)), none, none]) dX11_wordOf_33 rfl (by decide) rfl rfl ?_
              refine ww_goto hX (pc := 36) (tgt := 18) dX11_wordOf_36 (by decide) ?_
              exact ih_18 _ (by have hm9 := Sh0_e hq_18; omega) (n + 1) rfl (by omega)
        exact hl_18 _ 0 rfl (by omega)
  exact hl_5 _ 1 0 rfl (by omega)
set_option maxHeartbeats 4000000 in
set_option maxRecDepth 20000 in
theorem c_X11_splits (l0 : Launch) {Ia Ja : aI1} {Ra : aR1} {Sa : aS1} (hL : LY Ra Sa) (hQ : RX Ia) {a : Int} (ha0 : 0 ≤ a) (ha1 : a ≤ 400)  : CT l0 2 0 0 mX11_splits [kR (some 49), kI a] Ia Ja Ra Sa (cV (fun I' J' => Ch [57, 58, 59] [15] Ia I' ∧ Kp 49 73 Ja J' ∧ RX I' ∧ (0 ≤ I' 49 15 ∧ I' 49 15 ≤ 400) ∧ RG (I' 57) (I' 49 15 + 1) ∧ RG (I' 59) (I' 49 15 + 1) ∧ I' 57 (I' 49 15).toNat = 0) Ra Sa) := by
  refine ct_in pn_X11 (Nat.le_of_ble_eq_true rfl) (fun X hX hT hIn => ?_)
  have hX : aK l0 X cX11_splits 6 RX11 none 2 0 0 := hX
  change WW X 0 [some (kR (some 49)), some (kI a), none, none, none, none] [] Ia Ja Ra Sa 0 0
  have qIa := RX_w hQ
  refine ww_aload_n hX (pc := 0) dX11_splits_0 rfl ?_
  refine ww_iconst hX (pc := 1) (x := 0) dX11_splits_1 rfl ?_
  refine ww_putI hX (pc := 2) (fun h9 => absurd h9 (by decide)) gX11_142 rfl (xs_49 hL) dX11_splits_2 ?_
  refine ww_nmH (fun I_2 eI_2 => ?_)
  have kI_2 : Ch [57, 58, 59] [15] Ia I_2 := by rw [eI_2]; exact Ch_f Ch_rf (by decide)
  have cI_2 : RX I_2 := by rw [eI_2]; exact RX_f hQ (by decide)
  have qI_2 := RX_w cI_2
  have w15_0 : I_2 49 15 = 0 := by rw [eI_2, up2_s]
  refine ww_iconst hX (pc := 5) (x := 0) dX11_splits_5 rfl ?_
  refine ww_istore_n hX (pc := 6) (lv' := [some (kR (some 49)), some (kI a), some (kI 0), none, none, none]) dX11_splits_6 (by decide) rfl rfl ?_
  have hl_7 : ∀ (n_7 : Nat) (k : Int) (I7 : aI1) (J7 : aI1), (a - k).toNat = n_7 → (Ch [57, 58, 59] [15] Ia I7 ∧ RX I7 ∧ Kp 49 73 Ja J7 ∧ (0 ≤ k ∧ k ≤ a) ∧ (0 ≤ I7 49 15 ∧ I7 49 15 ≤ k) ∧ RG (I7 57) (I7 49 15) ∧ RG (I7 59) (I7 49 15)) → WW X 7 [some (kR (some 49)), some (kI a), some (kI k), none, none, none] [] I7 J7 Ra Sa 0 0 := by
    intro n_7
    induction n_7 using Nat.strongRecOn with
    | ind n_7 ih_7 =>
      intro k I7 J7 hm_7 hv_7
      have hq_7 := Sh0_i hm_7
      clear hm_7
      obtain ⟨kI7, cI7, kJ7, hv, hv1, hg57, hg59⟩ := hv_7
      have qI7 := RX_w cI7
      refine ww_iload_n hX (pc := 7) dX11_splits_7 rfl ?_
      refine ww_iload_n hX (pc := 8) dX11_splits_8 rfl ?_
      refine ww_icmp_ge hX (pc := 9) (tgt := 263) dX11_splits_9 (by decide) (fun h_9 => ?_) (fun h_9 => ?_)
      · simp only [w32_mod] at h_9
        refine ww_aload_n hX (pc := 263) dX11_splits_263 rfl ?_
        refine ww_getR hX (pc := 264) fX11_49 (by decide) (xs_49 hL) (xr_49_14 hL) dX11_splits_264 ?_
        refine ww_aload_n hX (pc := 267) dX11_splits_267 rfl ?_
        refine ww_getI hX (pc := 268) fX11_142 (by decide) (xs_49 hL) dX11_splits_268 ?_
        refine ww_iload_n hX (pc := 271) dX11_splits_271 rfl ?_
        refine ww_iast hX (pc := 272) (xs_59 hL) (by decide) (by omega) (by omega) dX11_splits_272 ?_
        refine ww_nmH (fun I_272 eI_272 => ?_)
        have kI_272 : Ch [57, 58, 59] [15] Ia I_272 := by rw [eI_272]; exact Ch_r kI7 (by decide) (by decide)
        have cI_272 : RX I_272 := by rw [eI_272]; exact RX_r cI7 (by decide)
        have qI_272 := RX_w cI_272
        have f15_I_272 : I_272 49 15 = I7 49 15 := by rw [eI_272, up2_off _ _ _ (by decide)]
        have y59 : RG (I_272 59) (I7 49 15 + 1) := by rw [eI_272, up2_row]; exact RG_up hg59 (by omega) (by omega) (by omega)
        refine ww_aload_n hX (pc := 273) dX11_splits_273 rfl ?_
        refine ww_getR hX (pc := 274) fX11_43 (by decide) (xs_49 hL) (xr_49_12 hL) dX11_splits_274 ?_
        refine ww_aload_n hX (pc := 277) dX11_splits_277 rfl ?_
        refine ww_getI hX (pc := 278) fX11_142 (by decide) (xs_49 hL) dX11_splits_278 ?_
        refine ww_iconst hX (pc := 281) (x := 0) dX11_splits_281 rfl ?_
        refine ww_iast hX (pc := 282) (xs_57 hL) (by decide) (by omega) (by omega) dX11_splits_282 ?_
        refine ww_nmH (fun I_282 eI_282 => ?_)
        have kI_282 : Ch [57, 58, 59] [15] Ia I_282 := by rw [eI_282]; exact Ch_r kI_272 (by decide) (by decide)
        have cI_282 : RX I_282 := by rw [eI_282]; exact RX_r cI_272 (by decide)
        have qI_282 := RX_w cI_282
        have f15_I_282 : I_282 49 15 = I_272 49 15 := by rw [eI_282, up2_off _ _ _ (by decide)]
        have y57 : RG (I_282 57) (I7 49 15 + 1) := by rw [eI_282, up2_row, show I_272 49 15 = I7 49 15 by omega, show I_272 57 = I7 57 by rw [eI_272, up2_off _ _ _ (by decide)]]; exact RG_up hg57 (by omega) (by omega) (by omega)
        have y0 : I_282 57 (I7 49 15).toNat = 0 := by rw [eI_282, show I_272 49 15 = I7 49 15 by omega, up2_s]
        refine ww_aload_n hX (pc := 283) dX11_splits_283 rfl ?_
        refine ww_getR hX (pc := 284) fX11_46 (by decide) (xs_49 hL) (xr_49_13 hL) dX11_splits_284 ?_
        refine ww_aload_n hX (pc := 287) dX11_splits_287 rfl ?_
        refine ww_getI hX (pc := 288) fX11_142 (by decide) (xs_49 hL) dX11_splits_288 ?_
        refine ww_iconst hX (pc := 291) (x := 0) dX11_splits_291 rfl ?_
        refine ww_iast hX (pc := 292) (xs_58 hL) (by decide) (by omega) (by omega) dX11_splits_292 ?_
        refine ww_nmH (fun I_292 eI_292 => ?_)
        have kI_292 : Ch [57, 58, 59] [15] Ia I_292 := by rw [eI_292]; exact Ch_r kI_282 (by decide) (by decide)
        have cI_292 : RX I_292 := by rw [eI_292]; exact RX_r cI_282 (by decide)
        have qI_292 := RX_w cI_292
        have f15_I_292 : I_292 49 15 = I_282 49 15 := by rw [eI_292, up2_off _ _ _ (by decide)]
        have z15 : I_292 49 15 = I7 49 15 := by omega
        have z57 : RG (I_292 57) (I_292 49 15 + 1) := by rw [z15, eI_292, up2_off _ _ _ (by decide)]; exact y57
        have z59 : RG (I_292 59) (I_292 49 15 + 1) := by rw [z15, eI_292, up2_off _ _ _ (by decide), eI_282, up2_off _ _ _ (by decide)]; exact y59
        have z0 : I_292 57 (I_292 49 15).toNat = 0 := by rw [z15, eI_292, up2_off _ _ _ (by decide)]; exact y0
        refine rV hX (pc := 293) hT (Nat.le_refl 0) (Nat.le_refl 0) dX11_splits_293 ?_
        exact ⟨kI_292, kJ7, cI_292, ⟨by omega, by omega⟩, z57, z59, z0⟩
      · simp only [w32_mod] at h_9
        refine ww_aload_n hX (pc := 12) dX11_splits_12 rfl ?_
        refine ww_getR hX (pc := 13) fX11_34 (by decide) (xs_49 hL) (xr_49_8 hL) dX11_splits_13 ?_
        refine ww_iload_n hX (pc := 16) dX11_splits_16 rfl ?_
        refine ww_bald hX (pc := 17) (xs_55 hL) (by decide) (by omega) (by omega) dX11_splits_17 ?_
        refine ww_wI ?_
        have hwr18 := w32_r (I7 55 k.toNat)
        refine ww_nmI (fun v_18 hv_18 => ?_)
        refine ww_istore_n hX (pc := 18) (lv' := [some (kR (some 49)), some (kI a), some (kI k), some (kI v_18), none, none]) dX11_splits_18 (by decide) rfl rfl ?_
        refine ww_iload_n hX (pc := 19) dX11_splits_19 rfl ?_
        refine ww_bipush hX (pc := 20) (x := 32) dX11_splits_20 (by decide) ?_
        refine ww_icmp_ne hX (pc := 22) (tgt := 31) dX11_splits_22 (by decide) (fun h_22 => ?_) (fun h_22 => ?_)
        · simp only [w32_mod] at h_22
          refine ww_iload_n hX (pc := 31) dX11_splits_31 rfl ?_
          refine ww_iconst hX (pc := 32) (x := 1) dX11_splits_32 rfl ?_
          refine ww_iadd hX (pc := 33) dX11_splits_33 ?_
          refine ww_nmI (fun v_34 hv_34 => ?_)
          refine ww_istore hX (pc := 34) (lv' := [some (kR (some 49)), some (kI a), some (kI k), some (kI v_18), some (kI v_34), none]) dX11_splits_34 (by decide) rfl rfl ?_
          have hj_100 : ∀ (u9 : Int), (k + 1 ≤ u9 ∧ u9 ≤ a) → WW X 100 [some (kR (some 49)), some (kI a), some (kI k), some (kI v_18), some (kI u9), none] [] I7 J7 Ra Sa 0 0 := by
            intro u9 hv_100
            refine ww_aload_n hX (pc := 100) dX11_splits_100 rfl ?_
            refine ww_getR hX (pc := 101) fX11_49 (by decide) (xs_49 hL) (xr_49_14 hL) dX11_splits_101 ?_
            refine ww_aload_n hX (pc := 104) dX11_splits_104 rfl ?_
            refine ww_getI hX (pc := 105) fX11_142 (by decide) (xs_49 hL) dX11_splits_105 ?_
            refine ww_iload_n hX (pc := 108) dX11_splits_108 rfl ?_
            refine ww_iast hX (pc := 109) (xs_59 hL) (by decide) (by omega) (by omega) dX11_splits_109 ?_
            refine ww_nmH (fun I_109 eI_109 => ?_)
            have kI_109 : Ch [57, 58, 59] [15] Ia I_109 := by rw [eI_109]; exact Ch_r kI7 (by decide) (by decide)
            have cI_109 : RX I_109 := by rw [eI_109]; exact RX_r cI7 (by decide)
            have qI_109 := RX_w cI_109
            have f15_I_109 : I_109 49 15 = I7 49 15 := by rw [eI_109, up2_off _ _ _ (by decide)]
            have g59 : RG (I_109 59) (I7 49 15 + 1) := by rw [eI_109, up2_row]; exact RG_up hg59 (by omega) (by omega) (by omega)
            refine ww_aload_n hX (pc := 110) dX11_splits_110 rfl ?_
            refine ww_getR hX (pc := 111) fX11_46 (by decide) (xs_49 hL) (xr_49_13 hL) dX11_splits_111 ?_
            refine ww_aload_n hX (pc := 114) dX11_splits_114 rfl ?_
            refine ww_getI hX (pc := 115) fX11_142 (by decide) (xs_49 hL) dX11_splits_115 ?_
            refine ww_iconst hX (pc := 118) (x := 0) dX11_splits_118 rfl ?_
            refine ww_iast hX (pc := 119) (xs_58 hL) (by decide) (by omega) (by omega) dX11_splits_119 ?_
            refine ww_nmH (fun I_119 eI_119 => ?_)
            have kI_119 : Ch [57, 58, 59] [15] Ia I_119 := by rw [eI_119]; exact Ch_r kI_109 (by decide) (by decide)
            have cI_119 : RX I_119 := by rw [eI_119]; exact RX_r cI_109 (by decide)
            have qI_119 := RX_w cI_119
            have f15_I_119 : I_119 49 15 = I_109 49 15 := by rw [eI_119, up2_off _ _ _ (by decide)]
            refine ww_aload_n hX (pc := 120) dX11_splits_120 rfl ?_
            refine ww_getR hX (pc := 121) fX11_43 (by decide) (xs_49 hL) (xr_49_12 hL) dX11_splits_121 ?_
            refine ww_aload_n hX (pc := 124) dX11_splits_124 rfl ?_
            refine ww_getI hX (pc := 125) fX11_142 (by decide) (xs_49 hL) dX11_splits_125 ?_
            refine ww_iload_n hX (pc := 128) dX11_splits_128 rfl ?_
            refine sI1 hX (pc := 129) sX11_145 (c_X11_isSmall l0 (by omega) (by omega)) (by decide) (Nat.le_refl 0) (Nat.le_refl 0) (Nat.le_of_ble_eq_true rfl) dX11_splits_129 (fun x_129 I_129 J_129 h_129 => ?_)
            obtain ⟨rfl, rfl, h_129⟩ := h_129
            refine ww_if_eq hX (pc := 132) (tgt := 145) dX11_splits_132 (by decide) (fun h_132 => ?_) (fun h_132 => ?_)
            · simp only [w32_mod] at h_132
              refine ww_iload_n hX (pc := 145) dX11_splits_145 rfl ?_
              refine sI1 hX (pc := 146) sX11_148 (c_X11_isDigit l0 (by omega) (by omega)) (by decide) (Nat.le_refl 0) (Nat.le_refl 0) (Nat.le_of_ble_eq_true rfl) dX11_splits_146 (fun x_146 I_146 J_146 h_146 => ?_)
              obtain ⟨rfl, rfl, h_146⟩ := h_146
              refine ww_if_eq hX (pc := 149) (tgt := 157) dX11_splits_149 (by decide) (fun h_149 => ?_) (fun h_149 => ?_)
              · simp only [w32_mod] at h_149
                refine ww_bipush hX (pc := 157) (x := 100) dX11_splits_157 (by decide) ?_
                refine ww_iload_n hX (pc := 159) dX11_splits_159 rfl ?_
                refine ww_sipush hX (pc := 160) (x := 255) dX11_splits_160 (by decide) ?_
                refine ww_iand hX (pc := 163) dX11_splits_163 ?_
                have hia : 0 ≤ i_and v_18 255 ∧ i_and v_18 255 ≤ 255 := by rw [i_and_comm]; exact i_and_le (by decide) (by decide) _
                refine ww_iadd hX (pc := 164) dX11_splits_164 ?_
                refine ww_iast hX (pc := 165) (xs_57 hL) (by decide) (by omega) (by omega) dX11_splits_165 ?_
                refine ww_nmH (fun I_165 eI_165 => ?_)
                have kI_165 : Ch [57, 58, 59] [15] Ia I_165 := by rw [eI_165]; exact Ch_r kI_119 (by decide) (by decide)
                have cI_165 : RX I_165 := by rw [eI_165]; exact RX_r cI_119 (by decide)
                have qI_165 := RX_w cI_165
                have f15_I_165 : I_165 49 15 = I_119 49 15 := by rw [eI_165, up2_off _ _ _ (by decide)]
                have g57 : RG (I_165 57) (I7 49 15 + 1) := by rw [eI_165, up2_row, show I_119 49 15 = I7 49 15 by omega, show I_119 57 = I7 57 by rw [eI_119, up2_off _ _ _ (by decide), eI_109, up2_off _ _ _ (by decide)]]; exact RG_up hg57 (by omega) (by omega) (by omega)
                have g59b : RG (I_165 59) (I7 49 15 + 1) := by rw [eI_165, up2_off _ _ _ (by decide), eI_119, up2_off _ _ _ (by decide)]; exact g59
                refine ww_iload_n hX (pc := 166) dX11_splits_166 rfl ?_
                refine ww_istore hX (pc := 167) (lv' := [some (kR (some 49)), some (kI a), some (kI k), some (kI v_18), some (kI u9), some (kI k)]) dX11_splits_167 (by decide) rfl rfl ?_
                have hl_169 : ∀ (n_169 : Nat) (q : Int) (I169 : aI1) (J169 : aI1), (400 - q).toNat = n_169 → (Ch [57, 58, 59] [15] Ia I169 ∧ RX I169 ∧ Kp 49 73 Ja J169 ∧ I169 49 15 = I_165 49 15 ∧ (k ≤ q ∧ q ≤ 400) ∧ I169 57 = I_165 57 ∧ I169 59 = I_165 59) → WW X 169 [some (kR (some 49)), some (kI a), some (kI k), some (kI v_18), some (kI u9), some (kI q)] [] I169 J169 Ra Sa 0 0 := by
                  intro n_169
                  induction n_169 using Nat.strongRecOn with
                  | ind n_169 ih_169 =>
                    intro q I169 J169 hm_169 hv_169
                    have hq_169 := Sh0_i hm_169
                    clear hm_169
                    obtain ⟨kI169, cI169, kJ169, f15_I169, hq, hr57, hr59⟩ := hv_169
                    have qI169 := RX_w cI169
                    refine ww_iload hX (pc := 169) dX11_splits_169 rfl ?_
                    refine ww_iload hX (pc := 171) dX11_splits_171 rfl ?_
                    refine ww_icmp_ge hX (pc := 173) (tgt := 247) dX11_splits_173 (by decide) (fun h_173 => ?_) (fun h_173 => ?_)
                    · simp only [w32_mod] at h_173
                      refine ww_aload_n hX (pc := 247) dX11_splits_247 rfl ?_
                      refine ww_dupR hX (pc := 248) dX11_splits_248 ?_
                      refine ww_getI hX (pc := 249) fX11_142 (by decide) (xs_49 hL) dX11_splits_249 ?_
                      refine ww_iconst hX (pc := 252) (x := 1) dX11_splits_252 rfl ?_
                      refine ww_iadd hX (pc := 253) dX11_splits_253 ?_
                      refine ww_putI hX (pc := 254) (fun h9 => absurd h9 (by decide)) gX11_142 rfl (xs_49 hL) dX11_splits_254 ?_
                      refine ww_nmH (fun I_254 eI_254 => ?_)
                      have kI_254 : Ch [57, 58, 59] [15] Ia I_254 := by rw [eI_254]; exact Ch_f kI169 (by decide)
                      have cI_254 : RX I_254 := by rw [eI_254]; exact RX_f cI169 (by decide)
                      have qI_254 := RX_w cI_254
                      have w15 : I_254 49 15 = I7 49 15 + 1 := by
                        have h9 : I_254 49 15 = I169 49 15 + 1 := by rw [eI_254, up2_s]
                        omega
                      have g57c : RG (I_254 57) (I_254 49 15) := by rw [w15, eI_254, up2_off _ _ _ (by decide), hr57]; exact g57
                      have g59c : RG (I_254 59) (I_254 49 15) := by rw [w15, eI_254, up2_off _ _ _ (by decide), hr59]; exact g59b
                      refine ww_iload hX (pc := 257) dX11_splits_257 rfl ?_
                      refine ww_istore_n hX (pc := 259) (lv' := [some (kR (some 49)), some (kI a), some (kI u9), some (kI v_18), some (kI u9), some (kI q)]) dX11_splits_259 (by decide) rfl rfl ?_
                      refine ww_goto hX (pc := 260) (tgt := 7) dX11_splits_260 (by decide) ?_
                      refine ww_sub [some (kR (some 49)), some (kI a), some (kI u9), none, none, none] (aLe_s (aLe_s (aLe_s (aLe_n (aLe_n (aLe_n aLe_0)))))) ?_
                      exact ih_7 _ (by have hm9 := Sh0_e hq_7; omega) u9 I_254 J169 rfl ⟨kI_254, cI_254, kJ169, ⟨by omega, by omega⟩, ⟨by omega, by omega⟩, g57c, g59c⟩
                    · simp only [w32_mod] at h_173
                      refine ww_iload_n hX (pc := 176) dX11_splits_176 rfl ?_
                      refine sI1 hX (pc := 177) sX11_148 (c_X11_isDigit l0 (by omega) (by omega)) (by decide) (Nat.le_refl 0) (Nat.le_refl 0) (Nat.le_of_ble_eq_true rfl) dX11_splits_177 (fun x_177 I_177 J_177 h_177 => ?_)
                      obtain ⟨rfl, rfl, h_177⟩ := h_177
                      refine ww_if_eq hX (pc := 180) (tgt := 247) dX11_splits_180 (by decide) (fun h_180 => ?_) (fun h_180 => ?_)
                      · simp only [w32_mod] at h_180
                        refine ww_aload_n hX (pc := 247) dX11_splits_247 rfl ?_
                        refine ww_dupR hX (pc := 248) dX11_splits_248 ?_
                        refine ww_getI hX (pc := 249) fX11_142 (by decide) (xs_49 hL) dX11_splits_249 ?_
                        refine ww_iconst hX (pc := 252) (x := 1) dX11_splits_252 rfl ?_
                        refine ww_iadd hX (pc := 253) dX11_splits_253 ?_
                        refine ww_putI hX (pc := 254) (fun h9 => absurd h9 (by decide)) gX11_142 rfl (xs_49 hL) dX11_splits_254 ?_
                        refine ww_nmH (fun I_254 eI_254 => ?_)
                        have kI_254 : Ch [57, 58, 59] [15] Ia I_254 := by rw [eI_254]; exact Ch_f kI169 (by decide)
                        have cI_254 : RX I_254 := by rw [eI_254]; exact RX_f cI169 (by decide)
                        have qI_254 := RX_w cI_254
                        have w15 : I_254 49 15 = I7 49 15 + 1 := by
                          have h9 : I_254 49 15 = I169 49 15 + 1 := by rw [eI_254, up2_s]
                          omega
                        have g57c : RG (I_254 57) (I_254 49 15) := by rw [w15, eI_254, up2_off _ _ _ (by decide), hr57]; exact g57
                        have g59c : RG (I_254 59) (I_254 49 15) := by rw [w15, eI_254, up2_off _ _ _ (by decide), hr59]; exact g59b
                        refine ww_iload hX (pc := 257) dX11_splits_257 rfl ?_
                        refine ww_istore_n hX (pc := 259) (lv' := [some (kR (some 49)), some (kI a), some (kI u9), some (kI v_18), some (kI u9), some (kI q)]) dX11_splits_259 (by decide) rfl rfl ?_
                        refine ww_goto hX (pc := 260) (tgt := 7) dX11_splits_260 (by decide) ?_
                        refine ww_sub [some (kR (some 49)), some (kI a), some (kI u9), none, none, none] (aLe_s (aLe_s (aLe_s (aLe_n (aLe_n (aLe_n aLe_0)))))) ?_
                        exact ih_7 _ (by have hm9 := Sh0_e hq_7; omega) u9 I_254 J169 rfl ⟨kI_254, cI_254, kJ169, ⟨by omega, by omega⟩, ⟨by omega, by omega⟩, g57c, g59c⟩
                      · simp only [w32_mod] at h_180
                        have k_177 := h_177.2.mp (by omega)
                        clear h_177
                        refine ww_aload_n hX (pc := 183) dX11_splits_183 rfl ?_
                        refine ww_getR hX (pc := 184) fX11_46 (by decide) (xs_49 hL) (xr_49_13 hL) dX11_splits_184 ?_
                        refine ww_aload_n hX (pc := 187) dX11_splits_187 rfl ?_
                        refine ww_getI hX (pc := 188) fX11_142 (by decide) (xs_49 hL) dX11_splits_188 ?_
                        refine ww_aload_n hX (pc := 191) dX11_splits_191 rfl ?_
                        refine ww_getR hX (pc := 192) fX11_46 (by decide) (xs_49 hL) (xr_49_13 hL) dX11_splits_192 ?_
                        refine ww_aload_n hX (pc := 195) dX11_splits_195 rfl ?_
                        refine ww_getI hX (pc := 196) fX11_142 (by decide) (xs_49 hL) dX11_splits_196 ?_
                        refine ww_iald hX (pc := 199) (xs_58 hL) (by decide) (by omega) (by omega) dX11_splits_199 ?_
                        refine ww_ldc hX (pc := 200) (x := 1000000) dX11_splits_200 tb_1327 ?_
                        refine ww_icmp_le hX (pc := 202) (tgt := 217) dX11_splits_202 (by decide) (fun h_202 => ?_) (fun h_202 => ?_)
                        · simp only [w32_mod] at h_202
                          refine ww_bipush hX (pc := 217) (x := 10) dX11_splits_217 (by decide) ?_
                          refine ww_aload_n hX (pc := 219) dX11_splits_219 rfl ?_
                          refine ww_getR hX (pc := 220) fX11_46 (by decide) (xs_49 hL) (xr_49_13 hL) dX11_splits_220 ?_
                          refine ww_aload_n hX (pc := 223) dX11_splits_223 rfl ?_
                          refine ww_getI hX (pc := 224) fX11_142 (by decide) (xs_49 hL) dX11_splits_224 ?_
                          refine ww_iald hX (pc := 227) (xs_58 hL) (by decide) (by omega) (by omega) dX11_splits_227 ?_
                          refine ww_imul hX (pc := 228) dX11_splits_228 ?_
                          refine ww_aload_n hX (pc := 229) dX11_splits_229 rfl ?_
                          refine ww_getR hX (pc := 230) fX11_34 (by decide) (xs_49 hL) (xr_49_8 hL) dX11_splits_230 ?_
                          refine ww_iload hX (pc := 233) dX11_splits_233 rfl ?_
                          refine ww_bald hX (pc := 235) (xs_55 hL) (by decide) (by omega) (by omega) dX11_splits_235 ?_
                          refine ww_iadd hX (pc := 236) dX11_splits_236 ?_
                          refine ww_bipush hX (pc := 237) (x := 48) dX11_splits_237 (by decide) ?_
                          refine ww_isub hX (pc := 239) dX11_splits_239 ?_
                          refine ww_iast hX (pc := 240) (xs_58 hL) (by decide) (by omega) (by omega) dX11_splits_240 ?_
                          refine ww_nmH (fun I_240 eI_240 => ?_)
                          have kI_240 : Ch [57, 58, 59] [15] Ia I_240 := by rw [eI_240]; exact Ch_r kI169 (by decide) (by decide)
                          have cI_240 : RX I_240 := by rw [eI_240]; exact RX_r cI169 (by decide)
                          have qI_240 := RX_w cI_240
                          have f15_I_240 : I_240 49 15 = I169 49 15 := by rw [eI_240, up2_off _ _ _ (by decide)]
                          refine ww_iinc hX (pc := 241) (lv' := [some (kR (some 49)), some (kI a), some (kI k), some (kI v_18), some (kI u9), some (kI (q + 1))]) dX11_splits_241 rfl (by decide) rfl rfl ?_
                          refine ww_goto hX (pc := 244) (tgt := 169) dX11_splits_244 (by decide) ?_
                          exact ih_169 _ (by have hm9 := Sh0_e hq_169; omega) (q + 1) I_240 J169 rfl ⟨kI_240, cI_240, kJ169, by omega, ⟨by omega, by omega⟩, by rw [eI_240, up2_off _ _ _ (by decide)]; exact hr57, by rw [eI_240, up2_off _ _ _ (by decide)]; exact hr59⟩
                        · simp only [w32_mod] at h_202
                          refine ww_aload_n hX (pc := 205) dX11_splits_205 rfl ?_
                          refine ww_getR hX (pc := 206) fX11_46 (by decide) (xs_49 hL) (xr_49_13 hL) dX11_splits_206 ?_
                          refine ww_aload_n hX (pc := 209) dX11_splits_209 rfl ?_
                          refine ww_getI hX (pc := 210) fX11_142 (by decide) (xs_49 hL) dX11_splits_210 ?_
                          refine ww_iald hX (pc := 213) (xs_58 hL) (by decide) (by omega) (by omega) dX11_splits_213 ?_
                          refine ww_goto hX (pc := 214) (tgt := 240) dX11_splits_214 (by decide) ?_
                          refine ww_iast hX (pc := 240) (xs_58 hL) (by decide) (by omega) (by omega) dX11_splits_240 ?_
                          refine ww_nmH (fun I_240 eI_240 => ?_)
                          have kI_240 : Ch [57, 58, 59] [15] Ia I_240 := by rw [eI_240]; exact Ch_r kI169 (by decide) (by decide)
                          have cI_240 : RX I_240 := by rw [eI_240]; exact RX_r cI169 (by decide)
                          have qI_240 := RX_w cI_240
                          have f15_I_240 : I_240 49 15 = I169 49 15 := by rw [eI_240, up2_off _ _ _ (by decide)]
                          refine ww_iinc hX (pc := 241) (lv' := [some (kR (some 49)), some (kI a), some (kI k), some (kI v_18), some (kI u9), some (kI (q + 1))]) dX11_splits_241 rfl (by decide) rfl rfl ?_
                          refine ww_goto hX (pc := 244) (tgt := 169) dX11_splits_244 (by decide) ?_
                          exact ih_169 _ (by have hm9 := Sh0_e hq_169; omega) (q + 1) I_240 J169 rfl ⟨kI_240, cI_240, kJ169, by omega, ⟨by omega, by omega⟩, by rw [eI_240, up2_off _ _ _ (by decide)]; exact hr57, by rw [eI_240, up2_off _ _ _ (by decide)]; exact hr59⟩
                exact hl_169 _ k I_165 J7 rfl ⟨kI_165, cI_165, kJ7, rfl, ⟨by omega, by omega⟩, rfl, rfl⟩
              · simp only [w32_mod] at h_149
                have k_146 := h_146.2.mp (by omega)
                clear h_146
                refine ww_bipush hX (pc := 152) (x := 50) dX11_splits_152 (by decide) ?_
                refine ww_goto hX (pc := 154) (tgt := 165) dX11_splits_154 (by decide) ?_
                refine ww_iast hX (pc := 165) (xs_57 hL) (by decide) (by omega) (by omega) dX11_splits_165 ?_
                refine ww_nmH (fun I_165 eI_165 => ?_)
                have kI_165 : Ch [57, 58, 59] [15] Ia I_165 := by rw [eI_165]; exact Ch_r kI_119 (by decide) (by decide)
                have cI_165 : RX I_165 := by rw [eI_165]; exact RX_r cI_119 (by decide)
                have qI_165 := RX_w cI_165
                have f15_I_165 : I_165 49 15 = I_119 49 15 := by rw [eI_165, up2_off _ _ _ (by decide)]
                have g57 : RG (I_165 57) (I7 49 15 + 1) := by rw [eI_165, up2_row, show I_119 49 15 = I7 49 15 by omega, show I_119 57 = I7 57 by rw [eI_119, up2_off _ _ _ (by decide), eI_109, up2_off _ _ _ (by decide)]]; exact RG_up hg57 (by omega) (by omega) (by omega)
                have g59b : RG (I_165 59) (I7 49 15 + 1) := by rw [eI_165, up2_off _ _ _ (by decide), eI_119, up2_off _ _ _ (by decide)]; exact g59
                refine ww_iload_n hX (pc := 166) dX11_splits_166 rfl ?_
                refine ww_istore hX (pc := 167) (lv' := [some (kR (some 49)), some (kI a), some (kI k), some (kI v_18), some (kI u9), some (kI k)]) dX11_splits_167 (by decide) rfl rfl ?_
                have hl_169 : ∀ (n_169 : Nat) (q : Int) (I169 : aI1) (J169 : aI1), (400 - q).toNat = n_169 → (Ch [57, 58, 59] [15] Ia I169 ∧ RX I169 ∧ Kp 49 73 Ja J169 ∧ I169 49 15 = I_165 49 15 ∧ (k ≤ q ∧ q ≤ 400) ∧ I169 57 = I_165 57 ∧ I169 59 = I_165 59) → WW X 169 [some (kR (some 49)), some (kI a), some (kI k), some (kI v_18), some (kI u9), some (kI q)] [] I169 J169 Ra Sa 0 0 := by
                  intro n_169
                  induction n_169 using Nat.strongRecOn with
                  | ind n_169 ih_169 =>
                    intro q I169 J169 hm_169 hv_169
                    have hq_169 := Sh0_i hm_169
                    clear hm_169
                    obtain ⟨kI169, cI169, kJ169, f15_I169, hq, hr57, hr59⟩ := hv_169
                    have qI169 := RX_w cI169
                    refine ww_iload hX (pc := 169) dX11_splits_169 rfl ?_
                    refine ww_iload hX (pc := 171) dX11_splits_171 rfl ?_
                    refine ww_icmp_ge hX (pc := 173) (tgt := 247) dX11_splits_173 (by decide) (fun h_173 => ?_) (fun h_173 => ?_)
                    · simp only [w32_mod] at h_173
                      refine ww_aload_n hX (pc := 247) dX11_splits_247 rfl ?_
                      refine ww_dupR hX (pc := 248) dX11_splits_248 ?_
                      refine ww_getI hX (pc := 249) fX11_142 (by decide) (xs_49 hL) dX11_splits_249 ?_
                      refine ww_iconst hX (pc := 252) (x := 1) dX11_splits_252 rfl ?_
                      refine ww_iadd hX (pc := 253) dX11_splits_253 ?_
                      refine ww_putI hX (pc := 254) (fun h9 => absurd h9 (by decide)) gX11_142 rfl (xs_49 hL) dX11_splits_254 ?_
                      refine ww_nmH (fun I_254 eI_254 => ?_)
                      have kI_254 : Ch [57, 58, 59] [15] Ia I_254 := by rw [eI_254]; exact Ch_f kI169 (by decide)
                      have cI_254 : RX I_254 := by rw [eI_254]; exact RX_f cI169 (by decide)
                      have qI_254 := RX_w cI_254
                      have w15 : I_254 49 15 = I7 49 15 + 1 := by
                        have h9 : I_254 49 15 = I169 49 15 + 1 := by rw [eI_254, up2_s]
                        omega
                      have g57c : RG (I_254 57) (I_254 49 15) := by rw [w15, eI_254, up2_off _ _ _ (by decide), hr57]; exact g57
                      have g59c : RG (I_254 59) (I_254 49 15) := by rw [w15, eI_254, up2_off _ _ _ (by decide), hr59]; exact g59b
                      refine ww_iload hX (pc := 257) dX11_splits_257 rfl ?_
                      refine ww_istore_n hX (pc := 259) (lv' := [some (kR (some 49)), some (kI a), some (kI u9), some (kI v_18), some (kI u9), some (kI q)]) dX11_splits_259 (by decide) rfl rfl ?_
                      refine ww_goto hX (pc := 260) (tgt := 7) dX11_splits_260 (by decide) ?_
                      refine ww_sub [some (kR (some 49)), some (kI a), some (kI u9), none, none, none] (aLe_s (aLe_s (aLe_s (aLe_n (aLe_n (aLe_n aLe_0)))))) ?_
                      exact ih_7 _ (by have hm9 := Sh0_e hq_7; omega) u9 I_254 J169 rfl ⟨kI_254, cI_254, kJ169, ⟨by omega, by omega⟩, ⟨by omega, by omega⟩, g57c, g59c⟩
                    · simp only [w32_mod] at h_173
                      refine ww_iload_n hX (pc := 176) dX11_splits_176 rfl ?_
                      refine sI1 hX (pc := 177) sX11_148 (c_X11_isDigit l0 (by omega) (by omega)) (by decide) (Nat.le_refl 0) (Nat.le_refl 0) (Nat.le_of_ble_eq_true rfl) dX11_splits_177 (fun x_177 I_177 J_177 h_177 => ?_)
                      obtain ⟨rfl, rfl, h_177⟩ := h_177
                      refine ww_if_eq hX (pc := 180) (tgt := 247) dX11_splits_180 (by decide) (fun h_180 => ?_) (fun h_180 => ?_)
                      · simp only [w32_mod] at h_180
                        refine ww_aload_n hX (pc := 247) dX11_splits_247 rfl ?_
                        refine ww_dupR hX (pc := 248) dX11_splits_248 ?_
                        refine ww_getI hX (pc := 249) fX11_142 (by decide) (xs_49 hL) dX11_splits_249 ?_
                        refine ww_iconst hX (pc := 252) (x := 1) dX11_splits_252 rfl ?_
                        refine ww_iadd hX (pc := 253) dX11_splits_253 ?_
                        refine ww_putI hX (pc := 254) (fun h9 => absurd h9 (by decide)) gX11_142 rfl (xs_49 hL) dX11_splits_254 ?_
                        refine ww_nmH (fun I_254 eI_254 => ?_)
                        have kI_254 : Ch [57, 58, 59] [15] Ia I_254 := by rw [eI_254]; exact Ch_f kI169 (by decide)
                        have cI_254 : RX I_254 := by rw [eI_254]; exact RX_f cI169 (by decide)
                        have qI_254 := RX_w cI_254
                        have w15 : I_254 49 15 = I7 49 15 + 1 := by
                          have h9 : I_254 49 15 = I169 49 15 + 1 := by rw [eI_254, up2_s]
                          omega
                        have g57c : RG (I_254 57) (I_254 49 15) := by rw [w15, eI_254, up2_off _ _ _ (by decide), hr57]; exact g57
                        have g59c : RG (I_254 59) (I_254 49 15) := by rw [w15, eI_254, up2_off _ _ _ (by decide), hr59]; exact g59b
                        refine ww_iload hX (pc := 257) dX11_splits_257 rfl ?_
                        refine ww_istore_n hX (pc := 259) (lv' := [some (kR (some 49)), some (kI a), some (kI u9), some (kI v_18), some (kI u9), some (kI q)]) dX11_splits_259 (by decide) rfl rfl ?_
                        refine ww_goto hX (pc := 260) (tgt := 7) dX11_splits_260 (by decide) ?_
                        refine ww_sub [some (kR (some 49)), some (kI a), some (kI u9), none, none, none] (aLe_s (aLe_s (aLe_s (aLe_n (aLe_n (aLe_n aLe_0)))))) ?_
                        exact ih_7 _ (by have hm9 := Sh0_e hq_7; omega) u9 I_254 J169 rfl ⟨kI_254, cI_254, kJ169, ⟨by omega, by omega⟩, ⟨by omega, by omega⟩, g57c, g59c⟩
                      · simp only [w32_mod] at h_180
                        have k_177 := h_177.2.mp (by omega)
                        clear h_177
                        refine ww_aload_n hX (pc := 183) dX11_splits_183 rfl ?_
                        refine ww_getR hX (pc := 184) fX11_46 (by decide) (xs_49 hL) (xr_49_13 hL) dX11_splits_184 ?_
                        refine ww_aload_n hX (pc := 187) dX11_splits_187 rfl ?_
                        refine ww_getI hX (pc := 188) fX11_142 (by decide) (xs_49 hL) dX11_splits_188 ?_
                        refine ww_aload_n hX (pc := 191) dX11_splits_191 rfl ?_
                        refine ww_getR hX (pc := 192) fX11_46 (by decide) (xs_49 hL) (xr_49_13 hL) dX11_splits_192 ?_
                        refine ww_aload_n hX (pc := 195) dX11_splits_195 rfl ?_
                        refine ww_getI hX (pc := 196) fX11_142 (by decide) (xs_49 hL) dX11_splits_196 ?_
                        refine ww_iald hX (pc := 199) (xs_58 hL) (by decide) (by omega) (by omega) dX11_splits_199 ?_
                        refine ww_ldc hX (pc := 200) (x := 1000000) dX11_splits_200 tb_1327 ?_
                        refine ww_icmp_le hX (pc := 202) (tgt := 217) dX11_splits_202 (by decide) (fun h_202 => ?_) (fun h_202 => ?_)
                        · simp only [w32_mod] at h_202
                          refine ww_bipush hX (pc := 217) (x := 10) dX11_splits_217 (by decide) ?_
                          refine ww_aload_n hX (pc := 219) dX11_splits_219 rfl ?_
                          refine ww_getR hX (pc := 220) fX11_46 (by decide) (xs_49 hL) (xr_49_13 hL) dX11_splits_220 ?_
                          refine ww_aload_n hX (pc := 223) dX11_splits_223 rfl ?_
                          refine ww_getI hX (pc := 224) fX11_142 (by decide) (xs_49 hL) dX11_splits_224 ?_
                          refine ww_iald hX (pc := 227) (xs_58 hL) (by decide) (by omega) (by omega) dX11_splits_227 ?_
                          refine ww_imul hX (pc := 228) dX11_splits_228 ?_
                          refine ww_aload_n hX (pc := 229) dX11_splits_229 rfl ?_
                          refine ww_getR hX (pc := 230) fX11_34 (by decide) (xs_49 hL) (xr_49_8 hL) dX11_splits_230 ?_
                          refine ww_iload hX (pc := 233) dX11_splits_233 rfl ?_
                          refine ww_bald hX (pc := 235) (xs_55 hL) (by decide) (by omega) (by omega) dX11_splits_235 ?_
                          refine ww_iadd hX (pc := 236) dX11_splits_236 ?_
                          refine ww_bipush hX (pc := 237) (x := 48) dX11_splits_237 (by decide) ?_
                          refine ww_isub hX (pc := 239) dX11_splits_239 ?_
                          refine ww_iast hX (pc := 240) (xs_58 hL) (by decide) (by omega) (by omega) dX11_splits_240 ?_
                          refine ww_nmH (fun I_240 eI_240 => ?_)
                          have kI_240 : Ch [57, 58, 59] [15] Ia I_240 := by rw [eI_240]; exact Ch_r kI169 (by decide) (by decide)
                          have cI_240 : RX I_240 := by rw [eI_240]; exact RX_r cI169 (by decide)
                          have qI_240 := RX_w cI_240
                          have f15_I_240 : I_240 49 15 = I169 49 15 := by rw [eI_240, up2_off _ _ _ (by decide)]
                          refine ww_iinc hX (pc := 241) (lv' := [some (kR (some 49)), some (kI a), some (kI k), some (kI v_18), some (kI u9), some (kI (q + 1))]) dX11_splits_241 rfl (by decide) rfl rfl ?_
                          refine ww_goto hX (pc := 244) (tgt := 169) dX11_splits_244 (by decide) ?_
                          exact ih_169 _ (by have hm9 := Sh0_e hq_169; omega) (q + 1) I_240 J169 rfl ⟨kI_240, cI_240, kJ169, by omega, ⟨by omega, by omega⟩, by rw [eI_240, up2_off _ _ _ (by decide)]; exact hr57, by rw [eI_240, up2_off _ _ _ (by decide)]; exact hr59⟩
                        · simp only [w32_mod] at h_202
                          refine ww_aload_n hX (pc := 205) dX11_splits_205 rfl ?_
                          refine ww_getR hX (pc := 206) fX11_46 (by decide) (xs_49 hL) (xr_49_13 hL) dX11_splits_206 ?_
                          refine ww_aload_n hX (pc := 209) dX11_splits_209 rfl ?_
                          refine ww_getI hX (pc := 210) fX11_142 (by decide) (xs_49 hL) dX11_splits_210 ?_
                          refine ww_iald hX (pc := 213) (xs_58 hL) (by decide) (by omega) (by omega) dX11_splits_213 ?_
                          refine ww_goto hX (pc := 214) (tgt := 240) dX11_splits_214 (by decide) ?_
                          refine ww_iast hX (pc := 240) (xs_58 hL) (by decide) (by omega) (by omega) dX11_splits_240 ?_
                          refine ww_nmH (fun I_240 eI_240 => ?_)
                          have kI_240 : Ch [57, 58, 59] [15] Ia I_240 := by rw [eI_240]; exact Ch_r kI169 (by decide) (by decide)
                          have cI_240 : RX I_240 := by rw [eI_240]; exact RX_r cI169 (by decide)
                          have qI_240 := RX_w cI_240
                          have f15_I_240 : I_240 49 15 = I169 49 15 := by rw [eI_240, up2_off _ _ _ (by decide)]
                          refine ww_iinc hX (pc := 241) (lv' := [some (kR (some 49)), some (kI a), some (kI k), some (kI v_18), some (kI u9), some (kI (q + 1))]) dX11_splits_241 rfl (by decide) rfl rfl ?_
                          refine ww_goto hX (pc := 244) (tgt := 169) dX11_splits_244 (by decide) ?_
                          exact ih_169 _ (by have hm9 := Sh0_e hq_169; omega) (q + 1) I_240 J169 rfl ⟨kI_240, cI_240, kJ169, by omega, ⟨by omega, by omega⟩, by rw [eI_240, up2_off _ _ _ (by decide)]; exact hr57, by rw [eI_240, up2_off _ _ _ (by decide)]; exact hr59⟩
                exact hl_169 _ k I_165 J7 rfl ⟨kI_165, cI_165, kJ7, rfl, ⟨by omega, by omega⟩, rfl, rfl⟩
            · simp only [w32_mod] at h_132
              have k_129 := h_129.2.mp (by omega)
              clear h_129
              refine ww_aload_n hX (pc := 135) dX11_splits_135 rfl ?_
              refine ww_iload_n hX (pc := 136) dX11_splits_136 rfl ?_
              refine ww_iload hX (pc := 137) dX11_splits_137 rfl ?_
              refine vI2 hX (pc := 139) sX11_151 (xs_49 hL) (c_X11_wordOf l0 hL cI_119 (by omega) (by omega) (by omega)) (by decide) (Nat.le_refl 0) (Nat.le_refl 0) (Nat.le_of_ble_eq_true rfl) dX11_splits_139 (fun x_139 I_139 J_139 h_139 => ?_)
              obtain ⟨rfl, rfl, h_139⟩ := h_139
              refine ww_goto hX (pc := 142) (tgt := 165) dX11_splits_142 (by decide) ?_
              refine ww_iast hX (pc := 165) (xs_57 hL) (by decide) (by omega) (by omega) dX11_splits_165 ?_
              refine ww_nmH (fun I_165 eI_165 => ?_)
              have kI_165 : Ch [57, 58, 59] [15] Ia I_165 := by rw [eI_165]; exact Ch_r kI_119 (by decide) (by decide)
              have cI_165 : RX I_165 := by rw [eI_165]; exact RX_r cI_119 (by decide)
              have qI_165 := RX_w cI_165
              have f15_I_165 : I_165 49 15 = I_119 49 15 := by rw [eI_165, up2_off _ _ _ (by decide)]
              have g57 : RG (I_165 57) (I7 49 15 + 1) := by rw [eI_165, up2_row, show I_119 49 15 = I7 49 15 by omega, show I_119 57 = I7 57 by rw [eI_119, up2_off _ _ _ (by decide), eI_109, up2_off _ _ _ (by decide)]]; exact RG_up hg57 (by omega) (by omega) (by omega)
              have g59b : RG (I_165 59) (I7 49 15 + 1) := by rw [eI_165, up2_off _ _ _ (by decide), eI_119, up2_off _ _ _ (by decide)]; exact g59
              refine ww_iload_n hX (pc := 166) dX11_splits_166 rfl ?_
              refine ww_istore hX (pc := 167) (lv' := [some (kR (some 49)), some (kI a), some (kI k), some (kI v_18), some (kI u9), some (kI k)]) dX11_splits_167 (by decide) rfl rfl ?_
              have hl_169 : ∀ (n_169 : Nat) (q : Int) (I169 : aI1) (J169 : aI1), (400 - q).toNat = n_169 → (Ch [57, 58, 59] [15] Ia I169 ∧ RX I169 ∧ Kp 49 73 Ja J169 ∧ I169 49 15 = I_165 49 15 ∧ (k ≤ q ∧ q ≤ 400) ∧ I169 57 = I_165 57 ∧ I169 59 = I_165 59) → WW X 169 [some (kR (some 49)), some (kI a), some (kI k), some (kI v_18), some (kI u9), some (kI q)] [] I169 J169 Ra Sa 0 0 := by
                intro n_169
                induction n_169 using Nat.strongRecOn with
                | ind n_169 ih_169 =>
                  intro q I169 J169 hm_169 hv_169
                  have hq_169 := Sh0_i hm_169
                  clear hm_169
                  obtain ⟨kI169, cI169, kJ169, f15_I169, hq, hr57, hr59⟩ := hv_169
                  have qI169 := RX_w cI169
                  refine ww_iload hX (pc := 169) dX11_splits_169 rfl ?_
                  refine ww_iload hX (pc := 171) dX11_splits_171 rfl ?_
                  refine ww_icmp_ge hX (pc := 173) (tgt := 247) dX11_splits_173 (by decide) (fun h_173 => ?_) (fun h_173 => ?_)
                  · simp only [w32_mod] at h_173
                    refine ww_aload_n hX (pc := 247) dX11_splits_247 rfl ?_
                    refine ww_dupR hX (pc := 248) dX11_splits_248 ?_
                    refine ww_getI hX (pc := 249) fX11_142 (by decide) (xs_49 hL) dX11_splits_249 ?_
                    refine ww_iconst hX (pc := 252) (x := 1) dX11_splits_252 rfl ?_
                    refine ww_iadd hX (pc := 253) dX11_splits_253 ?_
                    refine ww_putI hX (pc := 254) (fun h9 => absurd h9 (by decide)) gX11_142 rfl (xs_49 hL) dX11_splits_254 ?_
                    refine ww_nmH (fun I_254 eI_254 => ?_)
                    have kI_254 : Ch [57, 58, 59] [15] Ia I_254 := by rw [eI_254]; exact Ch_f kI169 (by decide)
                    have cI_254 : RX I_254 := by rw [eI_254]; exact RX_f cI169 (by decide)
                    have qI_254 := RX_w cI_254
                    have w15 : I_254 49 15 = I7 49 15 + 1 := by
                      have h9 : I_254 49 15 = I169 49 15 + 1 := by rw [eI_254, up2_s]
                      omega
                    have g57c : RG (I_254 57) (I_254 49 15) := by rw [w15, eI_254, up2_off _ _ _ (by decide), hr57]; exact g57
                    have g59c : RG (I_254 59) (I_254 49 15) := by rw [w15, eI_254, up2_off _ _ _ (by decide), hr59]; exact g59b
                    refine ww_iload hX (pc := 257) dX11_splits_257 rfl ?_
                    refine ww_istore_n hX (pc := 259) (lv' := [some (kR (some 49)), some (kI a), some (kI u9), some (kI v_18), some (kI u9), some (kI q)]) dX11_splits_259 (by decide) rfl rfl ?_
                    refine ww_goto hX (pc := 260) (tgt := 7) dX11_splits_260 (by decide) ?_
                    refine ww_sub [some (kR (some 49)), some (kI a), some (kI u9), none, none, none] (aLe_s (aLe_s (aLe_s (aLe_n (aLe_n (aLe_n aLe_0)))))) ?_
                    exact ih_7 _ (by have hm9 := Sh0_e hq_7; omega) u9 I_254 J169 rfl ⟨kI_254, cI_254, kJ169, ⟨by omega, by omega⟩, ⟨by omega, by omega⟩, g57c, g59c⟩
                  · simp only [w32_mod] at h_173
                    refine ww_iload_n hX (pc := 176) dX11_splits_176 rfl ?_
                    refine sI1 hX (pc := 177) sX11_148 (c_X11_isDigit l0 (by omega) (by omega)) (by decide) (Nat.le_refl 0) (Nat.le_refl 0) (Nat.le_of_ble_eq_true rfl) dX11_splits_177 (fun x_177 I_177 J_177 h_177 => ?_)
                    obtain ⟨rfl, rfl, h_177⟩ := h_177
                    refine ww_if_eq hX (pc := 180) (tgt := 247) dX11_splits_180 (by decide) (fun h_180 => ?_) (fun h_180 => ?_)
                    · simp only [w32_mod] at h_180
                      refine ww_aload_n hX (pc := 247) dX11_splits_247 rfl ?_
                      refine ww_dupR hX (pc := 248) dX11_splits_248 ?_
                      refine ww_getI hX (pc := 249) fX11_142 (by decide) (xs_49 hL) dX11_splits_249 ?_
                      refine ww_iconst hX (pc := 252) (x := 1) dX11_splits_252 rfl ?_
                      refine ww_iadd hX (pc := 253) dX11_splits_253 ?_
                      refine ww_putI hX (pc := 254) (fun h9 => absurd h9 (by decide)) gX11_142 rfl (xs_49 hL) dX11_splits_254 ?_
                      refine ww_nmH (fun I_254 eI_254 => ?_)
                      have kI_254 : Ch [57, 58, 59] [15] Ia I_254 := by rw [eI_254]; exact Ch_f kI169 (by decide)
                      have cI_254 : RX I_254 := by rw [eI_254]; exact RX_f cI169 (by decide)
                      have qI_254 := RX_w cI_254
                      have w15 : I_254 49 15 = I7 49 15 + 1 := by
                        have h9 : I_254 49 15 = I169 49 15 + 1 := by rw [eI_254, up2_s]
                        omega
                      have g57c : RG (I_254 57) (I_254 49 15) := by rw [w15, eI_254, up2_off _ _ _ (by decide), hr57]; exact g57
                      have g59c : RG (I_254 59) (I_254 49 15) := by rw [w15, eI_254, up2_off _ _ _ (by decide), hr59]; exact g59b
                      refine ww_iload hX (pc := 257) dX11_splits_257 rfl ?_
                      refine ww_istore_n hX (pc := 259) (lv' := [some (kR (some 49)), some (kI a), some (kI u9), some (kI v_18), some (kI u9), some (kI q)]) dX11_splits_259 (by decide) rfl rfl ?_
                      refine ww_goto hX (pc := 260) (tgt := 7) dX11_splits_260 (by decide) ?_
                      refine ww_sub [some (kR (some 49)), some (kI a), some (kI u9), none, none, none] (aLe_s (aLe_s (aLe_s (aLe_n (aLe_n (aLe_n aLe_0)))))) ?_
                      exact ih_7 _ (by have hm9 := Sh0_e hq_7; omega) u9 I_254 J169 rfl ⟨kI_254, cI_254, kJ169, ⟨by omega, by omega⟩, ⟨by omega, by omega⟩, g57c, g59c⟩
                    · simp only [w32_mod] at h_180
                      have k_177 := h_177.2.mp (by omega)
                      clear h_177
                      refine ww_aload_n hX (pc := 183) dX11_splits_183 rfl ?_
                      refine ww_getR hX (pc := 184) fX11_46 (by decide) (xs_49 hL) (xr_49_13 hL) dX11_splits_184 ?_
                      refine ww_aload_n hX (pc := 187) dX11_splits_187 rfl ?_
                      refine ww_getI hX (pc := 188) fX11_142 (by decide) (xs_49 hL) dX11_splits_188 ?_
                      refine ww_aload_n hX (pc := 191) dX11_splits_191 rfl ?_
                      refine ww_getR hX (pc := 192) fX11_46 (by decide) (xs_49 hL) (xr_49_13 hL) dX11_splits_192 ?_
                      refine ww_aload_n hX (pc := 195) dX11_splits_195 rfl ?_
                      refine ww_getI hX (pc := 196) fX11_142 (by decide) (xs_49 hL) dX11_splits_196 ?_
                      refine ww_iald hX (pc := 199) (xs_58 hL) (by decide) (by omega) (by omega) dX11_splits_199 ?_
                      refine ww_ldc hX (pc := 200) (x := 1000000) dX11_splits_200 tb_1327 ?_
                      refine ww_icmp_le hX (pc := 202) (tgt := 217) dX11_splits_202 (by decide) (fun h_202 => ?_) (fun h_202 => ?_)
                      · simp only [w32_mod] at h_202
                        refine ww_bipush hX (pc := 217) (x := 10) dX11_splits_217 (by decide) ?_
                        refine ww_aload_n hX (pc := 219) dX11_splits_219 rfl ?_
                        refine ww_getR hX (pc := 220) fX11_46 (by decide) (xs_49 hL) (xr_49_13 hL) dX11_splits_220 ?_
                        refine ww_aload_n hX (pc := 223) dX11_splits_223 rfl ?_
                        refine ww_getI hX (pc := 224) fX11_142 (by decide) (xs_49 hL) dX11_splits_224 ?_
                        refine ww_iald hX (pc := 227) (xs_58 hL) (by decide) (by omega) (by omega) dX11_splits_227 ?_
                        refine ww_imul hX (pc := 228) dX11_splits_228 ?_
                        refine ww_aload_n hX (pc := 229) dX11_splits_229 rfl ?_
                        refine ww_getR hX (pc := 230) fX11_34 (by decide) (xs_49 hL) (xr_49_8 hL) dX11_splits_230 ?_
                        refine ww_iload hX (pc := 233) dX11_splits_233 rfl ?_
                        refine ww_bald hX (pc := 235) (xs_55 hL) (by decide) (by omega) (by omega) dX11_splits_235 ?_
                        refine ww_iadd hX (pc := 236) dX11_splits_236 ?_
                        refine ww_bipush hX (pc := 237) (x := 48) dX11_splits_237 (by decide) ?_
                        refine ww_isub hX (pc := 239) dX11_splits_239 ?_
                        refine ww_iast hX (pc := 240) (xs_58 hL) (by decide) (by omega) (by omega) dX11_splits_240 ?_
                        refine ww_nmH (fun I_240 eI_240 => ?_)
                        have kI_240 : Ch [57, 58, 59] [15] Ia I_240 := by rw [eI_240]; exact Ch_r kI169 (by decide) (by decide)
                        have cI_240 : RX I_240 := by rw [eI_240]; exact RX_r cI169 (by decide)
                        have qI_240 := RX_w cI_240
                        have f15_I_240 : I_240 49 15 = I169 49 15 := by rw [eI_240, up2_off _ _ _ (by decide)]
                        refine ww_iinc hX (pc := 241) (lv' := [some (kR (some 49)), some (kI a), some (kI k), some (kI v_18), some (kI u9), some (kI (q + 1))]) dX11_splits_241 rfl (by decide) rfl rfl ?_
                        refine ww_goto hX (pc := 244) (tgt := 169) dX11_splits_244 (by decide) ?_
                        exact ih_169 _ (by have hm9 := Sh0_e hq_169; omega) (q + 1) I_240 J169 rfl ⟨kI_240, cI_240, kJ169, by omega, ⟨by omega, by omega⟩, by rw [eI_240, up2_off _ _ _ (by decide)]; exact hr57, by rw [eI_240, up2_off _ _ _ (by decide)]; exact hr59⟩
                      · simp only [w32_mod] at h_202
                        refine ww_aload_n hX (pc := 205) dX11_splits_205 rfl ?_
                        refine ww_getR hX (pc := 206) fX11_46 (by decide) (xs_49 hL) (xr_49_13 hL) dX11_splits_206 ?_
                        refine ww_aload_n hX (pc := 209) dX11_splits_209 rfl ?_
                        refine ww_getI hX (pc := 210) fX11_142 (by decide) (xs_49 hL) dX11_splits_210 ?_
                        refine ww_iald hX (pc := 213) (xs_58 hL) (by decide) (by omega) (by omega) dX11_splits_213 ?_
                        refine ww_goto hX (pc := 214) (tgt := 240) dX11_splits_214 (by decide) ?_
                        refine ww_iast hX (pc := 240) (xs_58 hL) (by decide) (by omega) (by omega) dX11_splits_240 ?_
                        refine ww_nmH (fun I_240 eI_240 => ?_)
                        have kI_240 : Ch [57, 58, 59] [15] Ia I_240 := by rw [eI_240]; exact Ch_r kI169 (by decide) (by decide)
                        have cI_240 : RX I_240 := by rw [eI_240]; exact RX_r cI169 (by decide)
                        have qI_240 := RX_w cI_240
                        have f15_I_240 : I_240 49 15 = I169 49 15 := by rw [eI_240, up2_off _ _ _ (by decide)]
                        refine ww_iinc hX (pc := 241) (lv' := [some (kR (some 49)), some (kI a), some (kI k), some (kI v_18), some (kI u9), some (kI (q + 1))]) dX11_splits_241 rfl (by decide) rfl rfl ?_
                        refine ww_goto hX (pc := 244) (tgt := 169) dX11_splits_244 (by decide) ?_
                        exact ih_169 _ (by have hm9 := Sh0_e hq_169; omega) (q + 1) I_240 J169 rfl ⟨kI_240, cI_240, kJ169, by omega, ⟨by omega, by omega⟩, by rw [eI_240, up2_off _ _ _ (by decide)]; exact hr57, by rw [eI_240, up2_off _ _ _ (by decide)]; exact hr59⟩
              exact hl_169 _ k I_165 J7 rfl ⟨kI_165, cI_165, kJ7, rfl, ⟨by omega, by omega⟩, rfl, rfl⟩
          refine ww_iload_n hX (pc := 36) dX11_splits_36 rfl ?_
          refine sI1 hX (pc := 37) sX11_145 (c_X11_isSmall l0 (by omega) (by omega)) (by decide) (Nat.le_refl 0) (Nat.le_refl 0) (Nat.le_of_ble_eq_true rfl) dX11_splits_37 (fun x_37 I_37 J_37 h_37 => ?_)
          obtain ⟨rfl, rfl, h_37⟩ := h_37
          refine ww_if_eq hX (pc := 40) (tgt := 68) dX11_splits_40 (by decide) (fun h_40 => ?_) (fun h_40 => ?_)
          · simp only [w32_mod] at h_40
            refine ww_iload_n hX (pc := 68) dX11_splits_68 rfl ?_
            refine sI1 hX (pc := 69) sX11_148 (c_X11_isDigit l0 (by omega) (by omega)) (by decide) (Nat.le_refl 0) (Nat.le_refl 0) (Nat.le_of_ble_eq_true rfl) dX11_splits_69 (fun x_69 I_69 J_69 h_69 => ?_)
            obtain ⟨rfl, rfl, h_69⟩ := h_69
            refine ww_if_eq hX (pc := 72) (tgt := 100) dX11_splits_72 (by decide) (fun h_72 => ?_) (fun h_72 => ?_)
            · simp only [w32_mod] at h_72
              exact hj_100 v_34 ⟨by omega, by omega⟩
            · simp only [w32_mod] at h_72
              have k_69 := h_69.2.mp (by omega)
              clear h_69
              have hl_75 : ∀ (n_75 : Nat) (u : Int), (a - u).toNat = n_75 → ((k + 1 ≤ u ∧ u ≤ a)) → WW X 75 [some (kR (some 49)), some (kI a), some (kI k), some (kI v_18), some (kI u), none] [] I7 J7 Ra Sa 0 0 := by
                intro n_75
                induction n_75 using Nat.strongRecOn with
                | ind n_75 ih_75 =>
                  intro u hm_75 hv_75
                  have hq_75 := Sh0_i hm_75
                  clear hm_75
                  have hu := hv_75
                  refine ww_iload hX (pc := 75) dX11_splits_75 rfl ?_
                  refine ww_iload_n hX (pc := 77) dX11_splits_77 rfl ?_
                  refine ww_icmp_ge hX (pc := 78) (tgt := 100) dX11_splits_78 (by decide) (fun h_78 => ?_) (fun h_78 => ?_)
                  · simp only [w32_mod] at h_78
                    exact hj_100 u ⟨by omega, by omega⟩
                  · simp only [w32_mod] at h_78
                    refine ww_aload_n hX (pc := 81) dX11_splits_81 rfl ?_
                    refine ww_getR hX (pc := 82) fX11_34 (by decide) (xs_49 hL) (xr_49_8 hL) dX11_splits_82 ?_
                    refine ww_iload hX (pc := 85) dX11_splits_85 rfl ?_
                    refine ww_bald hX (pc := 87) (xs_55 hL) (by decide) (by omega) (by omega) dX11_splits_87 ?_
                    refine ww_wI ?_
                    have hwr88 := w32_r (I7 55 u.toNat)
                    refine sI1 hX (pc := 88) sX11_148 (c_X11_isDigit l0 (by omega) (by omega)) (by decide) (Nat.le_refl 0) (Nat.le_refl 0) (Nat.le_of_ble_eq_true rfl) dX11_splits_88 (fun x_88 I_88 J_88 h_88 => ?_)
                    obtain ⟨rfl, rfl, h_88⟩ := h_88
                    refine ww_if_eq hX (pc := 91) (tgt := 100) dX11_splits_91 (by decide) (fun h_91 => ?_) (fun h_91 => ?_)
                    · simp only [w32_mod] at h_91
                      exact hj_100 u ⟨by omega, by omega⟩
                    · simp only [w32_mod] at h_91
                      have k_88 := h_88.2.mp (by omega)
                      clear h_88
                      refine ww_iinc hX (pc := 94) (lv' := [some (kR (some 49)), some (kI a), some (kI k), some (kI v_18), some (kI (u + 1)), none]) dX11_splits_94 rfl (by decide) rfl rfl ?_
                      refine ww_goto hX (pc := 97) (tgt := 75) dX11_splits_97 (by decide) ?_
                      exact ih_75 _ (by have hm9 := Sh0_e hq_75; omega) (u + 1) rfl (by omega)
              exact hl_75 _ v_34 rfl (by omega)
          · simp only [w32_mod] at h_40
            have k_37 := h_37.2.mp (by omega)
            clear h_37
            have hl_43 : ∀ (n_43 : Nat) (u : Int), (a - u).toNat = n_43 → ((k + 1 ≤ u ∧ u ≤ a)) → WW X 43 [some (kR (some 49)), some (kI a), some (kI k), some (kI v_18), some (kI u), none] [] I7 J7 Ra Sa 0 0 := by
              intro n_43
              induction n_43 using Nat.strongRecOn with
              | ind n_43 ih_43 =>
                intro u hm_43 hv_43
                have hq_43 := Sh0_i hm_43
                clear hm_43
                have hu := hv_43
                refine ww_iload hX (pc := 43) dX11_splits_43 rfl ?_
                refine ww_iload_n hX (pc := 45) dX11_splits_45 rfl ?_
                refine ww_icmp_ge hX (pc := 46) (tgt := 68) dX11_splits_46 (by decide) (fun h_46 => ?_) (fun h_46 => ?_)
                · simp only [w32_mod] at h_46
                  refine ww_iload_n hX (pc := 68) dX11_splits_68 rfl ?_
                  refine sI1 hX (pc := 69) sX11_148 (c_X11_isDigit l0 (by omega) (by omega)) (by decide) (Nat.le_refl 0) (Nat.le_refl 0) (Nat.le_of_ble_eq_true rfl) dX11_splits_69 (fun x_69 I_69 J_69 h_69 => ?_)
                  obtain ⟨rfl, rfl, h_69⟩ := h_69
                  refine ww_if_eq hX (pc := 72) (tgt := 100) dX11_splits_72 (by decide) (fun h_72 => ?_) (fun h_72 => ?_)
                  · simp only [w32_mod] at h_72
                    exact hj_100 u ⟨by omega, by omega⟩
                  · simp only [w32_mod] at h_72
                    have k_69 := h_69.2.mp (by omega)
                    clear h_69
                    have hl_75 : ∀ (n_75 : Nat) (u : Int), (a - u).toNat = n_75 → ((k + 1 ≤ u ∧ u ≤ a)) → WW X 75 [some (kR (some 49)), some (kI a), some (kI k), some (kI v_18), some (kI u), none] [] I7 J7 Ra Sa 0 0 := by
                      intro n_75
                      induction n_75 using Nat.strongRecOn with
                      | ind n_75 ih_75 =>
                        intro u hm_75 hv_75
                        have hq_75 := Sh0_i hm_75
                        clear hm_75
                        have hu := hv_75
                        refine ww_iload hX (pc := 75) dX11_splits_75 rfl ?_
                        refine ww_iload_n hX (pc := 77) dX11_splits_77 rfl ?_
                        refine ww_icmp_ge hX (pc := 78) (tgt := 100) dX11_splits_78 (by decide) (fun h_78 => ?_) (fun h_78 => ?_)
                        · simp only [w32_mod] at h_78
                          exact hj_100 u ⟨by omega, by omega⟩
                        · simp only [w32_mod] at h_78
                          refine ww_aload_n hX (pc := 81) dX11_splits_81 rfl ?_
                          refine ww_getR hX (pc := 82) fX11_34 (by decide) (xs_49 hL) (xr_49_8 hL) dX11_splits_82 ?_
                          refine ww_iload hX (pc := 85) dX11_splits_85 rfl ?_
                          refine ww_bald hX (pc := 87) (xs_55 hL) (by decide) (by omega) (by omega) dX11_splits_87 ?_
                          refine ww_wI ?_
                          have hwr88 := w32_r (I7 55 u.toNat)
                          refine sI1 hX (pc := 88) sX11_148 (c_X11_isDigit l0 (by omega) (by omega)) (by decide) (Nat.le_refl 0) (Nat.le_refl 0) (Nat.le_of_ble_eq_true rfl) dX11_splits_88 (fun x_88 I_88 J_88 h_88 => ?_)
                          obtain ⟨rfl, rfl, h_88⟩ := h_88
                          refine ww_if_eq hX (pc := 91) (tgt := 100) dX11_splits_91 (by decide) (fun h_91 => ?_) (fun h_91 => ?_)
                          · simp only [w32_mod] at h_91
                            exact hj_100 u ⟨by omega, by omega⟩
                          · simp only [w32_mod] at h_91
                            have k_88 := h_88.2.mp (by omega)
                            clear h_88
                            refine ww_iinc hX (pc := 94) (lv' := [some (kR (some 49)), some (kI a), some (kI k), some (kI v_18), some (kI (u + 1)), none]) dX11_splits_94 rfl (by decide) rfl rfl ?_
                            refine ww_goto hX (pc := 97) (tgt := 75) dX11_splits_97 (by decide) ?_
                            exact ih_75 _ (by have hm9 := Sh0_e hq_75; omega) (u + 1) rfl (by omega)
                    exact hl_75 _ u rfl (by omega)
                · simp only [w32_mod] at h_46
                  refine ww_aload_n hX (pc := 49) dX11_splits_49 rfl ?_
                  refine ww_getR hX (pc := 50) fX11_34 (by decide) (xs_49 hL) (xr_49_8 hL) dX11_splits_50 ?_
                  refine ww_iload hX (pc := 53) dX11_splits_53 rfl ?_
                  refine ww_bald hX (pc := 55) (xs_55 hL) (by decide) (by omega) (by omega) dX11_splits_55 ?_
                  refine ww_wI ?_
                  have hwr56 := w32_r (I7 55 u.toNat)
                  refine sI1 hX (pc := 56) sX11_145 (c_X11_isSmall l0 (by omega) (by omega)) (by decide) (Nat.le_refl 0) (Nat.le_refl 0) (Nat.le_of_ble_eq_true rfl) dX11_splits_56 (fun x_56 I_56 J_56 h_56 => ?_)
                  obtain ⟨rfl, rfl, h_56⟩ := h_56
                  refine ww_if_eq hX (pc := 59) (tgt := 68) dX11_splits_59 (by decide) (fun h_59 => ?_) (fun h_59 => ?_)
                  · simp only [w32_mod] at h_59
                    refine ww_iload_n hX (pc := 68) dX11_splits_68 rfl ?_
                    refine sI1 hX (pc := 69) sX11_148 (c_X11_isDigit l0 (by omega) (by omega)) (by decide) (Nat.le_refl 0) (Nat.le_refl 0) (Nat.le_of_ble_eq_true rfl) dX11_splits_69 (fun x_69 I_69 J_69 h_69 => ?_)
                    obtain ⟨rfl, rfl, h_69⟩ := h_69
                    refine ww_if_eq hX (pc := 72) (tgt := 100) dX11_splits_72 (by decide) (fun h_72 => ?_) (fun h_72 => ?_)
                    · simp only [w32_mod] at h_72
                      exact hj_100 u ⟨by omega, by omega⟩
                    · simp only [w32_mod] at h_72
                      have k_69 := h_69.2.mp (by omega)
                      clear h_69
                      have hl_75 : ∀ (n_75 : Nat) (u : Int), (a - u).toNat = n_75 → ((k + 1 ≤ u ∧ u ≤ a)) → WW X 75 [some (kR (some 49)), some (kI a), some (kI k), some (kI v_18), some (kI u), none] [] I7 J7 Ra Sa 0 0 := by
                        intro n_75
                        induction n_75 using Nat.strongRecOn with
                        | ind n_75 ih_75 =>
                          intro u hm_75 hv_75
                          have hq_75 := Sh0_i hm_75
                          clear hm_75
                          have hu := hv_75
                          refine ww_iload hX (pc := 75) dX11_splits_75 rfl ?_
                          refine ww_iload_n hX (pc := 77) dX11_splits_77 rfl ?_
                          refine ww_icmp_ge hX (pc := 78) (tgt := 100) dX11_splits_78 (by decide) (fun h_78 => ?_) (fun h_78 => ?_)
                          · simp only [w32_mod] at h_78
                            exact hj_100 u ⟨by omega, by omega⟩
                          · simp only [w32_mod] at h_78
                            refine ww_aload_n hX (pc := 81) dX11_splits_81 rfl ?_
                            refine ww_getR hX (pc := 82) fX11_34 (by decide) (xs_49 hL) (xr_49_8 hL) dX11_splits_82 ?_
                            refine ww_iload hX (pc := 85) dX11_splits_85 rfl ?_
                            refine ww_bald hX (pc := 87) (xs_55 hL) (by decide) (by omega) (by omega) dX11_splits_87 ?_
                            refine ww_wI ?_
                            have hwr88 := w32_r (I7 55 u.toNat)
                            refine sI1 hX (pc := 88) sX11_148 (c_X11_isDigit l0 (by omega) (by omega)) (by decide) (Nat.le_refl 0) (Nat.le_refl 0) (Nat.le_of_ble_eq_true rfl) dX11_splits_88 (fun x_88 I_88 J_88 h_88 => ?_)
                            obtain ⟨rfl, rfl, h_88⟩ := h_88
                            refine ww_if_eq hX (pc := 91) (tgt := 100) dX11_splits_91 (by decide) (fun h_91 => ?_) (fun h_91 => ?_)
                            · simp only [w32_mod] at h_91
                              exact hj_100 u ⟨by omega, by omega⟩
                            · simp only [w32_mod] at h_91
                              have k_88 := h_88.2.mp (by omega)
                              clear h_88
                              refine ww_iinc hX (pc := 94) (lv' := [some (kR (some 49)), some (kI a), some (kI k), some (kI v_18), some (kI (u + 1)), none]) dX11_splits_94 rfl (by decide) rfl rfl ?_
                              refine ww_goto hX (pc := 97) (tgt := 75) dX11_splits_97 (by decide) ?_
                              exact ih_75 _ (by have hm9 := Sh0_e hq_75; omega) (u + 1) rfl (by omega)
                      exact hl_75 _ u rfl (by omega)
                  · simp only [w32_mod] at h_59
                    have k_56 := h_56.2.mp (by omega)
                    clear h_56
                    refine ww_iinc hX (pc := 62) (lv' := [some (kR (some 49)), some (kI a), some (kI k), some (kI v_18), some (kI (u + 1)), none]) dX11_splits_62 rfl (by decide) rfl rfl ?_
                    refine ww_goto hX (pc := 65) (tgt := 43) dX11_splits_65 (by decide) ?_
                    exact ih_43 _ (by have hm9 := Sh0_e hq_43; omega) (u + 1) rfl (by omega)
            exact hl_43 _ v_34 rfl (by omega)
        · simp only [w32_mod] at h_22
          refine ww_iinc hX (pc := 25) (lv' := [some (kR (some 49)), some (kI a), some (kI (k + 1)), some (kI v_18), none, none]) dX11_splits_25 rfl (by decide) rfl rfl ?_
          refine ww_goto hX (pc := 28) (tgt := 7) dX11_splits_28 (by decide) ?_
          refine ww_sub [some (kR (some 49)), some (kI a), some (kI (k + 1)), none, none, none] (aLe_s (aLe_s (aLe_s (aLe_n (aLe_n (aLe_n aLe_0)))))) ?_
          exact ih_7 _ (by have hm9 := Sh0_e hq_7; omega) (k + 1) I7 J7 rfl ⟨kI7, cI7, kJ7, ⟨by omega, by omega⟩, ⟨by omega, by omega⟩, hg57, hg59⟩
  exact hl_7 _ 0 I_2 Ja rfl ⟨kI_2, cI_2, (Kp_rf (a := 49) (b := 73)), ⟨by omega, by omega⟩, ⟨by omega, by omega⟩, fun j hj => by omega, fun j hj => by omega⟩
