/-- what works answers -/
def zWv (r : Option Int) (x y : Int) : Prop := (r = none → x = 0) ∧ (∀ w, r = some w → x = 1 ∧ y = w ∧ -1000000000 ≤ w ∧ w ≤ 1000000000)
theorem zWv_n {r : Option Int} {x y : Int} (h : r = none) (hx : x = 0) : zWv r x y := by
  rw [h]
  exact ⟨fun _ => hx, fun w hw => (by cases hw)⟩
theorem zWv_s {r : Option Int} {x y w : Int} (h : r = some w) (hx : x = 1) (hy : y = w) (hw : -1000000000 ≤ w ∧ w ≤ 1000000000) : zWv r x y := by
  rw [h]
  exact ⟨fun hn => (by cases hn), fun u hu => (by cases hu; exact ⟨hx, hy, hw⟩)⟩
set_option maxHeartbeats 4000000 in
set_option maxRecDepth 20000 in
theorem c6_X0_works (l0 : Launch) {Ia Ja : aI1} {Ra : aR1} {Sa : aS1} (hL : LY Ra Sa) {k n : Nat} (hsk : Sa[k]? = some (0, n)) (hn : n ≤ 65536) (hst : (∀ j, j < n → -10000 ≤ Ia k j ∧ Ia k j ≤ 10000)) {a b : Int} (ha0 : 0 ≤ a) (hab : a ≤ b) (hbn : b ≤ n) {en : zE} (hen : ∀ j, j < 8 → Ia 16 j = en j ∧ -1000 ≤ en j ∧ en j ≤ 1000) {r : Option Int} (hF : zFin (Ia k) en b.toNat a.toNat [] r)  : CT l0 1 0 0 mX0_works [kR (some 15), kR (some k), kI a, kI b] Ia Ja Ra Sa (cI (fun x I' J' => Ia = I' ∧ Kp 15 18 Ja J' ∧ (x = 0 ∨ x = 1) ∧ zWv r x (J' 17 0)) Ra Sa) := by
  refine ct_in pn_X0 (Nat.le_of_ble_eq_true rfl) (fun X hX hT hIn => ?_)
  have hX : aK l0 X cX0_works 9 RX0 (some .boolean) 1 0 0 := hX
  change WW X 0 [some (kR (some 15)), some (kR (some k)), some (kI a), some (kI b), none, none, none, none, none] [] Ia Ja Ra Sa 0 0
  refine ww_iconst hX (pc := 0) (x := 0) dX0_works_0 rfl ?_
  refine ww_istore hX (pc := 1) (lv' := [some (kR (some 15)), some (kR (some k)), some (kI a), some (kI b), some (kI 0), none, none, none, none]) dX0_works_1 (by decide) rfl rfl ?_
  refine ww_iload_n hX (pc := 3) dX0_works_3 rfl ?_
  refine ww_aload_n hX (pc := 4) dX0_works_4 rfl ?_
  refine ww_alen hX (pc := 5) (by decide) hsk dX0_works_5 ?_
  refine ww_mmin hX (pc := 6) tb_712 tb_579 tb_13 tb_580 (by decide) (Nat.le_refl 0) (Nat.le_refl 0) (Nat.le_of_ble_eq_true rfl) dX0_works_6 ?_
  refine ww_nmI (fun v_9 hv_9 => ?_)
  refine ww_istore hX (pc := 9) (lv' := [some (kR (some 15)), some (kR (some k)), some (kI a), some (kI b), some (kI 0), some (kI v_9), none, none, none]) dX0_works_9 (by decide) rfl rfl ?_
  rw [i_min_r (by omega) (by omega) (by omega) (by omega)] at hv_9
  refine ww_iconst hX (pc := 11) (x := 0) dX0_works_11 rfl ?_
  refine ww_iload_n hX (pc := 12) dX0_works_12 rfl ?_
  refine ww_mmax hX (pc := 13) tb_713 tb_460 tb_13 tb_461 (by decide) (Nat.le_refl 0) (Nat.le_refl 0) (Nat.le_of_ble_eq_true rfl) dX0_works_13 ?_
  refine ww_nmI (fun v_16 hv_16 => ?_)
  refine ww_istore hX (pc := 16) (lv' := [some (kR (some 15)), some (kR (some k)), some (kI a), some (kI b), some (kI 0), some (kI v_9), some (kI v_16), none, none]) dX0_works_16 (by decide) rfl rfl ?_
  rw [i_max_r (by omega) (by omega) (by omega) (by omega)] at hv_16
  have hl_18 : ∀ (n_18 : Nat) (hh : Int) (at_ : Int) (J2 : aI1), ((n : Int) - at_).toNat = n_18 → (Kp 15 18 Ja J2 ∧ (0 ≤ at_ ∧ at_ ≤ 2147483647) ∧ ∃ s : List Int, zFin (Ia k) en b.toNat at_.toNat s r ∧ zSK (J2 17) s ∧ hh = s.length ∧ s.length ≤ 64) → WW X 18 [some (kR (some 15)), some (kR (some k)), some (kI a), some (kI b), some (kI hh), some (kI v_9), some (kI at_), none, none] [] Ia J2 Ra Sa 0 0 := by
    intro n_18
    induction n_18 using Nat.strongRecOn with
    | ind n_18 ih_18 =>
      intro hh at_ J2 hm_18 hv_18
      have hq_18 := Sh0_i hm_18
      clear hm_18
      obtain ⟨kJ2, ⟨ha2, ha3⟩, s, hF2, hSK, hh2, hh3⟩ := hv_18
      refine ww_iload hX (pc := 18) dX0_works_18 rfl ?_
      refine ww_iload hX (pc := 20) dX0_works_20 rfl ?_
      refine ww_icmp_ge hX (pc := 22) (tgt := 241) dX0_works_22 (by decide) (fun h_22 => ?_) (fun h_22 => ?_)
      · simp only [w32_mod] at h_22
        obtain ⟨w9, hr9, rfl⟩ := zFin_en hF2 (by omega)
        rw [List.length_cons, List.length_nil] at hh2
        refine ww_iload hX (pc := 241) dX0_works_241 rfl ?_
        refine ww_iconst hX (pc := 243) (x := 1) dX0_works_243 rfl ?_
        refine ww_icmp_ne hX (pc := 244) (tgt := 251) dX0_works_244 (by decide) (fun h_244 => ?_) (fun h_244 => ?_)
        · simp only [w32_mod] at h_244
          exfalso
          omega
        · simp only [w32_mod] at h_244
          refine ww_iconst hX (pc := 247) (x := 1) dX0_works_247 rfl ?_
          refine ww_goto hX (pc := 248) (tgt := 252) dX0_works_248 (by decide) ?_
          refine rZ hX (pc := 252) hT (Nat.le_refl 0) (Nat.le_refl 0) dX0_works_252 (by decide) ?_
          exact ⟨rfl, kJ2, by omega, zWv_s hr9 (by omega) hSK.1 hSK.2.1⟩
      · simp only [w32_mod] at h_22
        refine ww_aload_n hX (pc := 25) dX0_works_25 rfl ?_
        refine ww_iload hX (pc := 26) dX0_works_26 rfl ?_
        refine ww_iald hX (pc := 28) hsk (by omega) (by omega) (by omega) dX0_works_28 ?_
        refine ww_nmI (fun v_29 hv_29 => ?_)
        refine ww_istore hX (pc := 29) (lv' := [some (kR (some 15)), some (kR (some k)), some (kI a), some (kI b), some (kI hh), some (kI v_9), some (kI at_), some (kI v_29), none]) dX0_works_29 (by decide) rfl rfl ?_
        have hs1 := hst at_.toNat (by omega)
        refine ww_iload hX (pc := 31) dX0_works_31 rfl ?_
        refine ww_bipush hX (pc := 33) (x := (-8)) dX0_works_33 (by decide) ?_
        refine ww_icmp_lt hX (pc := 35) (tgt := 81) dX0_works_35 (by decide) (fun h_35 => ?_) (fun h_35 => ?_)
        · simp only [w32_mod] at h_35
          have hlow := zW_e hF2 (by omega) (by omega)
          refine ww_iload hX (pc := 81) dX0_works_81 rfl ?_
          refine ww_iconst hX (pc := 83) (x := 1) dX0_works_83 rfl ?_
          refine ww_icmp_ge hX (pc := 84) (tgt := 89) dX0_works_84 (by decide) (fun h_84 => ?_) (fun h_84 => ?_)
          · simp only [w32_mod] at h_84
            obtain ⟨v, s1, rfl⟩ := zL_cons hlow
            rw [List.length_cons] at hh2 hh3
            obtain ⟨hv0, hvr, hsk1⟩ := id hSK
            refine ww_iload hX (pc := 89) dX0_works_89 rfl ?_
            refine ww_bipush hX (pc := 91) (x := (-19)) dX0_works_91 (by decide) ?_
            refine ww_icmp_ne hX (pc := 93) (tgt := 119) dX0_works_93 (by decide) (fun h_93 => ?_) (fun h_93 => ?_)
            · simp only [w32_mod] at h_93
              refine ww_iload hX (pc := 119) dX0_works_119 rfl ?_
              refine ww_bipush hX (pc := 121) (x := (-20)) dX0_works_121 (by decide) ?_
              refine ww_icmp_eq hX (pc := 123) (tgt := 133) dX0_works_123 (by decide) (fun h_123 => ?_) (fun h_123 => ?_)
              · simp only [w32_mod] at h_123
                obtain ⟨hj1, hj2, hj3⟩ := zW_j hF2 (by omega) (by omega)
                refine ww_iinc hX (pc := 133) (lv' := [some (kR (some 15)), some (kR (some k)), some (kI a), some (kI b), some (kI hh), some (kI v_9), some (kI (at_ + 1)), some (kI v_29), none]) dX0_works_133 rfl (by decide) rfl rfl ?_
                refine ww_aload_n hX (pc := 136) dX0_works_136 rfl ?_
                refine ww_getR hX (pc := 137) fX0_17 (by decide) (xs_15 hL) (xr_15_1 hL) dX0_works_137 ?_
                refine ww_iload hX (pc := 140) dX0_works_140 rfl ?_
                refine ww_iconst hX (pc := 142) (x := 1) dX0_works_142 rfl ?_
                refine ww_isub hX (pc := 143) dX0_works_143 ?_
                refine ww_lald hX (pc := 144) (xs_17 hL) (by decide) (by omega) (by omega) dX0_works_144 ?_
                refine ww_lconst hX (pc := 145) (x := 0) dX0_works_145 (by decide) ?_
                have e1 : J2 17 (hh - 1).toNat = v := by rw [show (hh - 1).toNat = s1.length by omega]; exact hv0
                have hl6 := l_cmp_v (J2 17 (hh - 1).toNat) 0
                have hw6 := w64_id (x := J2 17 (hh - 1).toNat) (by omega) (by omega)
                have hk6 : w64 0 = 0 := rfl
                refine ww_lcmp hX (pc := 146) dX0_works_146 ?_
                refine ww_if_eq hX (pc := 147) (tgt := 154) dX0_works_147 (by decide) (fun h_147 => ?_) (fun h_147 => ?_)
                · simp only [w32_mod] at h_147
                  refine ww_iconst hX (pc := 154) (x := 0) dX0_works_154 rfl ?_
                  refine ww_iload hX (pc := 155) dX0_works_155 rfl ?_
                  refine ww_bipush hX (pc := 157) (x := (-20)) dX0_works_157 (by decide) ?_
                  refine ww_icmp_ne hX (pc := 159) (tgt := 166) dX0_works_159 (by decide) (fun h_159 => ?_) (fun h_159 => ?_)
                  · simp only [w32_mod] at h_159
                    refine ww_iconst hX (pc := 166) (x := 0) dX0_works_166 rfl ?_
                    refine ww_icmp_ne hX (pc := 167) (tgt := 174) dX0_works_167 (by decide) (fun h_167 => ?_) (fun h_167 => ?_)
                    · simp only [w32_mod] at h_167
                      exfalso
                      first | omega | simp at h_167
                    · simp only [w32_mod] at h_167
                      refine ww_iconst hX (pc := 170) (x := 1) dX0_works_170 rfl ?_
                      refine ww_goto hX (pc := 171) (tgt := 175) dX0_works_171 (by decide) ?_
                      refine ww_istore hX (pc := 175) (lv' := [some (kR (some 15)), some (kR (some k)), some (kI a), some (kI b), some (kI hh), some (kI v_9), some (kI (at_ + 1)), some (kI v_29), some (kI 1)]) dX0_works_175 (by decide) rfl rfl ?_
                      refine ww_iload hX (pc := 177) dX0_works_177 rfl ?_
                      refine ww_if_ne hX (pc := 179) (tgt := 188) dX0_works_179 (by decide) (fun h_179 => ?_) (fun h_179 => ?_)
                      · simp only [w32_mod] at h_179
                        refine ww_iload hX (pc := 188) dX0_works_188 rfl ?_
                        refine ww_iload hX (pc := 190) dX0_works_190 rfl ?_
                        refine ww_icmp_ge hX (pc := 192) (tgt := 208) dX0_works_192 (by decide) (fun h_192 => ?_) (fun h_192 => ?_)
                        · simp only [w32_mod] at h_192
                          exfalso
                          omega
                        · simp only [w32_mod] at h_192
                          have hs2 := hst (at_ + 1).toNat (by omega)
                          have e2 : Ia k (at_ + 1).toNat = Ia k (at_.toNat + 1) := congrArg _ (by omega)
                          refine ww_iload hX (pc := 195) dX0_works_195 rfl ?_
                          refine ww_aload_n hX (pc := 197) dX0_works_197 rfl ?_
                          refine ww_iload hX (pc := 198) dX0_works_198 rfl ?_
                          refine ww_iald hX (pc := 200) hsk (by omega) (by omega) (by omega) dX0_works_200 ?_
                          refine ww_iconst hX (pc := 201) (x := 1) dX0_works_201 rfl ?_
                          refine ww_isub hX (pc := 202) dX0_works_202 ?_
                          refine ww_mmax hX (pc := 203) tb_713 tb_460 tb_13 tb_461 (by decide) (Nat.le_refl 0) (Nat.le_refl 0) (Nat.le_of_ble_eq_true rfl) dX0_works_203 ?_
                          refine ww_nmI (fun v_206 hv_206 => ?_)
                          refine ww_istore hX (pc := 206) (lv' := [some (kR (some 15)), some (kR (some k)), some (kI a), some (kI b), some (kI hh), some (kI v_9), some (kI v_206), some (kI v_29), some (kI 1)]) dX0_works_206 (by decide) rfl rfl ?_
                          rw [i_max_r (by omega) (by omega) (by omega) (by omega)] at hv_206
                          refine ww_goto hX (pc := 208) (tgt := 235) dX0_works_208 (by decide) ?_
                          refine ww_iinc hX (pc := 235) (lv' := [some (kR (some 15)), some (kR (some k)), some (kI a), some (kI b), some (kI hh), some (kI v_9), some (kI (v_206 + 1)), some (kI v_29), some (kI 1)]) dX0_works_235 rfl (by decide) rfl rfl ?_
                          refine ww_goto hX (pc := 238) (tgt := 18) dX0_works_238 (by decide) ?_
                          refine ww_sub [some (kR (some 15)), some (kR (some k)), some (kI a), some (kI b), some (kI hh), some (kI v_9), some (kI (v_206 + 1)), none, none] (aLe_s (aLe_s (aLe_s (aLe_s (aLe_s (aLe_s (aLe_s (aLe_n (aLe_n aLe_0))))))))) ?_
                          exact ih_18 _ (by have hm9 := Sh0_e hq_18; omega) hh (v_206 + 1) J2 rfl ⟨kJ2, ⟨by omega, by omega⟩, _, zFin_at (hj2 (by omega)) (by omega), hSK, (by rw [List.length_cons]; omega), (by rw [List.length_cons]; omega)⟩
                      · simp only [w32_mod] at h_179
                        exfalso
                        first | omega | simp at h_179
                  · simp only [w32_mod] at h_159
                    refine ww_iconst hX (pc := 162) (x := 1) dX0_works_162 rfl ?_
                    refine ww_goto hX (pc := 163) (tgt := 167) dX0_works_163 (by decide) ?_
                    refine ww_icmp_ne hX (pc := 167) (tgt := 174) dX0_works_167 (by decide) (fun h_167 => ?_) (fun h_167 => ?_)
                    · simp only [w32_mod] at h_167
                      refine ww_iconst hX (pc := 174) (x := 0) dX0_works_174 rfl ?_
                      refine ww_istore hX (pc := 175) (lv' := [some (kR (some 15)), some (kR (some k)), some (kI a), some (kI b), some (kI hh), some (kI v_9), some (kI (at_ + 1)), some (kI v_29), some (kI 0)]) dX0_works_175 (by decide) rfl rfl ?_
                      refine ww_iload hX (pc := 177) dX0_works_177 rfl ?_
                      refine ww_if_ne hX (pc := 179) (tgt := 188) dX0_works_179 (by decide) (fun h_179 => ?_) (fun h_179 => ?_)
                      · simp only [w32_mod] at h_179
                        exfalso
                        first | omega | simp at h_179
                      · simp only [w32_mod] at h_179
                        refine ww_iinc hX (pc := 182) (lv' := [some (kR (some 15)), some (kR (some k)), some (kI a), some (kI b), some (kI (hh + (-1))), some (kI v_9), some (kI (at_ + 1)), some (kI v_29), some (kI 0)]) dX0_works_182 rfl (by decide) rfl rfl ?_
                        refine ww_goto hX (pc := 185) (tgt := 208) dX0_works_185 (by decide) ?_
                        refine ww_goto hX (pc := 208) (tgt := 235) dX0_works_208 (by decide) ?_
                        refine ww_iinc hX (pc := 235) (lv' := [some (kR (some 15)), some (kR (some k)), some (kI a), some (kI b), some (kI (hh + (-1))), some (kI v_9), some (kI ((at_ + 1) + 1)), some (kI v_29), some (kI 0)]) dX0_works_235 rfl (by decide) rfl rfl ?_
                        refine ww_goto hX (pc := 238) (tgt := 18) dX0_works_238 (by decide) ?_
                        refine ww_sub [some (kR (some 15)), some (kR (some k)), some (kI a), some (kI b), some (kI (hh + (-1))), some (kI v_9), some (kI ((at_ + 1) + 1)), none, none] (aLe_s (aLe_s (aLe_s (aLe_s (aLe_s (aLe_s (aLe_s (aLe_n (aLe_n aLe_0))))))))) ?_
                        exact ih_18 _ (by have hm9 := Sh0_e hq_18; omega) (hh + (-1)) ((at_ + 1) + 1) J2 rfl ⟨kJ2, ⟨by omega, by omega⟩, s1, zFin_at (hj3 (by omega)) (by omega), hsk1, by omega, by omega⟩
                    · simp only [w32_mod] at h_167
                      exfalso
                      first | omega | simp at h_167
                · simp only [w32_mod] at h_147
                  refine ww_iconst hX (pc := 150) (x := 1) dX0_works_150 rfl ?_
                  refine ww_goto hX (pc := 151) (tgt := 155) dX0_works_151 (by decide) ?_
                  refine ww_iload hX (pc := 155) dX0_works_155 rfl ?_
                  refine ww_bipush hX (pc := 157) (x := (-20)) dX0_works_157 (by decide) ?_
                  refine ww_icmp_ne hX (pc := 159) (tgt := 166) dX0_works_159 (by decide) (fun h_159 => ?_) (fun h_159 => ?_)
                  · simp only [w32_mod] at h_159
                    refine ww_iconst hX (pc := 166) (x := 0) dX0_works_166 rfl ?_
                    refine ww_icmp_ne hX (pc := 167) (tgt := 174) dX0_works_167 (by decide) (fun h_167 => ?_) (fun h_167 => ?_)
                    · simp only [w32_mod] at h_167
                      refine ww_iconst hX (pc := 174) (x := 0) dX0_works_174 rfl ?_
                      refine ww_istore hX (pc := 175) (lv' := [some (kR (some 15)), some (kR (some k)), some (kI a), some (kI b), some (kI hh), some (kI v_9), some (kI (at_ + 1)), some (kI v_29), some (kI 0)]) dX0_works_175 (by decide) rfl rfl ?_
                      refine ww_iload hX (pc := 177) dX0_works_177 rfl ?_
                      refine ww_if_ne hX (pc := 179) (tgt := 188) dX0_works_179 (by decide) (fun h_179 => ?_) (fun h_179 => ?_)
                      · simp only [w32_mod] at h_179
                        exfalso
                        first | omega | simp at h_179
                      · simp only [w32_mod] at h_179
                        refine ww_iinc hX (pc := 182) (lv' := [some (kR (some 15)), some (kR (some k)), some (kI a), some (kI b), some (kI (hh + (-1))), some (kI v_9), some (kI (at_ + 1)), some (kI v_29), some (kI 0)]) dX0_works_182 rfl (by decide) rfl rfl ?_
                        refine ww_goto hX (pc := 185) (tgt := 208) dX0_works_185 (by decide) ?_
                        refine ww_goto hX (pc := 208) (tgt := 235) dX0_works_208 (by decide) ?_
                        refine ww_iinc hX (pc := 235) (lv' := [some (kR (some 15)), some (kR (some k)), some (kI a), some (kI b), some (kI (hh + (-1))), some (kI v_9), some (kI ((at_ + 1) + 1)), some (kI v_29), some (kI 0)]) dX0_works_235 rfl (by decide) rfl rfl ?_
                        refine ww_goto hX (pc := 238) (tgt := 18) dX0_works_238 (by decide) ?_
                        refine ww_sub [some (kR (some 15)), some (kR (some k)), some (kI a), some (kI b), some (kI (hh + (-1))), some (kI v_9), some (kI ((at_ + 1) + 1)), none, none] (aLe_s (aLe_s (aLe_s (aLe_s (aLe_s (aLe_s (aLe_s (aLe_n (aLe_n aLe_0))))))))) ?_
                        exact ih_18 _ (by have hm9 := Sh0_e hq_18; omega) (hh + (-1)) ((at_ + 1) + 1) J2 rfl ⟨kJ2, ⟨by omega, by omega⟩, s1, zFin_at (hj3 (by omega)) (by omega), hsk1, by omega, by omega⟩
                    · simp only [w32_mod] at h_167
                      exfalso
                      first | omega | simp at h_167
                  · simp only [w32_mod] at h_159
                    refine ww_iconst hX (pc := 162) (x := 1) dX0_works_162 rfl ?_
                    refine ww_goto hX (pc := 163) (tgt := 167) dX0_works_163 (by decide) ?_
                    refine ww_icmp_ne hX (pc := 167) (tgt := 174) dX0_works_167 (by decide) (fun h_167 => ?_) (fun h_167 => ?_)
                    · simp only [w32_mod] at h_167
                      exfalso
                      first | omega | simp at h_167
                    · simp only [w32_mod] at h_167
                      refine ww_iconst hX (pc := 170) (x := 1) dX0_works_170 rfl ?_
                      refine ww_goto hX (pc := 171) (tgt := 175) dX0_works_171 (by decide) ?_
                      refine ww_istore hX (pc := 175) (lv' := [some (kR (some 15)), some (kR (some k)), some (kI a), some (kI b), some (kI hh), some (kI v_9), some (kI (at_ + 1)), some (kI v_29), some (kI 1)]) dX0_works_175 (by decide) rfl rfl ?_
                      refine ww_iload hX (pc := 177) dX0_works_177 rfl ?_
                      refine ww_if_ne hX (pc := 179) (tgt := 188) dX0_works_179 (by decide) (fun h_179 => ?_) (fun h_179 => ?_)
                      · simp only [w32_mod] at h_179
                        refine ww_iload hX (pc := 188) dX0_works_188 rfl ?_
                        refine ww_iload hX (pc := 190) dX0_works_190 rfl ?_
                        refine ww_icmp_ge hX (pc := 192) (tgt := 208) dX0_works_192 (by decide) (fun h_192 => ?_) (fun h_192 => ?_)
                        · simp only [w32_mod] at h_192
                          exfalso
                          omega
                        · simp only [w32_mod] at h_192
                          have hs2 := hst (at_ + 1).toNat (by omega)
                          have e2 : Ia k (at_ + 1).toNat = Ia k (at_.toNat + 1) := congrArg _ (by omega)
                          refine ww_iload hX (pc := 195) dX0_works_195 rfl ?_
                          refine ww_aload_n hX (pc := 197) dX0_works_197 rfl ?_
                          refine ww_iload hX (pc := 198) dX0_works_198 rfl ?_
                          refine ww_iald hX (pc := 200) hsk (by omega) (by omega) (by omega) dX0_works_200 ?_
                          refine ww_iconst hX (pc := 201) (x := 1) dX0_works_201 rfl ?_
                          refine ww_isub hX (pc := 202) dX0_works_202 ?_
                          refine ww_mmax hX (pc := 203) tb_713 tb_460 tb_13 tb_461 (by decide) (Nat.le_refl 0) (Nat.le_refl 0) (Nat.le_of_ble_eq_true rfl) dX0_works_203 ?_
                          refine ww_nmI (fun v_206 hv_206 => ?_)
                          refine ww_istore hX (pc := 206) (lv' := [some (kR (some 15)), some (kR (some k)), some (kI a), some (kI b), some (kI hh), some (kI v_9), some (kI v_206), some (kI v_29), some (kI 1)]) dX0_works_206 (by decide) rfl rfl ?_
                          rw [i_max_r (by omega) (by omega) (by omega) (by omega)] at hv_206
                          refine ww_goto hX (pc := 208) (tgt := 235) dX0_works_208 (by decide) ?_
                          refine ww_iinc hX (pc := 235) (lv' := [some (kR (some 15)), some (kR (some k)), some (kI a), some (kI b), some (kI hh), some (kI v_9), some (kI (v_206 + 1)), some (kI v_29), some (kI 1)]) dX0_works_235 rfl (by decide) rfl rfl ?_
                          refine ww_goto hX (pc := 238) (tgt := 18) dX0_works_238 (by decide) ?_
                          refine ww_sub [some (kR (some 15)), some (kR (some k)), some (kI a), some (kI b), some (kI hh), some (kI v_9), some (kI (v_206 + 1)), none, none] (aLe_s (aLe_s (aLe_s (aLe_s (aLe_s (aLe_s (aLe_s (aLe_n (aLe_n aLe_0))))))))) ?_
                          exact ih_18 _ (by have hm9 := Sh0_e hq_18; omega) hh (v_206 + 1) J2 rfl ⟨kJ2, ⟨by omega, by omega⟩, _, zFin_at (hj2 (by omega)) (by omega), hSK, (by rw [List.length_cons]; omega), (by rw [List.length_cons]; omega)⟩
                      · simp only [w32_mod] at h_179
                        exfalso
                        first | omega | simp at h_179
              · simp only [w32_mod] at h_123
                refine ww_iload hX (pc := 126) dX0_works_126 rfl ?_
                refine ww_bipush hX (pc := 128) (x := (-21)) dX0_works_128 (by decide) ?_
                refine ww_icmp_ne hX (pc := 130) (tgt := 211) dX0_works_130 (by decide) (fun h_130 => ?_) (fun h_130 => ?_)
                · simp only [w32_mod] at h_130
                  obtain ⟨u, s2, rfl, ho1, ho2⟩ := zW_o hF2 (by omega) (by omega)
                  rw [List.length_cons] at hh2 hh3 hv0
                  obtain ⟨hu0, hur, hsk2⟩ := hsk1
                  refine ww_iinc hX (pc := 211) (lv' := [some (kR (some 15)), some (kR (some k)), some (kI a), some (kI b), some (kI (hh + (-1))), some (kI v_9), some (kI at_), some (kI v_29), none]) dX0_works_211 rfl (by decide) rfl rfl ?_
                  refine ww_iload hX (pc := 214) dX0_works_214 rfl ?_
                  refine ww_iconst hX (pc := 216) (x := 1) dX0_works_216 rfl ?_
                  refine ww_icmp_lt hX (pc := 217) (tgt := 233) dX0_works_217 (by decide) (fun h_217 => ?_) (fun h_217 => ?_)
                  · simp only [w32_mod] at h_217
                    exfalso
                    omega
                  · simp only [w32_mod] at h_217
                    refine ww_aload_n hX (pc := 220) dX0_works_220 rfl ?_
                    refine ww_iload hX (pc := 221) dX0_works_221 rfl ?_
                    refine ww_iload hX (pc := 223) dX0_works_223 rfl ?_
                    refine ww_iconst hX (pc := 225) (x := 1) dX0_works_225 rfl ?_
                    refine ww_isub hX (pc := 226) dX0_works_226 ?_
                    have hu7 : J2 17 (hh + (-1) - 1).toNat = u := by rw [show (hh + (-1) - 1).toNat = s2.length by omega]; exact hu0
                    have hv7 : J2 17 ((hh + (-1) - 1).toNat + 1) = v := by rw [show (hh + (-1) - 1).toNat = s2.length by omega]; exact hv0
                    refine vI2 hX (pc := 227) sX0_56 (xs_15 hL) (c6_X0_join l0 hL (by omega) (by omega) (by omega) hu7 hv7 hur hvr) (by decide) (Nat.le_refl 0) (Nat.le_refl 0) (Nat.le_of_ble_eq_true rfl) dX0_works_227 (fun x_227 I_227 J_227 h_227 => ?_)
                    obtain ⟨rfl, kj_227, h_227, o_227⟩ := h_227
                    have kJ_227 : Kp 15 18 Ja J_227 := Kp_tr kJ2 kj_227
                    have hj_227 : (hh + (-1) - 1).toNat = s2.length := by omega
                    refine ww_if_ne hX (pc := 230) (tgt := 235) dX0_works_230 (by decide) (fun h_230 => ?_) (fun h_230 => ?_)
                    · simp only [w32_mod] at h_230
                      obtain ⟨w9, hw9, hG9⟩ := zJo_1 o_227 (by omega)
                      have hF4 := ho2 w9 (by rw [← hv_29]; exact hw9)
                      refine ww_iinc hX (pc := 235) (lv' := [some (kR (some 15)), some (kR (some k)), some (kI a), some (kI b), some (kI (hh + (-1))), some (kI v_9), some (kI (at_ + 1)), some (kI v_29), none]) dX0_works_235 rfl (by decide) rfl rfl ?_
                      refine ww_goto hX (pc := 238) (tgt := 18) dX0_works_238 (by decide) ?_
                      refine ww_sub [some (kR (some 15)), some (kR (some k)), some (kI a), some (kI b), some (kI (hh + (-1))), some (kI v_9), some (kI (at_ + 1)), none, none] (aLe_s (aLe_s (aLe_s (aLe_s (aLe_s (aLe_s (aLe_s (aLe_n (aLe_n aLe_0))))))))) ?_
                      exact ih_18 _ (by have hm9 := Sh0_e hq_18; omega) (hh + (-1)) (at_ + 1) J_227 rfl ⟨kJ_227, ⟨by omega, by omega⟩, _, zFin_at hF4 (by omega), zSK_pn hsk2 hG9 hj_227 rfl (zJn_r hw9), (by rw [List.length_cons]; omega), (by rw [List.length_cons]; omega)⟩
                    · simp only [w32_mod] at h_230
                      refine ww_iconst hX (pc := 233) (x := 0) dX0_works_233 rfl ?_
                      refine rZ hX (pc := 234) hT (Nat.le_refl 0) (Nat.le_refl 0) dX0_works_234 (by decide) ?_
                      exact ⟨rfl, kJ_227, by omega, zWv_n (ho1 (by rw [← hv_29]; exact zJo_z o_227 (by omega))) (by omega)⟩
                · simp only [w32_mod] at h_130
                  obtain ⟨hj1, hj2, hj3⟩ := zW_j hF2 (by omega) (by omega)
                  refine ww_iinc hX (pc := 133) (lv' := [some (kR (some 15)), some (kR (some k)), some (kI a), some (kI b), some (kI hh), some (kI v_9), some (kI (at_ + 1)), some (kI v_29), none]) dX0_works_133 rfl (by decide) rfl rfl ?_
                  refine ww_aload_n hX (pc := 136) dX0_works_136 rfl ?_
                  refine ww_getR hX (pc := 137) fX0_17 (by decide) (xs_15 hL) (xr_15_1 hL) dX0_works_137 ?_
                  refine ww_iload hX (pc := 140) dX0_works_140 rfl ?_
                  refine ww_iconst hX (pc := 142) (x := 1) dX0_works_142 rfl ?_
                  refine ww_isub hX (pc := 143) dX0_works_143 ?_
                  refine ww_lald hX (pc := 144) (xs_17 hL) (by decide) (by omega) (by omega) dX0_works_144 ?_
                  refine ww_lconst hX (pc := 145) (x := 0) dX0_works_145 (by decide) ?_
                  have e1 : J2 17 (hh - 1).toNat = v := by rw [show (hh - 1).toNat = s1.length by omega]; exact hv0
                  have hl6 := l_cmp_v (J2 17 (hh - 1).toNat) 0
                  have hw6 := w64_id (x := J2 17 (hh - 1).toNat) (by omega) (by omega)
                  have hk6 : w64 0 = 0 := rfl
                  refine ww_lcmp hX (pc := 146) dX0_works_146 ?_
                  refine ww_if_eq hX (pc := 147) (tgt := 154) dX0_works_147 (by decide) (fun h_147 => ?_) (fun h_147 => ?_)
                  · simp only [w32_mod] at h_147
                    refine ww_iconst hX (pc := 154) (x := 0) dX0_works_154 rfl ?_
                    refine ww_iload hX (pc := 155) dX0_works_155 rfl ?_
                    refine ww_bipush hX (pc := 157) (x := (-20)) dX0_works_157 (by decide) ?_
                    refine ww_icmp_ne hX (pc := 159) (tgt := 166) dX0_works_159 (by decide) (fun h_159 => ?_) (fun h_159 => ?_)
                    · simp only [w32_mod] at h_159
                      refine ww_iconst hX (pc := 166) (x := 0) dX0_works_166 rfl ?_
                      refine ww_icmp_ne hX (pc := 167) (tgt := 174) dX0_works_167 (by decide) (fun h_167 => ?_) (fun h_167 => ?_)
                      · simp only [w32_mod] at h_167
                        exfalso
                        first | omega | simp at h_167
                      · simp only [w32_mod] at h_167
                        refine ww_iconst hX (pc := 170) (x := 1) dX0_works_170 rfl ?_
                        refine ww_goto hX (pc := 171) (tgt := 175) dX0_works_171 (by decide) ?_
                        refine ww_istore hX (pc := 175) (lv' := [some (kR (some 15)), some (kR (some k)), some (kI a), some (kI b), some (kI hh), some (kI v_9), some (kI (at_ + 1)), some (kI v_29), some (kI 1)]) dX0_works_175 (by decide) rfl rfl ?_
                        refine ww_iload hX (pc := 177) dX0_works_177 rfl ?_
                        refine ww_if_ne hX (pc := 179) (tgt := 188) dX0_works_179 (by decide) (fun h_179 => ?_) (fun h_179 => ?_)
                        · simp only [w32_mod] at h_179
                          refine ww_iload hX (pc := 188) dX0_works_188 rfl ?_
                          refine ww_iload hX (pc := 190) dX0_works_190 rfl ?_
                          refine ww_icmp_ge hX (pc := 192) (tgt := 208) dX0_works_192 (by decide) (fun h_192 => ?_) (fun h_192 => ?_)
                          · simp only [w32_mod] at h_192
                            exfalso
                            omega
                          · simp only [w32_mod] at h_192
                            have hs2 := hst (at_ + 1).toNat (by omega)
                            have e2 : Ia k (at_ + 1).toNat = Ia k (at_.toNat + 1) := congrArg _ (by omega)
                            refine ww_iload hX (pc := 195) dX0_works_195 rfl ?_
                            refine ww_aload_n hX (pc := 197) dX0_works_197 rfl ?_
                            refine ww_iload hX (pc := 198) dX0_works_198 rfl ?_
                            refine ww_iald hX (pc := 200) hsk (by omega) (by omega) (by omega) dX0_works_200 ?_
                            refine ww_iconst hX (pc := 201) (x := 1) dX0_works_201 rfl ?_
                            refine ww_isub hX (pc := 202) dX0_works_202 ?_
                            refine ww_mmax hX (pc := 203) tb_713 tb_460 tb_13 tb_461 (by decide) (Nat.le_refl 0) (Nat.le_refl 0) (Nat.le_of_ble_eq_true rfl) dX0_works_203 ?_
                            refine ww_nmI (fun v_206 hv_206 => ?_)
                            refine ww_istore hX (pc := 206) (lv' := [some (kR (some 15)), some (kR (some k)), some (kI a), some (kI b), some (kI hh), some (kI v_9), some (kI v_206), some (kI v_29), some (kI 1)]) dX0_works_206 (by decide) rfl rfl ?_
                            rw [i_max_r (by omega) (by omega) (by omega) (by omega)] at hv_206
                            refine ww_goto hX (pc := 208) (tgt := 235) dX0_works_208 (by decide) ?_
                            refine ww_iinc hX (pc := 235) (lv' := [some (kR (some 15)), some (kR (some k)), some (kI a), some (kI b), some (kI hh), some (kI v_9), some (kI (v_206 + 1)), some (kI v_29), some (kI 1)]) dX0_works_235 rfl (by decide) rfl rfl ?_
                            refine ww_goto hX (pc := 238) (tgt := 18) dX0_works_238 (by decide) ?_
                            refine ww_sub [some (kR (some 15)), some (kR (some k)), some (kI a), some (kI b), some (kI hh), some (kI v_9), some (kI (v_206 + 1)), none, none] (aLe_s (aLe_s (aLe_s (aLe_s (aLe_s (aLe_s (aLe_s (aLe_n (aLe_n aLe_0))))))))) ?_
                            exact ih_18 _ (by have hm9 := Sh0_e hq_18; omega) hh (v_206 + 1) J2 rfl ⟨kJ2, ⟨by omega, by omega⟩, _, zFin_at (hj2 (by omega)) (by omega), hSK, (by rw [List.length_cons]; omega), (by rw [List.length_cons]; omega)⟩
                        · simp only [w32_mod] at h_179
                          exfalso
                          first | omega | simp at h_179
                    · simp only [w32_mod] at h_159
                      refine ww_iconst hX (pc := 162) (x := 1) dX0_works_162 rfl ?_
                      refine ww_goto hX (pc := 163) (tgt := 167) dX0_works_163 (by decide) ?_
                      refine ww_icmp_ne hX (pc := 167) (tgt := 174) dX0_works_167 (by decide) (fun h_167 => ?_) (fun h_167 => ?_)
                      · simp only [w32_mod] at h_167
                        refine ww_iconst hX (pc := 174) (x := 0) dX0_works_174 rfl ?_
                        refine ww_istore hX (pc := 175) (lv' := [some (kR (some 15)), some (kR (some k)), some (kI a), some (kI b), some (kI hh), some (kI v_9), some (kI (at_ + 1)), some (kI v_29), some (kI 0)]) dX0_works_175 (by decide) rfl rfl ?_
                        refine ww_iload hX (pc := 177) dX0_works_177 rfl ?_
                        refine ww_if_ne hX (pc := 179) (tgt := 188) dX0_works_179 (by decide) (fun h_179 => ?_) (fun h_179 => ?_)
                        · simp only [w32_mod] at h_179
                          exfalso
                          first | omega | simp at h_179
                        · simp only [w32_mod] at h_179
                          refine ww_iinc hX (pc := 182) (lv' := [some (kR (some 15)), some (kR (some k)), some (kI a), some (kI b), some (kI (hh + (-1))), some (kI v_9), some (kI (at_ + 1)), some (kI v_29), some (kI 0)]) dX0_works_182 rfl (by decide) rfl rfl ?_
                          refine ww_goto hX (pc := 185) (tgt := 208) dX0_works_185 (by decide) ?_
                          refine ww_goto hX (pc := 208) (tgt := 235) dX0_works_208 (by decide) ?_
                          refine ww_iinc hX (pc := 235) (lv' := [some (kR (some 15)), some (kR (some k)), some (kI a), some (kI b), some (kI (hh + (-1))), some (kI v_9), some (kI ((at_ + 1) + 1)), some (kI v_29), some (kI 0)]) dX0_works_235 rfl (by decide) rfl rfl ?_
                          refine ww_goto hX (pc := 238) (tgt := 18) dX0_works_238 (by decide) ?_
                          refine ww_sub [some (kR (some 15)), some (kR (some k)), some (kI a), some (kI b), some (kI (hh + (-1))), some (kI v_9), some (kI ((at_ + 1) + 1)), none, none] (aLe_s (aLe_s (aLe_s (aLe_s (aLe_s (aLe_s (aLe_s (aLe_n (aLe_n aLe_0))))))))) ?_
                          exact ih_18 _ (by have hm9 := Sh0_e hq_18; omega) (hh + (-1)) ((at_ + 1) + 1) J2 rfl ⟨kJ2, ⟨by omega, by omega⟩, s1, zFin_at (hj3 (by omega)) (by omega), hsk1, by omega, by omega⟩
                      · simp only [w32_mod] at h_167
                        exfalso
                        first | omega | simp at h_167
                  · simp only [w32_mod] at h_147
                    refine ww_iconst hX (pc := 150) (x := 1) dX0_works_150 rfl ?_
                    refine ww_goto hX (pc := 151) (tgt := 155) dX0_works_151 (by decide) ?_
                    refine ww_iload hX (pc := 155) dX0_works_155 rfl ?_
                    refine ww_bipush hX (pc := 157) (x := (-20)) dX0_works_157 (by decide) ?_
                    refine ww_icmp_ne hX (pc := 159) (tgt := 166) dX0_works_159 (by decide) (fun h_159 => ?_) (fun h_159 => ?_)
                    · simp only [w32_mod] at h_159
                      refine ww_iconst hX (pc := 166) (x := 0) dX0_works_166 rfl ?_
                      refine ww_icmp_ne hX (pc := 167) (tgt := 174) dX0_works_167 (by decide) (fun h_167 => ?_) (fun h_167 => ?_)
                      · simp only [w32_mod] at h_167
                        refine ww_iconst hX (pc := 174) (x := 0) dX0_works_174 rfl ?_
                        refine ww_istore hX (pc := 175) (lv' := [some (kR (some 15)), some (kR (some k)), some (kI a), some (kI b), some (kI hh), some (kI v_9), some (kI (at_ + 1)), some (kI v_29), some (kI 0)]) dX0_works_175 (by decide) rfl rfl ?_
                        refine ww_iload hX (pc := 177) dX0_works_177 rfl ?_
                        refine ww_if_ne hX (pc := 179) (tgt := 188) dX0_works_179 (by decide) (fun h_179 => ?_) (fun h_179 => ?_)
                        · simp only [w32_mod] at h_179
                          exfalso
                          first | omega | simp at h_179
                        · simp only [w32_mod] at h_179
                          refine ww_iinc hX (pc := 182) (lv' := [some (kR (some 15)), some (kR (some k)), some (kI a), some (kI b), some (kI (hh + (-1))), some (kI v_9), some (kI (at_ + 1)), some (kI v_29), some (kI 0)]) dX0_works_182 rfl (by decide) rfl rfl ?_
                          refine ww_goto hX (pc := 185) (tgt := 208) dX0_works_185 (by decide) ?_
                          refine ww_goto hX (pc := 208) (tgt := 235) dX0_works_208 (by decide) ?_
                          refine ww_iinc hX (pc := 235) (lv' := [some (kR (some 15)), some (kR (some k)), some (kI a), some (kI b), some (kI (hh + (-1))), some (kI v_9), some (kI ((at_ + 1) + 1)), some (kI v_29), some (kI 0)]) dX0_works_235 rfl (by decide) rfl rfl ?_
                          refine ww_goto hX (pc := 238) (tgt := 18) dX0_works_238 (by decide) ?_
                          refine ww_sub [some (kR (some 15)), some (kR (some k)), some (kI a), some (kI b), some (kI (hh + (-1))), some (kI v_9), some (kI ((at_ + 1) + 1)), none, none] (aLe_s (aLe_s (aLe_s (aLe_s (aLe_s (aLe_s (aLe_s (aLe_n (aLe_n aLe_0))))))))) ?_
                          exact ih_18 _ (by have hm9 := Sh0_e hq_18; omega) (hh + (-1)) ((at_ + 1) + 1) J2 rfl ⟨kJ2, ⟨by omega, by omega⟩, s1, zFin_at (hj3 (by omega)) (by omega), hsk1, by omega, by omega⟩
                      · simp only [w32_mod] at h_167
                        exfalso
                        first | omega | simp at h_167
                    · simp only [w32_mod] at h_159
                      refine ww_iconst hX (pc := 162) (x := 1) dX0_works_162 rfl ?_
                      refine ww_goto hX (pc := 163) (tgt := 167) dX0_works_163 (by decide) ?_
                      refine ww_icmp_ne hX (pc := 167) (tgt := 174) dX0_works_167 (by decide) (fun h_167 => ?_) (fun h_167 => ?_)
                      · simp only [w32_mod] at h_167
                        exfalso
                        first | omega | simp at h_167
                      · simp only [w32_mod] at h_167
                        refine ww_iconst hX (pc := 170) (x := 1) dX0_works_170 rfl ?_
                        refine ww_goto hX (pc := 171) (tgt := 175) dX0_works_171 (by decide) ?_
                        refine ww_istore hX (pc := 175) (lv' := [some (kR (some 15)), some (kR (some k)), some (kI a), some (kI b), some (kI hh), some (kI v_9), some (kI (at_ + 1)), some (kI v_29), some (kI 1)]) dX0_works_175 (by decide) rfl rfl ?_
                        refine ww_iload hX (pc := 177) dX0_works_177 rfl ?_
                        refine ww_if_ne hX (pc := 179) (tgt := 188) dX0_works_179 (by decide) (fun h_179 => ?_) (fun h_179 => ?_)
                        · simp only [w32_mod] at h_179
                          refine ww_iload hX (pc := 188) dX0_works_188 rfl ?_
                          refine ww_iload hX (pc := 190) dX0_works_190 rfl ?_
                          refine ww_icmp_ge hX (pc := 192) (tgt := 208) dX0_works_192 (by decide) (fun h_192 => ?_) (fun h_192 => ?_)
                          · simp only [w32_mod] at h_192
                            exfalso
                            omega
                          · simp only [w32_mod] at h_192
                            have hs2 := hst (at_ + 1).toNat (by omega)
                            have e2 : Ia k (at_ + 1).toNat = Ia k (at_.toNat + 1) := congrArg _ (by omega)
                            refine ww_iload hX (pc := 195) dX0_works_195 rfl ?_
                            refine ww_aload_n hX (pc := 197) dX0_works_197 rfl ?_
                            refine ww_iload hX (pc := 198) dX0_works_198 rfl ?_
                            refine ww_iald hX (pc := 200) hsk (by omega) (by omega) (by omega) dX0_works_200 ?_
                            refine ww_iconst hX (pc := 201) (x := 1) dX0_works_201 rfl ?_
                            refine ww_isub hX (pc := 202) dX0_works_202 ?_
                            refine ww_mmax hX (pc := 203) tb_713 tb_460 tb_13 tb_461 (by decide) (Nat.le_refl 0) (Nat.le_refl 0) (Nat.le_of_ble_eq_true rfl) dX0_works_203 ?_
                            refine ww_nmI (fun v_206 hv_206 => ?_)
                            refine ww_istore hX (pc := 206) (lv' := [some (kR (some 15)), some (kR (some k)), some (kI a), some (kI b), some (kI hh), some (kI v_9), some (kI v_206), some (kI v_29), some (kI 1)]) dX0_works_206 (by decide) rfl rfl ?_
                            rw [i_max_r (by omega) (by omega) (by omega) (by omega)] at hv_206
                            refine ww_goto hX (pc := 208) (tgt := 235) dX0_works_208 (by decide) ?_
                            refine ww_iinc hX (pc := 235) (lv' := [some (kR (some 15)), some (kR (some k)), some (kI a), some (kI b), some (kI hh), some (kI v_9), some (kI (v_206 + 1)), some (kI v_29), some (kI 1)]) dX0_works_235 rfl (by decide) rfl rfl ?_
                            refine ww_goto hX (pc := 238) (tgt := 18) dX0_works_238 (by decide) ?_
                            refine ww_sub [some (kR (some 15)), some (kR (some k)), some (kI a), some (kI b), some (kI hh), some (kI v_9), some (kI (v_206 + 1)), none, none] (aLe_s (aLe_s (aLe_s (aLe_s (aLe_s (aLe_s (aLe_s (aLe_n (aLe_n aLe_0))))))))) ?_
                            exact ih_18 _ (by have hm9 := Sh0_e hq_18; omega) hh (v_206 + 1) J2 rfl ⟨kJ2, ⟨by omega, by omega⟩, _, zFin_at (hj2 (by omega)) (by omega), hSK, (by rw [List.length_cons]; omega), (by rw [List.length_cons]; omega)⟩
                        · simp only [w32_mod] at h_179
                          exfalso
                          first | omega | simp at h_179
            · simp only [w32_mod] at h_93
              have hW := zW_f hF2 (by omega) (by omega)
              have hv01 := hW.1
              refine ww_aload_n hX (pc := 96) dX0_works_96 rfl ?_
              refine ww_getR hX (pc := 97) fX0_17 (by decide) (xs_15 hL) (xr_15_1 hL) dX0_works_97 ?_
              refine ww_iload hX (pc := 100) dX0_works_100 rfl ?_
              refine ww_iconst hX (pc := 102) (x := 1) dX0_works_102 rfl ?_
              refine ww_isub hX (pc := 103) dX0_works_103 ?_
              refine ww_lconst hX (pc := 104) (x := 1) dX0_works_104 (by decide) ?_
              refine ww_aload_n hX (pc := 105) dX0_works_105 rfl ?_
              refine ww_getR hX (pc := 106) fX0_17 (by decide) (xs_15 hL) (xr_15_1 hL) dX0_works_106 ?_
              refine ww_iload hX (pc := 109) dX0_works_109 rfl ?_
              refine ww_iconst hX (pc := 111) (x := 1) dX0_works_111 rfl ?_
              refine ww_isub hX (pc := 112) dX0_works_112 ?_
              refine ww_lald hX (pc := 113) (xs_17 hL) (by decide) (by omega) (by omega) dX0_works_113 ?_
              refine ww_lsub hX (pc := 114) dX0_works_114 ?_
              have e1 : J2 17 (hh - 1).toNat = v := by rw [show (hh - 1).toNat = s1.length by omega]; exact hv0
              refine ww_last hX (pc := 115) (xs_17 hL) (by decide) (by omega) (by omega) dX0_works_115 ?_
              refine ww_nmK (fun J_115 eJ_115 => ?_)
              have kJ_115 : Kp 15 18 Ja J_115 := by rw [eJ_115]; exact Kp_up kJ2 _ _ (by decide)
              refine ww_goto hX (pc := 116) (tgt := 235) dX0_works_116 (by decide) ?_
              refine ww_iinc hX (pc := 235) (lv' := [some (kR (some 15)), some (kR (some k)), some (kI a), some (kI b), some (kI hh), some (kI v_9), some (kI (at_ + 1)), some (kI v_29), none]) dX0_works_235 rfl (by decide) rfl rfl ?_
              refine ww_goto hX (pc := 238) (tgt := 18) dX0_works_238 (by decide) ?_
              refine ww_sub [some (kR (some 15)), some (kR (some k)), some (kI a), some (kI b), some (kI hh), some (kI v_9), some (kI (at_ + 1)), none, none] (aLe_s (aLe_s (aLe_s (aLe_s (aLe_s (aLe_s (aLe_s (aLe_n (aLe_n aLe_0))))))))) ?_
              exact ih_18 _ (by have hm9 := Sh0_e hq_18; omega) hh (at_ + 1) J_115 rfl ⟨kJ_115, ⟨by omega, by omega⟩, _, zFin_at hW.2 (by omega), zSK_pn hsk1 ((congrFun eJ_115 17).trans (up2_row ..)) (by omega) (by omega) (by omega), (by rw [List.length_cons]; omega), (by rw [List.length_cons]; omega)⟩
          · simp only [w32_mod] at h_84
            exfalso
            omega
        · simp only [w32_mod] at h_35
          have hW := zW_p hF2 (by omega) (by omega)
          refine ww_iload hX (pc := 38) dX0_works_38 rfl ?_
          refine ww_bipush hX (pc := 40) (x := 64) dX0_works_40 (by decide) ?_
          refine ww_icmp_lt hX (pc := 42) (tgt := 47) dX0_works_42 (by decide) (fun h_42 => ?_) (fun h_42 => ?_)
          · simp only [w32_mod] at h_42
            refine ww_aload_n hX (pc := 47) dX0_works_47 rfl ?_
            refine ww_getR hX (pc := 48) fX0_17 (by decide) (xs_15 hL) (xr_15_1 hL) dX0_works_48 ?_
            refine ww_iload hX (pc := 51) dX0_works_51 rfl ?_
            refine ww_iload hX (pc := 53) dX0_works_53 rfl ?_
            refine ww_if_lt hX (pc := 55) (tgt := 64) dX0_works_55 (by decide) (fun h_55 => ?_) (fun h_55 => ?_)
            · simp only [w32_mod] at h_55
              refine ww_aload_n hX (pc := 64) dX0_works_64 rfl ?_
              refine ww_getR hX (pc := 65) fX0_11 (by decide) (xs_15 hL) (xr_15_0 hL) dX0_works_65 ?_
              refine ww_iconst hX (pc := 68) (x := (-1)) dX0_works_68 rfl ?_
              refine ww_iload hX (pc := 69) dX0_works_69 rfl ?_
              refine ww_isub hX (pc := 71) dX0_works_71 ?_
              refine ww_iald hX (pc := 72) (xs_16 hL) (by decide) (by omega) (by omega) dX0_works_72 ?_
              refine ww_i2l hX (pc := 73) dX0_works_73 ?_
              obtain ⟨w9, hw9⟩ : ∃ w, (if 0 ≤ Ia k at_.toNat then Ia k at_.toNat else en (-1 - Ia k at_.toNat).toNat) = w := ⟨_, rfl⟩
              have hF9 := hW.2
              rw [hw9] at hF9
              have he9 := hen (-1 - v_29).toNat (by omega)
              rw [if_neg (by omega), ← hv_29] at hw9
              have hz9 := w32_id (x := Ia 16 (-1 - v_29).toNat) (by omega) (by omega)
              refine ww_last hX (pc := 74) (xs_17 hL) (by decide) (by omega) (by omega) dX0_works_74 ?_
              refine ww_nmK (fun J_74 eJ_74 => ?_)
              have kJ_74 : Kp 15 18 Ja J_74 := by rw [eJ_74]; exact Kp_up kJ2 _ _ (by decide)
              refine ww_iinc hX (pc := 75) (lv' := [some (kR (some 15)), some (kR (some k)), some (kI a), some (kI b), some (kI (hh + 1)), some (kI v_9), some (kI at_), some (kI v_29), none]) dX0_works_75 rfl (by decide) rfl rfl ?_
              refine ww_goto hX (pc := 78) (tgt := 235) dX0_works_78 (by decide) ?_
              refine ww_iinc hX (pc := 235) (lv' := [some (kR (some 15)), some (kR (some k)), some (kI a), some (kI b), some (kI (hh + 1)), some (kI v_9), some (kI (at_ + 1)), some (kI v_29), none]) dX0_works_235 rfl (by decide) rfl rfl ?_
              refine ww_goto hX (pc := 238) (tgt := 18) dX0_works_238 (by decide) ?_
              refine ww_sub [some (kR (some 15)), some (kR (some k)), some (kI a), some (kI b), some (kI (hh + 1)), some (kI v_9), some (kI (at_ + 1)), none, none] (aLe_s (aLe_s (aLe_s (aLe_s (aLe_s (aLe_s (aLe_s (aLe_n (aLe_n aLe_0))))))))) ?_
              exact ih_18 _ (by have hm9 := Sh0_e hq_18; omega) (hh + 1) (at_ + 1) J_74 rfl ⟨kJ_74, ⟨by omega, by omega⟩, _, zFin_at hF9 (by omega), zSK_pn hSK ((congrFun eJ_74 17).trans (up2_row ..)) (by omega) (by omega) (by omega), (by rw [List.length_cons]; omega), (by rw [List.length_cons]; omega)⟩
            · simp only [w32_mod] at h_55
              refine ww_iload hX (pc := 58) dX0_works_58 rfl ?_
              refine ww_i2l hX (pc := 60) dX0_works_60 ?_
              refine ww_goto hX (pc := 61) (tgt := 74) dX0_works_61 (by decide) ?_
              obtain ⟨w9, hw9⟩ : ∃ w, (if 0 ≤ Ia k at_.toNat then Ia k at_.toNat else en (-1 - Ia k at_.toNat).toNat) = w := ⟨_, rfl⟩
              have hF9 := hW.2
              rw [hw9] at hF9
              rw [if_pos (by omega), ← hv_29] at hw9
              have hz9 := w32_id (x := v_29) (by omega) (by omega)
              refine ww_last hX (pc := 74) (xs_17 hL) (by decide) (by omega) (by omega) dX0_works_74 ?_
              refine ww_nmK (fun J_74 eJ_74 => ?_)
              have kJ_74 : Kp 15 18 Ja J_74 := by rw [eJ_74]; exact Kp_up kJ2 _ _ (by decide)
              refine ww_iinc hX (pc := 75) (lv' := [some (kR (some 15)), some (kR (some k)), some (kI a), some (kI b), some (kI (hh + 1)), some (kI v_9), some (kI at_), some (kI v_29), none]) dX0_works_75 rfl (by decide) rfl rfl ?_
              refine ww_goto hX (pc := 78) (tgt := 235) dX0_works_78 (by decide) ?_
              refine ww_iinc hX (pc := 235) (lv' := [some (kR (some 15)), some (kR (some k)), some (kI a), some (kI b), some (kI (hh + 1)), some (kI v_9), some (kI (at_ + 1)), some (kI v_29), none]) dX0_works_235 rfl (by decide) rfl rfl ?_
              refine ww_goto hX (pc := 238) (tgt := 18) dX0_works_238 (by decide) ?_
              refine ww_sub [some (kR (some 15)), some (kR (some k)), some (kI a), some (kI b), some (kI (hh + 1)), some (kI v_9), some (kI (at_ + 1)), none, none] (aLe_s (aLe_s (aLe_s (aLe_s (aLe_s (aLe_s (aLe_s (aLe_n (aLe_n aLe_0))))))))) ?_
              exact ih_18 _ (by have hm9 := Sh0_e hq_18; omega) (hh + 1) (at_ + 1) J_74 rfl ⟨kJ_74, ⟨by omega, by omega⟩, _, zFin_at hF9 (by omega), zSK_pn hSK ((congrFun eJ_74 17).trans (up2_row ..)) (by omega) (by omega) (by omega), (by rw [List.length_cons]; omega), (by rw [List.length_cons]; omega)⟩
          · simp only [w32_mod] at h_42
            exfalso
            have := hW.1
            omega
  exact hl_18 _ 0 v_16 Ja rfl ⟨(Kp_rf (a := 15) (b := 18)), ⟨by omega, by omega⟩, [], zFin_at hF (by omega), trivial, rfl, Nat.zero_le _⟩
