section
/-! the class's steps -/
theorem zFin_at {sp : Nat → Int} {en : zE} {B a a' : Nat} {s : List Int} {r : Option Int} (h : zFin sp en B a s r) (e : a = a') : zFin sp en B a' s r := e ▸ h
theorem zW_p {sp : Nat → Int} {en : zE} {B a : Nat} {s : List Int} {r : Option Int} (h : zFin sp en B a s r) (ha : a < B) (hp : -8 ≤ sp a) : s.length < 64 ∧ zFin sp en B (a + 1) ((if 0 ≤ sp a then sp a else en (-1 - sp a).toNat) :: s) r := by
  by_cases hl : s.length < 64
  · refine ⟨hl, ?_⟩
    have e := zst_p (en := en) (B := B) hp hl
    rcases zFin_st h ha with ⟨h1, -⟩ | ⟨a1, s1, h1, h2⟩
    · rw [e] at h1; cases h1
    · rw [e] at h1; cases h1; exact h2
  · exfalso
    have e : zst sp en B a s = none := by
      unfold zst
      rw [if_pos hp, if_neg hl]
    rcases zFin_st h ha with ⟨h1, -⟩ | ⟨a1, s1, h1, h2⟩
    · rw [e] at h1; cases h1
    · rw [e] at h1; cases h1
theorem zW_e {sp : Nat → Int} {en : zE} {B a : Nat} {s : List Int} {r : Option Int} (h : zFin sp en B a s r) (ha : a < B) (hp : sp a < -8) : 1 ≤ s.length := by
  cases s with
  | cons v s => exact Nat.succ_le_succ (Nat.zero_le _)
  | nil =>
    exfalso
    have e : zst sp en B a [] = none := by
      unfold zst
      rw [if_neg (by omega)]
    rcases zFin_st h ha with ⟨h1, -⟩ | ⟨a1, s1, h1, h2⟩
    · rw [e] at h1; cases h1
    · rw [e] at h1; cases h1
theorem zW_f {sp : Nat → Int} {en : zE} {B a : Nat} {v : Int} {s : List Int} {r : Option Int} (h : zFin sp en B a (v :: s) r) (ha : a < B) (hp : sp a = -19) : (v = 0 ∨ v = 1) ∧ zFin sp en B (a + 1) ((1 - v) :: s) r := by
  by_cases hv : v = 0 ∨ v = 1
  · refine ⟨hv, ?_⟩
    have e := zst_f (en := en) (B := B) (s := s) hp hv
    rcases zFin_st h ha with ⟨h1, -⟩ | ⟨a1, s1, h1, h2⟩
    · rw [e] at h1; cases h1
    · rw [e] at h1; cases h1; exact h2
  · exfalso
    have e : zst sp en B a (v :: s) = none := by
      unfold zst
      rw [if_neg (by omega)]
      show (if sp a = -19 then _ else _) = _
      rw [if_pos hp, if_neg hv]
    rcases zFin_st h ha with ⟨h1, -⟩ | ⟨a1, s1, h1, h2⟩
    · rw [e] at h1; cases h1
    · rw [e] at h1; cases h1
theorem zW_j {sp : Nat → Int} {en : zE} {B a : Nat} {v : Int} {s : List Int} {r : Option Int} (h : zFin sp en B a (v :: s) r) (ha : a < B) (hp : sp a = -20 ∨ sp a = -21) : a + 1 < B ∧ ((sp a = -20 ∧ ¬ v = 0) ∨ (sp a = -21 ∧ v = 0) → zFin sp en B (max (a + 2) (sp (a + 1)).toNat) (v :: s) r) ∧ (¬ ((sp a = -20 ∧ ¬ v = 0) ∨ (sp a = -21 ∧ v = 0)) → zFin sp en B (a + 2) s r) := by
  by_cases hB : a + 1 < B
  · refine ⟨hB, fun hc => ?_, fun hc => ?_⟩
    · have e := zst_jt (en := en) (s := s) hp hB hc
      rcases zFin_st h ha with ⟨h1, -⟩ | ⟨a1, s1, h1, h2⟩
      · rw [e] at h1; cases h1
      · rw [e] at h1; cases h1; exact h2
    · have e := zst_jf (en := en) (s := s) hp hB hc
      rcases zFin_st h ha with ⟨h1, -⟩ | ⟨a1, s1, h1, h2⟩
      · rw [e] at h1; cases h1
      · rw [e] at h1; cases h1; exact h2
  · exfalso
    have e : zst sp en B a (v :: s) = none := by
      unfold zst
      rw [if_neg (by omega)]
      show (if sp a = -19 then _ else _) = _
      rw [if_neg (by omega), if_pos hp, if_neg hB]
    rcases zFin_st h ha with ⟨h1, -⟩ | ⟨a1, s1, h1, h2⟩
    · rw [e] at h1; cases h1
    · rw [e] at h1; cases h1
theorem zW_o {sp : Nat → Int} {en : zE} {B a : Nat} {v : Int} {s : List Int} {r : Option Int} (h : zFin sp en B a (v :: s) r) (ha : a < B) (hp : sp a ≤ -9 ∧ ¬ sp a = -19 ∧ ¬ sp a = -20 ∧ ¬ sp a = -21) : ∃ u s2, s = u :: s2 ∧ (zJn (zOc (sp a)) u v = none → r = none) ∧ (∀ w, zJn (zOc (sp a)) u v = some w → zFin sp en B (a + 1) (w :: s2) r) := by
  cases s with
  | nil =>
    exfalso
    have e : zst sp en B a [v] = none := by
      unfold zst
      rw [if_neg (by omega)]
      show (if sp a = -19 then _ else _) = _
      rw [if_neg (by omega), if_neg (by omega)]
    rcases zFin_st h ha with ⟨h1, -⟩ | ⟨a1, s1, h1, h2⟩
    · rw [e] at h1; cases h1
    · rw [e] at h1; cases h1
  | cons u s2 =>
    have e := zst_o (en := en) (B := B) (s := s2) (u := u) (v := v) hp
    refine ⟨u, s2, rfl, fun hn => ?_, fun w hw => ?_⟩
    · rw [hn] at e
      rcases zFin_st h ha with ⟨-, h1⟩ | ⟨a1, s1, h1, h2⟩
      · exact h1
      · rw [e] at h1; cases h1
    · rw [hw] at e
      rcases zFin_st h ha with ⟨h1, -⟩ | ⟨a1, s1, h1, h2⟩
      · rw [e] at h1; cases h1
      · rw [e] at h1; cases h1; exact h2
theorem zL_cons {s : List Int} (h : 1 ≤ s.length) : ∃ v s1, s = v :: s1 := by
  cases s with
  | nil => exact absurd h (by decide)
  | cons v s1 => exact ⟨v, s1, rfl⟩
theorem zSK_pn {F G : Nat → Int} {s : List Int} {w val : Int} {j : Nat} (h : zSK F s) (hG : G = up1 F j val) (hj : j = s.length) (hv : w = val) (hw : -1000000000 ≤ w ∧ w ≤ 1000000000) : zSK G (w :: s) := by
  rw [hG, hj, ← hv]
  exact zSK_pu h hw
theorem zJo_1 {op u v x : Int} {b : Nat} {F G : Nat → Int} (h : zJo op u v b x F G) (hx : ¬ x = 0) : ∃ w, zJn op u v = some w ∧ G = up1 F b w := by
  cases hj : zJn op u v with
  | none => exact absurd (h.1 hj) hx
  | some w => exact ⟨w, rfl, (h.2 w hj).2⟩
theorem zJo_z {op u v x : Int} {b : Nat} {F G : Nat → Int} (h : zJo op u v b x F G) (hx : ¬ x = 1) : zJn op u v = none := by
  cases hj : zJn op u v with
  | none => rfl
  | some w => exact absurd (h.2 w hj).1 hx
/-- what works answers -/
def zWv (r : Option Int) (x y : Int) : Prop := (r = none → x = 0) ∧ (∀ w, r = some w → x = 1 ∧ y = w ∧ -1000000000 ≤ w ∧ w ≤ 1000000000)
theorem zWv_n {r : Option Int} {x y : Int} (h : r = none) (hx : x = 0) : zWv r x y := by
  rw [h]
  exact ⟨fun _ => hx, fun w hw => (by cases hw)⟩
theorem zWv_s {r : Option Int} {x y w : Int} (h : r = some w) (hx : x = 1) (hy : y = w) (hw : -1000000000 ≤ w ∧ w ≤ 1000000000) : zWv r x y := by
  rw [h]
  exact ⟨fun hn => (by cases hn), fun u hu => (by cases hu; exact ⟨hx, hy, hw⟩)⟩
set_option maxHeartbeats 4000000 in
set_option maxRecDepth 20000 in
theorem c6_X0_works (l0 : Launch) {Ia Ja : aI1} {Ra : aR1} {Sa : aS1} (hL : LY Ra Sa) {k n : Nat} (hsk : Sa[k]? = some (0, n)) (hn : n ≤ 65536) (hst : (∀ j, j < n → -10000 ≤ Ia k j ∧ Ia k j ≤ 10000)) {a b : Int} (ha0 : 0 ≤ a) (hab : a ≤ b) (hbn : b ≤ n) {en : zE} (hen : ∀ j, j < 8 → Ia 16 j = en j ∧ -1000 ≤ en j ∧ en j ≤ 1000) {r : Option Int} (hF : zFin (Ia k) en b.toNat a.toNat [] r)  : CT l0 1 0 0 mX0_works [kR (some 15), kR (some k), kI a, kI b] Ia Ja Ra Sa (cI (fun x I' J' => Ia = I' ∧ Kp 15 18 Ja J' ∧ (x = 0 ∨ x = 1) ∧ zWv r x (J' 17 0)) Ra Sa) := by
  refine ct_in pn_X0 (Nat.le_of_ble_eq_true rfl) (fun X hX hT hIn => ?_)
  have hX : aK l0 X cX0_works 9 RX0 (some .boolean) 1 0 0 := hX
  change WW X 0 [some (kR (some 15)), some (kR (some k)), some (kI a), some (kI b), none, none, none, none, none] [] Ia Ja Ra Sa 0 0
  refine ww_iconst hX (pc := 0) (x := 0) dX0_works_0 rfl ?_
  refine ww_istore hX (pc := 1) (lv' := [some (kR (some 15)), some (kR (some k)), some (kI a), some (kI b), some (kI 0), none, none, none, none]) dX0_works_1 (by decide) rfl rfl ?_
  refine ww_iload_n hX (pc := 3) dX0_works_3 rfl ?_
  refine ww_aload_n hX (pc := 4) dX0_works_4 rfl ?_
  refine ww_alen hX (pc := 5) (by decide) hsk dX0_works_5 ?_
  refine ww_mmin hX (pc := 6) tb_712 tb_579 tb_13 tb_580 (by decide) (Nat.le_refl 0) (Nat.le_refl 0) (Nat.le_of_ble_eq_true rfl) dX0_works_6 ?_
  refine ww_nmI (fun v_9 hv_9 => ?_)
  refine ww_istore hX (pc := 9) (lv' := [some (kR (some 15)), some (kR (some k)), some (kI a), some (kI b), some (kI 0), some (kI v_9), none, none, none]) dX0_works_9 (by decide) rfl rfl ?_
  rw [i_min_r (by omega) (by omega) (by omega) (by omega)] at hv_9
  refine ww_iconst hX (pc := 11) (x := 0) dX0_works_11 rfl ?_
  refine ww_iload_n hX (pc := 12) dX0_works_12 rfl ?_
  refine ww_mmax hX (pc := 13) tb_713 tb_460 tb_13 tb_461 (by decide) (Nat.le_refl 0) (Nat.le_refl 0) (Nat.le_of_ble_eq_true rfl) dX0_works_13 ?_
  refine ww_nmI (fun v_16 hv_16 => ?_)
  refine ww_istore hX (pc := 16) (lv' := [some (kR (some 15)), some (kR (some k)), some (kI a), some (kI b), some (kI 0), some (kI v_9), some (kI v_16), none, none]) dX0_works_16 (by decide) rfl rfl ?_
  rw [i_max_r (by omega) (by omega) (by omega) (by omega)] at hv_16
  have hl_18 : ∀ (n_18 : Nat) (hh : Int) (at_ : Int) (J2 : aI1), ((n : Int) - at_).toNat = n_18 → (Kp 15 18 Ja J2 ∧ (0 ≤ at_ ∧ at_ ≤ 2147483647) ∧ ∃ s : List Int, zFin (Ia k) en b.toNat at_.toNat s r ∧ zSK (J2 17) s ∧ hh = s.length ∧ s.length ≤ 64) → WW X 18 [some (kR (some 15)), some (kR (some k)), some (kI a), some (kI b), some (kI hh), some (kI v_9), some (kI at_), none, none] [] Ia J2 Ra Sa 0 0 := by
    intro n_18
    induction n_18 using Nat.strongRecOn with
    | ind n_18 ih_18 =>
      intro hh at_ J2 hm_18 hv_18
      have hq_18 := Sh0_i hm_18
      clear hm_18
      obtain ⟨kJ2, ⟨ha2, ha3⟩, s, hF2, hSK, hh2, hh3⟩ := hv_18
      refine ww_iload hX (pc := 18) dX0_works_18 rfl ?_
      refine ww_iload hX (pc := 20) dX0_works_20 rfl ?_
      refine ww_icmp_ge hX (pc := 22) (tgt := 241) dX0_works_22 (by decide) (fun h_22 => ?_) (fun h_22 => ?_)
      · simp only [w32_mod] at h_22
        obtain ⟨w9, hr9, rfl⟩ := zFin_en hF2 (by omega)
        rw [List.length_cons, List.length_nil] at hh2
        refine ww_iload hX (pc := 241) dX0_works_241 rfl ?_
        refine ww_iconst hX (pc := 243) (x := 1) dX0_works_243 rfl ?_
        refine ww_icmp_ne hX (pc := 244) (tgt := 251) dX0_works_244 (by decide) (fun h_244 => ?_) (fun h_244 => ?_)
        · simp only [w32_mod] at h_244
          exfalso
          omega
        · simp only [w32_mod] at h_244
          refine ww_iconst hX (pc := 247) (x := 1) dX0_works_247 rfl ?_
          refine ww_goto hX (pc := 248) (tgt := 252) dX0_works_248 (by decide) ?_
          refine rZ hX (pc := 252) hT (Nat.le_refl 0) (Nat.le_refl 0) dX0_works_252 (by decide) ?_
          exact ⟨rfl, kJ2, by omega, zWv_s hr9 (by omega) hSK.1 hSK.2.1⟩
      · simp only [w32_mod] at h_22
        refine ww_aload_n hX (pc := 25) dX0_works_25 rfl ?_
        refine ww_iload hX (pc := 26) dX0_works_26 rfl ?_
        refine ww_iald hX (pc := 28) hsk (by omega) (by omega) (by omega) dX0_works_28 ?_
        refine ww_nmI (fun v_29 hv_29 => ?_)
        refine ww_istore hX (pc := 29) (lv' := [some (kR (some 15)), some (kR (some k)), some (kI a), some (kI b), some (kI hh), some (kI v_9), some (kI at_), some (kI v_29), none]) dX0_works_29 (by decide) rfl rfl ?_
        have hs1 := hst at_.toNat (by omega)
        refine ww_iload hX (pc := 31) dX0_works_31 rfl ?_
        refine ww_bipush hX (pc := 33) (x := (-8)) dX0_works_33 (by decide) ?_
        refine ww_icmp_lt hX (pc := 35) (tgt := 81) dX0_works_35 (by decide) (fun h_35 => ?_) (fun h_35 => ?_)
        · simp only [w32_mod] at h_35
          have hlow := zW_e hF2 (by omega) (by omega)
          refine ww_iload hX (pc := 81) dX0_works_81 rfl ?_
          refine ww_iconst hX (pc := 83) (x := 1) dX0_works_83 rfl ?_
          refine ww_icmp_ge hX (pc := 84) (tgt := 89) dX0_works_84 (by decide) (fun h_84 => ?_) (fun h_84 => ?_)
          · simp only [w32_mod] at h_84
            obtain ⟨v, s1, rfl⟩ := zL_cons hlow
            rw [List.length_cons] at hh2 hh3
            obtain ⟨hv0, hvr, hsk1⟩ := id hSK
            refine ww_iload hX (pc := 89) dX0_works_89 rfl ?_
            refine ww_bipush hX (pc := 91) (x := (-19)) dX0_works_91 (by decide) ?_
            refine ww_icmp_ne hX (pc := 93) (tgt := 119) dX0_works_93 (by decide) (fun h_93 => ?_) (fun h_93 => ?_)
            · simp only [w32_mod] at h_93
              refine ww_iload hX (pc := 119) dX0_works_119 rfl ?_
              refine ww_bipush hX (pc := 121) (x := (-20)) dX0_works_121 (by decide) ?_
              refine ww_icmp_eq hX (pc := 123) (tgt := 133) dX0_works_123 (by decide) (fun h_123 => ?_) (fun h_123 => ?_)
              · simp only [w32_mod] at h_123
                obtain ⟨hj1, hj2, hj3⟩ := zW_j hF2 (by omega) (by omega)
                refine ww_iinc hX (pc := 133) (lv' := [some (kR (some 15)), some (kR (some k)), some (kI a), some (kI b), some (kI hh), some (kI v_9), some (kI (at_ + 1)), some (kI v_29), none]) dX0_works_133 rfl (by decide) rfl rfl ?_
                refine ww_aload_n hX (pc := 136) dX0_works_136 rfl ?_
                refine ww_getR hX (pc := 137) fX0_17 (by decide) (xs_15 hL) (xr_15_1 hL) dX0_works_137 ?_
                refine ww_iload hX (pc := 140) dX0_works_140 rfl ?_
                refine ww_iconst hX (pc := 142) (x := 1) dX0_works_142 rfl ?_
                refine ww_isub hX (pc := 143) dX0_works_143 ?_
                refine ww_lald hX (pc := 144) (xs_17 hL) (by decide) (by omega) (by omega) dX0_works_144 ?_
                refine ww_lconst hX (pc := 145) (x := 0) dX0_works_145 (by decide) ?_
                have e1 : J2 17 (hh - 1).toNat = v := by rw [show (hh - 1).toNat = s1.length by omega]; exact hv0
                have hl6 := l_cmp_v (J2 17 (hh - 1).toNat) 0
                have hw6 := w64_id (x := J2 17 (hh - 1).toNat) (by omega) (by omega)
                have hk6 : w64 0 = 0 := rfl
                refine ww_lcmp hX (pc := 146) dX0_works_146 ?_
                refine ww_if_eq hX (pc := 147) (tgt := 154) dX0_works_147 (by decide) (fun h_147 => ?_) (fun h_147 => ?_)
                · simp only [w32_mod] at h_147
                  refine ww_iconst hX (pc := 154) (x := 0) dX0_works_154 rfl ?_
                  refine ww_iload hX (pc := 155) dX0_works_155 rfl ?_
                  refine ww_bipush hX (pc := 157) (x := (-20)) dX0_works_157 (by decide) ?_
                  refine ww_icmp_ne hX (pc := 159) (tgt := 166) dX0_works_159 (by decide) (fun h_159 => ?_) (fun h_159 => ?_)
                  · simp only [w32_mod] at h_159
                    refine ww_iconst hX (pc := 166) (x := 0) dX0_works_166 rfl ?_
                    refine ww_icmp_ne hX (pc := 167) (tgt := 174) dX0_works_167 (by decide) (fun h_167 => ?_) (fun h_167 => ?_)
                    · simp only [w32_mod] at h_167
                      exfalso
                      first | omega | simp at h_167
                    · simp only [w32_mod] at h_167
                      refine ww_iconst hX (pc := 170) (x := 1) dX0_works_170 rfl ?_
                      refine ww_goto hX (pc := 171) (tgt := 175) dX0_works_171 (by decide) ?_
                      refine ww_istore hX (pc := 175) (lv' := [some (kR (some 15)), some (kR (some k)), some (kI a), some (kI b), some (kI hh), some (kI v_9), some (kI (at_ + 1)), some (kI v_29), some (kI 1)]) dX0_works_175 (by decide) rfl rfl ?_
                      refine ww_iload hX (pc := 177) dX0_works_177 rfl ?_
                      refine ww_if_ne hX (pc := 179) (tgt := 188) dX0_works_179 (by decide) (fun h_179 => ?_) (fun h_179 => ?_)
                      · simp only [w32_mod] at h_179
                        refine ww_iload hX (pc := 188) dX0_works_188 rfl ?_
                        refine ww_iload hX (pc := 190) dX0_works_190 rfl ?_
                        refine ww_icmp_ge hX (pc := 192) (tgt := 208) dX0_works_192 (by decide) (fun h_192 => ?_) (fun h_192 => ?_)
                        · simp only [w32_mod] at h_192
                          exfalso
                          omega
                        · simp only [w32_mod] at h_192
                          have hs2 := hst (at_ + 1).toNat (by omega)
                          have e2 : Ia k (at_ + 1).toNat = Ia k (at_.toNat + 1) := congrArg _ (by omega)
                          refine ww_iload hX (pc := 195) dX0_works_195 rfl ?_
                          refine ww_aload_n hX (pc := 197) dX0_works_197 rfl ?_
                          refine ww_iload hX (pc := 198) dX0_works_198 rfl ?_
                          refine ww_iald hX (pc := 200) hsk (by omega) (by omega) (by omega) dX0_works_200 ?_
                          refine ww_iconst hX (pc := 201) (x := 1) dX0_works_201 rfl ?_
                          refine ww_isub hX (pc := 202) dX0_works_202 ?_
                          refine ww_mmax hX (pc := 203) tb_713 tb_460 tb_13 tb_461 (by decide) (Nat.le_refl 0) (Nat.le_refl 0) (Nat.le_of_ble_eq_true rfl) dX0_works_203 ?_
                          refine ww_nmI (fun v_206 hv_206 => ?_)
                          refine ww_istore hX (pc := 206) (lv' := [some (kR (some 15)), some (kR (some k)), some (kI a), some (kI b), some (kI hh), some (kI v_9), some (kI v_206), some (kI v_29), some (kI 1)]) dX0_works_206 (by decide) rfl rfl ?_
                          rw [i_max_r (by omega) (by omega) (by omega) (by omega)] at hv_206
                          refine ww_goto hX (pc := 208) (tgt := 235) dX0_works_208 (by decide) ?_
                          refine ww_iinc hX (pc := 235) (lv' := [some (kR (some 15)), some (kR (some k)), some (kI a), some (kI b), some (kI hh), some (kI v_9), some (kI (v_206 + 1)), some (kI v_29), some (kI 1)]) dX0_works_235 rfl (by decide) rfl rfl ?_
                          refine ww_goto hX (pc := 238) (tgt := 18) dX0_works_238 (by decide) ?_
                          refine ww_sub [some (kR (some 15)), some (kR (some k)), some (kI a), some (kI b), some (kI hh), some (kI v_9), some (kI (v_206 + 1)), none, none] (aLe_s (aLe_s (aLe_s (aLe_s (aLe_s (aLe_s (aLe_s (aLe_n (aLe_n aLe_0))))))))) ?_
                          exact ih_18 _ (by have hm9 := Sh0_e hq_18; omega) hh (v_206 + 1) J2 rfl ⟨kJ2, ⟨by omega, by omega⟩, _, zFin_at (hj2 (by omega)) (by omega), hSK, (by rw [List.length_cons]; omega), (by rw [List.length_cons]; omega)⟩
                      · simp only [w32_mod] at h_179
                        exfalso
                        first | omega | simp at h_179
                  · simp only [w32_mod] at h_159
                    refine ww_iconst hX (pc := 162) (x := 1) dX0_works_162 rfl ?_
                    refine ww_goto hX (pc := 163) (tgt := 167) dX0_works_163 (by decide) ?_
                    refine ww_icmp_ne hX (pc := 167) (tgt := 174) dX0_works_167 (by decide) (fun h_167 => ?_) (fun h_167 => ?_)
                    · simp only [w32_mod] at h_167
                      refine ww_iconst hX (pc := 174) (x := 0) dX0_works_174 rfl ?_
                      refine ww_istore hX (pc := 175) (lv' := [some (kR (some 15)), some (kR (some k)), some (kI a), some (kI b), some (kI hh), some (kI v_9), some (kI (at_ + 1)), some (kI v_29), some (kI 0)]) dX0_works_175 (by decide) rfl rfl ?_
                      refine ww_iload hX (pc := 177) dX0_works_177 rfl ?_
                      refine ww_if_ne hX (pc := 179) (tgt := 188) dX0_works_179 (by decide) (fun h_179 => ?_) (fun h_179 => ?_)
                      · simp only [w32_mod] at h_179
                        exfalso
                        first | omega | simp at h_179
                      · simp only [w32_mod] at h_179
                        refine ww_iinc hX (pc := 182) (lv' := [some (kR (some 15)), some (kR (some k)), some (kI a), some (kI b), some (kI (hh + (-1))), some (kI v_9), some (kI (at_ + 1)), some (kI v_29), some (kI 0)]) dX0_works_182 rfl (by decide) rfl rfl ?_
                        refine ww_goto hX (pc := 185) (tgt := 208) dX0_works_185 (by decide) ?_
                        refine ww_goto hX (pc := 208) (tgt := 235) dX0_works_208 (by decide) ?_
                        refine ww_iinc hX (pc := 235) (lv' := [some (kR (some 15)), some (kR (some k)), some (kI a), some (kI b), some (kI (hh + (-1))), some (kI v_9), some (kI ((at_ + 1) + 1)), some (kI v_29), some (kI 0)]) dX0_works_235 rfl (by decide) rfl rfl ?_
                        refine ww_goto hX (pc := 238) (tgt := 18) dX0_works_238 (by decide) ?_
                        refine ww_sub [some (kR (some 15)), some (kR (some k)), some (kI a), some (kI b), some (kI (hh + (-1))), some (kI v_9), some (kI ((at_ + 1) + 1)), none, none] (aLe_s (aLe_s (aLe_s (aLe_s (aLe_s (aLe_s (aLe_s (aLe_n (aLe_n aLe_0))))))))) ?_
                        exact ih_18 _ (by have hm9 := Sh0_e hq_18; omega) (hh + (-1)) ((at_ + 1) + 1) J2 rfl ⟨kJ2, ⟨by omega, by omega⟩, s1, zFin_at (hj3 (by omega)) (by omega), hsk1, by omega, by omega⟩
                    · simp only [w32_mod] at h_167
                      exfalso
                      first | omega | simp at h_167
                · simp only [w32_mod] at h_147
                  refine ww_iconst hX (pc := 150) (x := 1) dX0_works_150 rfl ?_
                  refine ww_goto hX (pc := 151) (tgt := 155) dX0_works_151 (by decide) ?_
                  refine ww_iload hX (pc := 155) dX0_works_155 rfl ?_
                  refine ww_bipush hX (pc := 157) (x := (-20)) dX0_works_157 (by decide) ?_
                  refine ww_icmp_ne hX (pc := 159) (tgt := 166) dX0_works_159 (by decide) (fun h_159 => ?_) (fun h_159 => ?_)
                  · simp only [w32_mod] at h_159
                    refine ww_iconst hX (pc := 166) (x := 0) dX0_works_166 rfl ?_
                    refine ww_icmp_ne hX (pc := 167) (tgt := 174) dX0_works_167 (by decide) (fun h_167 => ?_) (fun h_167 => ?_)
                    · simp only [w32_mod] at h_167
                      refine ww_iconst hX (pc := 174) (x := 0) dX0_works_174 rfl ?_
                      refine ww_istore hX (pc := 175) (lv' := [some (kR (some 15)), some (kR (some k)), some (kI a), some (kI b), some (kI hh), some (kI v_9), some (kI (at_ + 1)), some (kI v_29), some (kI 0)]) dX0_works_175 (by decide) rfl rfl ?_
                      refine ww_iload hX (pc := 177) dX0_works_177 rfl ?_
                      refine ww_if_ne hX (pc := 179) (tgt := 188) dX0_works_179 (by decide) (fun h_179 => ?_) (fun h_179 => ?_)
                      · simp only [w32_mod] at h_179
                        exfalso
                        first | omega | simp at h_179
                      · simp only [w32_mod] at h_179
                        refine ww_iinc hX (pc := 182) (lv' := [some (kR (some 15)), some (kR (some k)), some (kI a), some (kI b), some (kI (hh + (-1))), some (kI v_9), some (kI (at_ + 1)), some (kI v_29), some (kI 0)]) dX0_works_182 rfl (by decide) rfl rfl ?_
                        refine ww_goto hX (pc := 185) (tgt := 208) dX0_works_185 (by decide) ?_
                        refine ww_goto hX (pc := 208) (tgt := 235) dX0_works_208 (by decide) ?_
                        refine ww_iinc hX (pc := 235) (lv' := [some (kR (some 15)), some (kR (some k)), some (kI a), some (kI b), some (kI (hh + (-1))), some (kI v_9), some (kI ((at_ + 1) + 1)), some (kI v_29), some (kI 0)]) dX0_works_235 rfl (by decide) rfl rfl ?_
                        refine ww_goto hX (pc := 238) (tgt := 18) dX0_works_238 (by decide) ?_
                        refine ww_sub [some (kR (some 15)), some (kR (some k)), some (kI a), some (kI b), some (kI (hh + (-1))), some (kI v_9), some (kI ((at_ + 1) + 1)), none, none] (aLe_s (aLe_s (aLe_s (aLe_s (aLe_s (aLe_s (aLe_s (aLe_n (aLe_n aLe_0))))))))) ?_
                        exact ih_18 _ (by have hm9 := Sh0_e hq_18; omega) (hh + (-1)) ((at_ + 1) + 1) J2 rfl ⟨kJ2, ⟨by omega, by omega⟩, s1, zFin_at (hj3 (by omega)) (by omega), hsk1, by omega, by omega⟩
                    · simp only [w32_mod] at h_167
                      exfalso
                      first | omega | simp at h_167
                  · simp only [w32_mod] at h_159
                    refine ww_iconst hX (pc := 162) (x := 1) dX0_works_162 rfl ?_
                    refine ww_goto hX (pc := 163) (tgt := 167) dX0_works_163 (by decide) ?_
                    refine ww_icmp_ne hX (pc := 167) (tgt := 174) dX0_works_167 (by decide) (fun h_167 => ?_) (fun h_167 => ?_)
                    · simp only [w32_mod] at h_167
                      exfalso
                      first | omega | simp at h_167
                    · simp only [w32_mod] at h_167
                      refine ww_iconst hX (pc := 170) (x := 1) dX0_works_170 rfl ?_
                      refine ww_goto hX (pc := 171) (tgt := 175) dX0_works_171 (by decide) ?_
                      refine ww_istore hX (pc := 175) (lv' := [some (kR (some 15)), some (kR (some k)), some (kI a), some (kI b), some (kI hh), some (kI v_9), some (kI (at_ + 1)), some (kI v_29), some (kI 1)]) dX0_works_175 (by decide) rfl rfl ?_
                      refine ww_iload hX (pc := 177) dX0_works_177 rfl ?_
                      refine ww_if_ne hX (pc := 179) (tgt := 188) dX0_works_179 (by decide) (fun h_179 => ?_) (fun h_179 => ?_)
                      · simp only [w32_mod] at h_179
                        refine ww_iload hX (pc := 188) dX0_works_188 rfl ?_
                        refine ww_iload hX (pc := 190) dX0_works_190 rfl ?_
                        refine ww_icmp_ge hX (pc := 192) (tgt := 208) dX0_works_192 (by decide) (fun h_192 => ?_) (fun h_192 => ?_)
                        · simp only [w32_mod] at h_192
                          exfalso
                          omega
                        · simp only [w32_mod] at h_192
                          have hs2 := hst (at_ + 1).toNat (by omega)
                          have e2 : Ia k (at_ + 1).toNat = Ia k (at_.toNat + 1) := congrArg _ (by omega)
                          refine ww_iload hX (pc := 195) dX0_works_195 rfl ?_
                          refine ww_aload_n hX (pc := 197) dX0_works_197 rfl ?_
                          refine ww_iload hX (pc := 198) dX0_works_198 rfl ?_
                          refine ww_iald hX (pc := 200) hsk (by omega) (by omega) (by omega) dX0_works_200 ?_
                          refine ww_iconst hX (pc := 201) (x := 1) dX0_works_201 rfl ?_
                          refine ww_isub hX (pc := 202) dX0_works_202 ?_
                          refine ww_mmax hX (pc := 203) tb_713 tb_460 tb_13 tb_461 (by decide) (Nat.le_refl 0) (Nat.le_refl 0) (Nat.le_of_ble_eq_true rfl) dX0_works_203 ?_
                          refine ww_nmI (fun v_206 hv_206 => ?_)
                          refine ww_istore hX (pc := 206) (lv' := [some (kR (some 15)), some (kR (some k)), some (kI a), some (kI b), some (kI hh), some (kI v_9), some (kI v_206), some (kI v_29), some (kI 1)]) dX0_works_206 (by decide) rfl rfl ?_
                          rw [i_max_r (by omega) (by omega) (by omega) (by omega)] at hv_206
                          refine ww_goto hX (pc := 208) (tgt := 235) dX0_works_208 (by decide) ?_
                          refine ww_iinc hX (pc := 235) (lv' := [some (kR (some 15)), some (kR (some k)), some (kI a), some (kI b), some (kI hh), some (kI v_9), some (kI (v_206 + 1)), some (kI v_29), some (kI 1)]) dX0_works_235 rfl (by decide) rfl rfl ?_
                          refine ww_goto hX (pc := 238) (tgt := 18) dX0_works_238 (by decide) ?_
                          refine ww_sub [some (kR (some 15)), some (kR (some k)), some (kI a), some (kI b), some (kI hh), some (kI v_9), some (kI (v_206 + 1)), none, none] (aLe_s (aLe_s (aLe_s (aLe_s (aLe_s (aLe_s (aLe_s (aLe_n (aLe_n aLe_0))))))))) ?_
                          exact ih_18 _ (by have hm9 := Sh0_e hq_18; omega) hh (v_206 + 1) J2 rfl ⟨kJ2, ⟨by omega, by omega⟩, _, zFin_at (hj2 (by omega)) (by omega), hSK, (by rw [List.length_cons]; omega), (by rw [List.length_cons]; omega)⟩
                      · simp only [w32_mod] at h_179
                        exfalso
                        first | omega | simp at h_179
              · simp only [w32_mod] at h_123
                refine ww_iload hX (pc := 126) dX0_works_126 rfl ?_
                refine ww_bipush hX (pc := 128) (x := (-21)) dX0_works_128 (by decide) ?_
                refine ww_icmp_ne hX (pc := 130) (tgt := 211) dX0_works_130 (by decide) (fun h_130 => ?_) (fun h_130 => ?_)
                · simp only [w32_mod] at h_130
                  obtain ⟨u, s2, rfl, ho1, ho2⟩ := zW_o hF2 (by omega) (by omega)
                  rw [List.length_cons] at hh2 hh3 hv0
                  obtain ⟨hu0, hur, hsk2⟩ := hsk1
                  refine ww_iinc hX (pc := 211) (lv' := [some (kR (some 15)), some (kR (some k)), some (kI a), some (kI b), some (kI (hh + (-1))), some (kI v_9), some (kI at_), some (kI v_29), none]) dX0_works_211 rfl (by decide) rfl rfl ?_
                  refine ww_iload hX (pc := 214) dX0_works_214 rfl ?_
                  refine ww_iconst hX (pc := 216) (x := 1) dX0_works_216 rfl ?_
                  refine ww_icmp_lt hX (pc := 217) (tgt := 233) dX0_works_217 (by decide) (fun h_217 => ?_) (fun h_217 => ?_)
                  · simp only [w32_mod] at h_217
                    exfalso
                    omega
                  · simp only [w32_mod] at h_217
                    refine ww_aload_n hX (pc := 220) dX0_works_220 rfl ?_
                    refine ww_iload hX (pc := 221) dX0_works_221 rfl ?_
                    refine ww_iload hX (pc := 223) dX0_works_223 rfl ?_
                    refine ww_iconst hX (pc := 225) (x := 1) dX0_works_225 rfl ?_
                    refine ww_isub hX (pc := 226) dX0_works_226 ?_
                    have hu7 : J2 17 (hh + (-1) - 1).toNat = u := by rw [show (hh + (-1) - 1).toNat = s2.length by omega]; exact hu0
                    have hv7 : J2 17 ((hh + (-1) - 1).toNat + 1) = v := by rw [show (hh + (-1) - 1).toNat = s2.length by omega]; exact hv0
                    refine vI2 hX (pc := 227) sX0_56 (xs_15 hL) (c6_X0_join l0 hL (by omega) (by omega) (by omega) hu7 hv7 hur hvr) (by decide) (Nat.le_refl 0) (Nat.le_refl 0) (Nat.le_of_ble_eq_true rfl) dX0_works_227 (fun x_227 I_227 J_227 h_227 => ?_)
                    obtain ⟨rfl, kj_227, h_227, o_227⟩ := h_227
                    have kJ_227 : Kp 15 18 Ja J_227 := Kp_tr kJ2 kj_227
                    have hj_227 : (hh + (-1) - 1).toNat = s2.length := by omega
                    refine ww_if_ne hX (pc := 230) (tgt := 235) dX0_works_230 (by decide) (fun h_230 => ?_) (fun h_230 => ?_)
                    · simp only [w32_mod] at h_230
                      obtain ⟨w9, hw9, hG9⟩ := zJo_1 o_227 (by omega)
                      have hF4 := ho2 w9 (by rw [← hv_29]; exact hw9)
                      refine ww_iinc hX (pc := 235) (lv' := [some (kR (some 15)), some (kR (some k)), some (kI a), some (kI b), some (kI (hh + (-1))), some (kI v_9), some (kI (at_ + 1)), some (kI v_29), none]) dX0_works_235 rfl (by decide) rfl rfl ?_
                      refine ww_goto hX (pc := 238) (tgt := 18) dX0_works_238 (by decide) ?_
                      refine ww_sub [some (kR (some 15)), some (kR (some k)), some (kI a), some (kI b), some (kI (hh + (-1))), some (kI v_9), some (kI (at_ + 1)), none, none] (aLe_s (aLe_s (aLe_s (aLe_s (aLe_s (aLe_s (aLe_s (aLe_n (aLe_n aLe_0))))))))) ?_
                      exact ih_18 _ (by have hm9 := Sh0_e hq_18; omega) (hh + (-1)) (at_ + 1) J_227 rfl ⟨kJ_227, ⟨by omega, by omega⟩, _, zFin_at hF4 (by omega), zSK_pn hsk2 hG9 hj_227 rfl (zJn_r hw9), (by rw [List.length_cons]; omega), (by rw [List.length_cons]; omega)⟩
                    · simp only [w32_mod] at h_230
                      refine ww_iconst hX (pc := 233) (x := 0) dX0_works_233 rfl ?_
                      refine rZ hX (pc := 234) hT (Nat.le_refl 0) (Nat.le_refl 0) dX0_works_234 (by decide) ?_
                      exact ⟨rfl, kJ_227, by omega, zWv_n (ho1 (by rw [← hv_29]; exact zJo_z o_227 (by omega))) (by omega)⟩
                · simp only [w32_mod] at h_130
                  obtain ⟨hj1, hj2, hj3⟩ := zW_j hF2 (by omega) (by omega)
                  refine ww_iinc hX (pc := 133) (lv' := [some (kR (some 15)), some (kR (some k)), some (kI a), some (kI b), some (kI hh), some (kI v_9), some (kI (at_ + 1)), some (kI v_29), none]) dX0_works_133 rfl (by decide) rfl rfl ?_
                  refine ww_aload_n hX (pc := 136) dX0_works_136 rfl ?_
                  refine ww_getR hX (pc := 137) fX0_17 (by decide) (xs_15 hL) (xr_15_1 hL) dX0_works_137 ?_
                  refine ww_iload hX (pc := 140) dX0_works_140 rfl ?_
                  refine ww_iconst hX (pc := 142) (x := 1) dX0_works_142 rfl ?_
                  refine ww_isub hX (pc := 143) dX0_works_143 ?_
                  refine ww_lald hX (pc := 144) (xs_17 hL) (by decide) (by omega) (by omega) dX0_works_144 ?_
                  refine ww_lconst hX (pc := 145) (x := 0) dX0_works_145 (by decide) ?_
                  have e1 : J2 17 (hh - 1).toNat = v := by rw [show (hh - 1).toNat = s1.length by omega]; exact hv0
                  have hl6 := l_cmp_v (J2 17 (hh - 1).toNat) 0
                  have hw6 := w64_id (x := J2 17 (hh - 1).toNat) (by omega) (by omega)
                  have hk6 : w64 0 = 0 := rfl
                  refine ww_lcmp hX (pc := 146) dX0_works_146 ?_
                  refine ww_if_eq hX (pc := 147) (tgt := 154) dX0_works_147 (by decide) (fun h_147 => ?_) (fun h_147 => ?_)
                  · simp only [w32_mod] at h_147
                    refine ww_iconst hX (pc := 154) (x := 0) dX0_works_154 rfl ?_
                    refine ww_iload hX (pc := 155) dX0_works_155 rfl ?_
                    refine ww_bipush hX (pc := 157) (x := (-20)) dX0_works_157 (by decide) ?_
                    refine ww_icmp_ne hX (pc := 159) (tgt := 166) dX0_works_159 (by decide) (fun h_159 => ?_) (fun h_159 => ?_)
                    · simp only [w32_mod] at h_159
                      refine ww_iconst hX (pc := 166) (x := 0) dX0_works_166 rfl ?_
                      refine ww_icmp_ne hX (pc := 167) (tgt := 174) dX0_works_167 (by decide) (fun h_167 => ?_) (fun h_167 => ?_)
                      · simp only [w32_mod] at h_167
                        exfalso
                        first | omega | simp at h_167
                      · simp only [w32_mod] at h_167
                        refine ww_iconst hX (pc := 170) (x := 1) dX0_works_170 rfl ?_
                        refine ww_goto hX (pc := 171) (tgt := 175) dX0_works_171 (by decide) ?_
                        refine ww_istore hX (pc := 175) (lv' := [some (kR (some 15)), some (kR (some k)), some (kI a), some (kI b), some (kI hh), some (kI v_9), some (kI (at_ + 1)), some (kI v_29), some (kI 1)]) dX0_works_175 (by decide) rfl rfl ?_
                        refine ww_iload hX (pc := 177) dX0_works_177 rfl ?_
                        refine ww_if_ne hX (pc := 179) (tgt := 188) dX0_works_179 (by decide) (fun h_179 => ?_) (fun h_179 => ?_)
                        · simp only [w32_mod] at h_179
                          refine ww_iload hX (pc := 188) dX0_works_188 rfl ?_
                          refine ww_iload hX (pc := 190) dX0_works_190 rfl ?_
                          refine ww_icmp_ge hX (pc := 192) (tgt := 208) dX0_works_192 (by decide) (fun h_192 => ?_) (fun h_192 => ?_)
                          · simp only [w32_mod] at h_192
                            exfalso
                            omega
                          · simp only [w32_mod] at h_192
                            have hs2 := hst (at_ + 1).toNat (by omega)
                            have e2 : Ia k (at_ + 1).toNat = Ia k (at_.toNat + 1) := congrArg _ (by omega)
                            refine ww_iload hX (pc := 195) dX0_works_195 rfl ?_
                            refine ww_aload_n hX (pc := 197) dX0_works_197 rfl ?_
                            refine ww_iload hX (pc := 198) dX0_works_198 rfl ?_
                            refine ww_iald hX (pc := 200) hsk (by omega) (by omega) (by omega) dX0_works_200 ?_
                            refine ww_iconst hX (pc := 201) (x := 1) dX0_works_201 rfl ?_
                            refine ww_isub hX (pc := 202) dX0_works_202 ?_
                            refine ww_mmax hX (pc := 203) tb_713 tb_460 tb_13 tb_461 (by decide) (Nat.le_refl 0) (Nat.le_refl 0) (Nat.le_of_ble_eq_true rfl) dX0_works_203 ?_
                            refine ww_nmI (fun v_206 hv_206 => ?_)
                            refine ww_istore hX (pc := 206) (lv' := [some (kR (some 15)), some (kR (some k)), some (kI a), some (kI b), some (kI hh), some (kI v_9), some (kI v_206), some (kI v_29), some (kI 1)]) dX0_works_206 (by decide) rfl rfl ?_
                            rw [i_max_r (by omega) (by omega) (by omega) (by omega)] at hv_206
                            refine ww_goto hX (pc := 208) (tgt := 235) dX0_works_208 (by decide) ?_
                            refine ww_iinc hX (pc := 235) (lv' := [some (kR (some 15)), some (kR (some k)), some (kI a), some (kI b), some (kI hh), some (kI v_9), some (kI (v_206 + 1)), some (kI v_29), some (kI 1)]) dX0_works_235 rfl (by decide) rfl rfl ?_
                            refine ww_goto hX (pc := 238) (tgt := 18) dX0_works_238 (by decide) ?_
                            refine ww_sub [some (kR (some 15)), some (kR (some k)), some (kI a), some (kI b), some (kI hh), some (kI v_9), some (kI (v_206 + 1)), none, none] (aLe_s (aLe_s (aLe_s (aLe_s (aLe_s (aLe_s (aLe_s (aLe_n (aLe_n aLe_0))))))))) ?_
                            exact ih_18 _ (by have hm9 := Sh0_e hq_18; omega) hh (v_206 + 1) J2 rfl ⟨kJ2, ⟨by omega, by omega⟩, _, zFin_at (hj2 (by omega)) (by omega), hSK, (by rw [List.length_cons]; omega), (by rw [List.length_cons]; omega)⟩
                        · simp only [w32_mod] at h_179
                          exfalso
                          first | omega | simp at h_179
                    · simp only [w32_mod] at h_159
                      refine ww_iconst hX (pc := 162) (x := 1) dX0_works_162 rfl ?_
                      refine ww_goto hX (pc := 163) (tgt := 167) dX0_works_163 (by decide) ?_
                      refine ww_icmp_ne hX (pc := 167) (tgt := 174) dX0_works_167 (by decide) (fun h_167 => ?_) (fun h_167 => ?_)
                      · simp only [w32_mod] at h_167
                        refine ww_iconst hX (pc := 174) (x := 0) dX0_works_174 rfl ?_
                        refine ww_istore hX (pc := 175) (lv' := [some (kR (some 15)), some (kR (some k)), some (kI a), some (kI b), some (kI hh), some (kI v_9), some (kI (at_ + 1)), some (kI v_29), some (kI 0)]) dX0_works_175 (by decide) rfl rfl ?_
                        refine ww_iload hX (pc := 177) dX0_works_177 rfl ?_
                        refine ww_if_ne hX (pc := 179) (tgt := 188) dX0_works_179 (by decide) (fun h_179 => ?_) (fun h_179 => ?_)
                        · simp only [w32_mod] at h_179
                          exfalso
                          first | omega | simp at h_179
                        · simp only [w32_mod] at h_179
                          refine ww_iinc hX (pc := 182) (lv' := [some (kR (some 15)), some (kR (some k)), some (kI a), some (kI b), some (kI (hh + (-1))), some (kI v_9), some (kI (at_ + 1)), some (kI v_29), some (kI 0)]) dX0_works_182 rfl (by decide) rfl rfl ?_
                          refine ww_goto hX (pc := 185) (tgt := 208) dX0_works_185 (by decide) ?_
                          refine ww_goto hX (pc := 208) (tgt := 235) dX0_works_208 (by decide) ?_
                          refine ww_iinc hX (pc := 235) (lv' := [some (kR (some 15)), some (kR (some k)), some (kI a), some (kI b), some (kI (hh + (-1))), some (kI v_9), some (kI ((at_ + 1) + 1)), some (kI v_29), some (kI 0)]) dX0_works_235 rfl (by decide) rfl rfl ?_
                          refine ww_goto hX (pc := 238) (tgt := 18) dX0_works_238 (by decide) ?_
                          refine ww_sub [some (kR (some 15)), some (kR (some k)), some (kI a), some (kI b), some (kI (hh + (-1))), some (kI v_9), some (kI ((at_ + 1) + 1)), none, none] (aLe_s (aLe_s (aLe_s (aLe_s (aLe_s (aLe_s (aLe_s (aLe_n (aLe_n aLe_0))))))))) ?_
                          exact ih_18 _ (by have hm9 := Sh0_e hq_18; omega) (hh + (-1)) ((at_ + 1) + 1) J2 rfl ⟨kJ2, ⟨by omega, by omega⟩, s1, zFin_at (hj3 (by omega)) (by omega), hsk1, by omega, by omega⟩
                      · simp only [w32_mod] at h_167
                        exfalso
                        first | omega | simp at h_167
                  · simp only [w32_mod] at h_147
                    refine ww_iconst hX (pc := 150) (x := 1) dX0_works_150 rfl ?_
                    refine ww_goto hX (pc := 151) (tgt := 155) dX0_works_151 (by decide) ?_
                    refine ww_iload hX (pc := 155) dX0_works_155 rfl ?_
                    refine ww_bipush hX (pc := 157) (x := (-20)) dX0_works_157 (by decide) ?_
                    refine ww_icmp_ne hX (pc := 159) (tgt := 166) dX0_works_159 (by decide) (fun h_159 => ?_) (fun h_159 => ?_)
                    · simp only [w32_mod] at h_159
                      refine ww_iconst hX (pc := 166) (x := 0) dX0_works_166 rfl ?_
                      refine ww_icmp_ne hX (pc := 167) (tgt := 174) dX0_works_167 (by decide) (fun h_167 => ?_) (fun h_167 => ?_)
                      · simp only [w32_mod] at h_167
                        refine ww_iconst hX (pc := 174) (x := 0) dX0_works_174 rfl ?_
                        refine ww_istore hX (pc := 175) (lv' := [some (kR (some 15)), some (kR (some k)), some (kI a), some (kI b), some (kI hh), some (kI v_9), some (kI (at_ + 1)), some (kI v_29), some (kI 0)]) dX0_works_175 (by decide) rfl rfl ?_
                        refine ww_iload hX (pc := 177) dX0_works_177 rfl ?_
                        refine ww_if_ne hX (pc := 179) (tgt := 188) dX0_works_179 (by decide) (fun h_179 => ?_) (fun h_179 => ?_)
                        · simp only [w32_mod] at h_179
                          exfalso
                          first | omega | simp at h_179
                        · simp only [w32_mod] at h_179
                          refine ww_iinc hX (pc := 182) (lv' := [some (kR (some 15)), some (kR (some k)), some (kI a), some (kI b), some (kI (hh + (-1))), some (kI v_9), some (kI (at_ + 1)), some (kI v_29), some (kI 0)]) dX0_works_182 rfl (by decide) rfl rfl ?_
                          refine ww_goto hX (pc := 185) (tgt := 208) dX0_works_185 (by decide) ?_
                          refine ww_goto hX (pc := 208) (tgt := 235) dX0_works_208 (by decide) ?_
                          refine ww_iinc hX (pc := 235) (lv' := [some (kR (some 15)), some (kR (some k)), some (kI a), some (kI b), some (kI (hh + (-1))), some (kI v_9), some (kI ((at_ + 1) + 1)), some (kI v_29), some (kI 0)]) dX0_works_235 rfl (by decide) rfl rfl ?_
                          refine ww_goto hX (pc := 238) (tgt := 18) dX0_works_238 (by decide) ?_
                          refine ww_sub [some (kR (some 15)), some (kR (some k)), some (kI a), some (kI b), some (kI (hh + (-1))), some (kI v_9), some (kI ((at_ + 1) + 1)), none, none] (aLe_s (aLe_s (aLe_s (aLe_s (aLe_s (aLe_s (aLe_s (aLe_n (aLe_n aLe_0))))))))) ?_
                          exact ih_18 _ (by have hm9 := Sh0_e hq_18; omega) (hh + (-1)) ((at_ + 1) + 1) J2 rfl ⟨kJ2, ⟨by omega, by omega⟩, s1, zFin_at (hj3 (by omega)) (by omega), hsk1, by omega, by omega⟩
                      · simp only [w32_mod] at h_167
                        exfalso
                        first | omega | simp at h_167
                    · simp only [w32_mod] at h_159
                      refine ww_iconst hX (pc := 162) (x := 1) dX0_works_162 rfl ?_
                      refine ww_goto hX (pc := 163) (tgt := 167) dX0_works_163 (by decide) ?_
                      refine ww_icmp_ne hX (pc := 167) (tgt := 174) dX0_works_167 (by decide) (fun h_167 => ?_) (fun h_167 => ?_)
                      · simp only [w32_mod] at h_167
                        exfalso
                        first | omega | simp at h_167
                      · simp only [w32_mod] at h_167
                        refine ww_iconst hX (pc := 170) (x := 1) dX0_works_170 rfl ?_
                        refine ww_goto hX (pc := 171) (tgt := 175) dX0_works_171 (by decide) ?_
                        refine ww_istore hX (pc := 175) (lv' := [some (kR (some 15)), some (kR (some k)), some (kI a), some (kI b), some (kI hh), some (kI v_9), some (kI (at_ + 1)), some (kI v_29), some (kI 1)]) dX0_works_175 (by decide) rfl rfl ?_
                        refine ww_iload hX (pc := 177) dX0_works_177 rfl ?_
                        refine ww_if_ne hX (pc := 179) (tgt := 188) dX0_works_179 (by decide) (fun h_179 => ?_) (fun h_179 => ?_)
                        · simp only [w32_mod] at h_179
                          refine ww_iload hX (pc := 188) dX0_works_188 rfl ?_
                          refine ww_iload hX (pc := 190) dX0_works_190 rfl ?_
                          refine ww_icmp_ge hX (pc := 192) (tgt := 208) dX0_works_192 (by decide) (fun h_192 => ?_) (fun h_192 => ?_)
                          · simp only [w32_mod] at h_192
                            exfalso
                            omega
                          · simp only [w32_mod] at h_192
                            have hs2 := hst (at_ + 1).toNat (by omega)
                            have e2 : Ia k (at_ + 1).toNat = Ia k (at_.toNat + 1) := congrArg _ (by omega)
                            refine ww_iload hX (pc := 195) dX0_works_195 rfl ?_
                            refine ww_aload_n hX (pc := 197) dX0_works_197 rfl ?_
                            refine ww_iload hX (pc := 198) dX0_works_198 rfl ?_
                            refine ww_iald hX (pc := 200) hsk (by omega) (by omega) (by omega) dX0_works_200 ?_
                            refine ww_iconst hX (pc := 201) (x := 1) dX0_works_201 rfl ?_
                            refine ww_isub hX (pc := 202) dX0_works_202 ?_
                            refine ww_mmax hX (pc := 203) tb_713 tb_460 tb_13 tb_461 (by decide) (Nat.le_refl 0) (Nat.le_refl 0) (Nat.le_of_ble_eq_true rfl) dX0_works_203 ?_
                            refine ww_nmI (fun v_206 hv_206 => ?_)
                            refine ww_istore hX (pc := 206) (lv' := [some (kR (some 15)), some (kR (some k)), some (kI a), some (kI b), some (kI hh), some (kI v_9), some (kI v_206), some (kI v_29), some (kI 1)]) dX0_works_206 (by decide) rfl rfl ?_
                            rw [i_max_r (by omega) (by omega) (by omega) (by omega)] at hv_206
                            refine ww_goto hX (pc := 208) (tgt := 235) dX0_works_208 (by decide) ?_
                            refine ww_iinc hX (pc := 235) (lv' := [some (kR (some 15)), some (kR (some k)), some (kI a), some (kI b), some (kI hh), some (kI v_9), some (kI (v_206 + 1)), some (kI v_29), some (kI 1)]) dX0_works_235 rfl (by decide) rfl rfl ?_
                            refine ww_goto hX (pc := 238) (tgt := 18) dX0_works_238 (by decide) ?_
                            refine ww_sub [some (kR (some 15)), some (kR (some k)), some (kI a), some (kI b), some (kI hh), some (kI v_9), some (kI (v_206 + 1)), none, none] (aLe_s (aLe_s (aLe_s (aLe_s (aLe_s (aLe_s (aLe_s (aLe_n (aLe_n aLe_0))))))))) ?_
                            exact ih_18 _ (by have hm9 := Sh0_e hq_18; omega) hh (v_206 + 1) J2 rfl ⟨kJ2, ⟨by omega, by omega⟩, _, zFin_at (hj2 (by omega)) (by omega), hSK, (by rw [List.length_cons]; omega), (by rw [List.length_cons]; omega)⟩
                        · simp only [w32_mod] at h_179
                          exfalso
                          first | omega | simp at h_179
            · simp only [w32_mod] at h_93
              have hW := zW_f hF2 (by omega) (by omega)
              have hv01 := hW.1
              refine ww_aload_n hX (pc := 96) dX0_works_96 rfl ?_
              refine ww_getR hX (pc := 97) fX0_17 (by decide) (xs_15 hL) (xr_15_1 hL) dX0_works_97 ?_
              refine ww_iload hX (pc := 100) dX0_works_100 rfl ?_
              refine ww_iconst hX (pc := 102) (x := 1) dX0_works_102 rfl ?_
              refine ww_isub hX (pc := 103) dX0_works_103 ?_
              refine ww_lconst hX (pc := 104) (x := 1) dX0_works_104 (by decide) ?_
              refine ww_aload_n hX (pc := 105) dX0_works_105 rfl ?_
              refine ww_getR hX (pc := 106) fX0_17 (by decide) (xs_15 hL) (xr_15_1 hL) dX0_works_106 ?_
              refine ww_iload hX (pc := 109) dX0_works_109 rfl ?_
              refine ww_iconst hX (pc := 111) (x := 1) dX0_works_111 rfl ?_
              refine ww_isub hX (pc := 112) dX0_works_112 ?_
              refine ww_lald hX (pc := 113) (xs_17 hL) (by decide) (by omega) (by omega) dX0_works_113 ?_
              refine ww_lsub hX (pc := 114) dX0_works_114 ?_
              have e1 : J2 17 (hh - 1).toNat = v := by rw [show (hh - 1).toNat = s1.length by omega]; exact hv0
              refine ww_last hX (pc := 115) (xs_17 hL) (by decide) (by omega) (by omega) dX0_works_115 ?_
              refine ww_nmK (fun J_115 eJ_115 => ?_)
              have kJ_115 : Kp 15 18 Ja J_115 := by rw [eJ_115]; exact Kp_up kJ2 _ _ (by decide)
              refine ww_goto hX (pc := 116) (tgt := 235) dX0_works_116 (by decide) ?_
              refine ww_iinc hX (pc := 235) (lv' := [some (kR (some 15)), some (kR (some k)), some (kI a), some (kI b), some (kI hh), some (kI v_9), some (kI (at_ + 1)), some (kI v_29), none]) dX0_works_235 rfl (by decide) rfl rfl ?_
              refine ww_goto hX (pc := 238) (tgt := 18) dX0_works_238 (by decide) ?_
              refine ww_sub [some (kR (some 15)), some (kR (some k)), some (kI a), some (kI b), some (kI hh), some (kI v_9), some (kI (at_ + 1)), none, none] (aLe_s (aLe_s (aLe_s (aLe_s (aLe_s (aLe_s (aLe_s (aLe_n (aLe_n aLe_0))))))))) ?_
              exact ih_18 _ (by have hm9 := Sh0_e hq_18; omega) hh (at_ + 1) J_115 rfl ⟨kJ_115, ⟨by omega, by omega⟩, _, zFin_at hW.2 (by omega), zSK_pn hsk1 ((congrFun eJ_115 17).trans (up2_row ..)) (by omega) (by omega) (by omega), (by rw [List.length_cons]; omega), (by rw [List.length_cons]; omega)⟩
          · simp only [w32_mod] at h_84
            exfalso
            omega
        · simp only [w32_mod] at h_35
          have hW := zW_p hF2 (by omega) (by omega)
          refine ww_iload hX (pc := 38) dX0_works_38 rfl ?_
          refine ww_bipush hX (pc := 40) (x := 64) dX0_works_40 (by decide) ?_
          refine ww_icmp_lt hX (pc := 42) (tgt := 47) dX0_works_42 (by decide) (fun h_42 => ?_) (fun h_42 => ?_)
          · simp only [w32_mod] at h_42
            refine ww_aload_n hX (pc := 47) dX0_works_47 rfl ?_
            refine ww_getR hX (pc := 48) fX0_17 (by decide) (xs_15 hL) (xr_15_1 hL) dX0_works_48 ?_
            refine ww_iload hX (pc := 51) dX0_works_51 rfl ?_
            refine ww_iload hX (pc := 53) dX0_works_53 rfl ?_
            refine ww_if_lt hX (pc := 55) (tgt := 64) dX0_works_55 (by decide) (fun h_55 => ?_) (fun h_55 => ?_)
            · simp only [w32_mod] at h_55
              refine ww_aload_n hX (pc := 64) dX0_works_64 rfl ?_
              refine ww_getR hX (pc := 65) fX0_11 (by decide) (xs_15 hL) (xr_15_0 hL) dX0_works_65 ?_
              refine ww_iconst hX (pc := 68) (x := (-1)) dX0_works_68 rfl ?_
              refine ww_iload hX (pc := 69) dX0_works_69 rfl ?_
              refine ww_isub hX (pc := 71) dX0_works_71 ?_
              refine ww_iald hX (pc := 72) (xs_16 hL) (by decide) (by omega) (by omega) dX0_works_72 ?_
              refine ww_i2l hX (pc := 73) dX0_works_73 ?_
              obtain ⟨w9, hw9⟩ : ∃ w, (if 0 ≤ Ia k at_.toNat then Ia k at_.toNat else en (-1 - Ia k at_.toNat).toNat) = w := ⟨_, rfl⟩
              have hF9 := hW.2
              rw [hw9] at hF9
              have he9 := hen (-1 - v_29).toNat (by omega)
              rw [if_neg (by omega), ← hv_29] at hw9
              have hz9 := w32_id (x := Ia 16 (-1 - v_29).toNat) (by omega) (by omega)
              refine ww_last hX (pc := 74) (xs_17 hL) (by decide) (by omega) (by omega) dX0_works_74 ?_
              refine ww_nmK (fun J_74 eJ_74 => ?_)
              have kJ_74 : Kp 15 18 Ja J_74 := by rw [eJ_74]; exact Kp_up kJ2 _ _ (by decide)
              refine ww_iinc hX (pc := 75) (lv' := [some (kR (some 15)), some (kR (some k)), some (kI a), some (kI b), some (kI (hh + 1)), some (kI v_9), some (kI at_), some (kI v_29), none]) dX0_works_75 rfl (by decide) rfl rfl ?_
              refine ww_goto hX (pc := 78) (tgt := 235) dX0_works_78 (by decide) ?_
              refine ww_iinc hX (pc := 235) (lv' := [some (kR (some 15)), some (kR (some k)), some (kI a), some (kI b), some (kI (hh + 1)), some (kI v_9), some (kI (at_ + 1)), some (kI v_29), none]) dX0_works_235 rfl (by decide) rfl rfl ?_
              refine ww_goto hX (pc := 238) (tgt := 18) dX0_works_238 (by decide) ?_
              refine ww_sub [some (kR (some 15)), some (kR (some k)), some (kI a), some (kI b), some (kI (hh + 1)), some (kI v_9), some (kI (at_ + 1)), none, none] (aLe_s (aLe_s (aLe_s (aLe_s (aLe_s (aLe_s (aLe_s (aLe_n (aLe_n aLe_0))))))))) ?_
              exact ih_18 _ (by have hm9 := Sh0_e hq_18; omega) (hh + 1) (at_ + 1) J_74 rfl ⟨kJ_74, ⟨by omega, by omega⟩, _, zFin_at hF9 (by omega), zSK_pn hSK ((congrFun eJ_74 17).trans (up2_row ..)) (by omega) (by omega) (by omega), (by rw [List.length_cons]; omega), (by rw [List.length_cons]; omega)⟩
            · simp only [w32_mod] at h_55
              refine ww_iload hX (pc := 58) dX0_works_58 rfl ?_
              refine ww_i2l hX (pc := 60) dX0_works_60 ?_
              refine ww_goto hX (pc := 61) (tgt := 74) dX0_works_61 (by decide) ?_
              obtain ⟨w9, hw9⟩ : ∃ w, (if 0 ≤ Ia k at_.toNat then Ia k at_.toNat else en (-1 - Ia k at_.toNat).toNat) = w := ⟨_, rfl⟩
              have hF9 := hW.2
              rw [hw9] at hF9
              rw [if_pos (by omega), ← hv_29] at hw9
              have hz9 := w32_id (x := v_29) (by omega) (by omega)
              refine ww_last hX (pc := 74) (xs_17 hL) (by decide) (by omega) (by omega) dX0_works_74 ?_
              refine ww_nmK (fun J_74 eJ_74 => ?_)
              have kJ_74 : Kp 15 18 Ja J_74 := by rw [eJ_74]; exact Kp_up kJ2 _ _ (by decide)
              refine ww_iinc hX (pc := 75) (lv' := [some (kR (some 15)), some (kR (some k)), some (kI a), some (kI b), some (kI (hh + 1)), some (kI v_9), some (kI at_), some (kI v_29), none]) dX0_works_75 rfl (by decide) rfl rfl ?_
              refine ww_goto hX (pc := 78) (tgt := 235) dX0_works_78 (by decide) ?_
              refine ww_iinc hX (pc := 235) (lv' := [some (kR (some 15)), some (kR (some k)), some (kI a), some (kI b), some (kI (hh + 1)), some (kI v_9), some (kI (at_ + 1)), some (kI v_29), none]) dX0_works_235 rfl (by decide) rfl rfl ?_
              refine ww_goto hX (pc := 238) (tgt := 18) dX0_works_238 (by decide) ?_
              refine ww_sub [some (kR (some 15)), some (kR (some k)), some (kI a), some (kI b), some (kI (hh + 1)), some (kI v_9), some (kI (at_ + 1)), none, none] (aLe_s (aLe_s (aLe_s (aLe_s (aLe_s (aLe_s (aLe_s (aLe_n (aLe_n aLe_0))))))))) ?_
              exact ih_18 _ (by have hm9 := Sh0_e hq_18; omega) (hh + 1) (at_ + 1) J_74 rfl ⟨kJ_74, ⟨by omega, by omega⟩, _, zFin_at hF9 (by omega), zSK_pn hSK ((congrFun eJ_74 17).trans (up2_row ..)) (by omega) (by omega) (by omega), (by rw [List.length_cons]; omega), (by rw [List.length_cons]; omega)⟩
          · simp only [w32_mod] at h_42
            exfalso
            have := hW.1
            omega
  exact hl_18 _ 0 v_16 Ja rfl ⟨(Kp_rf (a := 15) (b := 18)), ⟨by omega, by omega⟩, [], zFin_at hF (by omega), trivial, rfl, Nat.zero_le _⟩
end
section
def zIs (r : Option Int) (x : Int) : Prop := (∀ w, r = some w → (x = 1 ↔ ¬ w = 0)) ∧ (r = none → x = 0)
theorem zIs_n {r : Option Int} {x x9 y : Int} (h : zWv r x9 y) (h9 : ¬ x9 = 1) (hx : x = 0) : zIs r x := ⟨fun w hw => absurd (h.2 w hw).1 h9, fun _ => hx⟩
theorem zIs_s {r : Option Int} {x x9 y : Int} (h : zWv r x9 y) (h9 : ¬ x9 = 0) (h1 : -1000000000 ≤ y → y ≤ 1000000000 → y = 0 → x = 0) (h2 : -1000000000 ≤ y → y ≤ 1000000000 → ¬ y = 0 → x = 1) : zIs r x := by
  refine ⟨fun w hw => ?_, fun hn => absurd (h.1 hn) h9⟩
  obtain ⟨-, rfl, g1, g2⟩ := h.2 w hw
  by_cases hy : y = 0
  · have := h1 g1 g2 hy
    omega
  · have := h2 g1 g2 hy
    omega
theorem zFin_bt {sp : Nat → Int} {en : zE} {B B' a a' : Nat} {s : List Int} {r : Option Int} (h : zFin sp en B a s r) (e1 : B = B') (e : a = a') : zFin sp en B' a' s r := by rw [← e1, ← e]; exact h
theorem zCS_x {sp : Nat → Int} {m0 m1 m2 : Int} {q : zQ} (h : zCS sp m0 m1 m2 q) (en : zE) : ∃ (a b c : Nat) (rt : Option Int), m0 = a ∧ m1 = b ∧ m2 = c ∧ c ≤ 400 ∧ a ≤ b ∧ b ≤ c ∧ zFin sp en b a [] (q.1 en) ∧ (b < c → zFin sp en c b [] rt) ∧ ((b = c ∧ zCv q en = q.1 en) ∨ (b < c ∧ zCv q en = (match rt with
  | none => none
  | some w => if w = 0 then none else q.1 en))) := by
  obtain ⟨a, b, c, h0, h1, h2, h3, h4, ⟨k, k1, k2⟩, h6⟩ := h
  have hab := k2.1
  obtain ⟨D, q2⟩ := q
  cases q2 with
  | none =>
    have h6 : b = c := h6
    exact ⟨a, b, c, none, h0, h1, h2, h3, by omega, h4, zFin_of k2 k1, fun g => absurd h6 (by omega), Or.inl ⟨h6, rfl⟩⟩
  | some F =>
    obtain ⟨k', k3, k4⟩ := h6
    exact ⟨a, b, c, F en, h0, h1, h2, h3, by omega, h4, zFin_of k2 k1, fun _ => zFin_of k4 k3, Or.inr ⟨k4.1, rfl⟩⟩
def zDj (b c : Nat) (q : zQ) (en : zE) (rt : Option Int) : Prop := (b = c ∧ zCv q en = q.1 en) ∨ (b < c ∧ zCv q en = (match rt with
  | none => none
  | some w => if w = 0 then none else q.1 en))
theorem zKv_0 {b c : Nat} {q : zQ} {en : zE} {rt : Option Int} {x : Int} (h : zDj b c q en rt) (h1 : b = c → x = 1) (h2 : b < c → zIs rt x) (hx : x = 0) : zCv q en = none := by
  rcases h with ⟨g1, -⟩ | ⟨g1, g2⟩
  · have := h1 g1
    omega
  · have h3 := h2 g1
    rw [g2]
    cases rt with
    | none => rfl
    | some w =>
      have h4 := h3.1 w rfl
      exact if_pos (by omega)
theorem zKv_1 {b c : Nat} {q : zQ} {en : zE} {rt : Option Int} {x : Int} (h : zDj b c q en rt) (h2 : b < c → zIs rt x) (hx : x = 1) : zCv q en = q.1 en := by
  rcases h with ⟨-, g2⟩ | ⟨g1, g2⟩
  · exact g2
  · have h3 := h2 g1
    rw [g2]
    cases rt with
    | none => have := h3.2 rfl; omega
    | some w =>
      have h4 := h3.1 w rfl
      exact if_neg (by omega)
theorem zWv_z {r : Option Int} {x y : Int} (h : zWv r x y) (hx : ¬ x = 1) : r = none := by
  cases r with
  | none => rfl
  | some w => exact absurd (h.2 w rfl).1 hx
theorem zWv_o {r : Option Int} {x y : Int} (h : zWv r x y) (hx : ¬ x = 0) : r = some y ∧ -1000000000 ≤ y ∧ y ≤ 1000000000 := by
  cases r with
  | none => exact absurd (h.1 rfl) hx
  | some w =>
    obtain ⟨-, rfl, g1, g2⟩ := h.2 w rfl
    exact ⟨rfl, g1, g2⟩
theorem zGv_so {K w x : Int} (h1 : 0 ≤ w ∧ w < K → x = w) (h2 : ¬ (0 ≤ w ∧ w < K) → x = -1) : x = zGv K (some w) := by
  unfold zGv
  by_cases hc : 0 ≤ w ∧ w < K
  · exact (h1 hc).trans (if_pos hc).symm
  · exact (h2 hc).trans (if_neg hc).symm
set_option maxHeartbeats 4000000 in
set_option maxRecDepth 20000 in
theorem c6_X0_isSo (l0 : Launch) {Ia Ja : aI1} {Ra : aR1} {Sa : aS1} (hL : LY Ra Sa) {k n : Nat} (hsk : Sa[k]? = some (0, n)) (hn : n ≤ 65536) (hst : (∀ j, j < n → -10000 ≤ Ia k j ∧ Ia k j ≤ 10000)) {a b : Int} (ha0 : 0 ≤ a) (hab : a ≤ b) (hbn : b ≤ n) {en : zE} (hen : ∀ j, j < 8 → Ia 16 j = en j ∧ -1000 ≤ en j ∧ en j ≤ 1000) {r : Option Int} (hF : a < b → zFin (Ia k) en b.toNat a.toNat [] r)  : CT l0 2 0 0 mX0_isSo [kR (some 15), kR (some k), kI a, kI b] Ia Ja Ra Sa (cI (fun x I' J' => Ia = I' ∧ Kp 15 18 Ja J' ∧ (x = 0 ∨ x = 1) ∧ (a = b → x = 1) ∧ (a < b → zIs r x)) Ra Sa) := by
  refine ct_in pn_X0 (Nat.le_of_ble_eq_true rfl) (fun X hX hT hIn => ?_)
  have hX : aK l0 X cX0_isSo 4 RX0 (some .boolean) 2 0 0 := hX
  change WW X 0 [some (kR (some 15)), some (kR (some k)), some (kI a), some (kI b)] [] Ia Ja Ra Sa 0 0
  refine ww_iload_n hX (pc := 0) dX0_isSo_0 rfl ?_
  refine ww_iload_n hX (pc := 1) dX0_isSo_1 rfl ?_
  refine ww_icmp_eq hX (pc := 2) (tgt := 26) dX0_isSo_2 (by decide) (fun h_2 => ?_) (fun h_2 => ?_)
  · simp only [w32_mod] at h_2
    refine ww_iconst hX (pc := 26) (x := 1) dX0_isSo_26 rfl ?_
    refine ww_goto hX (pc := 27) (tgt := 31) dX0_isSo_27 (by decide) ?_
    refine rZ hX (pc := 31) hT (Nat.le_refl 0) (Nat.le_refl 0) dX0_isSo_31 (by decide) ?_
    exact ⟨rfl, (Kp_rf (a := 15) (b := 18)), by omega, fun _ => by omega, fun g => by omega⟩
  · simp only [w32_mod] at h_2
    refine ww_aload_n hX (pc := 5) dX0_isSo_5 rfl ?_
    refine ww_aload_n hX (pc := 6) dX0_isSo_6 rfl ?_
    refine ww_iload_n hX (pc := 7) dX0_isSo_7 rfl ?_
    refine ww_iload_n hX (pc := 8) dX0_isSo_8 rfl ?_
    refine vI3 hX (pc := 9) sX0_39 (xs_15 hL) (c6_X0_works l0 hL hsk hn hst (by omega) (by omega) (by omega) hen (hF (by omega))) (by decide) (Nat.le_refl 0) (Nat.le_refl 0) (Nat.le_of_ble_eq_true rfl) dX0_isSo_9 (fun x_9 I_9 J_9 h_9 => ?_)
    obtain ⟨rfl, kj_9, h_9, o_9⟩ := h_9
    have kJ_9 : Kp 15 18 Ja J_9 := Kp_tr (Kp_rf (a := 15) (b := 18)) kj_9
    refine ww_if_eq hX (pc := 12) (tgt := 30) dX0_isSo_12 (by decide) (fun h_12 => ?_) (fun h_12 => ?_)
    · simp only [w32_mod] at h_12
      refine ww_iconst hX (pc := 30) (x := 0) dX0_isSo_30 rfl ?_
      refine rZ hX (pc := 31) hT (Nat.le_refl 0) (Nat.le_refl 0) dX0_isSo_31 (by decide) ?_
      exact ⟨rfl, kJ_9, by omega, fun g => by omega, fun _ => zIs_n o_9 (by omega) (by omega)⟩
    · simp only [w32_mod] at h_12
      refine ww_aload_n hX (pc := 15) dX0_isSo_15 rfl ?_
      refine ww_getR hX (pc := 16) fX0_17 (by decide) (xs_15 hL) (xr_15_1 hL) dX0_isSo_16 ?_
      refine ww_iconst hX (pc := 19) (x := 0) dX0_isSo_19 rfl ?_
      refine ww_lald hX (pc := 20) (xs_17 hL) (by decide) (by omega) (by omega) dX0_isSo_20 ?_
      refine ww_lconst hX (pc := 21) (x := 0) dX0_isSo_21 (by decide) ?_
      have hl9 := l_cmp_v (J_9 17 (Int.toNat 0)) 0
      have ht9 : J_9 17 (Int.toNat 0) = J_9 17 0 := rfl
      have hk9 : w64 0 = 0 := rfl
      refine ww_lcmp hX (pc := 22) dX0_isSo_22 ?_
      refine ww_if_eq hX (pc := 23) (tgt := 30) dX0_isSo_23 (by decide) (fun h_23 => ?_) (fun h_23 => ?_)
      · simp only [w32_mod] at h_23
        refine ww_iconst hX (pc := 30) (x := 0) dX0_isSo_30 rfl ?_
        refine rZ hX (pc := 31) hT (Nat.le_refl 0) (Nat.le_refl 0) dX0_isSo_31 (by decide) ?_
        exact ⟨rfl, kJ_9, by omega, fun g => by omega, fun _ => zIs_s o_9 (by omega) (fun g1 g2 g3 => by have g4 := w64_id (x := J_9 17 (Int.toNat 0)) (by omega) (by omega); omega) (fun g1 g2 g3 => by have g4 := w64_id (x := J_9 17 (Int.toNat 0)) (by omega) (by omega); omega)⟩
      · simp only [w32_mod] at h_23
        refine ww_iconst hX (pc := 26) (x := 1) dX0_isSo_26 rfl ?_
        refine ww_goto hX (pc := 27) (tgt := 31) dX0_isSo_27 (by decide) ?_
        refine rZ hX (pc := 31) hT (Nat.le_refl 0) (Nat.le_refl 0) dX0_isSo_31 (by decide) ?_
        exact ⟨rfl, kJ_9, by omega, fun g => by omega, fun _ => zIs_s o_9 (by omega) (fun g1 g2 g3 => by have g4 := w64_id (x := J_9 17 (Int.toNat 0)) (by omega) (by omega); omega) (fun g1 g2 g3 => by have g4 := w64_id (x := J_9 17 (Int.toNat 0)) (by omega) (by omega); omega)⟩
set_option maxHeartbeats 4000000 in
set_option maxRecDepth 20000 in
theorem c6_X0_ask (l0 : Launch) {Ia Ja : aI1} {Ra : aR1} {Sa : aS1} (hL : LY Ra Sa) (hI : XI Ia) {w k m n nm : Nat} (hlw : Sa[w]? = some (12, 0)) (hw0 : Ra w 0 = some k) (hw1 : Ra w 1 = some m) (hsk : Sa[k]? = some (0, n)) (hsm : Sa[m]? = some (0, nm)) (hn : n ≤ 65536) (hnm : nm ≤ 65536) (hk18 : 18 ≤ k) (hm18 : 18 ≤ m) (hw18 : 18 ≤ w) (hst : (∀ j, j < n → -10000 ≤ Ia k j ∧ Ia k j ≤ 10000)) (hmt : ∀ j, j < nm → -10000 ≤ Ia m j ∧ Ia m j ≤ 10000) {qs : List zQ} (hq2 : Ia w 2 = qs.length) (hq12 : qs.length ≤ 12) (hcs : zCs (Ia k) (Ia m) qs) (hmk : ∀ i, i ≤ qs.length → i ≠ 0 → Ia m (2 * i) ≤ n) (hnq : nm = 2 * qs.length + 1) {e : Int} (he0 : 0 ≤ e) (he1 : e < 256)  : CT l0 3 0 0 mX0_ask [kR (some 15), kR (some w), kR (some 1), kI e] Ia Ja Ra Sa (cI (fun x I' J' => Kp 15 18 Ia I' ∧ Kp 15 18 Ja J' ∧ x = zGv (Ia 1 6) (zTl qs (zEn e (Ia 1 5) (Ia 1 6)))) Ra Sa) := by
  refine ct_in pn_X0 (Nat.le_of_ble_eq_true rfl) (fun X hX hT hIn => ?_)
  have hX : aK l0 X cX0_ask 10 RX0 (some .int) 3 0 0 := hX
  change WW X 0 [some (kR (some 15)), some (kR (some w)), some (kR (some 1)), some (kI e), none, none, none, none, none, none] [] Ia Ja Ra Sa 0 0
  obtain ⟨hn1, hn2⟩ := hI.1
  obtain ⟨hk1, hk2⟩ := hI.2.1
  obtain ⟨hf1, hf2⟩ := hI.fu
  refine ww_aload_n hX (pc := 0) dX0_ask_0 rfl ?_
  refine ww_aload_n hX (pc := 1) dX0_ask_1 rfl ?_
  refine ww_iload_n hX (pc := 2) dX0_ask_2 rfl ?_
  refine vV2 hX (pc := 3) sX0_21 (xs_15 hL) (c6_X0_fillWords l0 hL hI (by omega) (by omega)) (by decide) (Nat.le_refl 0) (Nat.le_refl 0) (Nat.le_of_ble_eq_true rfl) dX0_ask_3 (fun I_3 J_3 h_3 => ?_)
  have kI_3 : Kp 15 18 Ia I_3 := Kp_tr (Kp_rf (a := 15) (b := 18)) (Kp_wd h_3.1 (by decide) (by decide))
  have kJ_3 : Kp 15 18 Ja J_3 := Kp_tr (Kp_rf (a := 15) (b := 18)) (Kp_wd h_3.2.1 (by decide) (by decide))
  have r1_5_I_3 : I_3 1 5 = Ia 1 5 := Kp_at kI_3 1 5 (by decide)
  have r1_6_I_3 : I_3 1 6 = Ia 1 6 := Kp_at kI_3 1 6 (by decide)
  have rf_I_3 : FU (I_3 1 5) = FU (Ia 1 5) := by rw [r1_5_I_3]
  have hcl3 : I_3 w 2 = Ia w 2 := by rw [h_3.1 w (by omega)]
  have ek3 : I_3 k = Ia k := h_3.1 k (by omega)
  have em3 : I_3 m = Ia m := h_3.1 m (by omega)
  have hst3 : (∀ j, j < n → -10000 ≤ I_3 k j ∧ I_3 k j ≤ 10000) := by rw [ek3]; exact hst
  have hmt3 : ∀ j, j < nm → -10000 ≤ I_3 m j ∧ I_3 m j ≤ 10000 := by rw [em3]; exact hmt
  have hcs3 : zCs (I_3 k) (I_3 m) qs := by rw [ek3, em3]; exact hcs
  have hmk3 : ∀ i, i ≤ qs.length → i ≠ 0 → I_3 m (2 * i) ≤ n := by rw [em3]; exact hmk
  have hen3 : ∀ j, j < 8 → I_3 16 j = zEn e (Ia 1 5) (Ia 1 6) j ∧ -1000 ≤ zEn e (Ia 1 5) (Ia 1 6) j ∧ zEn e (Ia 1 5) (Ia 1 6) j ≤ 1000 := fun j hj => ⟨h_3.2.2 j hj, zEn_b (by omega) (by omega) (by omega) j hj⟩
  refine ww_aload_n hX (pc := 6) dX0_ask_6 rfl ?_
  refine ww_getI hX (pc := 7) fX0_25 (by decide) hlw dX0_ask_7 ?_
  refine ww_iconst hX (pc := 10) (x := 1) dX0_ask_10 rfl ?_
  refine ww_isub hX (pc := 11) dX0_ask_11 ?_
  refine ww_nmI (fun v_12 hv_12 => ?_)
  refine ww_istore hX (pc := 12) (lv' := [some (kR (some 15)), some (kR (some w)), some (kR (some 1)), some (kI e), some (kI v_12), none, none, none, none, none]) dX0_ask_12 (by decide) rfl rfl ?_
  have hl_14 : ∀ (n_14 : Nat) (c9 : Int) (J2 : aI1), (c9 + 1).toNat = n_14 → (Kp 15 18 Ja J2 ∧ -1 ≤ c9 ∧ c9 < qs.length ∧ ∀ (j : Nat) (q : zQ), c9 < j → qs[j]? = some q → zCv q (zEn e (Ia 1 5) (Ia 1 6)) = none) → WW X 14 [some (kR (some 15)), some (kR (some w)), some (kR (some 1)), some (kI e), some (kI c9), none, none, none, none, none] [] I_3 J2 Ra Sa 0 0 := by
    intro n_14
    induction n_14 using Nat.strongRecOn with
    | ind n_14 ih_14 =>
      intro c9 J2 hm_14 hv_14
      have hq_14 := Sh0_i hm_14
      clear hm_14
      obtain ⟨kJ2, hc0, hc1, hno⟩ := hv_14
      refine ww_iload hX (pc := 14) dX0_ask_14 rfl ?_
      refine ww_if_lt hX (pc := 16) (tgt := 140) dX0_ask_16 (by decide) (fun h_16 => ?_) (fun h_16 => ?_)
      · simp only [w32_mod] at h_16
        refine ww_iconst hX (pc := 140) (x := (-1)) dX0_ask_140 rfl ?_
        refine rI hX (pc := 141) hT (Nat.le_refl 0) (Nat.le_refl 0) dX0_ask_141 ?_
        exact ⟨kI_3, kJ2, (by
            rw [zTl_no qs _ (fun j q g => hno j q (by omega) g)]
            rfl)⟩
      · simp only [w32_mod] at h_16
        refine ww_iconst hX (pc := 19) (x := 2) dX0_ask_19 rfl ?_
        refine ww_iload hX (pc := 20) dX0_ask_20 rfl ?_
        refine ww_imul hX (pc := 22) dX0_ask_22 ?_
        refine ww_iconst hX (pc := 23) (x := 2) dX0_ask_23 rfl ?_
        refine ww_iadd hX (pc := 24) dX0_ask_24 ?_
        refine ww_aload_n hX (pc := 25) dX0_ask_25 rfl ?_
        refine ww_getR hX (pc := 26) fX0_29 (by decide) hlw hw1 dX0_ask_26 ?_
        refine ww_alen hX (pc := 29) (by decide) hsm dX0_ask_29 ?_
        refine ww_icmp_ge hX (pc := 30) (tgt := 140) dX0_ask_30 (by decide) (fun h_30 => ?_) (fun h_30 => ?_)
        · simp only [w32_mod] at h_30
          exfalso
          omega
        · simp only [w32_mod] at h_30
          have hm1 := hmt3 (2 * c9).toNat (by omega)
          have hm2 := hmt3 (2 * c9 + 1).toNat (by omega)
          have hm3 := hmt3 (2 * c9 + 2).toNat (by omega)
          obtain ⟨q9, hq9⟩ : ∃ q, qs[c9.toNat]? = some q := ⟨_, List.getElem?_eq_getElem (by omega)⟩
          have hcs9 := hcs3 c9.toNat q9 hq9
          obtain ⟨a0, b0, c0, rt, m0, m1, m2, hc400, hab0, hbc0, hf1, hf2, hdj⟩ := zCS_x hcs9 (zEn e (Ia 1 5) (Ia 1 6))
          have hdj : zDj b0 c0 q9 (zEn e (Ia 1 5) (Ia 1 6)) rt := hdj
          have hmk9 := hmk3 (c9.toNat + 1) (by omega) (by omega)
          rw [show 2 * (c9.toNat + 1) = 2 * c9.toNat + 2 by omega] at hmk9
          have i0 : I_3 m (2 * c9).toNat = I_3 m (2 * c9.toNat) := congrArg _ (by omega)
          have i1 : I_3 m (2 * c9 + 1).toNat = I_3 m (2 * c9.toNat + 1) := congrArg _ (by omega)
          have i2 : I_3 m (2 * c9 + 2).toNat = I_3 m (2 * c9.toNat + 2) := congrArg _ (by omega)
          refine ww_aload_n hX (pc := 33) dX0_ask_33 rfl ?_
          refine ww_getR hX (pc := 34) fX0_29 (by decide) hlw hw1 dX0_ask_34 ?_
          refine ww_iconst hX (pc := 37) (x := 2) dX0_ask_37 rfl ?_
          refine ww_iload hX (pc := 38) dX0_ask_38 rfl ?_
          refine ww_imul hX (pc := 40) dX0_ask_40 ?_
          refine ww_iald hX (pc := 41) hsm (by omega) (by omega) (by omega) dX0_ask_41 ?_
          refine ww_nmI (fun v_42 hv_42 => ?_)
          refine ww_istore hX (pc := 42) (lv' := [some (kR (some 15)), some (kR (some w)), some (kR (some 1)), some (kI e), some (kI c9), some (kI v_42), none, none, none, none]) dX0_ask_42 (by decide) rfl rfl ?_
          refine ww_aload_n hX (pc := 44) dX0_ask_44 rfl ?_
          refine ww_getR hX (pc := 45) fX0_29 (by decide) hlw hw1 dX0_ask_45 ?_
          refine ww_iconst hX (pc := 48) (x := 2) dX0_ask_48 rfl ?_
          refine ww_iload hX (pc := 49) dX0_ask_49 rfl ?_
          refine ww_imul hX (pc := 51) dX0_ask_51 ?_
          refine ww_iconst hX (pc := 52) (x := 1) dX0_ask_52 rfl ?_
          refine ww_iadd hX (pc := 53) dX0_ask_53 ?_
          refine ww_iald hX (pc := 54) hsm (by omega) (by omega) (by omega) dX0_ask_54 ?_
          refine ww_nmI (fun v_55 hv_55 => ?_)
          refine ww_istore hX (pc := 55) (lv' := [some (kR (some 15)), some (kR (some w)), some (kR (some 1)), some (kI e), some (kI c9), some (kI v_42), some (kI v_55), none, none, none]) dX0_ask_55 (by decide) rfl rfl ?_
          refine ww_aload_n hX (pc := 57) dX0_ask_57 rfl ?_
          refine ww_getR hX (pc := 58) fX0_29 (by decide) hlw hw1 dX0_ask_58 ?_
          refine ww_iconst hX (pc := 61) (x := 2) dX0_ask_61 rfl ?_
          refine ww_iload hX (pc := 62) dX0_ask_62 rfl ?_
          refine ww_imul hX (pc := 64) dX0_ask_64 ?_
          refine ww_iconst hX (pc := 65) (x := 2) dX0_ask_65 rfl ?_
          refine ww_iadd hX (pc := 66) dX0_ask_66 ?_
          refine ww_iald hX (pc := 67) hsm (by omega) (by omega) (by omega) dX0_ask_67 ?_
          refine ww_nmI (fun v_68 hv_68 => ?_)
          refine ww_istore hX (pc := 68) (lv' := [some (kR (some 15)), some (kR (some w)), some (kR (some 1)), some (kI e), some (kI c9), some (kI v_42), some (kI v_55), some (kI v_68), none, none]) dX0_ask_68 (by decide) rfl rfl ?_
          refine ww_aload_n hX (pc := 70) dX0_ask_70 rfl ?_
          refine ww_aload_n hX (pc := 71) dX0_ask_71 rfl ?_
          refine ww_getR hX (pc := 72) fX0_32 (by decide) hlw hw0 dX0_ask_72 ?_
          refine ww_iload hX (pc := 75) dX0_ask_75 rfl ?_
          refine ww_iload hX (pc := 77) dX0_ask_77 rfl ?_
          refine vI3 hX (pc := 79) sX0_35 (xs_15 hL) (c6_X0_isSo l0 hL hsk hn hst3 (by omega) (by omega) (by omega) hen3 (fun g => zFin_bt (hf2 (by omega)) (by omega) (by omega))) (by decide) (Nat.le_refl 0) (Nat.le_refl 0) (Nat.le_of_ble_eq_true rfl) dX0_ask_79 (fun x_79 I_79 J_79 h_79 => ?_)
          obtain ⟨rfl, kj_79, h_79, h_79a, h_79b⟩ := h_79
          have kJ_79 : Kp 15 18 Ja J_79 := Kp_tr kJ2 kj_79
          have h_79c : b0 = c0 → x_79 = 1 := fun g => h_79a (by omega)
          have h_79d : b0 < c0 → zIs rt x_79 := fun g => h_79b (by omega)
          refine ww_if_eq hX (pc := 82) (tgt := 134) dX0_ask_82 (by decide) (fun h_82 => ?_) (fun h_82 => ?_)
          · simp only [w32_mod] at h_82
            refine ww_iinc hX (pc := 134) (lv' := [some (kR (some 15)), some (kR (some w)), some (kR (some 1)), some (kI e), some (kI (c9 + (-1))), some (kI v_42), some (kI v_55), some (kI v_68), none, none]) dX0_ask_134 rfl (by decide) rfl rfl ?_
            refine ww_goto hX (pc := 137) (tgt := 14) dX0_ask_137 (by decide) ?_
            refine ww_sub [some (kR (some 15)), some (kR (some w)), some (kR (some 1)), some (kI e), some (kI (c9 + (-1))), none, none, none, none, none] (aLe_s (aLe_s (aLe_s (aLe_s (aLe_s (aLe_n (aLe_n (aLe_n (aLe_n (aLe_n aLe_0)))))))))) ?_
            exact ih_14 _ (by have hm9 := Sh0_e hq_14; omega) (c9 + (-1)) J_79 rfl ⟨kJ_79, by omega, by omega, fun j q g1 g2 => (by
    by_cases g : j = c9.toNat
    · subst g
      rw [hq9] at g2
      cases g2
      exact zKv_0 hdj h_79c h_79d (by omega)
    · exact hno j q (by omega) g2)⟩
          · simp only [w32_mod] at h_82
            refine ww_aload_n hX (pc := 85) dX0_ask_85 rfl ?_
            refine ww_aload_n hX (pc := 86) dX0_ask_86 rfl ?_
            refine ww_getR hX (pc := 87) fX0_32 (by decide) hlw hw0 dX0_ask_87 ?_
            refine ww_iload hX (pc := 90) dX0_ask_90 rfl ?_
            refine ww_iload hX (pc := 92) dX0_ask_92 rfl ?_
            refine vI3 hX (pc := 94) sX0_39 (xs_15 hL) (c6_X0_works l0 hL hsk hn hst3 (by omega) (by omega) (by omega) hen3 (zFin_bt hf1 (by omega) (by omega))) (by decide) (Nat.le_refl 0) (Nat.le_refl 0) (Nat.le_of_ble_eq_true rfl) dX0_ask_94 (fun x_94 I_94 J_94 h_94 => ?_)
            obtain ⟨rfl, kj_94, h_94, o_94⟩ := h_94
            have kJ_94 : Kp 15 18 Ja J_94 := Kp_tr kJ_79 kj_94
            refine ww_if_eq hX (pc := 97) (tgt := 134) dX0_ask_97 (by decide) (fun h_97 => ?_) (fun h_97 => ?_)
            · simp only [w32_mod] at h_97
              refine ww_iinc hX (pc := 134) (lv' := [some (kR (some 15)), some (kR (some w)), some (kR (some 1)), some (kI e), some (kI (c9 + (-1))), some (kI v_42), some (kI v_55), some (kI v_68), none, none]) dX0_ask_134 rfl (by decide) rfl rfl ?_
              refine ww_goto hX (pc := 137) (tgt := 14) dX0_ask_137 (by decide) ?_
              refine ww_sub [some (kR (some 15)), some (kR (some w)), some (kR (some 1)), some (kI e), some (kI (c9 + (-1))), none, none, none, none, none] (aLe_s (aLe_s (aLe_s (aLe_s (aLe_s (aLe_n (aLe_n (aLe_n (aLe_n (aLe_n aLe_0)))))))))) ?_
              exact ih_14 _ (by have hm9 := Sh0_e hq_14; omega) (c9 + (-1)) J_94 rfl ⟨kJ_94, by omega, by omega, fun j q g1 g2 => (by
    by_cases g : j = c9.toNat
    · subst g
      rw [hq9] at g2
      cases g2
      exact (zKv_1 hdj h_79d (by omega)).trans (zWv_z o_94 (by omega))
    · exact hno j q (by omega) g2)⟩
            · simp only [w32_mod] at h_97
              refine ww_aload_n hX (pc := 100) dX0_ask_100 rfl ?_
              refine ww_getR hX (pc := 101) fX0_17 (by decide) (xs_15 hL) (xr_15_1 hL) dX0_ask_101 ?_
              refine ww_iconst hX (pc := 104) (x := 0) dX0_ask_104 rfl ?_
              refine ww_lald hX (pc := 105) (xs_17 hL) (by decide) (by omega) (by omega) dX0_ask_105 ?_
              refine ww_nmL (fun v_106 hv_106 => ?_)
              refine ww_lstore hX (pc := 106) (lv' := [some (kR (some 15)), some (kR (some w)), some (kR (some 1)), some (kI e), some (kI c9), some (kI v_42), some (kI v_55), some (kI v_68), some (kL v_106), none]) dX0_ask_106 (by decide) rfl rfl ?_
              have hq1 := l_cmp_v v_106 0
              have hq0 : w64 0 = 0 := rfl
              have hvr := (zWv_o o_94 (by omega)).2
              have ht9 : J_94 17 (Int.toNat 0) = J_94 17 0 := rfl
              have hvq := w64_id (x := v_106) (by omega) (by omega)
              refine ww_lload hX (pc := 108) dX0_ask_108 rfl ?_
              refine ww_lconst hX (pc := 110) (x := 0) dX0_ask_110 (by decide) ?_
              refine ww_lcmp hX (pc := 111) dX0_ask_111 ?_
              refine ww_if_lt hX (pc := 112) (tgt := 132) dX0_ask_112 (by decide) (fun h_112 => ?_) (fun h_112 => ?_)
              · simp only [w32_mod] at h_112
                refine ww_iconst hX (pc := 132) (x := (-1)) dX0_ask_132 rfl ?_
                refine rI hX (pc := 133) hT (Nat.le_refl 0) (Nat.le_refl 0) dX0_ask_133 ?_
                exact ⟨kI_3, kJ_94, (by
                    obtain ⟨t1, t2, t3⟩ := zWv_o o_94 (by omega)
                    have t4 := w64_id (x := v_106) (by omega) (by omega)
                    have t5 : zTl qs (zEn e (Ia 1 5) (Ia 1 6)) = some v_106 := zTl_at qs _ c9.toNat q9 v_106 hq9 (by rw [zKv_1 hdj h_79d (by omega), t1, hv_106]; rfl) (fun j q g1 g2 => hno j q (by omega) g2)
                    rw [t5]
                    exact zGv_so (fun g => by omega) (fun g => by omega))⟩
              · simp only [w32_mod] at h_112
                have hq22 := l_cmp_v v_106 (I_3 1 6)
                have hq3 : w64 (I_3 1 6) = I_3 1 6 := w64_id (by omega) (by omega)
                refine ww_lload hX (pc := 115) dX0_ask_115 rfl ?_
                refine ww_aload_n hX (pc := 117) dX0_ask_117 rfl ?_
                refine ww_getI hX (pc := 118) fX0_42 (by decide) (xs_1 hL) dX0_ask_118 ?_
                refine ww_i2l hX (pc := 121) dX0_ask_121 ?_
                refine ww_toL (w32_id (by omega) (by omega)) ?_
                refine ww_lcmp hX (pc := 122) dX0_ask_122 ?_
                refine ww_if_ge hX (pc := 123) (tgt := 132) dX0_ask_123 (by decide) (fun h_123 => ?_) (fun h_123 => ?_)
                · simp only [w32_mod] at h_123
                  refine ww_iconst hX (pc := 132) (x := (-1)) dX0_ask_132 rfl ?_
                  refine rI hX (pc := 133) hT (Nat.le_refl 0) (Nat.le_refl 0) dX0_ask_133 ?_
                  exact ⟨kI_3, kJ_94, (by
                      obtain ⟨t1, t2, t3⟩ := zWv_o o_94 (by omega)
                      have t4 := w64_id (x := v_106) (by omega) (by omega)
                      have t5 : zTl qs (zEn e (Ia 1 5) (Ia 1 6)) = some v_106 := zTl_at qs _ c9.toNat q9 v_106 hq9 (by rw [zKv_1 hdj h_79d (by omega), t1, hv_106]; rfl) (fun j q g1 g2 => hno j q (by omega) g2)
                      rw [t5]
                      exact zGv_so (fun g => by omega) (fun g => by omega))⟩
                · simp only [w32_mod] at h_123
                  refine ww_lload hX (pc := 126) dX0_ask_126 rfl ?_
                  refine ww_l2i hX (pc := 128) dX0_ask_128 ?_
                  have hq4 := w32_of64 (v := v_106) (by omega) (by omega)
                  refine ww_w32 ?_
                  refine ww_goto hX (pc := 129) (tgt := 133) dX0_ask_129 (by decide) ?_
                  refine rI hX (pc := 133) hT (Nat.le_refl 0) (Nat.le_refl 0) dX0_ask_133 ?_
                  exact ⟨kI_3, kJ_94, (by
                      obtain ⟨t1, t2, t3⟩ := zWv_o o_94 (by omega)
                      have t4 := w64_id (x := v_106) (by omega) (by omega)
                      have t5 : zTl qs (zEn e (Ia 1 5) (Ia 1 6)) = some v_106 := zTl_at qs _ c9.toNat q9 v_106 hq9 (by rw [zKv_1 hdj h_79d (by omega), t1, hv_106]; rfl) (fun j q g1 g2 => hno j q (by omega) g2)
                      rw [t5]
                      exact zGv_so (fun g => by omega) (fun g => by omega))⟩
  exact hl_14 _ v_12 J_3 rfl ⟨kJ_3, by omega, by omega, fun j q g1 g2 => absurd (List.getElem?_eq_some_iff.mp g2).1 (by omega)⟩
end
section
theorem zVa_ge {f : Nat → Int} {N j : Nat} {q : Nat × Nat} (h : (zTk f N 0)[j]? = some q) : 0 ≤ zVa f q.1 q.2 := by
  by_cases h2 : zKl (f q.1) = 2
  · rw [zVa_2 h2]
    have h3 : q.2 = zSt f N q.1 := zTs_st _ 0 j q h
    refine (zNu_r _ (fun i hi => ?_)).1
    have h4 := zSt_all (f := f) (n := N) (k := q.1) (q := q.1 + i) (by omega) (by omega)
    rw [h2] at h4
    exact zKl_2.mp h4
  · rw [zVa_0 h2]
    exact Int.le_refl 0
/-! a told law in class and reference: what both tell by it -/
theorem LC6_kp {I : aI1} {S : aS1} {w : Nat} {k : Nat → Int} {t : Nat} (h : LC6 I S w k t) : ∃ qs, zLR I S w qs ∧ zKp k t qs := by
  obtain ⟨f, N, qs, hN, hx, hl, h1, h2⟩ := h
  have hn := zTk_len (f := f) (n := N)
  refine ⟨qs, hl, zCd f (zTk f N 0), zVl f (zTk f N 0), (zTk f N 0).length, 12, 0, ?_, h1, by omega, fun j hj => ⟨(h2 j hj).2, ?_⟩, hx⟩
  · funext i
    unfold cvw
    by_cases g : (i : Int) < k (311 + t)
    · rw [if_pos g]
      exact (h2 i (by omega)).1
    · rw [if_neg g]
      exact (zCd_n (List.getElem?_eq_none (by omega))).symm
  · have hg : (zTk f N 0)[j]? = some ((zTk f N 0)[j]'hj) := List.getElem?_eq_getElem hj
    rw [zVl_s hg]
    exact zVa_ge hg
theorem LS6_kp {I : aI1} {S : aS1} {row : Nat → Option Nat} {k : Nat → Int} {n : Int} (h : LS6 I S row k n) : ∃ qsf : Nat → List zQ, (∀ t : Nat, (t : Int) < n → ∃ w, row t = some w ∧ zLR I S w (qsf t)) ∧ (∀ t : Nat, (t : Int) < n → zKp k t (qsf t)) := by
  have h1 : ∀ t : Nat, ∃ qs : List zQ, (t : Int) < n → (∃ w, row t = some w ∧ zLR I S w qs) ∧ zKp k t qs := fun t => by
    by_cases g : (t : Int) < n
    · obtain ⟨w, w1, w2⟩ := h t g
      obtain ⟨qs, q1, q2⟩ := LC6_kp w2
      exact ⟨qs, fun _ => ⟨⟨w, w1, q1⟩, q2⟩⟩
    · exact ⟨[], fun g2 => absurd g2 g⟩
  obtain ⟨qsf, hq⟩ := Classical.axiomOfChoice h1
  exact ⟨qsf, fun t ht => (hq t ht).1, fun t ht => (hq t ht).2⟩
end
section
/-! learn: its answers agree -/
theorem R66_learn {A B JA JB : aI1} {a y : Int} {qsf : Nat → List zQ} (hQ : RX A) (hh : Ch [50, 51, 60] [0, 1, 19, 20, 21] A B ∧ Kp 49 73 JA JB ∧ RX B ∧ (0 ≤ a ∧ a < A 51 310 → (∀ s : Nat, (s : Int) ≤ FU (A 51 304) → B 51 s = zLd (qsf a.toNat) (A 51 304) (A 51 305) s) ∧ (∀ s : Nat, ¬ (s : Int) ≤ FU (A 51 304) → B 51 s = A 51 s) ∧ y = cnR (B 51) (FU (A 51 304) + 1).toNat) ∧ (¬ (0 ≤ a ∧ a < A 51 310) → y = -2 ∧ B 51 = A 51)) : Ch [50, 51, 60] [0, 1, 19, 20, 21] A B ∧ Kp 49 73 JA JB ∧ RX B ∧ (∀ j : Nat, 256 ≤ j → B 51 j = A 51 j) := by
  have q := RX_o hQ
  refine ⟨hh.1, hh.2.1, hh.2.2.1, fun j hj => ?_⟩
  by_cases ha : 0 ≤ a ∧ a < A 51 310
  · exact (hh.2.2.2.1 ha).2.1 j (by omega)
  · rw [(hh.2.2.2.2 ha).2]
end
section
/-! make's first CODE -/
/-- the first row in the class's order that is LASTING t at least -/
noncomputable def srF (k N t f : Nat) (r p : List Nat) : List Nat := Nat.rec (motive := fun _ => List Nat → List Nat → List Nat) (fun _ _ => []) (fun _ ih r p => frc (DL k r) (fun d => cond (Nat.ble t d) r (frc (nxA k r p (N - 1)) (fun q => cond (Nat.beq q 0) [] (frcL (mkL (nxR r q) N []) (fun r' => frcL (mkL (nxP r p q) N []) (fun p' => ih r' p'))))))) f r p
theorem srF_s (k N t f : Nat) (r p : List Nat) : srF k N t (f + 1) r p = if t ≤ DL k r then r else if nxA k r p (N - 1) = 0 then [] else srF k N t f (mkL (nxR r (nxA k r p (N - 1))) N []) (mkL (nxP r p (nxA k r p (N - 1))) N []) := by
  show frc (DL k r) (fun d => cond (Nat.ble t d) r (frc (nxA k r p (N - 1)) (fun q => cond (Nat.beq q 0) [] (frcL (mkL (nxR r q) N []) (fun r' => frcL (mkL (nxP r p q) N []) (fun p' => srF k N t f r' p')))))) = _
  rw [frc_e, ble_if, frc_e, beq_if, frcL_e, frcL_e]
noncomputable def lwF (k N t c : Nat) : Bool := Nat.rec (motive := fun _ => Bool) true (fun c ih => cond (Nat.ble t (DL k (dgs k N c))) false ih) c
theorem lwF_s (k N t c : Nat) : lwF k N t (c + 1) = if t ≤ DL k (dgs k N c) then false else lwF k N t c := ble_if _ _ _ _
theorem lwF_0 (k N t : Nat) : ∀ c, lwF k N t c = true → cN k N t c = 0
  | 0, _ => rfl
  | c + 1, h => by
    rw [lwF_s] at h
    by_cases g : t ≤ DL k (dgs k N c)
    · rw [if_pos g] at h
      cases h
    · rw [if_neg g] at h
      show cN k N t c + (if t ≤ DL k (dgs k N c) then 1 else 0) = 0
      rw [if_neg g, lwF_0 k N t c h]
/-- all below j -/
noncomputable def andX (j : Nat) (f : Nat → Bool) : Bool := Nat.rec (motive := fun _ => Bool) true (fun j ih => cond (f j) ih false) j
theorem andX_e {f : Nat → Bool} : ∀ j, andX j f = true → ∀ i, i < j → f i = true
  | 0, _, i, hi => absurd hi (Nat.not_lt_zero i)
  | j + 1, h, i, hi => by
    have h2 : cond (f j) (andX j f) false = true := h
    cases hf : f j with
    | false =>
      rw [hf] at h2
      exact absurd (show false = true from h2) (by decide)
    | true =>
      rw [hf] at h2
      by_cases e : i = j
      · rw [e, hf]
      · exact andX_e j h2 i (by omega)
/-- no CODE of a number below C is LASTING t: STATE by STATE from the last -/
noncomputable def allB (k t m C : Nat) (cs ls : List Nat) : Bool := Nat.rec (motive := fun _ => Nat → List Nat → List Nat → Bool) (fun _ _ ls => cond (Nat.ble t (gd ls 0)) false true) (fun m ih C cs ls => frcL (bsV m (Nat.succ m) cs ls k 0 []) (fun bs => andX k (fun x => frc ((C + (k - 1) - x) / k) (fun c => cond (Nat.beq c 0) true (frc (mnV x bs) (fun l => ih c (x :: cs) (l :: ls))))))) m C cs ls
theorem allB_s (k t m C : Nat) (cs ls : List Nat) : allB k t (m + 1) C cs ls = andX k (fun x => if (C + (k - 1) - x) / k = 0 then true else allB k t m ((C + (k - 1) - x) / k) (x :: cs) (stL k m x cs ls :: ls)) := by
  show frcL (bsV m (Nat.succ m) cs ls k 0 []) (fun bs => andX k (fun x => frc ((C + (k - 1) - x) / k) (fun c => cond (Nat.beq c 0) true (frc (mnV x bs) (fun l => allB k t m c (x :: cs) (l :: ls)))))) = _
  rw [frcL_e]
  refine congrArg (andX k) (funext (fun x => ?_))
  rw [frc_e, beq_if, frc_e]
  rfl
theorem allB_e {k t : Nat} (hk : 0 < k) : ∀ m C cs ls, C ≤ k ^ m → allB k t m C cs ls = true → ∀ c, c < C → gd (lasA k (dr k m c) cs ls) 0 < t
  | 0, C, cs, ls, _, h, c, _ => by
    have h2 : cond (Nat.ble t (gd ls 0)) false true = true := h
    rw [ble_if] at h2
    show gd ls 0 < t
    by_cases e : t ≤ gd ls 0
    · rw [if_pos e] at h2
      exact absurd h2 (by decide)
    · omega
  | m + 1, C, cs, ls, hC, h, c, hc => by
    rw [allB_s] at h
    have hx := Nat.mod_lt c hk
    have h2 := andX_e k h (c % k) hx
    have hd := Nat.div_add_mod c k
    have h3 : c / k < (C + (k - 1) - c % k) / k := by
      refine Nat.lt_of_succ_le ((Nat.le_div_iff_mul_le hk).mpr ?_)
      show (c / k + 1) * k ≤ _
      rw [Nat.add_mul, Nat.one_mul, Nat.mul_comm (c / k) k]
      omega
    have h4 : (C + (k - 1) - c % k) / k ≤ k ^ m := by
      have h6 : C ≤ k ^ m * k := by rw [← Nat.pow_succ]; exact hC
      refine Nat.le_of_lt_succ ((Nat.div_lt_iff_lt_mul hk).mpr ?_)
      show _ < (k ^ m + 1) * k
      rw [Nat.add_mul, Nat.one_mul]
      generalize k ^ m * k = z at h6 ⊢
      omega
    have h7 : (if (C + (k - 1) - c % k) / k = 0 then true else allB k t m ((C + (k - 1) - c % k) / k) (c % k :: cs) (stL k m (c % k) cs ls :: ls)) = true := h2
    rw [if_neg (Nat.ne_of_gt (Nat.lt_of_le_of_lt (Nat.zero_le _) h3))] at h7
    have h8 := allB_e hk m _ _ _ h4 h7 (c / k) h3
    show gd (lasA k (c % k :: dr k m (c / k)) cs ls) 0 < t
    rw [lasA_c, dr_len]
    exact h8
theorem lwF_B {k N t : Nat} : ∀ c, (∀ i, i < c → DL k (dgs k N i) < t) → lwF k N t c = true
  | 0, _ => rfl
  | c + 1, h => by
    rw [lwF_s, if_neg (by have := h c (by omega); omega)]
    exact lwF_B c (fun i hi => h i (by omega))
theorem lwF_A {k N t c : Nat} (hk : 0 < k) (hc : c ≤ k ^ N) (h : allB k t N c [] [] = true) : lwF k N t c = true :=
  lwF_B c (fun i hi => by rw [DL_dr]; exact allB_e hk N c [] [] hc h i hi)
/-- c is the number of the first CODE that is LASTING t, and it is the class's first -/
def FSc (k N t c : Nat) : Prop := srF k N t 65536 (zrs N) (zrs N) = dgs k N c ∧ lwF k N t c = true ∧ t ≤ DL k (dgs k N c)
theorem fs_2_2_0 : FSc 2 2 0 0 := ⟨by decide +kernel, by decide +kernel, by decide +kernel⟩
theorem fs_2_2_1 : FSc 2 2 1 1 := ⟨by decide +kernel, by decide +kernel, by decide +kernel⟩
theorem fs_2_4_0 : FSc 2 4 0 0 := ⟨by decide +kernel, by decide +kernel, by decide +kernel⟩
theorem fs_2_4_1 : FSc 2 4 1 1 := ⟨by decide +kernel, by decide +kernel, by decide +kernel⟩
theorem fs_2_4_2 : FSc 2 4 2 2 := ⟨by decide +kernel, by decide +kernel, by decide +kernel⟩
theorem fs_2_8_0 : FSc 2 8 0 0 := ⟨by decide +kernel, by decide +kernel, by decide +kernel⟩
theorem fs_2_8_1 : FSc 2 8 1 1 := ⟨by decide +kernel, by decide +kernel, by decide +kernel⟩
theorem fs_2_8_2 : FSc 2 8 2 2 := ⟨by decide +kernel, by decide +kernel, by decide +kernel⟩
theorem fs_2_8_3 : FSc 2 8 3 9 := ⟨by decide +kernel, by decide +kernel, by decide +kernel⟩
theorem fs_3_2_0 : FSc 3 2 0 0 := ⟨by decide +kernel, by decide +kernel, by decide +kernel⟩
theorem fs_3_4_0 : FSc 3 4 0 0 := ⟨by decide +kernel, by decide +kernel, by decide +kernel⟩
theorem fs_3_4_1 : FSc 3 4 1 5 := ⟨by decide +kernel, by decide +kernel, by decide +kernel⟩
theorem fs_3_8_0 : FSc 3 8 0 0 := ⟨by decide +kernel, by decide +kernel, by decide +kernel⟩
theorem fs_3_8_1 : FSc 3 8 1 5 := ⟨by decide +kernel, by decide +kernel, by decide +kernel⟩
theorem fs_3_8_2 : FSc 3 8 2 302 := ⟨by decide +kernel, lwF_A (by decide) (by decide) (by decide +kernel), by decide +kernel⟩
theorem fs_4_2_0 : FSc 4 2 0 0 := ⟨by decide +kernel, by decide +kernel, by decide +kernel⟩
theorem fs_4_4_0 : FSc 4 4 0 0 := ⟨by decide +kernel, by decide +kernel, by decide +kernel⟩
theorem fs_4_4_1 : FSc 4 4 1 27 := ⟨by decide +kernel, by decide +kernel, by decide +kernel⟩
theorem fs_4_8_0 : FSc 4 8 0 0 := ⟨by decide +kernel, by decide +kernel, by decide +kernel⟩
theorem fs_4_8_1 : FSc 4 8 1 27 := ⟨by decide +kernel, by decide +kernel, by decide +kernel⟩
theorem fs_4_8_2 : FSc 4 8 2 7140 := ⟨by decide +kernel, lwF_A (by decide) (by decide) (by decide +kernel), by decide +kernel⟩
end
section
/-- what was found among the first cc CODES -/
def zFd (k N t cc : Nat) (F : Nat → Int) : Prop := cN k N t cc ≠ 0 → ∃ c0, cN k N t c0 = 0 ∧ t ≤ DL k (dgs k N c0) ∧ ∀ s : Nat, s < N → F s = ((gd (dgs k N c0) s : Nat) : Int)
theorem zFd_0 {k N t : Nat} {F : Nat → Int} : zFd k N t 0 F := fun h => absurd rfl h
theorem zFd_sk {k N t cc : Nat} {F G : Nat → Int} (h : zFd k N t cc F) (e : cN k N t (cc + 1) = cN k N t cc) (hG : G = F) : zFd k N t (cc + 1) G := by
  intro h1
  rw [hG]
  exact h (by rw [← e]; exact h1)
theorem zFd_old {k N t cc : Nat} {F G : Nat → Int} (h : zFd k N t cc F) (h0 : cN k N t cc ≠ 0) (hG : G = F) : zFd k N t (cc + 1) G := by
  intro _
  rw [hG]
  exact h h0
theorem zFd_new {k N t cc : Nat} {G : Nat → Int} (h0 : cN k N t cc = 0) (hd : t ≤ DL k (dgs k N cc)) (hG : ∀ s : Nat, s < N → G s = ((gd (dgs k N cc) s : Nat) : Int)) : zFd k N t (cc + 1) G := fun _ => ⟨cc, h0, hd, hG⟩
theorem zFd_at {k N t c c' : Nat} {F G : Nat → Int} (h : zFd k N t c F) (e : c = c') (hG : G = F) : zFd k N t c' G := by rw [← e, hG]; exact h
end
section
/-- firsts: the row is kept for the first w of a pair of which there was none -/
def NF (F G : aI1) (a w : Int) : Prop := (∀ t : Nat, t < 4 → ∀ j : Nat, j < 8 → G 44 (8 * (4 * a.toNat + t) + j) = if (t : Int) < w ∧ F 43 (4 * a.toNat + t) = 0 then F 41 j else F 44 (8 * (4 * a.toNat + t) + j)) ∧ ∀ j : Nat, (j < 32 * a.toNat ∨ 32 * a.toNat + 32 ≤ j) → G 44 j = F 44 j
theorem NF_0 {F : aI1} {a : Int} : NF F F a 0 := ⟨fun t _ j _ => by rw [if_neg (by omega)], fun _ _ => rfl⟩
theorem NF_k {F G H : aI1} {a w : Int} (h : NF F G a w) (hc : ¬ F 43 (4 * a.toNat + w.toNat) = 0) (h0 : 0 ≤ w) (e : H 44 = G 44) : NF F H a (w + 1) := by
  refine ⟨fun t ht j hj => ?_, fun j hj => by rw [e]; exact h.2 j hj⟩
  rw [e, h.1 t ht j hj]
  by_cases g : (t : Int) < w ∧ F 43 (4 * a.toNat + t) = 0
  · rw [if_pos g, if_pos ⟨by omega, g.2⟩]
  · rw [if_neg g]
    by_cases g2 : (t : Int) < w + 1 ∧ F 43 (4 * a.toNat + t) = 0
    · exfalso
      have e2 : t = w.toNat := by
        by_cases g3 : (t : Int) < w
        · exact absurd ⟨g3, g2.2⟩ g
        · omega
      rw [e2] at g2
      exact hc g2.2
    · rw [if_neg g2]
theorem NF_c {F G H : aI1} {a w : Int} {dp : Nat} (h : NF F G a w) (hc : F 43 (4 * a.toNat + w.toNat) = 0) (h0 : 0 ≤ w) (h4 : w < 4) (hd : dp = 8 * (4 * a.toNat + w.toNat)) (e : H 44 = va_cpy (F 41) (G 44) 0 dp 8) : NF F H a (w + 1) := by
  refine ⟨fun t ht j hj => ?_, fun j hj => ?_⟩
  · rw [e]
    unfold va_cpy
    by_cases e2 : t = w.toNat
    · rw [if_pos (by omega), if_pos ⟨by omega, by rw [e2]; exact hc⟩]
      exact congrArg _ (by omega)
    · rw [if_neg (by omega), h.1 t ht j hj]
      by_cases g : (t : Int) < w ∧ F 43 (4 * a.toNat + t) = 0
      · rw [if_pos g, if_pos ⟨by omega, g.2⟩]
      · rw [if_neg g]
        by_cases g2 : (t : Int) < w + 1 ∧ F 43 (4 * a.toNat + t) = 0
        · exact absurd ⟨by omega, g2.2⟩ g
        · rw [if_neg g2]
  · rw [e]
    unfold va_cpy
    rw [if_neg (by omega)]
    exact h.2 j hj
def NTy (F G : aI1) (a b c : Int) : Prop := ∃ w : Int, (w = b + 1 ∨ (w = 4 ∧ 3 ≤ b)) ∧ NI F G a w c ∧ NF F G a w
set_option maxHeartbeats 4000000 in
set_option maxRecDepth 20000 in
theorem c6_X2_note (l0 : Launch) {Ia Ja : aI1} {Ra : aR1} {Sa : aS1} (hL : LY Ra Sa) {a b c : Int} (ha0 : 0 ≤ a) (ha1 : a ≤ 8) (hb0 : 0 ≤ b) (hb1 : b ≤ 100) (hr : ∀ j, j < 8 → 0 ≤ Ia 41 j ∧ Ia 41 j ≤ 7) (hF : FI Ia) (hcb : ∀ t : Nat, t < 4 → 0 ≤ Ia 43 (4 * a.toNat + t) ∧ Ia 43 (4 * a.toNat + t) < 16777216)  : CT l0 1 0 0 mX2_note [kR (some 37), kI a, kI b, kI c] Ia Ja Ra Sa (cV (fun I' J' => Kp 43 45 Ia I' ∧ Kp 43 45 Ja J' ∧ FI I' ∧ NTy Ia I' a b c) Ra Sa) := by
  refine ct_in pn_X2 (Nat.le_of_ble_eq_true rfl) (fun X hX hT hIn => ?_)
  have hX : aK l0 X cX2_note 6 RX2 none 1 0 0 := hX
  change WW X 0 [some (kR (some 37)), some (kI a), some (kI b), some (kI c), none, none] [] Ia Ja Ra Sa 0 0
  refine ww_iconst hX (pc := 0) (x := 0) dX2_note_0 rfl ?_
  refine ww_istore hX (pc := 1) (lv' := [some (kR (some 37)), some (kI a), some (kI b), some (kI c), some (kI 0), none]) dX2_note_1 (by decide) rfl rfl ?_
  have hl_3 : ∀ (n_3 : Nat) (w : Int) (I2 : aI1) (J2 : aI1), (4 - w).toNat = n_3 → (Kp 43 45 Ia I2 ∧ Kp 43 45 Ja J2 ∧ (0 ≤ w ∧ w ≤ 4 ∧ w ≤ b + 1) ∧ FI I2 ∧ NI Ia I2 a w c ∧ NF Ia I2 a w) → WW X 3 [some (kR (some 37)), some (kI a), some (kI b), some (kI c), some (kI w), none] [] I2 J2 Ra Sa 0 0 := by
    intro n_3
    induction n_3 using Nat.strongRecOn with
    | ind n_3 ih_3 =>
      intro w I2 J2 hm_3 hv_3
      have hq_3 := Sh0_i hm_3
      clear hm_3
      obtain ⟨kI2, kJ2, hw, fI2, hni, hnf⟩ := hv_3
      refine ww_iload hX (pc := 3) dX2_note_3 rfl ?_
      refine ww_iload_n hX (pc := 5) dX2_note_5 rfl ?_
      refine ww_icmp_gt hX (pc := 6) (tgt := 69) dX2_note_6 (by decide) (fun h_6 => ?_) (fun h_6 => ?_)
      · simp only [w32_mod] at h_6
        refine rV hX (pc := 69) hT (Nat.le_refl 0) (Nat.le_refl 0) dX2_note_69 ?_
        exact ⟨kI2, kJ2, fI2, w, by omega, hni, hnf⟩
      · simp only [w32_mod] at h_6
        refine ww_iload hX (pc := 9) dX2_note_9 rfl ?_
        refine ww_iconst hX (pc := 11) (x := 4) dX2_note_11 rfl ?_
        refine ww_icmp_ge hX (pc := 12) (tgt := 69) dX2_note_12 (by decide) (fun h_12 => ?_) (fun h_12 => ?_)
        · simp only [w32_mod] at h_12
          refine rV hX (pc := 69) hT (Nat.le_refl 0) (Nat.le_refl 0) dX2_note_69 ?_
          exact ⟨kI2, kJ2, fI2, w, by omega, hni, hnf⟩
        · simp only [w32_mod] at h_12
          refine ww_iload_n hX (pc := 15) dX2_note_15 rfl ?_
          refine ww_iconst hX (pc := 16) (x := 4) dX2_note_16 rfl ?_
          refine ww_imul hX (pc := 17) dX2_note_17 ?_
          refine ww_iload hX (pc := 18) dX2_note_18 rfl ?_
          refine ww_iadd hX (pc := 20) dX2_note_20 ?_
          refine ww_nmI (fun v_21 hv_21 => ?_)
          refine ww_istore hX (pc := 21) (lv' := [some (kR (some 37)), some (kI a), some (kI b), some (kI c), some (kI w), some (kI v_21)]) dX2_note_21 (by decide) rfl rfl ?_
          refine ww_aload_n hX (pc := 23) dX2_note_23 rfl ?_
          refine ww_getR hX (pc := 24) fX2_25 (by decide) (xs_37 hL) (xr_37_3 hL) dX2_note_24 ?_
          refine ww_iload hX (pc := 27) dX2_note_27 rfl ?_
          refine ww_iald hX (pc := 29) (xs_43 hL) (by decide) (by omega) (by omega) dX2_note_29 ?_
          refine ww_if_ne hX (pc := 30) (tgt := 52) dX2_note_30 (by decide) (fun h_30 => ?_) (fun h_30 => ?_)
          · simp only [w32_mod] at h_30
            refine ww_aload_n hX (pc := 52) dX2_note_52 rfl ?_
            refine ww_getR hX (pc := 53) fX2_25 (by decide) (xs_37 hL) (xr_37_3 hL) dX2_note_53 ?_
            refine ww_iload hX (pc := 56) dX2_note_56 rfl ?_
            refine ww_dup2 hX (pc := 58) dX2_note_58 ?_
            refine ww_iald hX (pc := 59) (xs_43 hL) (by decide) (by omega) (by omega) dX2_note_59 ?_
            refine ww_iload_n hX (pc := 60) dX2_note_60 rfl ?_
            refine ww_iadd hX (pc := 61) dX2_note_61 ?_
            refine ww_iast hX (pc := 62) (xs_43 hL) (by decide) (by omega) (by omega) dX2_note_62 ?_
            refine ww_nmH (fun I_62 eI_62 => ?_)
            have kI_62 : Kp 43 45 Ia I_62 := by rw [eI_62]; exact Kp_up kI2 _ _ (by decide)
            have fI_62 : FI I_62 := FI_of fI2 (by rw [eI_62, up2_off _ _ _ (by decide)])
            have n62 : NI Ia I_62 a (w + 1) c := NI_s hni (by omega) (by omega) (by rw [eI_62, up2_row, show v_21.toNat = 4 * a.toNat + w.toNat by omega])
            have hcw := hni.1 w.toNat (by omega)
            rw [if_neg (by omega)] at hcw
            have hvw : I2 43 v_21.toNat = I2 43 (4 * a.toNat + w.toNat) := congrArg _ (by omega)
            have hbw := hcb w.toNat (by omega)
            have m62 : NF Ia I_62 a (w + 1) := NF_k hnf (by omega) (by omega) (by rw [eI_62, up2_off _ _ _ (by decide)])
            refine ww_iinc hX (pc := 63) (lv' := [some (kR (some 37)), some (kI a), some (kI b), some (kI c), some (kI (w + 1)), some (kI v_21)]) dX2_note_63 rfl (by decide) rfl rfl ?_
            refine ww_goto hX (pc := 66) (tgt := 3) dX2_note_66 (by decide) ?_
            refine ww_sub [some (kR (some 37)), some (kI a), some (kI b), some (kI c), some (kI (w + 1)), none] (aLe_s (aLe_s (aLe_s (aLe_s (aLe_s (aLe_n aLe_0)))))) ?_
            exact ih_3 _ (by have hm9 := Sh0_e hq_3; omega) (w + 1) I_62 J2 rfl ⟨kI_62, kJ2, ⟨by omega, by omega, by omega⟩, fI_62, n62, m62⟩
          · simp only [w32_mod] at h_30
            refine ww_aload_n hX (pc := 33) dX2_note_33 rfl ?_
            refine ww_getR hX (pc := 34) fX2_18 (by decide) (xs_37 hL) (xr_37_1 hL) dX2_note_34 ?_
            refine ww_iconst hX (pc := 37) (x := 0) dX2_note_37 rfl ?_
            refine ww_aload_n hX (pc := 38) dX2_note_38 rfl ?_
            refine ww_getR hX (pc := 39) fX2_28 (by decide) (xs_37 hL) (xr_37_4 hL) dX2_note_39 ?_
            refine ww_iload hX (pc := 42) dX2_note_42 rfl ?_
            refine ww_bipush hX (pc := 44) (x := 8) dX2_note_44 (by decide) ?_
            refine ww_imul hX (pc := 46) dX2_note_46 ?_
            refine ww_bipush hX (pc := 47) (x := 8) dX2_note_47 (by decide) ?_
            refine ww_copy hX (pc := 49) tb_879 tb_663 tb_662 tb_19 (xs_41 hL) (xs_44 hL) (by decide) (by decide) (by omega) (by omega) (by omega) (by omega) (by omega) (by decide) (Nat.le_of_ble_eq_true rfl) dX2_note_49 ?_
            refine ww_nmH (fun I_49 eI_49 => ?_)
            have kI_49 : Kp 43 45 Ia I_49 := by rw [eI_49]; exact Kp_upR kI2 _ (by decide)
            have fI_49 : FI I_49 := by rw [eI_49]; exact FI_cpy fI2 (by rw [show I2 41 = Ia 41 from kI2 41 (by decide)]; exact hr)
            have x43 : I_49 43 = I2 43 := by rw [eI_49, upR_n _ _ (by decide)]
            refine ww_aload_n hX (pc := 52) dX2_note_52 rfl ?_
            refine ww_getR hX (pc := 53) fX2_25 (by decide) (xs_37 hL) (xr_37_3 hL) dX2_note_53 ?_
            refine ww_iload hX (pc := 56) dX2_note_56 rfl ?_
            refine ww_dup2 hX (pc := 58) dX2_note_58 ?_
            refine ww_iald hX (pc := 59) (xs_43 hL) (by decide) (by omega) (by omega) dX2_note_59 ?_
            refine ww_iload_n hX (pc := 60) dX2_note_60 rfl ?_
            refine ww_iadd hX (pc := 61) dX2_note_61 ?_
            refine ww_iast hX (pc := 62) (xs_43 hL) (by decide) (by omega) (by omega) dX2_note_62 ?_
            refine ww_nmH (fun I_62 eI_62 => ?_)
            have kI_62 : Kp 43 45 Ia I_62 := by rw [eI_62]; exact Kp_up kI_49 _ _ (by decide)
            have fI_62 : FI I_62 := FI_of fI_49 (by rw [eI_62, up2_off _ _ _ (by decide)])
            have n62 : NI Ia I_62 a (w + 1) c := NI_s hni (by omega) (by omega) (by rw [eI_62, up2_row, show v_21.toNat = 4 * a.toNat + w.toNat by omega, x43])
            have hcw := hni.1 w.toNat (by omega)
            rw [if_neg (by omega)] at hcw
            have hvw : I2 43 v_21.toNat = I2 43 (4 * a.toNat + w.toNat) := congrArg _ (by omega)
            have hbw := hcb w.toNat (by omega)
            have m62 : NF Ia I_62 a (w + 1) := NF_c hnf (by omega) (by omega) (by omega) (dp := (v_21 * 8).toNat) (by omega) (by rw [eI_62, up2_off _ _ _ (by decide), eI_49, upR_s, show I2 41 = Ia 41 from kI2 41 (by decide)]; rfl)
            refine ww_iinc hX (pc := 63) (lv' := [some (kR (some 37)), some (kI a), some (kI b), some (kI c), some (kI (w + 1)), some (kI v_21)]) dX2_note_63 rfl (by decide) rfl rfl ?_
            refine ww_goto hX (pc := 66) (tgt := 3) dX2_note_66 (by decide) ?_
            refine ww_sub [some (kR (some 37)), some (kI a), some (kI b), some (kI c), some (kI (w + 1)), none] (aLe_s (aLe_s (aLe_s (aLe_s (aLe_s (aLe_n aLe_0)))))) ?_
            exact ih_3 _ (by have hm9 := Sh0_e hq_3; omega) (w + 1) I_62 J2 rfl ⟨kI_62, kJ2, ⟨by omega, by omega, by omega⟩, fI_62, n62, m62⟩
  exact hl_3 _ 0 Ia Ja rfl ⟨(Kp_rf (a := 43) (b := 45)), (Kp_rf (a := 43) (b := 45)), ⟨by omega, by omega, by omega⟩, hF, NI_0, NF_0⟩
end
