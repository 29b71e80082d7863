section
/-! what a law tells -/
def zTd (td : Int) (r : Option Int) : Prop := (∀ x, r = some x → td = x ∧ -1000000000 ≤ x ∧ x ≤ 1000000000) ∧ (r = none → td = -1)
theorem zTd_b {td : Int} {r : Option Int} (h : zTd td r) : -1000000000 ≤ td ∧ td ≤ 1000000000 := by
  cases r with
  | none => have := h.2 rfl; omega
  | some x => have := h.1 x rfl; omega
def zGv (K : Int) : Option Int → Int
  | none => -1
  | some x => if 0 ≤ x ∧ x < K then x else -1
theorem zGv_of {td x K : Int} {r : Option Int} (h : zTd td r) (h1 : 0 ≤ td ∧ td < K → x = td) (h2 : ¬ (0 ≤ td ∧ td < K) → x = -1) : x = zGv K r := by
  cases r with
  | none =>
    have := h.2 rfl
    exact h2 (by omega)
  | some w =>
    obtain ⟨rfl, -⟩ := h.1 w rfl
    unfold zGv
    by_cases hc : 0 ≤ td ∧ td < K
    · exact (h1 hc).trans (if_pos hc).symm
    · exact (h2 hc).trans (if_neg hc).symm
theorem zTl_snoc {q : zQ} {en : zE} : ∀ dn : List zQ, zTl (dn ++ [q]) en = (match zCv q en with
    | some x => some x
    | none => zTl dn en)
  | [] => by
    show zTl [q] en = _
    rw [zTl_c0 (q := q) (qs := []) (en := en) rfl]
    cases zCv q en <;> rfl
  | p :: dn => by
    have h1 := zTl_snoc (q := q) (en := en) dn
    show zTl (p :: (dn ++ [q])) en = _
    cases hc : zCv q en with
    | some x =>
      rw [hc] at h1
      exact zTl_c1 h1
    | none =>
      rw [hc] at h1
      have h1 : zTl (dn ++ [q]) en = zTl dn en := h1
      show (match zTl (dn ++ [q]) en with
        | some x => some x
        | none => zCv p en) = zTl (p :: dn) en
      rw [h1]
      rfl
theorem zTd_s {td td' x : Int} {q : zQ} {dn : List zQ} {en : zE} (h0 : zTd td (zTl dn en)) (h1 : ∀ w, zCv q en = some w → td' = w ∧ -1000000000 ≤ w ∧ w ≤ 1000000000) (h2 : zCv q en = none → td' = td) : zTd td' (zTl (dn ++ [q]) en) := by
  rw [zTl_snoc]
  cases hc : zCv q en with
  | some w =>
    have := h1 w hc
    exact ⟨fun u hu => (by cases hu; exact this), fun hn => (by cases hn)⟩
  | none =>
    rw [h2 hc]
    exact h0
theorem zTd_s0 {td td' sum B1 : Int} {q : zQ} {D : zD} {dn : List zQ} {en : zE} (h0 : zTd td (zTl dn en)) (hq : q = (D, none)) (h1 : zRv 1 0 B1 sum (D en)) (hx : B1 = 0 → td' = sum) (hy : ¬ B1 = 0 → td' = td) : zTd td' (zTl (dn ++ [q]) en) := by
  obtain ⟨g1, g2⟩ := h1.1 rfl rfl
  subst hq
  refine zTd_s (x := 0) h0 (fun w hw => ?_) (fun hn => ?_)
  · have hw : D en = some w := hw
    obtain ⟨n1, n2, n3⟩ := g1 w hw
    have := hx n2
    omega
  · have hn : D en = none := hn
    have := g2 hn
    exact hy (by omega)
theorem zTd_s1 {td td' sum is B1 B2 : Int} {q : zQ} {D F : zD} {dn : List zQ} {en : zE} (h0 : zTd td (zTl dn en)) (hq : q = (D, some F)) (h1 : zRv 1 0 B1 sum (D en)) (h2 : zRv 1 0 B2 is (F en)) (hi : 0 ≤ is ∧ is ≤ 1) (hx : is = 1 → B2 = 0 → B1 = 0 → td' = sum) (hy : ¬ (is = 1 ∧ B2 = 0 ∧ B1 = 0) → td' = td) : zTd td' (zTl (dn ++ [q]) en) := by
  obtain ⟨g1, g2⟩ := h1.1 rfl rfl
  obtain ⟨k1, k2⟩ := h2.1 rfl rfl
  subst hq
  have e : zCv (D, some F) en = (match F en with
    | none => none
    | some w => if w = 0 then none else D en) := rfl
  cases hF : F en with
  | none =>
    rw [hF] at e
    have e : zCv (D, some F) en = none := e
    have := k2 hF
    refine zTd_s (x := 0) h0 (fun w hw => ?_) (fun hn => hy (by omega))
    rw [e] at hw
    cases hw
  | some f =>
    rw [hF] at e
    have e : zCv (D, some F) en = if f = 0 then none else D en := e
    obtain ⟨m1, m2, -⟩ := k1 f hF
    by_cases hf : f = 0
    · rw [if_pos hf] at e
      refine zTd_s (x := 0) h0 (fun w hw => ?_) (fun hn => hy (by omega))
      rw [e] at hw
      cases hw
    · rw [if_neg hf] at e
      refine zTd_s (x := 0) h0 (fun w hw => ?_) (fun hn => ?_)
      · rw [e] at hw
        obtain ⟨n1, n2, n3⟩ := g1 w hw
        have := hx (by omega) m2 n2
        omega
      · rw [e] at hn
        have := g2 hn
        exact hy (by omega)
def zDs (c vl : Nat → Int) (d b : Nat) (D : zD) (q : zQ) : Prop := (¬ c d = 2 ∧ b = d ∧ q = (D, none)) ∨ (c d = 2 ∧ ∃ F, zG (zT c vl 8) (d + 1) b F ∧ q = (D, some F))
theorem zDs_n {c vl : Nat → Int} {d b : Nat} {D : zD} {q : zQ} (h : zDs c vl d b D q) (hc : ¬ c d = 2) : b = d ∧ q = (D, none) := by
  rcases h with h | h
  · exact h.2
  · exact absurd h.1 hc
theorem zDs_s {c vl : Nat → Int} {d b : Nat} {D : zD} {q : zQ} (h : zDs c vl d b D q) (hc : c d = 2) : ∃ F, zG (zT c vl 8) (d + 1) b F ∧ q = (D, some F) := by
  rcases h with h | h
  · exact absurd hc h.1
  · exact h.2
theorem zDs_le {c vl : Nat → Int} {d b : Nat} {D : zD} {q : zQ} (h : zDs c vl d b D q) : d ≤ b := by
  rcases h with h | ⟨-, F, h1, -⟩
  · omega
  · have := zG_lt (zT_lt 8) h1
    omega
def zRs (c vl : Nat → Int) (T p : Nat) (rs : List zQ) : Prop := (rs = [] ∧ T ≤ p) ∨ ∃ m l, zLw c vl T m p l = .inr rs
theorem zRs_st {c vl : Nat → Int} {T p : Nat} {rs : List zQ} (h : zRs c vl T p rs) (hT : p < T) : ∃ q b rs', rs = q :: rs' ∧ c p = 1 ∧ (b = T ∨ c b = 159) ∧ (∃ d D, zG (zS c vl 8) (p + 1) d D ∧ zDs c vl d b D q) ∧ zRs c vl T (b + 1) rs' := by
  rcases h with ⟨-, h⟩ | ⟨m, l, h⟩
  · omega
  · cases m with
    | zero => cases h
    | succ m =>
      cases hc : zCl c vl p l with
      | inl f => rw [zLw_f hc] at h; cases h
      | inr q =>
        have hk : c p = 1 ∧ ∃ d D, zG (zS c vl 8) (p + 1) d D ∧ zDs c vl d q.1 D q.2.2 := by
          by_cases h1 : c p = 1
          · cases hs : zS c vl 8 (p + 1) l with
            | inl f => rw [zCl_f h1 hs] at hc; cases hc
            | inr r =>
              by_cases h2 : c r.1 = 2
              · cases ht : zT c vl 8 (r.1 + 1) r.2.1 with
                | inl f => rw [zCl_g h1 hs h2 ht] at hc; cases hc
                | inr u =>
                  rw [zCl_s h1 hs h2 ht] at hc
                  cases hc
                  exact ⟨h1, r.1, r.2.2, ⟨l, r.2.1, hs⟩, Or.inr ⟨h2, u.2.2, ⟨r.2.1, u.2.1, ht⟩, rfl⟩⟩
              · rw [zCl_n h1 hs h2] at hc
                cases hc
                exact ⟨h1, r.1, r.2.2, ⟨l, r.2.1, hs⟩, Or.inl ⟨h2, rfl, rfl⟩⟩
          · rw [zCl_0 h1] at hc; cases hc
        by_cases hT2 : q.1 = T
        · rw [zLw_e hc hT2] at h
          cases h
          exact ⟨q.2.2, q.1, [], rfl, hk.1, Or.inl hT2, hk.2, Or.inl ⟨rfl, by omega⟩⟩
        · by_cases h9 : c q.1 = 159
          · rw [zLw_s hc hT2 h9] at h
            cases hw : zLw c vl T m (q.1 + 1) q.2.1 with
            | inl f => rw [hw] at h; cases h
            | inr rs' =>
              rw [hw] at h
              cases h
              exact ⟨q.2.2, q.1, rs', rfl, hk.1, Or.inr h9, hk.2, Or.inr ⟨m, _, hw⟩⟩
          · rw [zLw_n hc hT2 h9] at h; cases h
theorem zRs_en {c vl : Nat → Int} {T p : Nat} {rs : List zQ} (h : zRs c vl T p rs) (hT : T ≤ p) (hc : ¬ c p = 1) : rs = [] := by
  rcases h with ⟨h, -⟩ | ⟨m, l, h⟩
  · exact h
  · cases m with
    | zero => cases h
    | succ m =>
      rw [zLw_f (zCl_0 hc)] at h
      cases h
set_option maxHeartbeats 4000000 in
set_option maxRecDepth 20000 in
theorem c6_X11_toldBy (l0 : Launch) {Ia Ja : aI1} {Ra : aR1} {Sa : aS1} (hL : LY Ra Sa) (hQ : RX Ia) {q : Int} (hq0 : 0 ≤ q) (hq1 : q < Ia 51 310) (hK : 0 ≤ Ia 51 305 ∧ Ia 51 305 ≤ 8) {c vl : Nat → Int} (hcv : cvw (Ia 51) q.toNat = c) {n9 : Nat} (hn9 : Ia 51 (311 + q.toNat) = n9) {en : zE} (hvl : ∀ j, j < n9 → Ia 51 (2717 + 400 * q.toNat + j) = vl j ∧ 0 ≤ vl j) (hen : ∀ j, j < 8 → Ia 60 j = en j ∧ -1000 ≤ en j ∧ en j ≤ 1000) {qs : List zQ} {m9 l9 : Nat} (hzl : zLw c vl n9 m9 0 l9 = .inr qs)  : CT l0 46 0 0 mX11_toldBy [kR (some 49), kI q] Ia Ja Ra Sa (cI (fun x I' J' => Ch [] [19, 20, 21] Ia I' ∧ Kp 49 73 Ja J' ∧ RX I' ∧ x = zGv (Ia 51 305) (zTl qs en)) Ra Sa) := by
  refine ct_in pn_X11 (Nat.le_of_ble_eq_true rfl) (fun X hX hT hIn => ?_)
  have hX : aK l0 X cX11_toldBy 8 RX11 (some .int) 46 0 0 := hX
  change WW X 0 [some (kR (some 49)), some (kI q), none, none, none, none, none, none] [] Ia Ja Ra Sa 0 0
  have qIa := RX_w hQ
  have h310 := hQ.1.2.2.2.2.2.1
  obtain ⟨t, ht9⟩ : ∃ t, q.toNat = t := ⟨_, rfl⟩
  rw [ht9] at hcv hn9 hvl
  have hV : zEV Ia t vl en := ⟨fun j hj => hvl j (by omega), hen⟩
  refine ww_aload_n hX (pc := 0) dX11_toldBy_0 rfl ?_
  refine ww_sipush hX (pc := 1) (x := 400) dX11_toldBy_1 (by decide) ?_
  refine ww_iload_n hX (pc := 4) dX11_toldBy_4 rfl ?_
  refine ww_imul hX (pc := 5) dX11_toldBy_5 ?_
  refine ww_putI hX (pc := 6) (fun h9 => absurd h9 (by decide)) gX11_215 rfl (xs_49 hL) dX11_toldBy_6 ?_
  refine ww_nmH (fun I_6 eI_6 => ?_)
  have kI_6 : Ch [] [19, 20, 21] Ia I_6 := by rw [eI_6]; exact Ch_f Ch_rf (by decide)
  have cI_6 : RX I_6 := by rw [eI_6]; exact RX_f hQ (by decide)
  have qI_6 := RX_w cI_6
  have f20_I_6 : I_6 49 20 = Ia 49 20 := by rw [eI_6, up2_n _ _ (Or.inr (by decide))]
  have f21_I_6 : I_6 49 21 = Ia 49 21 := by rw [eI_6, up2_n _ _ (Or.inr (by decide))]
  have g6 : I_6 49 19 = 400 * q := by rw [eI_6, up2_s]
  refine ww_aload_n hX (pc := 9) dX11_toldBy_9 rfl ?_
  refine ww_aload_n hX (pc := 10) dX11_toldBy_10 rfl ?_
  refine ww_getI hX (pc := 11) fX11_215 (by decide) (xs_49 hL) dX11_toldBy_11 ?_
  refine ww_aload_n hX (pc := 14) dX11_toldBy_14 rfl ?_
  refine ww_getR hX (pc := 15) fX11_20 (by decide) (xs_49 hL) (xr_49_3 hL) dX11_toldBy_15 ?_
  refine ww_sipush hX (pc := 18) (x := 311) dX11_toldBy_18 (by decide) ?_
  refine ww_iload_n hX (pc := 21) dX11_toldBy_21 rfl ?_
  refine ww_iadd hX (pc := 22) dX11_toldBy_22 ?_
  refine ww_iald hX (pc := 23) (xs_51 hL) (by decide) (by omega) (by omega) dX11_toldBy_23 ?_
  refine ww_iadd hX (pc := 24) dX11_toldBy_24 ?_
  refine ww_putI hX (pc := 25) (fun h9 => absurd h9 (by decide)) gX11_212 rfl (xs_49 hL) dX11_toldBy_25 ?_
  refine ww_nmH (fun I_25 eI_25 => ?_)
  have kI_25 : Ch [] [19, 20, 21] Ia I_25 := by rw [eI_25]; exact Ch_f kI_6 (by decide)
  have cI_25 : RX I_25 := by rw [eI_25]; exact RX_f cI_6 (by decide)
  have qI_25 := RX_w cI_25
  have f19_I_25 : I_25 49 19 = I_6 49 19 := by rw [eI_25, up2_n _ _ (Or.inr (by decide))]
  have f21_I_25 : I_25 49 21 = I_6 49 21 := by rw [eI_25, up2_n _ _ (Or.inr (by decide))]
  have g19 : I_25 49 19 = 400 * q := by omega
  have g20 : I_25 49 20 = 400 * q + I_25 51 (311 + q).toNat := by rw [eI_25, up2_s, up2_off _ _ _ (by decide)]; omega
  have s51 : I_25 51 = Ia 51 := kI_25.1 51 (by decide) (by decide)
  have hq9 : q < I_25 51 310 := by rw [s51]; exact hq1
  have vI_25 := EV_0 cI_25 hq0 hq9 g19 g20
  rw [ht9, show cvw (I_25 51) t = c by rw [s51]; exact hcv] at vI_25
  have oI_25 := EV_o vI_25
  have s25 : I_25 51 (311 + t) = n9 := by rw [s51]; exact hn9
  refine ww_ldc2 hX (pc := 28) (x := (-1)) dX11_toldBy_28 tb_1398 ?_
  refine ww_lstore_n hX (pc := 31) (lv' := [some (kR (some 49)), some (kI q), some (kL (-1)), none, none, none, none, none]) dX11_toldBy_31 (by decide) rfl rfl ?_
  have hl_32 : ∀ (n_32 : Nat) (td : Int) (I32 : aI1) (J32 : aI1), (400 * t + 402 - I32 49 19).toNat = n_32 → (Ch [] [19, 20, 21] Ia I32 ∧ RX I32 ∧ Kp 49 73 Ja J32 ∧ ∃ (p9 : Nat) (dn rs : List zQ), EV I32 t c p9 ∧ qs = dn ++ rs ∧ zTd td (zTl dn en) ∧ zRs c vl n9 p9 rs) → WW X 32 [some (kR (some 49)), some (kI q), some (kL td), none, none, none, none, none] [] I32 J32 Ra Sa 0 0 := by
    intro n_32
    induction n_32 using Nat.strongRecOn with
    | ind n_32 ih_32 =>
      intro td I32 J32 hm_32 hv_32
      have hq_32 := Sh0_i hm_32
      clear hm_32
      obtain ⟨kI32, cI32, kJ32, p9, dn, rs, vI32, hqs, ht32, hR32⟩ := hv_32
      have qI32 := RX_w cI32
      have oI32 := EV_o vI32
      have hb32 := zTd_b ht32
      have s32 : I32 51 = Ia 51 := kI32.1 51 (by decide) (by decide)
      have s305 : I32 51 305 = Ia 51 305 := by rw [s32]
      have s311 : I32 51 (311 + t) = n9 := by rw [s32]; exact hn9
      refine ww_aload_n hX (pc := 32) dX11_toldBy_32 rfl ?_
      refine ww_getI hX (pc := 33) fX11_215 (by decide) (xs_49 hL) dX11_toldBy_33 ?_
      refine ww_aload_n hX (pc := 36) dX11_toldBy_36 rfl ?_
      refine ww_getI hX (pc := 37) fX11_212 (by decide) (xs_49 hL) dX11_toldBy_37 ?_
      refine ww_icmp_ge hX (pc := 40) (tgt := 132) dX11_toldBy_40 (by decide) (fun h_40 => ?_) (fun h_40 => ?_)
      · simp only [w32_mod] at h_40
        refine ww_lload_n hX (pc := 132) dX11_toldBy_132 rfl ?_
        refine ww_lconst hX (pc := 133) (x := 0) dX11_toldBy_133 (by decide) ?_
        refine ww_lcmp hX (pc := 134) dX11_toldBy_134 ?_
        refine ww_if_lt hX (pc := 135) (tgt := 157) dX11_toldBy_135 (by decide) (fun h_135 => ?_) (fun h_135 => ?_)
        · simp only [w32_mod] at h_135
          refine ww_iconst hX (pc := 157) (x := (-1)) dX11_toldBy_157 rfl ?_
          refine rI hX (pc := 158) hT (Nat.le_refl 0) (Nat.le_refl 0) dX11_toldBy_158 ?_
          exact ⟨kI32, kJ32, cI32, (by
              have hn0 : (n9 : Int) ≤ p9 := by omega
              have hc1 : ¬ c p9 = 1 := fun g => by have := EV_z (i := p9) vI32 (by omega); omega
              rw [zRs_en hR32 (by omega) hc1, List.append_nil] at hqs
              rw [hqs]
              have k1 := w64_id (x := td) (by omega) (by omega)
              have k2 := w64_id (x := Ia 51 305) (by omega) (by omega)
              have k3 := w32_id (x := td)
              have k4 := l_cmp_v td 0
              have k5 := l_cmp_v td (Ia 51 305)
              have k6 : w64 0 = 0 := rfl
              have k7 : (Ia 51 305 + 2147483648) % 4294967296 - 2147483648 = Ia 51 305 := by omega
              try rw [s305, k7] at h_149
              exact zGv_of ht32 (fun g => by omega) (fun g => by omega))⟩
        · simp only [w32_mod] at h_135
          refine ww_lload_n hX (pc := 138) dX11_toldBy_138 rfl ?_
          refine ww_aload_n hX (pc := 139) dX11_toldBy_139 rfl ?_
          refine ww_getR hX (pc := 140) fX11_20 (by decide) (xs_49 hL) (xr_49_3 hL) dX11_toldBy_140 ?_
          refine ww_sipush hX (pc := 143) (x := 305) dX11_toldBy_143 (by decide) ?_
          refine ww_iald hX (pc := 146) (xs_51 hL) (by decide) (by omega) (by omega) dX11_toldBy_146 ?_
          refine ww_toI (b := I32 51 305) rfl ?_
          refine ww_i2l hX (pc := 147) dX11_toldBy_147 ?_
          refine ww_lcmp hX (pc := 148) dX11_toldBy_148 ?_
          refine ww_if_ge hX (pc := 149) (tgt := 157) dX11_toldBy_149 (by decide) (fun h_149 => ?_) (fun h_149 => ?_)
          · simp only [w32_mod] at h_149
            refine ww_iconst hX (pc := 157) (x := (-1)) dX11_toldBy_157 rfl ?_
            refine rI hX (pc := 158) hT (Nat.le_refl 0) (Nat.le_refl 0) dX11_toldBy_158 ?_
            exact ⟨kI32, kJ32, cI32, (by
                have hn0 : (n9 : Int) ≤ p9 := by omega
                have hc1 : ¬ c p9 = 1 := fun g => by have := EV_z (i := p9) vI32 (by omega); omega
                rw [zRs_en hR32 (by omega) hc1, List.append_nil] at hqs
                rw [hqs]
                have k1 := w64_id (x := td) (by omega) (by omega)
                have k2 := w64_id (x := Ia 51 305) (by omega) (by omega)
                have k3 := w32_id (x := td)
                have k4 := l_cmp_v td 0
                have k5 := l_cmp_v td (Ia 51 305)
                have k6 : w64 0 = 0 := rfl
                have k7 : (Ia 51 305 + 2147483648) % 4294967296 - 2147483648 = Ia 51 305 := by omega
                try rw [s305, k7] at h_149
                exact zGv_of ht32 (fun g => by omega) (fun g => by omega))⟩
          · simp only [w32_mod] at h_149
            refine ww_lload_n hX (pc := 152) dX11_toldBy_152 rfl ?_
            refine ww_l2i hX (pc := 153) dX11_toldBy_153 ?_
            refine ww_goto hX (pc := 154) (tgt := 158) dX11_toldBy_154 (by decide) ?_
            refine rI hX (pc := 158) hT (Nat.le_refl 0) (Nat.le_refl 0) dX11_toldBy_158 ?_
            exact ⟨kI32, kJ32, cI32, (by
                have hn0 : (n9 : Int) ≤ p9 := by omega
                have hc1 : ¬ c p9 = 1 := fun g => by have := EV_z (i := p9) vI32 (by omega); omega
                rw [zRs_en hR32 (by omega) hc1, List.append_nil] at hqs
                rw [hqs]
                have k1 := w64_id (x := td) (by omega) (by omega)
                have k2 := w64_id (x := Ia 51 305) (by omega) (by omega)
                have k3 := w32_id (x := td)
                have k4 := l_cmp_v td 0
                have k5 := l_cmp_v td (Ia 51 305)
                have k6 : w64 0 = 0 := rfl
                have k7 : (Ia 51 305 + 2147483648) % 4294967296 - 2147483648 = Ia 51 305 := by omega
                try rw [s305, k7] at h_149
                exact zGv_of ht32 (fun g => by omega) (fun g => by omega))⟩
      · simp only [w32_mod] at h_40
        obtain ⟨q9, b9, rs9, hrs9, hc1, hbT, ⟨d9, D9, hGs, hds⟩, hnx⟩ := zRs_st hR32 (by omega)
        have hlt9 := zG_lt (zS_lt 8) hGs
        have hle9 := zDs_le hds
        have hz9 := EV_z (i := p9) vI32 (by omega)
        have hbn : b9 ≤ n9 := by
          rcases hbT with h9 | h9
          · omega
          · have := EV_z (i := b9) vI32 (by omega)
            omega
        refine ww_aload_n hX (pc := 43) dX11_toldBy_43 rfl ?_
        refine ww_iconst hX (pc := 44) (x := 0) dX11_toldBy_44 rfl ?_
        refine ww_putZ hX (pc := 45) (fun h9 => absurd h9 (by decide)) gX11_225 rfl (by decide) (xs_49 hL) dX11_toldBy_45 ?_
        refine ww_nmH (fun I_45 eI_45 => ?_)
        have kI_45 : Ch [] [19, 20, 21] Ia I_45 := by rw [eI_45]; exact Ch_f kI32 (by decide)
        have cI_45 : RX I_45 := by rw [eI_45]; exact RX_f cI32 (by decide)
        have qI_45 := RX_w cI_45
        have f19_I_45 : I_45 49 19 = I32 49 19 := by rw [eI_45, up2_n _ _ (Or.inr (by decide))]
        have f20_I_45 : I_45 49 20 = I32 49 20 := by rw [eI_45, up2_n _ _ (Or.inr (by decide))]
        have vI_45 : EV I_45 t c p9 := EV_st vI32 (by rw [eI_45, up2_off _ _ _ (by decide)]) (by omega) (by omega) (by omega)
        have oI_45 := EV_o vI_45
        have bI_45 : zB1 I_45 := by unfold zB1; rw [eI_45, up2_s]; omega
        have w21_45 : I_45 49 21 = 0 := by rw [eI_45, up2_s]
        refine ww_aload_n hX (pc := 48) dX11_toldBy_48 rfl ?_
        refine ww_dupR hX (pc := 49) dX11_toldBy_49 ?_
        refine ww_getI hX (pc := 50) fX11_215 (by decide) (xs_49 hL) dX11_toldBy_50 ?_
        refine ww_iconst hX (pc := 53) (x := 1) dX11_toldBy_53 rfl ?_
        refine ww_iadd hX (pc := 54) dX11_toldBy_54 ?_
        refine ww_putI hX (pc := 55) (fun h9 => absurd h9 (by decide)) gX11_215 rfl (xs_49 hL) dX11_toldBy_55 ?_
        refine ww_nmH (fun I_55 eI_55 => ?_)
        have kI_55 : Ch [] [19, 20, 21] Ia I_55 := by rw [eI_55]; exact Ch_f kI_45 (by decide)
        have cI_55 : RX I_55 := by rw [eI_55]; exact RX_f cI_45 (by decide)
        have qI_55 := RX_w cI_55
        have f20_I_55 : I_55 49 20 = I_45 49 20 := by rw [eI_55, up2_n _ _ (Or.inr (by decide))]
        have f21_I_55 : I_55 49 21 = I_45 49 21 := by rw [eI_55, up2_n _ _ (Or.inr (by decide))]
        have vI_55 : EV I_55 t c (p9 + 1) := EV_st vI_45 (by rw [eI_55, up2_off _ _ _ (by decide)]) (by omega) (by rw [eI_55, up2_s]; omega) (by omega)
        have oI_55 := EV_o vI_55
        have bI_55 : zB1 I_55 := zB1_e bI_45 f21_I_55
        refine ww_aload_n hX (pc := 58) dX11_toldBy_58 rfl ?_
        refine ww_iconst hX (pc := 59) (x := 1) dX11_toldBy_59 rfl ?_
        refine vJ1 hX (pc := 60) sX11_243 (xs_49 hL) (c_VSum l0 8 hL cI_55 (by omega) vI_55 (zEV_ch kI_55 (by decide) (by decide) hV) bI_55 hGs) (by decide) (Nat.le_refl 0) (Nat.le_refl 0) (Nat.le_of_ble_eq_true rfl) dX11_toldBy_60 (fun x_60 I_60 J_60 h_60 => ?_)
        have kJ_60 : Kp 49 73 Ja J_60 := Kp_tr kJ32 h_60.2.1
        have kI_60 : Ch [] [19, 20, 21] Ia I_60 := Ch_tr kI_55 (Ch_wd h_60.1 (by decide) (by decide))
        have cI_60 : RX I_60 := h_60.2.2.1
        have qI_60 := RX_w cI_60
        have f20_I_60 : I_60 49 20 = I_55 49 20 := h_60.1.2 20 (by decide)
        have vI_60 : EV I_60 t c d9 := h_60.2.2.2.1
        have oI_60 := EV_o vI_60
        have yI_60 := h_60.2.2.2.2
        have bI_60 : zB1 I_60 := yI_60.1
        refine ww_lstore hX (pc := 63) (lv' := [some (kR (some 49)), some (kI q), some (kL td), none, some (kL x_60), none, none, none]) dX11_toldBy_63 (by decide) rfl rfl ?_
        refine ww_aload_n hX (pc := 65) dX11_toldBy_65 rfl ?_
        refine ww_getI hX (pc := 66) fX11_225 (by decide) (xs_49 hL) dX11_toldBy_66 ?_
        refine ww_nmI (fun v_69 hv_69 => ?_)
        refine ww_istore hX (pc := 69) (lv' := [some (kR (some 49)), some (kI q), some (kL td), none, some (kL x_60), none, some (kI v_69), none]) dX11_toldBy_69 (by decide) rfl rfl ?_
        refine ww_aload_n hX (pc := 71) dX11_toldBy_71 rfl ?_
        refine ww_iconst hX (pc := 72) (x := 0) dX11_toldBy_72 rfl ?_
        refine ww_putZ hX (pc := 73) (fun h9 => absurd h9 (by decide)) gX11_225 rfl (by decide) (xs_49 hL) dX11_toldBy_73 ?_
        refine ww_nmH (fun I_73 eI_73 => ?_)
        have kI_73 : Ch [] [19, 20, 21] Ia I_73 := by rw [eI_73]; exact Ch_f kI_60 (by decide)
        have cI_73 : RX I_73 := by rw [eI_73]; exact RX_f cI_60 (by decide)
        have qI_73 := RX_w cI_73
        have f19_I_73 : I_73 49 19 = I_60 49 19 := by rw [eI_73, up2_n _ _ (Or.inr (by decide))]
        have f20_I_73 : I_73 49 20 = I_60 49 20 := by rw [eI_73, up2_n _ _ (Or.inr (by decide))]
        have vI_73 : EV I_73 t c d9 := EV_st vI_60 (by rw [eI_73, up2_off _ _ _ (by decide)]) (by omega) (by omega) (by omega)
        have oI_73 := EV_o vI_73
        have bI_73 : zB1 I_73 := by unfold zB1; rw [eI_73, up2_s]; omega
        have w21_73 : I_73 49 21 = 0 := by rw [eI_73, up2_s]
        refine ww_aload_n hX (pc := 76) dX11_toldBy_76 rfl ?_
        refine ww_iconst hX (pc := 77) (x := 2) dX11_toldBy_77 rfl ?_
        refine vI1 hX (pc := 78) sX11_240 (xs_49 hL) (c_X11_passes0 l0 hL cI_73  (by omega) (by omega) vI_73) (by decide) (Nat.le_refl 0) (Nat.le_refl 0) (Nat.le_of_ble_eq_true rfl) dX11_toldBy_78 (fun x_78 I_78 J_78 h_78 => ?_)
        have kJ_78 : Kp 49 73 Ja J_78 := Kp_tr kJ_60 h_78.2.1
        have kI_78 : Ch [] [19, 20, 21] Ia I_78 := Ch_tr kI_73 (Ch_wd h_78.1 (by decide) (by decide))
        have cI_78 : RX I_78 := h_78.2.2.1
        have qI_78 := RX_w cI_78
        have f20_I_78 : I_78 49 20 = I_73 49 20 := h_78.1.2 20 (by decide)
        have f21_I_78 : I_78 49 21 = I_73 49 21 := h_78.1.2 21 (by decide)
        have vI_78 : EV I_78 t c (d9 + x_78.toNat) := h_78.2.2.2.1
        have oI_78 := EV_o vI_78
        have yI_78 := h_78.2.2.2.2
        have bI_78 : zB1 I_78 := zB1_e bI_73 f21_I_78
        refine ww_if_eq hX (pc := 81) (tgt := 92) dX11_toldBy_81 (by decide) (fun h_81 => ?_) (fun h_81 => ?_)
        · simp only [w32_mod] at h_81
          obtain ⟨hd1, hq9⟩ := zDs_n hds (PS_0 yI_78.2 (by omega))
          have w78 : EV I_78 t c b9 := EV_to vI_78 (by omega)
          refine ww_iconst hX (pc := 92) (x := 1) dX11_toldBy_92 rfl ?_
          refine ww_goto hX (pc := 93) (tgt := 97) dX11_toldBy_93 (by decide) ?_
          refine ww_istore hX (pc := 97) (lv' := [some (kR (some 49)), some (kI q), some (kL td), none, some (kL x_60), none, some (kI v_69), some (kI 1)]) dX11_toldBy_97 (by decide) rfl rfl ?_
          refine ww_iload hX (pc := 99) dX11_toldBy_99 rfl ?_
          refine ww_if_eq hX (pc := 101) (tgt := 119) dX11_toldBy_101 (by decide) (fun h_101 => ?_) (fun h_101 => ?_)
          · simp only [w32_mod] at h_101
            refine ww_aload_n hX (pc := 119) dX11_toldBy_119 rfl ?_
            refine ww_dupR hX (pc := 120) dX11_toldBy_120 ?_
            refine ww_getI hX (pc := 121) fX11_215 (by decide) (xs_49 hL) dX11_toldBy_121 ?_
            refine ww_iconst hX (pc := 124) (x := 1) dX11_toldBy_124 rfl ?_
            refine ww_iadd hX (pc := 125) dX11_toldBy_125 ?_
            refine ww_putI hX (pc := 126) (fun h9 => absurd h9 (by decide)) gX11_215 rfl (xs_49 hL) dX11_toldBy_126 ?_
            refine ww_nmH (fun I_126 eI_126 => ?_)
            have kI_126 : Ch [] [19, 20, 21] Ia I_126 := by rw [eI_126]; exact Ch_f kI_78 (by decide)
            have cI_126 : RX I_126 := by rw [eI_126]; exact RX_f cI_78 (by decide)
            have qI_126 := RX_w cI_126
            have f20_I_126 : I_126 49 20 = I_78 49 20 := by rw [eI_126, up2_n _ _ (Or.inr (by decide))]
            have f21_I_126 : I_126 49 21 = I_78 49 21 := by rw [eI_126, up2_n _ _ (Or.inr (by decide))]
            have vI_126 : EV I_126 t c (b9 + 1) := EV_st w78 (by rw [eI_126, up2_off _ _ _ (by decide)]) (by omega) (by rw [eI_126, up2_s]; omega) (by omega)
            have oI_126 := EV_o vI_126
            have bI_126 : zB1 I_126 := zB1_e bI_78 f21_I_126
            refine ww_goto hX (pc := 129) (tgt := 32) dX11_toldBy_129 (by decide) ?_
            refine ww_sub [some (kR (some 49)), some (kI q), some (kL td), none, none, none, none, none] (aLe_s (aLe_s (aLe_s (aLe_n (aLe_n (aLe_n (aLe_n (aLe_n aLe_0)))))))) ?_
            exact ih_32 _ (by have hm9 := Sh0_e hq_32; omega) td I_126 J_78 rfl ⟨kI_126, cI_126, kJ_78, ⟨b9 + 1, dn ++ [q9], rs9, vI_126, (by rw [hqs, hrs9, List.append_assoc]; rfl), zTd_s0 ht32 hq9 (zRv_cg yI_60.2 (by omega) rfl) (fun g => by have u8 := bI_60; have u9 := bI_78; unfold zB1 at u8 u9; omega) (fun g => by have u8 := bI_60; have u9 := bI_78; unfold zB1 at u8 u9; omega), hnx⟩⟩
          · simp only [w32_mod] at h_101
            refine ww_aload_n hX (pc := 104) dX11_toldBy_104 rfl ?_
            refine ww_getI hX (pc := 105) fX11_225 (by decide) (xs_49 hL) dX11_toldBy_105 ?_
            refine ww_if_ne hX (pc := 108) (tgt := 119) dX11_toldBy_108 (by decide) (fun h_108 => ?_) (fun h_108 => ?_)
            · simp only [w32_mod] at h_108
              refine ww_aload_n hX (pc := 119) dX11_toldBy_119 rfl ?_
              refine ww_dupR hX (pc := 120) dX11_toldBy_120 ?_
              refine ww_getI hX (pc := 121) fX11_215 (by decide) (xs_49 hL) dX11_toldBy_121 ?_
              refine ww_iconst hX (pc := 124) (x := 1) dX11_toldBy_124 rfl ?_
              refine ww_iadd hX (pc := 125) dX11_toldBy_125 ?_
              refine ww_putI hX (pc := 126) (fun h9 => absurd h9 (by decide)) gX11_215 rfl (xs_49 hL) dX11_toldBy_126 ?_
              refine ww_nmH (fun I_126 eI_126 => ?_)
              have kI_126 : Ch [] [19, 20, 21] Ia I_126 := by rw [eI_126]; exact Ch_f kI_78 (by decide)
              have cI_126 : RX I_126 := by rw [eI_126]; exact RX_f cI_78 (by decide)
              have qI_126 := RX_w cI_126
              have f20_I_126 : I_126 49 20 = I_78 49 20 := by rw [eI_126, up2_n _ _ (Or.inr (by decide))]
              have f21_I_126 : I_126 49 21 = I_78 49 21 := by rw [eI_126, up2_n _ _ (Or.inr (by decide))]
              have vI_126 : EV I_126 t c (b9 + 1) := EV_st w78 (by rw [eI_126, up2_off _ _ _ (by decide)]) (by omega) (by rw [eI_126, up2_s]; omega) (by omega)
              have oI_126 := EV_o vI_126
              have bI_126 : zB1 I_126 := zB1_e bI_78 f21_I_126
              refine ww_goto hX (pc := 129) (tgt := 32) dX11_toldBy_129 (by decide) ?_
              refine ww_sub [some (kR (some 49)), some (kI q), some (kL td), none, none, none, none, none] (aLe_s (aLe_s (aLe_s (aLe_n (aLe_n (aLe_n (aLe_n (aLe_n aLe_0)))))))) ?_
              exact ih_32 _ (by have hm9 := Sh0_e hq_32; omega) td I_126 J_78 rfl ⟨kI_126, cI_126, kJ_78, ⟨b9 + 1, dn ++ [q9], rs9, vI_126, (by rw [hqs, hrs9, List.append_assoc]; rfl), zTd_s0 ht32 hq9 (zRv_cg yI_60.2 (by omega) rfl) (fun g => by have u8 := bI_60; have u9 := bI_78; unfold zB1 at u8 u9; omega) (fun g => by have u8 := bI_60; have u9 := bI_78; unfold zB1 at u8 u9; omega), hnx⟩⟩
            · simp only [w32_mod] at h_108
              refine ww_iload hX (pc := 111) dX11_toldBy_111 rfl ?_
              refine ww_if_ne hX (pc := 113) (tgt := 119) dX11_toldBy_113 (by decide) (fun h_113 => ?_) (fun h_113 => ?_)
              · simp only [w32_mod] at h_113
                refine ww_aload_n hX (pc := 119) dX11_toldBy_119 rfl ?_
                refine ww_dupR hX (pc := 120) dX11_toldBy_120 ?_
                refine ww_getI hX (pc := 121) fX11_215 (by decide) (xs_49 hL) dX11_toldBy_121 ?_
                refine ww_iconst hX (pc := 124) (x := 1) dX11_toldBy_124 rfl ?_
                refine ww_iadd hX (pc := 125) dX11_toldBy_125 ?_
                refine ww_putI hX (pc := 126) (fun h9 => absurd h9 (by decide)) gX11_215 rfl (xs_49 hL) dX11_toldBy_126 ?_
                refine ww_nmH (fun I_126 eI_126 => ?_)
                have kI_126 : Ch [] [19, 20, 21] Ia I_126 := by rw [eI_126]; exact Ch_f kI_78 (by decide)
                have cI_126 : RX I_126 := by rw [eI_126]; exact RX_f cI_78 (by decide)
                have qI_126 := RX_w cI_126
                have f20_I_126 : I_126 49 20 = I_78 49 20 := by rw [eI_126, up2_n _ _ (Or.inr (by decide))]
                have f21_I_126 : I_126 49 21 = I_78 49 21 := by rw [eI_126, up2_n _ _ (Or.inr (by decide))]
                have vI_126 : EV I_126 t c (b9 + 1) := EV_st w78 (by rw [eI_126, up2_off _ _ _ (by decide)]) (by omega) (by rw [eI_126, up2_s]; omega) (by omega)
                have oI_126 := EV_o vI_126
                have bI_126 : zB1 I_126 := zB1_e bI_78 f21_I_126
                refine ww_goto hX (pc := 129) (tgt := 32) dX11_toldBy_129 (by decide) ?_
                refine ww_sub [some (kR (some 49)), some (kI q), some (kL td), none, none, none, none, none] (aLe_s (aLe_s (aLe_s (aLe_n (aLe_n (aLe_n (aLe_n (aLe_n aLe_0)))))))) ?_
                exact ih_32 _ (by have hm9 := Sh0_e hq_32; omega) td I_126 J_78 rfl ⟨kI_126, cI_126, kJ_78, ⟨b9 + 1, dn ++ [q9], rs9, vI_126, (by rw [hqs, hrs9, List.append_assoc]; rfl), zTd_s0 ht32 hq9 (zRv_cg yI_60.2 (by omega) rfl) (fun g => by have u8 := bI_60; have u9 := bI_78; unfold zB1 at u8 u9; omega) (fun g => by have u8 := bI_60; have u9 := bI_78; unfold zB1 at u8 u9; omega), hnx⟩⟩
              · simp only [w32_mod] at h_113
                refine ww_lload hX (pc := 116) dX11_toldBy_116 rfl ?_
                refine ww_lstore_n hX (pc := 118) (lv' := [some (kR (some 49)), some (kI q), some (kL x_60), none, some (kL x_60), none, some (kI v_69), some (kI 1)]) dX11_toldBy_118 (by decide) rfl rfl ?_
                refine ww_aload_n hX (pc := 119) dX11_toldBy_119 rfl ?_
                refine ww_dupR hX (pc := 120) dX11_toldBy_120 ?_
                refine ww_getI hX (pc := 121) fX11_215 (by decide) (xs_49 hL) dX11_toldBy_121 ?_
                refine ww_iconst hX (pc := 124) (x := 1) dX11_toldBy_124 rfl ?_
                refine ww_iadd hX (pc := 125) dX11_toldBy_125 ?_
                refine ww_putI hX (pc := 126) (fun h9 => absurd h9 (by decide)) gX11_215 rfl (xs_49 hL) dX11_toldBy_126 ?_
                refine ww_nmH (fun I_126 eI_126 => ?_)
                have kI_126 : Ch [] [19, 20, 21] Ia I_126 := by rw [eI_126]; exact Ch_f kI_78 (by decide)
                have cI_126 : RX I_126 := by rw [eI_126]; exact RX_f cI_78 (by decide)
                have qI_126 := RX_w cI_126
                have f20_I_126 : I_126 49 20 = I_78 49 20 := by rw [eI_126, up2_n _ _ (Or.inr (by decide))]
                have f21_I_126 : I_126 49 21 = I_78 49 21 := by rw [eI_126, up2_n _ _ (Or.inr (by decide))]
                have vI_126 : EV I_126 t c (b9 + 1) := EV_st w78 (by rw [eI_126, up2_off _ _ _ (by decide)]) (by omega) (by rw [eI_126, up2_s]; omega) (by omega)
                have oI_126 := EV_o vI_126
                have bI_126 : zB1 I_126 := zB1_e bI_78 f21_I_126
                refine ww_goto hX (pc := 129) (tgt := 32) dX11_toldBy_129 (by decide) ?_
                refine ww_sub [some (kR (some 49)), some (kI q), some (kL x_60), none, none, none, none, none] (aLe_s (aLe_s (aLe_s (aLe_n (aLe_n (aLe_n (aLe_n (aLe_n aLe_0)))))))) ?_
                exact ih_32 _ (by have hm9 := Sh0_e hq_32; omega) x_60 I_126 J_78 rfl ⟨kI_126, cI_126, kJ_78, ⟨b9 + 1, dn ++ [q9], rs9, vI_126, (by rw [hqs, hrs9, List.append_assoc]; rfl), zTd_s0 ht32 hq9 (zRv_cg yI_60.2 (by omega) rfl) (fun g => by have u8 := bI_60; have u9 := bI_78; unfold zB1 at u8 u9; omega) (fun g => by have u8 := bI_60; have u9 := bI_78; unfold zB1 at u8 u9; omega), hnx⟩⟩
        · simp only [w32_mod] at h_81
          have hc2 := PS_1 yI_78.2 (by omega)
          obtain ⟨F9, hGF, hq9⟩ := zDs_s hds hc2
          have w78 : EV I_78 t c (d9 + 1) := EV_to vI_78 (by omega)
          refine ww_aload_n hX (pc := 84) dX11_toldBy_84 rfl ?_
          refine ww_iconst hX (pc := 85) (x := 1) dX11_toldBy_85 rfl ?_
          refine vI1 hX (pc := 86) sX11_256 (xs_49 hL) (c_VTest l0 8 hL cI_78 (by omega) w78 (zEV_ch kI_78 (by decide) (by decide) hV) bI_78 hGF) (by decide) (Nat.le_refl 0) (Nat.le_refl 0) (Nat.le_of_ble_eq_true rfl) dX11_toldBy_86 (fun x_86 I_86 J_86 h_86 => ?_)
          have kJ_86 : Kp 49 73 Ja J_86 := Kp_tr kJ_78 h_86.2.1
          have kI_86 : Ch [] [19, 20, 21] Ia I_86 := Ch_tr kI_78 (Ch_wd h_86.1 (by decide) (by decide))
          have cI_86 : RX I_86 := h_86.2.2.1
          have qI_86 := RX_w cI_86
          have f20_I_86 : I_86 49 20 = I_78 49 20 := h_86.1.2 20 (by decide)
          have vI_86 : EV I_86 t c b9 := h_86.2.2.2.1
          have oI_86 := EV_o vI_86
          have yI_86 := h_86.2.2.2.2
          have bI_86 : zB1 I_86 := yI_86.1
          refine ww_if_eq hX (pc := 89) (tgt := 96) dX11_toldBy_89 (by decide) (fun h_89 => ?_) (fun h_89 => ?_)
          · simp only [w32_mod] at h_89
            refine ww_iconst hX (pc := 96) (x := 0) dX11_toldBy_96 rfl ?_
            refine ww_istore hX (pc := 97) (lv' := [some (kR (some 49)), some (kI q), some (kL td), none, some (kL x_60), none, some (kI v_69), some (kI 0)]) dX11_toldBy_97 (by decide) rfl rfl ?_
            refine ww_iload hX (pc := 99) dX11_toldBy_99 rfl ?_
            refine ww_if_eq hX (pc := 101) (tgt := 119) dX11_toldBy_101 (by decide) (fun h_101 => ?_) (fun h_101 => ?_)
            · simp only [w32_mod] at h_101
              refine ww_aload_n hX (pc := 119) dX11_toldBy_119 rfl ?_
              refine ww_dupR hX (pc := 120) dX11_toldBy_120 ?_
              refine ww_getI hX (pc := 121) fX11_215 (by decide) (xs_49 hL) dX11_toldBy_121 ?_
              refine ww_iconst hX (pc := 124) (x := 1) dX11_toldBy_124 rfl ?_
              refine ww_iadd hX (pc := 125) dX11_toldBy_125 ?_
              refine ww_putI hX (pc := 126) (fun h9 => absurd h9 (by decide)) gX11_215 rfl (xs_49 hL) dX11_toldBy_126 ?_
              refine ww_nmH (fun I_126 eI_126 => ?_)
              have kI_126 : Ch [] [19, 20, 21] Ia I_126 := by rw [eI_126]; exact Ch_f kI_86 (by decide)
              have cI_126 : RX I_126 := by rw [eI_126]; exact RX_f cI_86 (by decide)
              have qI_126 := RX_w cI_126
              have f20_I_126 : I_126 49 20 = I_86 49 20 := by rw [eI_126, up2_n _ _ (Or.inr (by decide))]
              have f21_I_126 : I_126 49 21 = I_86 49 21 := by rw [eI_126, up2_n _ _ (Or.inr (by decide))]
              have vI_126 : EV I_126 t c (b9 + 1) := EV_st vI_86 (by rw [eI_126, up2_off _ _ _ (by decide)]) (by omega) (by rw [eI_126, up2_s]; omega) (by omega)
              have oI_126 := EV_o vI_126
              have bI_126 : zB1 I_126 := zB1_e bI_86 f21_I_126
              refine ww_goto hX (pc := 129) (tgt := 32) dX11_toldBy_129 (by decide) ?_
              refine ww_sub [some (kR (some 49)), some (kI q), some (kL td), none, none, none, none, none] (aLe_s (aLe_s (aLe_s (aLe_n (aLe_n (aLe_n (aLe_n (aLe_n aLe_0)))))))) ?_
              exact ih_32 _ (by have hm9 := Sh0_e hq_32; omega) td I_126 J_86 rfl ⟨kI_126, cI_126, kJ_86, ⟨b9 + 1, dn ++ [q9], rs9, vI_126, (by rw [hqs, hrs9, List.append_assoc]; rfl), zTd_s1 ht32 hq9 (zRv_cg yI_60.2 (by omega) rfl) (zRv_cg yI_86.2.2 (by omega) rfl) yI_86.2.1 (fun g g2 g3 => by have u8 := bI_60; have u9 := bI_86; unfold zB1 at u8 u9; omega) (fun g => by have u8 := bI_60; have u9 := bI_86; unfold zB1 at u8 u9; omega), hnx⟩⟩
            · simp only [w32_mod] at h_101
              refine ww_aload_n hX (pc := 104) dX11_toldBy_104 rfl ?_
              refine ww_getI hX (pc := 105) fX11_225 (by decide) (xs_49 hL) dX11_toldBy_105 ?_
              refine ww_if_ne hX (pc := 108) (tgt := 119) dX11_toldBy_108 (by decide) (fun h_108 => ?_) (fun h_108 => ?_)
              · simp only [w32_mod] at h_108
                refine ww_aload_n hX (pc := 119) dX11_toldBy_119 rfl ?_
                refine ww_dupR hX (pc := 120) dX11_toldBy_120 ?_
                refine ww_getI hX (pc := 121) fX11_215 (by decide) (xs_49 hL) dX11_toldBy_121 ?_
                refine ww_iconst hX (pc := 124) (x := 1) dX11_toldBy_124 rfl ?_
                refine ww_iadd hX (pc := 125) dX11_toldBy_125 ?_
                refine ww_putI hX (pc := 126) (fun h9 => absurd h9 (by decide)) gX11_215 rfl (xs_49 hL) dX11_toldBy_126 ?_
                refine ww_nmH (fun I_126 eI_126 => ?_)
                have kI_126 : Ch [] [19, 20, 21] Ia I_126 := by rw [eI_126]; exact Ch_f kI_86 (by decide)
                have cI_126 : RX I_126 := by rw [eI_126]; exact RX_f cI_86 (by decide)
                have qI_126 := RX_w cI_126
                have f20_I_126 : I_126 49 20 = I_86 49 20 := by rw [eI_126, up2_n _ _ (Or.inr (by decide))]
                have f21_I_126 : I_126 49 21 = I_86 49 21 := by rw [eI_126, up2_n _ _ (Or.inr (by decide))]
                have vI_126 : EV I_126 t c (b9 + 1) := EV_st vI_86 (by rw [eI_126, up2_off _ _ _ (by decide)]) (by omega) (by rw [eI_126, up2_s]; omega) (by omega)
                have oI_126 := EV_o vI_126
                have bI_126 : zB1 I_126 := zB1_e bI_86 f21_I_126
                refine ww_goto hX (pc := 129) (tgt := 32) dX11_toldBy_129 (by decide) ?_
                refine ww_sub [some (kR (some 49)), some (kI q), some (kL td), none, none, none, none, none] (aLe_s (aLe_s (aLe_s (aLe_n (aLe_n (aLe_n (aLe_n (aLe_n aLe_0)))))))) ?_
                exact ih_32 _ (by have hm9 := Sh0_e hq_32; omega) td I_126 J_86 rfl ⟨kI_126, cI_126, kJ_86, ⟨b9 + 1, dn ++ [q9], rs9, vI_126, (by rw [hqs, hrs9, List.append_assoc]; rfl), zTd_s1 ht32 hq9 (zRv_cg yI_60.2 (by omega) rfl) (zRv_cg yI_86.2.2 (by omega) rfl) yI_86.2.1 (fun g g2 g3 => by have u8 := bI_60; have u9 := bI_86; unfold zB1 at u8 u9; omega) (fun g => by have u8 := bI_60; have u9 := bI_86; unfold zB1 at u8 u9; omega), hnx⟩⟩
              · simp only [w32_mod] at h_108
                refine ww_iload hX (pc := 111) dX11_toldBy_111 rfl ?_
                refine ww_if_ne hX (pc := 113) (tgt := 119) dX11_toldBy_113 (by decide) (fun h_113 => ?_) (fun h_113 => ?_)
                · simp only [w32_mod] at h_113
                  refine ww_aload_n hX (pc := 119) dX11_toldBy_119 rfl ?_
                  refine ww_dupR hX (pc := 120) dX11_toldBy_120 ?_
                  refine ww_getI hX (pc := 121) fX11_215 (by decide) (xs_49 hL) dX11_toldBy_121 ?_
                  refine ww_iconst hX (pc := 124) (x := 1) dX11_toldBy_124 rfl ?_
                  refine ww_iadd hX (pc := 125) dX11_toldBy_125 ?_
                  refine ww_putI hX (pc := 126) (fun h9 => absurd h9 (by decide)) gX11_215 rfl (xs_49 hL) dX11_toldBy_126 ?_
                  refine ww_nmH (fun I_126 eI_126 => ?_)
                  have kI_126 : Ch [] [19, 20, 21] Ia I_126 := by rw [eI_126]; exact Ch_f kI_86 (by decide)
                  have cI_126 : RX I_126 := by rw [eI_126]; exact RX_f cI_86 (by decide)
                  have qI_126 := RX_w cI_126
                  have f20_I_126 : I_126 49 20 = I_86 49 20 := by rw [eI_126, up2_n _ _ (Or.inr (by decide))]
                  have f21_I_126 : I_126 49 21 = I_86 49 21 := by rw [eI_126, up2_n _ _ (Or.inr (by decide))]
                  have vI_126 : EV I_126 t c (b9 + 1) := EV_st vI_86 (by rw [eI_126, up2_off _ _ _ (by decide)]) (by omega) (by rw [eI_126, up2_s]; omega) (by omega)
                  have oI_126 := EV_o vI_126
                  have bI_126 : zB1 I_126 := zB1_e bI_86 f21_I_126
                  refine ww_goto hX (pc := 129) (tgt := 32) dX11_toldBy_129 (by decide) ?_
                  refine ww_sub [some (kR (some 49)), some (kI q), some (kL td), none, none, none, none, none] (aLe_s (aLe_s (aLe_s (aLe_n (aLe_n (aLe_n (aLe_n (aLe_n aLe_0)))))))) ?_
                  exact ih_32 _ (by have hm9 := Sh0_e hq_32; omega) td I_126 J_86 rfl ⟨kI_126, cI_126, kJ_86, ⟨b9 + 1, dn ++ [q9], rs9, vI_126, (by rw [hqs, hrs9, List.append_assoc]; rfl), zTd_s1 ht32 hq9 (zRv_cg yI_60.2 (by omega) rfl) (zRv_cg yI_86.2.2 (by omega) rfl) yI_86.2.1 (fun g g2 g3 => by have u8 := bI_60; have u9 := bI_86; unfold zB1 at u8 u9; omega) (fun g => by have u8 := bI_60; have u9 := bI_86; unfold zB1 at u8 u9; omega), hnx⟩⟩
                · simp only [w32_mod] at h_113
                  refine ww_lload hX (pc := 116) dX11_toldBy_116 rfl ?_
                  refine ww_lstore_n hX (pc := 118) (lv' := [some (kR (some 49)), some (kI q), some (kL x_60), none, some (kL x_60), none, some (kI v_69), some (kI 0)]) dX11_toldBy_118 (by decide) rfl rfl ?_
                  refine ww_aload_n hX (pc := 119) dX11_toldBy_119 rfl ?_
                  refine ww_dupR hX (pc := 120) dX11_toldBy_120 ?_
                  refine ww_getI hX (pc := 121) fX11_215 (by decide) (xs_49 hL) dX11_toldBy_121 ?_
                  refine ww_iconst hX (pc := 124) (x := 1) dX11_toldBy_124 rfl ?_
                  refine ww_iadd hX (pc := 125) dX11_toldBy_125 ?_
                  refine ww_putI hX (pc := 126) (fun h9 => absurd h9 (by decide)) gX11_215 rfl (xs_49 hL) dX11_toldBy_126 ?_
                  refine ww_nmH (fun I_126 eI_126 => ?_)
                  have kI_126 : Ch [] [19, 20, 21] Ia I_126 := by rw [eI_126]; exact Ch_f kI_86 (by decide)
                  have cI_126 : RX I_126 := by rw [eI_126]; exact RX_f cI_86 (by decide)
                  have qI_126 := RX_w cI_126
                  have f20_I_126 : I_126 49 20 = I_86 49 20 := by rw [eI_126, up2_n _ _ (Or.inr (by decide))]
                  have f21_I_126 : I_126 49 21 = I_86 49 21 := by rw [eI_126, up2_n _ _ (Or.inr (by decide))]
                  have vI_126 : EV I_126 t c (b9 + 1) := EV_st vI_86 (by rw [eI_126, up2_off _ _ _ (by decide)]) (by omega) (by rw [eI_126, up2_s]; omega) (by omega)
                  have oI_126 := EV_o vI_126
                  have bI_126 : zB1 I_126 := zB1_e bI_86 f21_I_126
                  refine ww_goto hX (pc := 129) (tgt := 32) dX11_toldBy_129 (by decide) ?_
                  refine ww_sub [some (kR (some 49)), some (kI q), some (kL x_60), none, none, none, none, none] (aLe_s (aLe_s (aLe_s (aLe_n (aLe_n (aLe_n (aLe_n (aLe_n aLe_0)))))))) ?_
                  exact ih_32 _ (by have hm9 := Sh0_e hq_32; omega) x_60 I_126 J_86 rfl ⟨kI_126, cI_126, kJ_86, ⟨b9 + 1, dn ++ [q9], rs9, vI_126, (by rw [hqs, hrs9, List.append_assoc]; rfl), zTd_s1 ht32 hq9 (zRv_cg yI_60.2 (by omega) rfl) (zRv_cg yI_86.2.2 (by omega) rfl) yI_86.2.1 (fun g g2 g3 => by have u8 := bI_60; have u9 := bI_86; unfold zB1 at u8 u9; omega) (fun g => by have u8 := bI_60; have u9 := bI_86; unfold zB1 at u8 u9; omega), hnx⟩⟩
          · simp only [w32_mod] at h_89
            refine ww_iconst hX (pc := 92) (x := 1) dX11_toldBy_92 rfl ?_
            refine ww_goto hX (pc := 93) (tgt := 97) dX11_toldBy_93 (by decide) ?_
            refine ww_istore hX (pc := 97) (lv' := [some (kR (some 49)), some (kI q), some (kL td), none, some (kL x_60), none, some (kI v_69), some (kI 1)]) dX11_toldBy_97 (by decide) rfl rfl ?_
            refine ww_iload hX (pc := 99) dX11_toldBy_99 rfl ?_
            refine ww_if_eq hX (pc := 101) (tgt := 119) dX11_toldBy_101 (by decide) (fun h_101 => ?_) (fun h_101 => ?_)
            · simp only [w32_mod] at h_101
              refine ww_aload_n hX (pc := 119) dX11_toldBy_119 rfl ?_
              refine ww_dupR hX (pc := 120) dX11_toldBy_120 ?_
              refine ww_getI hX (pc := 121) fX11_215 (by decide) (xs_49 hL) dX11_toldBy_121 ?_
              refine ww_iconst hX (pc := 124) (x := 1) dX11_toldBy_124 rfl ?_
              refine ww_iadd hX (pc := 125) dX11_toldBy_125 ?_
              refine ww_putI hX (pc := 126) (fun h9 => absurd h9 (by decide)) gX11_215 rfl (xs_49 hL) dX11_toldBy_126 ?_
              refine ww_nmH (fun I_126 eI_126 => ?_)
              have kI_126 : Ch [] [19, 20, 21] Ia I_126 := by rw [eI_126]; exact Ch_f kI_86 (by decide)
              have cI_126 : RX I_126 := by rw [eI_126]; exact RX_f cI_86 (by decide)
              have qI_126 := RX_w cI_126
              have f20_I_126 : I_126 49 20 = I_86 49 20 := by rw [eI_126, up2_n _ _ (Or.inr (by decide))]
              have f21_I_126 : I_126 49 21 = I_86 49 21 := by rw [eI_126, up2_n _ _ (Or.inr (by decide))]
              have vI_126 : EV I_126 t c (b9 + 1) := EV_st vI_86 (by rw [eI_126, up2_off _ _ _ (by decide)]) (by omega) (by rw [eI_126, up2_s]; omega) (by omega)
              have oI_126 := EV_o vI_126
              have bI_126 : zB1 I_126 := zB1_e bI_86 f21_I_126
              refine ww_goto hX (pc := 129) (tgt := 32) dX11_toldBy_129 (by decide) ?_
              refine ww_sub [some (kR (some 49)), some (kI q), some (kL td), none, none, none, none, none] (aLe_s (aLe_s (aLe_s (aLe_n (aLe_n (aLe_n (aLe_n (aLe_n aLe_0)))))))) ?_
              exact ih_32 _ (by have hm9 := Sh0_e hq_32; omega) td I_126 J_86 rfl ⟨kI_126, cI_126, kJ_86, ⟨b9 + 1, dn ++ [q9], rs9, vI_126, (by rw [hqs, hrs9, List.append_assoc]; rfl), zTd_s1 ht32 hq9 (zRv_cg yI_60.2 (by omega) rfl) (zRv_cg yI_86.2.2 (by omega) rfl) yI_86.2.1 (fun g g2 g3 => by have u8 := bI_60; have u9 := bI_86; unfold zB1 at u8 u9; omega) (fun g => by have u8 := bI_60; have u9 := bI_86; unfold zB1 at u8 u9; omega), hnx⟩⟩
            · simp only [w32_mod] at h_101
              refine ww_aload_n hX (pc := 104) dX11_toldBy_104 rfl ?_
              refine ww_getI hX (pc := 105) fX11_225 (by decide) (xs_49 hL) dX11_toldBy_105 ?_
              refine ww_if_ne hX (pc := 108) (tgt := 119) dX11_toldBy_108 (by decide) (fun h_108 => ?_) (fun h_108 => ?_)
              · simp only [w32_mod] at h_108
                refine ww_aload_n hX (pc := 119) dX11_toldBy_119 rfl ?_
                refine ww_dupR hX (pc := 120) dX11_toldBy_120 ?_
                refine ww_getI hX (pc := 121) fX11_215 (by decide) (xs_49 hL) dX11_toldBy_121 ?_
                refine ww_iconst hX (pc := 124) (x := 1) dX11_toldBy_124 rfl ?_
                refine ww_iadd hX (pc := 125) dX11_toldBy_125 ?_
                refine ww_putI hX (pc := 126) (fun h9 => absurd h9 (by decide)) gX11_215 rfl (xs_49 hL) dX11_toldBy_126 ?_
                refine ww_nmH (fun I_126 eI_126 => ?_)
                have kI_126 : Ch [] [19, 20, 21] Ia I_126 := by rw [eI_126]; exact Ch_f kI_86 (by decide)
                have cI_126 : RX I_126 := by rw [eI_126]; exact RX_f cI_86 (by decide)
                have qI_126 := RX_w cI_126
                have f20_I_126 : I_126 49 20 = I_86 49 20 := by rw [eI_126, up2_n _ _ (Or.inr (by decide))]
                have f21_I_126 : I_126 49 21 = I_86 49 21 := by rw [eI_126, up2_n _ _ (Or.inr (by decide))]
                have vI_126 : EV I_126 t c (b9 + 1) := EV_st vI_86 (by rw [eI_126, up2_off _ _ _ (by decide)]) (by omega) (by rw [eI_126, up2_s]; omega) (by omega)
                have oI_126 := EV_o vI_126
                have bI_126 : zB1 I_126 := zB1_e bI_86 f21_I_126
                refine ww_goto hX (pc := 129) (tgt := 32) dX11_toldBy_129 (by decide) ?_
                refine ww_sub [some (kR (some 49)), some (kI q), some (kL td), none, none, none, none, none] (aLe_s (aLe_s (aLe_s (aLe_n (aLe_n (aLe_n (aLe_n (aLe_n aLe_0)))))))) ?_
                exact ih_32 _ (by have hm9 := Sh0_e hq_32; omega) td I_126 J_86 rfl ⟨kI_126, cI_126, kJ_86, ⟨b9 + 1, dn ++ [q9], rs9, vI_126, (by rw [hqs, hrs9, List.append_assoc]; rfl), zTd_s1 ht32 hq9 (zRv_cg yI_60.2 (by omega) rfl) (zRv_cg yI_86.2.2 (by omega) rfl) yI_86.2.1 (fun g g2 g3 => by have u8 := bI_60; have u9 := bI_86; unfold zB1 at u8 u9; omega) (fun g => by have u8 := bI_60; have u9 := bI_86; unfold zB1 at u8 u9; omega), hnx⟩⟩
              · simp only [w32_mod] at h_108
                refine ww_iload hX (pc := 111) dX11_toldBy_111 rfl ?_
                refine ww_if_ne hX (pc := 113) (tgt := 119) dX11_toldBy_113 (by decide) (fun h_113 => ?_) (fun h_113 => ?_)
                · simp only [w32_mod] at h_113
                  refine ww_aload_n hX (pc := 119) dX11_toldBy_119 rfl ?_
                  refine ww_dupR hX (pc := 120) dX11_toldBy_120 ?_
                  refine ww_getI hX (pc := 121) fX11_215 (by decide) (xs_49 hL) dX11_toldBy_121 ?_
                  refine ww_iconst hX (pc := 124) (x := 1) dX11_toldBy_124 rfl ?_
                  refine ww_iadd hX (pc := 125) dX11_toldBy_125 ?_
                  refine ww_putI hX (pc := 126) (fun h9 => absurd h9 (by decide)) gX11_215 rfl (xs_49 hL) dX11_toldBy_126 ?_
                  refine ww_nmH (fun I_126 eI_126 => ?_)
                  have kI_126 : Ch [] [19, 20, 21] Ia I_126 := by rw [eI_126]; exact Ch_f kI_86 (by decide)
                  have cI_126 : RX I_126 := by rw [eI_126]; exact RX_f cI_86 (by decide)
                  have qI_126 := RX_w cI_126
                  have f20_I_126 : I_126 49 20 = I_86 49 20 := by rw [eI_126, up2_n _ _ (Or.inr (by decide))]
                  have f21_I_126 : I_126 49 21 = I_86 49 21 := by rw [eI_126, up2_n _ _ (Or.inr (by decide))]
                  have vI_126 : EV I_126 t c (b9 + 1) := EV_st vI_86 (by rw [eI_126, up2_off _ _ _ (by decide)]) (by omega) (by rw [eI_126, up2_s]; omega) (by omega)
                  have oI_126 := EV_o vI_126
                  have bI_126 : zB1 I_126 := zB1_e bI_86 f21_I_126
                  refine ww_goto hX (pc := 129) (tgt := 32) dX11_toldBy_129 (by decide) ?_
                  refine ww_sub [some (kR (some 49)), some (kI q), some (kL td), none, none, none, none, none] (aLe_s (aLe_s (aLe_s (aLe_n (aLe_n (aLe_n (aLe_n (aLe_n aLe_0)))))))) ?_
                  exact ih_32 _ (by have hm9 := Sh0_e hq_32; omega) td I_126 J_86 rfl ⟨kI_126, cI_126, kJ_86, ⟨b9 + 1, dn ++ [q9], rs9, vI_126, (by rw [hqs, hrs9, List.append_assoc]; rfl), zTd_s1 ht32 hq9 (zRv_cg yI_60.2 (by omega) rfl) (zRv_cg yI_86.2.2 (by omega) rfl) yI_86.2.1 (fun g g2 g3 => by have u8 := bI_60; have u9 := bI_86; unfold zB1 at u8 u9; omega) (fun g => by have u8 := bI_60; have u9 := bI_86; unfold zB1 at u8 u9; omega), hnx⟩⟩
                · simp only [w32_mod] at h_113
                  refine ww_lload hX (pc := 116) dX11_toldBy_116 rfl ?_
                  refine ww_lstore_n hX (pc := 118) (lv' := [some (kR (some 49)), some (kI q), some (kL x_60), none, some (kL x_60), none, some (kI v_69), some (kI 1)]) dX11_toldBy_118 (by decide) rfl rfl ?_
                  refine ww_aload_n hX (pc := 119) dX11_toldBy_119 rfl ?_
                  refine ww_dupR hX (pc := 120) dX11_toldBy_120 ?_
                  refine ww_getI hX (pc := 121) fX11_215 (by decide) (xs_49 hL) dX11_toldBy_121 ?_
                  refine ww_iconst hX (pc := 124) (x := 1) dX11_toldBy_124 rfl ?_
                  refine ww_iadd hX (pc := 125) dX11_toldBy_125 ?_
                  refine ww_putI hX (pc := 126) (fun h9 => absurd h9 (by decide)) gX11_215 rfl (xs_49 hL) dX11_toldBy_126 ?_
                  refine ww_nmH (fun I_126 eI_126 => ?_)
                  have kI_126 : Ch [] [19, 20, 21] Ia I_126 := by rw [eI_126]; exact Ch_f kI_86 (by decide)
                  have cI_126 : RX I_126 := by rw [eI_126]; exact RX_f cI_86 (by decide)
                  have qI_126 := RX_w cI_126
                  have f20_I_126 : I_126 49 20 = I_86 49 20 := by rw [eI_126, up2_n _ _ (Or.inr (by decide))]
                  have f21_I_126 : I_126 49 21 = I_86 49 21 := by rw [eI_126, up2_n _ _ (Or.inr (by decide))]
                  have vI_126 : EV I_126 t c (b9 + 1) := EV_st vI_86 (by rw [eI_126, up2_off _ _ _ (by decide)]) (by omega) (by rw [eI_126, up2_s]; omega) (by omega)
                  have oI_126 := EV_o vI_126
                  have bI_126 : zB1 I_126 := zB1_e bI_86 f21_I_126
                  refine ww_goto hX (pc := 129) (tgt := 32) dX11_toldBy_129 (by decide) ?_
                  refine ww_sub [some (kR (some 49)), some (kI q), some (kL x_60), none, none, none, none, none] (aLe_s (aLe_s (aLe_s (aLe_n (aLe_n (aLe_n (aLe_n (aLe_n aLe_0)))))))) ?_
                  exact ih_32 _ (by have hm9 := Sh0_e hq_32; omega) x_60 I_126 J_86 rfl ⟨kI_126, cI_126, kJ_86, ⟨b9 + 1, dn ++ [q9], rs9, vI_126, (by rw [hqs, hrs9, List.append_assoc]; rfl), zTd_s1 ht32 hq9 (zRv_cg yI_60.2 (by omega) rfl) (zRv_cg yI_86.2.2 (by omega) rfl) yI_86.2.1 (fun g g2 g3 => by have u8 := bI_60; have u9 := bI_86; unfold zB1 at u8 u9; omega) (fun g => by have u8 := bI_60; have u9 := bI_86; unfold zB1 at u8 u9; omega), hnx⟩⟩
  exact hl_32 _ (-1) I_25 Ja rfl ⟨kI_25, cI_25, (Kp_rf (a := 49) (b := 73)), ⟨0, [], qs, vI_25, rfl, ⟨fun x hx => (by cases hx), fun _ => rfl⟩, Or.inr ⟨m9, l9, hzl⟩⟩⟩
end
section
/-! what is asked of a STATE -/
def zOn (s : Int) : Nat → Int
  | 0 => 0
  | l + 1 => zOn s l + i_and (i_shr s l) 1
def zA (s : Int) : Nat → Int × Int × Int × Int
  | 0 => (0, 0, -1, -1)
  | l + 1 => if i_and (i_shr s l) 1 = 0 then zA s l else ((zA s l).1 + (l + 1), i_xor (zA s l).2.1 (l + 1), (if (zA s l).2.2.1 = -1 then (l : Int) else (zA s l).2.2.1), (l : Int))
def zEn (s n K : Int) : zE
  | 0 => s
  | 1 => zOn s 16
  | 2 => (zA s n.toNat).1
  | 3 => (zA s n.toNat).2.1
  | 4 => (zA s n.toNat).2.2.1
  | 5 => (zA s n.toNat).2.2.2
  | 6 => n
  | 7 => K
  | _ => 0
theorem zOn_b (s : Int) : ∀ l : Nat, 0 ≤ zOn s l ∧ zOn s l ≤ l
  | 0 => by unfold zOn; omega
  | l + 1 => by
    have h1 := zOn_b s l
    have h2 := i_and_1 (i_shr s l)
    unfold zOn
    omega
theorem zA_b (s : Int) : ∀ l : Nat, l ≤ 8 → (0 ≤ (zA s l).1 ∧ (zA s l).1 ≤ 8 * l) ∧ (0 ≤ (zA s l).2.1 ∧ (zA s l).2.1 < 16) ∧ (-1 ≤ (zA s l).2.2.1 ∧ (zA s l).2.2.1 < 8) ∧ (-1 ≤ (zA s l).2.2.2 ∧ (zA s l).2.2.2 < 8)
  | 0, _ => by
    show (0 ≤ (0 : Int) ∧ (0 : Int) ≤ 8 * ((0 : Nat) : Int)) ∧ (0 ≤ (0 : Int) ∧ (0 : Int) < 16) ∧ (-1 ≤ (-1 : Int) ∧ (-1 : Int) < 8) ∧ (-1 ≤ (-1 : Int) ∧ (-1 : Int) < 8)
    omega
  | l + 1, hl => by
    obtain ⟨h1, h2, h3, h4⟩ := zA_b s l (by omega)
    unfold zA
    by_cases hc : i_and (i_shr s l) 1 = 0
    · rw [if_pos hc]
      exact ⟨by omega, h2, h3, h4⟩
    · rw [if_neg hc]
      refine ⟨by show 0 ≤ (zA s l).1 + (l + 1) ∧ (zA s l).1 + (l + 1) ≤ _; omega, ?_, ?_, by show -1 ≤ (l : Int) ∧ (l : Int) < 8; omega⟩
      · obtain ⟨m, hm⟩ : ∃ m : Nat, (zA s l).2.1 = m := ⟨(zA s l).2.1.toNat, by omega⟩
        show 0 ≤ i_xor (zA s l).2.1 (l + 1) ∧ i_xor (zA s l).2.1 (l + 1) < 16
        rw [hm, show ((l : Int) + 1) = ((l + 1 : Nat) : Int) by omega, i_xor_N (by omega) (by omega)]
        have h5 : m ^^^ (l + 1) < 2 ^ 4 := Nat.xor_lt_two_pow (by omega) (by omega)
        omega
      · show -1 ≤ (if (zA s l).2.2.1 = -1 then (l : Int) else (zA s l).2.2.1) ∧ (if (zA s l).2.2.1 = -1 then (l : Int) else (zA s l).2.2.1) < 8
        split <;> omega
theorem zEn_b {s n K : Int} (hs : 0 ≤ s ∧ s < 256) (hn : 0 ≤ n ∧ n ≤ 8) (hK : 0 ≤ K ∧ K ≤ 8) : ∀ j, j < 8 → -1000 ≤ zEn s n K j ∧ zEn s n K j ≤ 1000 := fun j hj => by
  have h1 := zOn_b s 16
  obtain ⟨h2, h3, h4, h5⟩ := zA_b s n.toNat (by omega)
  rcases (show j = 0 ∨ j = 1 ∨ j = 2 ∨ j = 3 ∨ j = 4 ∨ j = 5 ∨ j = 6 ∨ j = 7 by omega) with rfl | rfl | rfl | rfl | rfl | rfl | rfl | rfl
  · show -1000 ≤ s ∧ s ≤ 1000; omega
  · show -1000 ≤ zOn s 16 ∧ zOn s 16 ≤ 1000; omega
  · show -1000 ≤ (zA s n.toNat).1 ∧ (zA s n.toNat).1 ≤ 1000; omega
  · show -1000 ≤ (zA s n.toNat).2.1 ∧ (zA s n.toNat).2.1 ≤ 1000; omega
  · show -1000 ≤ (zA s n.toNat).2.2.1 ∧ (zA s n.toNat).2.2.1 ≤ 1000; omega
  · show -1000 ≤ (zA s n.toNat).2.2.2 ∧ (zA s n.toNat).2.2.2 ≤ 1000; omega
  · show -1000 ≤ n ∧ n ≤ 1000; omega
  · show -1000 ≤ K ∧ K ≤ 1000; omega
/-- the loop's four words after l LAMPS -/
def zAQ (s l a b c d : Int) : Prop := a = (zA s l.toNat).1 ∧ b = (zA s l.toNat).2.1 ∧ c = (zA s l.toNat).2.2.1 ∧ d = (zA s l.toNat).2.2.2
theorem zAQ_0 (s : Int) : zAQ s 0 0 0 (-1) (-1) := ⟨rfl, rfl, rfl, rfl⟩
theorem zAQ_b {s l a b c d : Int} (h : zAQ s l a b c d) (h0 : 0 ≤ l ∧ l ≤ 8) : (0 ≤ a ∧ a ≤ 64) ∧ (0 ≤ b ∧ b < 16) ∧ (-1 ≤ c ∧ c < 8) ∧ (-1 ≤ d ∧ d < 8) := by
  obtain ⟨rfl, rfl, rfl, rfl⟩ := h
  have h9 := zA_b s l.toNat (by omega)
  omega
theorem zAQ_n {s l a b c d : Int} (h : zAQ s l a b c d) (h0 : 0 ≤ l) (hc : i_and (i_shr s l) 1 = 0) : zAQ s (l + 1) a b c d := by
  obtain ⟨k, rfl⟩ : ∃ k : Nat, l = k := ⟨l.toNat, by omega⟩
  have e : zA s (k + 1) = zA s k := if_pos hc
  unfold zAQ at h ⊢
  rw [show ((k : Int) + 1).toNat = k + 1 by omega, e]
  exact h
theorem zAQ_s {s l a b c d a' b' c' : Int} (h : zAQ s l a b c d) (h0 : 0 ≤ l) (hc : ¬ i_and (i_shr s l) 1 = 0) (ha : a' = a + (l + 1)) (hb : b' = i_xor b (l + 1)) (hc1 : c = -1 → c' = l) (hc2 : ¬ c = -1 → c' = c) : zAQ s (l + 1) a' b' c' l := by
  obtain ⟨k, rfl⟩ : ∃ k : Nat, l = k := ⟨l.toNat, by omega⟩
  obtain ⟨h1, h2, h3, h4⟩ := h
  have e : zA s (k + 1) = ((zA s k).1 + (k + 1), i_xor (zA s k).2.1 (k + 1), (if (zA s k).2.2.1 = -1 then (k : Int) else (zA s k).2.2.1), (k : Int)) := if_neg hc
  have e0 : (k : Int).toNat = k := rfl
  rw [e0] at h1 h2 h3
  unfold zAQ
  rw [show ((k : Int) + 1).toNat = k + 1 by omega, e]
  refine ⟨by rw [ha, h1], by rw [hb, h2], ?_, rfl⟩
  show c' = if (zA s k).2.2.1 = -1 then (k : Int) else (zA s k).2.2.1
  rw [← h3]
  by_cases g : c = -1
  · rw [if_pos g]; exact hc1 g
  · rw [if_neg g]; exact hc2 g
theorem zOn_s {s i v : Int} (h : v = zOn s i.toNat) (h0 : 0 ≤ i) : v + i_and (i_shr s i) 1 = zOn s (i + 1).toNat := by
  obtain ⟨k, rfl⟩ : ∃ k : Nat, i = k := ⟨i.toNat, by omega⟩
  rw [show ((k : Int) + 1).toNat = k + 1 by omega, h]
  rfl
set_option maxHeartbeats 4000000 in
set_option maxRecDepth 20000 in
theorem c6_X11_ones (l0 : Launch) {Ia Ja : aI1} {Ra : aR1} {Sa : aS1} {a : Int}  : CT l0 0 0 0 mX11_ones [kI a] Ia Ja Ra Sa (cI (fun x I' J' => Ia = I' ∧ Ja = J' ∧ x = zOn a 16) Ra Sa) := by
  refine ct_in pn_X11 (Nat.le_of_ble_eq_true rfl) (fun X hX hT hIn => ?_)
  have hX : aK l0 X cX11_ones 3 RX11 (some .int) 0 0 0 := hX
  change WW X 0 [some (kI a), none, none] [] Ia Ja Ra Sa 0 0
  refine ww_iconst hX (pc := 0) (x := 0) dX11_ones_0 rfl ?_
  refine ww_istore_n hX (pc := 1) (lv' := [some (kI a), some (kI 0), none]) dX11_ones_1 (by decide) rfl rfl ?_
  refine ww_iconst hX (pc := 2) (x := 0) dX11_ones_2 rfl ?_
  refine ww_istore_n hX (pc := 3) (lv' := [some (kI a), some (kI 0), some (kI 0)]) dX11_ones_3 (by decide) rfl rfl ?_
  have hl_4 : ∀ (n_4 : Nat) (n : Int) (i : Int), (16 - i).toNat = n_4 → ((0 ≤ i ∧ i ≤ 16 ∧ 0 ≤ n ∧ n ≤ i) ∧ n = zOn a i.toNat) → WW X 4 [some (kI a), some (kI n), some (kI i)] [] Ia Ja Ra Sa 0 0 := by
    intro n_4
    induction n_4 using Nat.strongRecOn with
    | ind n_4 ih_4 =>
      intro n i hm_4 hv_4
      have hq_4 := Sh0_i hm_4
      clear hm_4
      obtain ⟨hv, hon⟩ := hv_4
      refine ww_iload_n hX (pc := 4) dX11_ones_4 rfl ?_
      refine ww_bipush hX (pc := 5) (x := 16) dX11_ones_5 (by decide) ?_
      refine ww_icmp_ge hX (pc := 7) (tgt := 24) dX11_ones_7 (by decide) (fun h_7 => ?_) (fun h_7 => ?_)
      · simp only [w32_mod] at h_7
        refine ww_iload_n hX (pc := 24) dX11_ones_24 rfl ?_
        refine rI hX (pc := 25) hT (Nat.le_refl 0) (Nat.le_refl 0) dX11_ones_25 ?_
        exact ⟨rfl, rfl, (by rw [hon]; exact congrArg (zOn a) (by omega))⟩
      · simp only [w32_mod] at h_7
        refine ww_iload_n hX (pc := 10) dX11_ones_10 rfl ?_
        refine ww_iload_n hX (pc := 11) dX11_ones_11 rfl ?_
        refine ww_iload_n hX (pc := 12) dX11_ones_12 rfl ?_
        refine ww_ishr hX (pc := 13) dX11_ones_13 ?_
        refine ww_iconst hX (pc := 14) (x := 1) dX11_ones_14 rfl ?_
        refine ww_iand hX (pc := 15) dX11_ones_15 ?_
        have hb1 := i_and_1 (i_shr a i)
        have hb2 := zOn_s hon (by omega)
        refine ww_iadd hX (pc := 16) dX11_ones_16 ?_
        refine ww_nmI (fun v_17 hv_17 => ?_)
        refine ww_istore_n hX (pc := 17) (lv' := [some (kI a), some (kI v_17), some (kI i)]) dX11_ones_17 (by decide) rfl rfl ?_
        refine ww_iinc hX (pc := 18) (lv' := [some (kI a), some (kI v_17), some (kI (i + 1))]) dX11_ones_18 rfl (by decide) rfl rfl ?_
        refine ww_goto hX (pc := 21) (tgt := 4) dX11_ones_21 (by decide) ?_
        exact ih_4 _ (by have hm9 := Sh0_e hq_4; omega) v_17 (i + 1) rfl ⟨by omega, hv_17.trans hb2⟩
  exact hl_4 _ 0 0 rfl ⟨by omega, rfl⟩
set_option maxHeartbeats 4000000 in
set_option maxRecDepth 20000 in
theorem c6_X11_asksOf (l0 : Launch) {Ia Ja : aI1} {Ra : aR1} {Sa : aS1} (hL : LY Ra Sa) (hQ : RX Ia) {a : Int}  : CT l0 1 0 0 mX11_asksOf [kR (some 49), kI a] Ia Ja Ra Sa (cV (fun I' J' => Ch [60] [] Ia I' ∧ Kp 49 73 Ja J' ∧ RX I' ∧ ∀ j, j < 8 → I' 60 j = zEn a (Ia 51 304) (Ia 51 305) j) Ra Sa) := by
  refine ct_in pn_X11 (Nat.le_of_ble_eq_true rfl) (fun X hX hT hIn => ?_)
  have hX : aK l0 X cX11_asksOf 7 RX11 none 1 0 0 := hX
  change WW X 0 [some (kR (some 49)), some (kI a), none, none, none, none, none] [] Ia Ja Ra Sa 0 0
  have qIa := RX_o hQ
  refine ww_iconst hX (pc := 0) (x := 0) dX11_asksOf_0 rfl ?_
  refine ww_istore_n hX (pc := 1) (lv' := [some (kR (some 49)), some (kI a), some (kI 0), none, none, none, none]) dX11_asksOf_1 (by decide) rfl rfl ?_
  refine ww_iconst hX (pc := 2) (x := 0) dX11_asksOf_2 rfl ?_
  refine ww_istore_n hX (pc := 3) (lv' := [some (kR (some 49)), some (kI a), some (kI 0), some (kI 0), none, none, none]) dX11_asksOf_3 (by decide) rfl rfl ?_
  refine ww_iconst hX (pc := 4) (x := (-1)) dX11_asksOf_4 rfl ?_
  refine ww_istore hX (pc := 5) (lv' := [some (kR (some 49)), some (kI a), some (kI 0), some (kI 0), some (kI (-1)), none, none]) dX11_asksOf_5 (by decide) rfl rfl ?_
  refine ww_iconst hX (pc := 7) (x := (-1)) dX11_asksOf_7 rfl ?_
  refine ww_istore hX (pc := 8) (lv' := [some (kR (some 49)), some (kI a), some (kI 0), some (kI 0), some (kI (-1)), some (kI (-1)), none]) dX11_asksOf_8 (by decide) rfl rfl ?_
  refine ww_iconst hX (pc := 10) (x := 0) dX11_asksOf_10 rfl ?_
  refine ww_istore hX (pc := 11) (lv' := [some (kR (some 49)), some (kI a), some (kI 0), some (kI 0), some (kI (-1)), some (kI (-1)), some (kI 0)]) dX11_asksOf_11 (by decide) rfl rfl ?_
  have hl_13 : ∀ (n_13 : Nat) (v2 : Int) (v3 : Int) (v4 : Int) (v5 : Int) (v6 : Int), (8 - v6).toNat = n_13 → ((0 ≤ v6 ∧ v6 ≤ Ia 51 304) ∧ zAQ a v6 v2 v3 v4 v5) → WW X 13 [some (kR (some 49)), some (kI a), some (kI v2), some (kI v3), some (kI v4), some (kI v5), some (kI v6)] [] Ia Ja Ra Sa 0 0 := by
    intro n_13
    induction n_13 using Nat.strongRecOn with
    | ind n_13 ih_13 =>
      intro v2 v3 v4 v5 v6 hm_13 hv_13
      have hq_13 := Sh0_i hm_13
      clear hm_13
      obtain ⟨hv, hq⟩ := hv_13
      have hqb := zAQ_b hq (by omega)
      refine ww_iload hX (pc := 13) dX11_asksOf_13 rfl ?_
      refine ww_aload_n hX (pc := 15) dX11_asksOf_15 rfl ?_
      refine ww_getR hX (pc := 16) fX11_20 (by decide) (xs_49 hL) (xr_49_3 hL) dX11_asksOf_16 ?_
      refine ww_sipush hX (pc := 19) (x := 304) dX11_asksOf_19 (by decide) ?_
      refine ww_iald hX (pc := 22) (xs_51 hL) (by decide) (by omega) (by omega) dX11_asksOf_22 ?_
      refine ww_toI (b := Ia 51 304) rfl ?_
      refine ww_icmp_ge hX (pc := 23) (tgt := 77) dX11_asksOf_23 (by decide) (fun h_23 => ?_) (fun h_23 => ?_)
      · simp only [w32_mod] at h_23
        refine ww_aload_n hX (pc := 77) dX11_asksOf_77 rfl ?_
        refine ww_getR hX (pc := 78) fX11_52 (by decide) (xs_49 hL) (xr_49_22 hL) dX11_asksOf_78 ?_
        refine ww_iconst hX (pc := 81) (x := 0) dX11_asksOf_81 rfl ?_
        refine ww_iload_n hX (pc := 82) dX11_asksOf_82 rfl ?_
        refine ww_iast hX (pc := 83) (xs_60 hL) (by decide) (by omega) (by omega) dX11_asksOf_83 ?_
        refine ww_nmH (fun I_83 eI_83 => ?_)
        have kI_83 : Ch [60] [] Ia I_83 := by rw [eI_83]; exact Ch_r Ch_rf (by decide) (by decide)
        have cI_83 : RX I_83 := by rw [eI_83]; exact RX_r hQ (by decide)
        have qI_83 := RX_o cI_83
        have r304_I_83 : I_83 51 304 = Ia 51 304 := by rw [eI_83, up2_off _ _ _ (by decide)]
        have r305_I_83 : I_83 51 305 = Ia 51 305 := by rw [eI_83, up2_off _ _ _ (by decide)]
        have rf_I_83 : FU (I_83 51 304) = FU (Ia 51 304) := by rw [r304_I_83]
        have g83_0 : I_83 60 0 = a := by rw [eI_83]; exact up2_s ..
        refine ww_aload_n hX (pc := 84) dX11_asksOf_84 rfl ?_
        refine ww_getR hX (pc := 85) fX11_52 (by decide) (xs_49 hL) (xr_49_22 hL) dX11_asksOf_85 ?_
        refine ww_iconst hX (pc := 88) (x := 1) dX11_asksOf_88 rfl ?_
        refine ww_iload_n hX (pc := 89) dX11_asksOf_89 rfl ?_
        refine sI1 hX (pc := 90) sX11_259 (c6_X11_ones l0 ) (by decide) (Nat.le_refl 0) (Nat.le_refl 0) (Nat.le_of_ble_eq_true rfl) dX11_asksOf_90 (fun x_90 I_90 J_90 h_90 => ?_)
        obtain ⟨rfl, rfl, h_90⟩ := h_90
        refine ww_iast hX (pc := 93) (xs_60 hL) (by decide) (by omega) (by omega) dX11_asksOf_93 ?_
        refine ww_nmH (fun I_93 eI_93 => ?_)
        have kI_93 : Ch [60] [] Ia I_93 := by rw [eI_93]; exact Ch_r kI_83 (by decide) (by decide)
        have cI_93 : RX I_93 := by rw [eI_93]; exact RX_r cI_83 (by decide)
        have qI_93 := RX_o cI_93
        have r304_I_93 : I_93 51 304 = I_83 51 304 := by rw [eI_93, up2_off _ _ _ (by decide)]
        have r305_I_93 : I_93 51 305 = I_83 51 305 := by rw [eI_93, up2_off _ _ _ (by decide)]
        have rf_I_93 : FU (I_93 51 304) = FU (I_83 51 304) := by rw [r304_I_93]
        have g93_1 : I_93 60 1 = zOn a 16 := by rw [eI_93]; exact (up2_s ..).trans h_90
        have g93_0 : I_93 60 0 = a := by rw [eI_93, up2_n _ _ (Or.inr (by decide))]; exact g83_0
        refine ww_aload_n hX (pc := 94) dX11_asksOf_94 rfl ?_
        refine ww_getR hX (pc := 95) fX11_52 (by decide) (xs_49 hL) (xr_49_22 hL) dX11_asksOf_95 ?_
        refine ww_iconst hX (pc := 98) (x := 2) dX11_asksOf_98 rfl ?_
        refine ww_iload_n hX (pc := 99) dX11_asksOf_99 rfl ?_
        refine ww_iast hX (pc := 100) (xs_60 hL) (by decide) (by omega) (by omega) dX11_asksOf_100 ?_
        refine ww_nmH (fun I_100 eI_100 => ?_)
        have kI_100 : Ch [60] [] Ia I_100 := by rw [eI_100]; exact Ch_r kI_93 (by decide) (by decide)
        have cI_100 : RX I_100 := by rw [eI_100]; exact RX_r cI_93 (by decide)
        have qI_100 := RX_o cI_100
        have r304_I_100 : I_100 51 304 = I_93 51 304 := by rw [eI_100, up2_off _ _ _ (by decide)]
        have r305_I_100 : I_100 51 305 = I_93 51 305 := by rw [eI_100, up2_off _ _ _ (by decide)]
        have rf_I_100 : FU (I_100 51 304) = FU (I_93 51 304) := by rw [r304_I_100]
        have g100_2 : I_100 60 2 = v2 := by rw [eI_100]; exact up2_s ..
        have g100_0 : I_100 60 0 = a := by rw [eI_100, up2_n _ _ (Or.inr (by decide))]; exact g93_0
        have g100_1 : I_100 60 1 = zOn a 16 := by rw [eI_100, up2_n _ _ (Or.inr (by decide))]; exact g93_1
        refine ww_aload_n hX (pc := 101) dX11_asksOf_101 rfl ?_
        refine ww_getR hX (pc := 102) fX11_52 (by decide) (xs_49 hL) (xr_49_22 hL) dX11_asksOf_102 ?_
        refine ww_iconst hX (pc := 105) (x := 3) dX11_asksOf_105 rfl ?_
        refine ww_iload_n hX (pc := 106) dX11_asksOf_106 rfl ?_
        refine ww_iast hX (pc := 107) (xs_60 hL) (by decide) (by omega) (by omega) dX11_asksOf_107 ?_
        refine ww_nmH (fun I_107 eI_107 => ?_)
        have kI_107 : Ch [60] [] Ia I_107 := by rw [eI_107]; exact Ch_r kI_100 (by decide) (by decide)
        have cI_107 : RX I_107 := by rw [eI_107]; exact RX_r cI_100 (by decide)
        have qI_107 := RX_o cI_107
        have r304_I_107 : I_107 51 304 = I_100 51 304 := by rw [eI_107, up2_off _ _ _ (by decide)]
        have r305_I_107 : I_107 51 305 = I_100 51 305 := by rw [eI_107, up2_off _ _ _ (by decide)]
        have rf_I_107 : FU (I_107 51 304) = FU (I_100 51 304) := by rw [r304_I_107]
        have g107_3 : I_107 60 3 = v3 := by rw [eI_107]; exact up2_s ..
        have g107_0 : I_107 60 0 = a := by rw [eI_107, up2_n _ _ (Or.inr (by decide))]; exact g100_0
        have g107_1 : I_107 60 1 = zOn a 16 := by rw [eI_107, up2_n _ _ (Or.inr (by decide))]; exact g100_1
        have g107_2 : I_107 60 2 = v2 := by rw [eI_107, up2_n _ _ (Or.inr (by decide))]; exact g100_2
        refine ww_aload_n hX (pc := 108) dX11_asksOf_108 rfl ?_
        refine ww_getR hX (pc := 109) fX11_52 (by decide) (xs_49 hL) (xr_49_22 hL) dX11_asksOf_109 ?_
        refine ww_iconst hX (pc := 112) (x := 4) dX11_asksOf_112 rfl ?_
        refine ww_iload hX (pc := 113) dX11_asksOf_113 rfl ?_
        refine ww_iast hX (pc := 115) (xs_60 hL) (by decide) (by omega) (by omega) dX11_asksOf_115 ?_
        refine ww_nmH (fun I_115 eI_115 => ?_)
        have kI_115 : Ch [60] [] Ia I_115 := by rw [eI_115]; exact Ch_r kI_107 (by decide) (by decide)
        have cI_115 : RX I_115 := by rw [eI_115]; exact RX_r cI_107 (by decide)
        have qI_115 := RX_o cI_115
        have r304_I_115 : I_115 51 304 = I_107 51 304 := by rw [eI_115, up2_off _ _ _ (by decide)]
        have r305_I_115 : I_115 51 305 = I_107 51 305 := by rw [eI_115, up2_off _ _ _ (by decide)]
        have rf_I_115 : FU (I_115 51 304) = FU (I_107 51 304) := by rw [r304_I_115]
        have g115_4 : I_115 60 4 = v4 := by rw [eI_115]; exact up2_s ..
        have g115_0 : I_115 60 0 = a := by rw [eI_115, up2_n _ _ (Or.inr (by decide))]; exact g107_0
        have g115_1 : I_115 60 1 = zOn a 16 := by rw [eI_115, up2_n _ _ (Or.inr (by decide))]; exact g107_1
        have g115_2 : I_115 60 2 = v2 := by rw [eI_115, up2_n _ _ (Or.inr (by decide))]; exact g107_2
        have g115_3 : I_115 60 3 = v3 := by rw [eI_115, up2_n _ _ (Or.inr (by decide))]; exact g107_3
        refine ww_aload_n hX (pc := 116) dX11_asksOf_116 rfl ?_
        refine ww_getR hX (pc := 117) fX11_52 (by decide) (xs_49 hL) (xr_49_22 hL) dX11_asksOf_117 ?_
        refine ww_iconst hX (pc := 120) (x := 5) dX11_asksOf_120 rfl ?_
        refine ww_iload hX (pc := 121) dX11_asksOf_121 rfl ?_
        refine ww_iast hX (pc := 123) (xs_60 hL) (by decide) (by omega) (by omega) dX11_asksOf_123 ?_
        refine ww_nmH (fun I_123 eI_123 => ?_)
        have kI_123 : Ch [60] [] Ia I_123 := by rw [eI_123]; exact Ch_r kI_115 (by decide) (by decide)
        have cI_123 : RX I_123 := by rw [eI_123]; exact RX_r cI_115 (by decide)
        have qI_123 := RX_o cI_123
        have r304_I_123 : I_123 51 304 = I_115 51 304 := by rw [eI_123, up2_off _ _ _ (by decide)]
        have r305_I_123 : I_123 51 305 = I_115 51 305 := by rw [eI_123, up2_off _ _ _ (by decide)]
        have rf_I_123 : FU (I_123 51 304) = FU (I_115 51 304) := by rw [r304_I_123]
        have g123_5 : I_123 60 5 = v5 := by rw [eI_123]; exact up2_s ..
        have g123_0 : I_123 60 0 = a := by rw [eI_123, up2_n _ _ (Or.inr (by decide))]; exact g115_0
        have g123_1 : I_123 60 1 = zOn a 16 := by rw [eI_123, up2_n _ _ (Or.inr (by decide))]; exact g115_1
        have g123_2 : I_123 60 2 = v2 := by rw [eI_123, up2_n _ _ (Or.inr (by decide))]; exact g115_2
        have g123_3 : I_123 60 3 = v3 := by rw [eI_123, up2_n _ _ (Or.inr (by decide))]; exact g115_3
        have g123_4 : I_123 60 4 = v4 := by rw [eI_123, up2_n _ _ (Or.inr (by decide))]; exact g115_4
        refine ww_aload_n hX (pc := 124) dX11_asksOf_124 rfl ?_
        refine ww_getR hX (pc := 125) fX11_52 (by decide) (xs_49 hL) (xr_49_22 hL) dX11_asksOf_125 ?_
        refine ww_bipush hX (pc := 128) (x := 6) dX11_asksOf_128 (by decide) ?_
        refine ww_aload_n hX (pc := 130) dX11_asksOf_130 rfl ?_
        refine ww_getR hX (pc := 131) fX11_20 (by decide) (xs_49 hL) (xr_49_3 hL) dX11_asksOf_131 ?_
        refine ww_sipush hX (pc := 134) (x := 304) dX11_asksOf_134 (by decide) ?_
        refine ww_iald hX (pc := 137) (xs_51 hL) (by decide) (by omega) (by omega) dX11_asksOf_137 ?_
        refine ww_toI (b := I_123 51 304) rfl ?_
        refine ww_iast hX (pc := 138) (xs_60 hL) (by decide) (by omega) (by omega) dX11_asksOf_138 ?_
        refine ww_nmH (fun I_138 eI_138 => ?_)
        have kI_138 : Ch [60] [] Ia I_138 := by rw [eI_138]; exact Ch_r kI_123 (by decide) (by decide)
        have cI_138 : RX I_138 := by rw [eI_138]; exact RX_r cI_123 (by decide)
        have qI_138 := RX_o cI_138
        have r304_I_138 : I_138 51 304 = I_123 51 304 := by rw [eI_138, up2_off _ _ _ (by decide)]
        have r305_I_138 : I_138 51 305 = I_123 51 305 := by rw [eI_138, up2_off _ _ _ (by decide)]
        have rf_I_138 : FU (I_138 51 304) = FU (I_123 51 304) := by rw [r304_I_138]
        have g138_6 : I_138 60 6 = Ia 51 304 := by rw [eI_138]; exact (up2_s ..).trans (by omega)
        have g138_0 : I_138 60 0 = a := by rw [eI_138, up2_n _ _ (Or.inr (by decide))]; exact g123_0
        have g138_1 : I_138 60 1 = zOn a 16 := by rw [eI_138, up2_n _ _ (Or.inr (by decide))]; exact g123_1
        have g138_2 : I_138 60 2 = v2 := by rw [eI_138, up2_n _ _ (Or.inr (by decide))]; exact g123_2
        have g138_3 : I_138 60 3 = v3 := by rw [eI_138, up2_n _ _ (Or.inr (by decide))]; exact g123_3
        have g138_4 : I_138 60 4 = v4 := by rw [eI_138, up2_n _ _ (Or.inr (by decide))]; exact g123_4
        have g138_5 : I_138 60 5 = v5 := by rw [eI_138, up2_n _ _ (Or.inr (by decide))]; exact g123_5
        refine ww_aload_n hX (pc := 139) dX11_asksOf_139 rfl ?_
        refine ww_getR hX (pc := 140) fX11_52 (by decide) (xs_49 hL) (xr_49_22 hL) dX11_asksOf_140 ?_
        refine ww_bipush hX (pc := 143) (x := 7) dX11_asksOf_143 (by decide) ?_
        refine ww_aload_n hX (pc := 145) dX11_asksOf_145 rfl ?_
        refine ww_getR hX (pc := 146) fX11_20 (by decide) (xs_49 hL) (xr_49_3 hL) dX11_asksOf_146 ?_
        refine ww_sipush hX (pc := 149) (x := 305) dX11_asksOf_149 (by decide) ?_
        refine ww_iald hX (pc := 152) (xs_51 hL) (by decide) (by omega) (by omega) dX11_asksOf_152 ?_
        refine ww_toI (b := I_138 51 305) rfl ?_
        refine ww_iast hX (pc := 153) (xs_60 hL) (by decide) (by omega) (by omega) dX11_asksOf_153 ?_
        refine ww_nmH (fun I_153 eI_153 => ?_)
        have kI_153 : Ch [60] [] Ia I_153 := by rw [eI_153]; exact Ch_r kI_138 (by decide) (by decide)
        have cI_153 : RX I_153 := by rw [eI_153]; exact RX_r cI_138 (by decide)
        have qI_153 := RX_o cI_153
        have r304_I_153 : I_153 51 304 = I_138 51 304 := by rw [eI_153, up2_off _ _ _ (by decide)]
        have r305_I_153 : I_153 51 305 = I_138 51 305 := by rw [eI_153, up2_off _ _ _ (by decide)]
        have rf_I_153 : FU (I_153 51 304) = FU (I_138 51 304) := by rw [r304_I_153]
        have g153_7 : I_153 60 7 = Ia 51 305 := by rw [eI_153]; exact (up2_s ..).trans (by omega)
        have g153_0 : I_153 60 0 = a := by rw [eI_153, up2_n _ _ (Or.inr (by decide))]; exact g138_0
        have g153_1 : I_153 60 1 = zOn a 16 := by rw [eI_153, up2_n _ _ (Or.inr (by decide))]; exact g138_1
        have g153_2 : I_153 60 2 = v2 := by rw [eI_153, up2_n _ _ (Or.inr (by decide))]; exact g138_2
        have g153_3 : I_153 60 3 = v3 := by rw [eI_153, up2_n _ _ (Or.inr (by decide))]; exact g138_3
        have g153_4 : I_153 60 4 = v4 := by rw [eI_153, up2_n _ _ (Or.inr (by decide))]; exact g138_4
        have g153_5 : I_153 60 5 = v5 := by rw [eI_153, up2_n _ _ (Or.inr (by decide))]; exact g138_5
        have g153_6 : I_153 60 6 = Ia 51 304 := by rw [eI_153, up2_n _ _ (Or.inr (by decide))]; exact g138_6
        refine rV hX (pc := 154) hT (Nat.le_refl 0) (Nat.le_refl 0) dX11_asksOf_154 ?_
        exact ⟨kI_153, (Kp_rf (a := 49) (b := 73)), cI_153, (fun j hj => by
            have e8 : v6 = Ia 51 304 := by omega
            obtain ⟨q1, q2, q3, q4⟩ := hq
            rw [e8] at q1 q2 q3 q4
            rcases (show j = 0 ∨ j = 1 ∨ j = 2 ∨ j = 3 ∨ j = 4 ∨ j = 5 ∨ j = 6 ∨ j = 7 by omega) with rfl | rfl | rfl | rfl | rfl | rfl | rfl | rfl
            · exact g153_0
            · exact g153_1
            · exact g153_2.trans q1
            · exact g153_3.trans q2
            · exact g153_4.trans q3
            · exact g153_5.trans q4
            · exact g153_6
            · exact g153_7)⟩
      · simp only [w32_mod] at h_23
        refine ww_iload_n hX (pc := 26) dX11_asksOf_26 rfl ?_
        refine ww_iload hX (pc := 27) dX11_asksOf_27 rfl ?_
        refine ww_ishr hX (pc := 29) dX11_asksOf_29 ?_
        refine ww_iconst hX (pc := 30) (x := 1) dX11_asksOf_30 rfl ?_
        refine ww_iand hX (pc := 31) dX11_asksOf_31 ?_
        have hb1 := i_and_1 (i_shr a v6)
        refine ww_if_ne hX (pc := 32) (tgt := 38) dX11_asksOf_32 (by decide) (fun h_32 => ?_) (fun h_32 => ?_)
        · simp only [w32_mod] at h_32
          refine ww_iload_n hX (pc := 38) dX11_asksOf_38 rfl ?_
          refine ww_iload hX (pc := 39) dX11_asksOf_39 rfl ?_
          refine ww_iconst hX (pc := 41) (x := 1) dX11_asksOf_41 rfl ?_
          refine ww_iadd hX (pc := 42) dX11_asksOf_42 ?_
          refine ww_iadd hX (pc := 43) dX11_asksOf_43 ?_
          refine ww_nmI (fun v_44 hv_44 => ?_)
          refine ww_istore_n hX (pc := 44) (lv' := [some (kR (some 49)), some (kI a), some (kI v_44), some (kI v3), some (kI v4), some (kI v5), some (kI v6)]) dX11_asksOf_44 (by decide) rfl rfl ?_
          refine ww_iload_n hX (pc := 45) dX11_asksOf_45 rfl ?_
          refine ww_iload hX (pc := 46) dX11_asksOf_46 rfl ?_
          refine ww_iconst hX (pc := 48) (x := 1) dX11_asksOf_48 rfl ?_
          refine ww_iadd hX (pc := 49) dX11_asksOf_49 ?_
          refine ww_ixor hX (pc := 50) dX11_asksOf_50 ?_
          refine ww_nmI (fun v_51 hv_51 => ?_)
          refine ww_istore_n hX (pc := 51) (lv' := [some (kR (some 49)), some (kI a), some (kI v_44), some (kI v_51), some (kI v4), some (kI v5), some (kI v6)]) dX11_asksOf_51 (by decide) rfl rfl ?_
          refine ww_iload hX (pc := 52) dX11_asksOf_52 rfl ?_
          refine ww_iconst hX (pc := 54) (x := (-1)) dX11_asksOf_54 rfl ?_
          refine ww_icmp_ne hX (pc := 55) (tgt := 63) dX11_asksOf_55 (by decide) (fun h_55 => ?_) (fun h_55 => ?_)
          · simp only [w32_mod] at h_55
            refine ww_iload hX (pc := 63) dX11_asksOf_63 rfl ?_
            refine ww_istore hX (pc := 65) (lv' := [some (kR (some 49)), some (kI a), some (kI v_44), some (kI v_51), some (kI v4), some (kI v5), some (kI v6)]) dX11_asksOf_65 (by decide) rfl rfl ?_
            refine ww_iload hX (pc := 67) dX11_asksOf_67 rfl ?_
            refine ww_istore hX (pc := 69) (lv' := [some (kR (some 49)), some (kI a), some (kI v_44), some (kI v_51), some (kI v4), some (kI v6), some (kI v6)]) dX11_asksOf_69 (by decide) rfl rfl ?_
            refine ww_iinc hX (pc := 71) (lv' := [some (kR (some 49)), some (kI a), some (kI v_44), some (kI v_51), some (kI v4), some (kI v6), some (kI (v6 + 1))]) dX11_asksOf_71 rfl (by decide) rfl rfl ?_
            refine ww_goto hX (pc := 74) (tgt := 13) dX11_asksOf_74 (by decide) ?_
            exact ih_13 _ (by have hm9 := Sh0_e hq_13; omega) v_44 v_51 v4 v6 (v6 + 1) rfl ⟨by omega, zAQ_s hq (by omega) (by omega) (by omega) hv_51 (fun g => by omega) (fun g => by omega)⟩
          · simp only [w32_mod] at h_55
            refine ww_iload hX (pc := 58) dX11_asksOf_58 rfl ?_
            refine ww_goto hX (pc := 60) (tgt := 65) dX11_asksOf_60 (by decide) ?_
            refine ww_istore hX (pc := 65) (lv' := [some (kR (some 49)), some (kI a), some (kI v_44), some (kI v_51), some (kI v6), some (kI v5), some (kI v6)]) dX11_asksOf_65 (by decide) rfl rfl ?_
            refine ww_iload hX (pc := 67) dX11_asksOf_67 rfl ?_
            refine ww_istore hX (pc := 69) (lv' := [some (kR (some 49)), some (kI a), some (kI v_44), some (kI v_51), some (kI v6), some (kI v6), some (kI v6)]) dX11_asksOf_69 (by decide) rfl rfl ?_
            refine ww_iinc hX (pc := 71) (lv' := [some (kR (some 49)), some (kI a), some (kI v_44), some (kI v_51), some (kI v6), some (kI v6), some (kI (v6 + 1))]) dX11_asksOf_71 rfl (by decide) rfl rfl ?_
            refine ww_goto hX (pc := 74) (tgt := 13) dX11_asksOf_74 (by decide) ?_
            exact ih_13 _ (by have hm9 := Sh0_e hq_13; omega) v_44 v_51 v6 v6 (v6 + 1) rfl ⟨by omega, zAQ_s hq (by omega) (by omega) (by omega) hv_51 (fun g => by omega) (fun g => by omega)⟩
        · simp only [w32_mod] at h_32
          refine ww_goto hX (pc := 35) (tgt := 71) dX11_asksOf_35 (by decide) ?_
          refine ww_iinc hX (pc := 71) (lv' := [some (kR (some 49)), some (kI a), some (kI v2), some (kI v3), some (kI v4), some (kI v5), some (kI (v6 + 1))]) dX11_asksOf_71 rfl (by decide) rfl rfl ?_
          refine ww_goto hX (pc := 74) (tgt := 13) dX11_asksOf_74 (by decide) ?_
          exact ih_13 _ (by have hm9 := Sh0_e hq_13; omega) v2 v3 v4 v5 (v6 + 1) rfl ⟨by omega, zAQ_n hq (by omega) (by omega)⟩
  exact hl_13 _ 0 0 (-1) (-1) 0 rfl ⟨by omega, zAQ_0 a⟩
end
section
/-! the reference's learn -/
def zKp (k : Nat → Int) (t : Nat) (qs : List zQ) : Prop := ∃ (c vl : Nat → Int) (n9 m9 l9 : Nat), cvw k t = c ∧ k (311 + t) = n9 ∧ n9 ≤ 400 ∧ (∀ j, j < n9 → k (2717 + 400 * t + j) = vl j ∧ 0 ≤ vl j) ∧ zLw c vl n9 m9 0 l9 = .inr qs
theorem zKp_k {k k' : Nat → Int} {t : Nat} {qs : List zQ} (h : zKp k t qs) (ht : t < 6) (e : ∀ j : Nat, 256 ≤ j → k' j = k j) : zKp k' t qs := by
  obtain ⟨c, vl, n9, m9, l9, h1, h2, h3, h4, h5⟩ := h
  refine ⟨c, vl, n9, m9, l9, ?_, by rw [e _ (by omega)]; exact h2, h3, fun j hj => by rw [e _ (by omega)]; exact h4 j hj, h5⟩
  rw [← h1]
  funext i
  unfold cvw
  rw [e (311 + t) (by omega)]
  by_cases g : (i : Int) < k (311 + t)
  · rw [if_pos g, if_pos g]
    exact e _ (by omega)
  · rw [if_neg g, if_neg g]
theorem zGv_b {K : Int} {r : Option Int} (h0 : 0 ≤ K) (h : K ≤ 8) : -1 ≤ zGv K r ∧ zGv K r ≤ 7 := by
  cases r with
  | none => exact (by omega : -1 ≤ (-1 : Int) ∧ (-1 : Int) ≤ 7)
  | some x =>
    unfold zGv
    split <;> omega
/-- the CODE that a law tells -/
def zLd (qs : List zQ) (n K : Int) (s : Int) : Int := zGv K (zTl qs (zEn s n K))
end
