def zIs (r : Option Int) (x : Int) : Prop := (∀ w, r = some w → (x = 1 ↔ ¬ w = 0)) ∧ (r = none → x = 0)
theorem zIs_n {r : Option Int} {x x9 y : Int} (h : zWv r x9 y) (h9 : ¬ x9 = 1) (hx : x = 0) : zIs r x := ⟨fun w hw => absurd (h.2 w hw).1 h9, fun _ => hx⟩
theorem zIs_s {r : Option Int} {x x9 y : Int} (h : zWv r x9 y) (h9 : ¬ x9 = 0) (h1 : -1000000000 ≤ y → y ≤ 1000000000 → y = 0 → x = 0) (h2 : -1000000000 ≤ y → y ≤ 1000000000 → ¬ y = 0 → x = 1) : zIs r x := by
  refine ⟨fun w hw => ?_, fun hn => absurd (h.1 hn) h9⟩
  obtain ⟨-, rfl, g1, g2⟩ := h.2 w hw
  by_cases hy : y = 0
  · have := h1 g1 g2 hy
    omega
  · have := h2 g1 g2 hy
    omega
theorem zFin_bt {sp : Nat → Int} {en : zE} {B B' a a' : Nat} {s : List Int} {r : Option Int} (h : zFin sp en B a s r) (e1 : B = B') (e : a = a') : zFin sp en B' a' s r := by rw [← e1, ← e]; exact h
theorem zCS_x {sp : Nat → Int} {m0 m1 m2 : Int} {q : zQ} (h : zCS sp m0 m1 m2 q) (en : zE) : ∃ (a b c : Nat) (rt : Option Int), m0 = a ∧ m1 = b ∧ m2 = c ∧ c ≤ 400 ∧ a ≤ b ∧ b ≤ c ∧ zFin sp en b a [] (q.1 en) ∧ (b < c → zFin sp en c b [] rt) ∧ ((b = c ∧ zCv q en = q.1 en) ∨ (b < c ∧ zCv q en = (match rt with
  | none => none
  | some w => if w = 0 then none else q.1 en))) := by
  obtain ⟨a, b, c, h0, h1, h2, h3, h4, ⟨k, k1, k2⟩, h6⟩ := h
  have hab := k2.1
  obtain ⟨D, q2⟩ := q
  cases q2 with
  | none =>
    have h6 : b = c := h6
    exact ⟨a, b, c, none, h0, h1, h2, h3, by omega, h4, zFin_of k2 k1, fun g => absurd h6 (by omega), Or.inl ⟨h6, rfl⟩⟩
  | some F =>
    obtain ⟨k', k3, k4⟩ := h6
    exact ⟨a, b, c, F en, h0, h1, h2, h3, by omega, h4, zFin_of k2 k1, fun _ => zFin_of k4 k3, Or.inr ⟨k4.1, rfl⟩⟩
def zDj (b c : Nat) (q : zQ) (en : zE) (rt : Option Int) : Prop := (b = c ∧ zCv q en = q.1 en) ∨ (b < c ∧ zCv q en = (match rt with
  | none => none
  | some w => if w = 0 then none else q.1 en))
theorem zKv_0 {b c : Nat} {q : zQ} {en : zE} {rt : Option Int} {x : Int} (h : zDj b c q en rt) (h1 : b = c → x = 1) (h2 : b < c → zIs rt x) (hx : x = 0) : zCv q en = none := by
  rcases h with ⟨g1, -⟩ | ⟨g1, g2⟩
  · have := h1 g1
    omega
  · have h3 := h2 g1
    rw [g2]
    cases rt with
    | none => rfl
    | some w =>
      have h4 := h3.1 w rfl
      exact if_pos (by omega)
theorem zKv_1 {b c : Nat} {q : zQ} {en : zE} {rt : Option Int} {x : Int} (h : zDj b c q en rt) (h2 : b < c → zIs rt x) (hx : x = 1) : zCv q en = q.1 en := by
  rcases h with ⟨-, g2⟩ | ⟨g1, g2⟩
  · exact g2
  · have h3 := h2 g1
    rw [g2]
    cases rt with
    | none => have := h3.2 rfl; omega
    | some w =>
      have h4 := h3.1 w rfl
      exact if_neg (by omega)
theorem zWv_z {r : Option Int} {x y : Int} (h : zWv r x y) (hx : ¬ x = 1) : r = none := by
  cases r with
  | none => rfl
  | some w => exact absurd (h.2 w rfl).1 hx
theorem zWv_o {r : Option Int} {x y : Int} (h : zWv r x y) (hx : ¬ x = 0) : r = some y ∧ -1000000000 ≤ y ∧ y ≤ 1000000000 := by
  cases r with
  | none => exact absurd (h.1 rfl) hx
  | some w =>
    obtain ⟨-, rfl, g1, g2⟩ := h.2 w rfl
    exact ⟨rfl, g1, g2⟩
theorem zGv_so {K w x : Int} (h1 : 0 ≤ w ∧ w < K → x = w) (h2 : ¬ (0 ≤ w ∧ w < K) → x = -1) : x = zGv K (some w) := by
  unfold zGv
  by_cases hc : 0 ≤ w ∧ w < K
  · exact (h1 hc).trans (if_pos hc).symm
  · exact (h2 hc).trans (if_neg hc).symm
set_option maxHeartbeats 4000000 in
set_option maxRecDepth 20000 in
theorem c6_X0_isSo (l0 : Launch) {Ia Ja : aI1} {Ra : aR1} {Sa : aS1} (hL : LY Ra Sa) {k n : Nat} (hsk : Sa[k]? = some (0, n)) (hn : n ≤ 65536) (hst : (∀ j, j < n → -10000 ≤ Ia k j ∧ Ia k j ≤ 10000)) {a b : Int} (ha0 : 0 ≤ a) (hab : a ≤ b) (hbn : b ≤ n) {en : zE} (hen : ∀ j, j < 8 → Ia 16 j = en j ∧ -1000 ≤ en j ∧ en j ≤ 1000) {r : Option Int} (hF : a < b → zFin (Ia k) en b.toNat a.toNat [] r)  : CT l0 2 0 0 mX0_isSo [kR (some 15), kR (some k), kI a, kI b] Ia Ja Ra Sa (cI (fun x I' J' => Ia = I' ∧ Kp 15 18 Ja J' ∧ (x = 0 ∨ x = 1) ∧ (a = b → x = 1) ∧ (a < b → zIs r x)) Ra Sa) := by
  refine ct_in pn_X0 (Nat.le_of_ble_eq_true rfl) (fun X hX hT hIn => ?_)
  have hX : aK l0 X cX0_isSo 4 RX0 (some .boolean) 2 0 0 := hX
  change WW X 0 [some (kR (some 15)), some (kR (some k)), some (kI a), some (kI b)] [] Ia Ja Ra Sa 0 0
  refine ww_iload_n hX (pc := 0) dX0_isSo_0 rfl ?_
  refine ww_iload_n hX (pc := 1) dX0_isSo_1 rfl ?_
  refine ww_icmp_eq hX (pc := 2) (tgt := 26) dX0_isSo_2 (by decide) (fun h_2 => ?_) (fun h_2 => ?_)
  · simp only [w32_mod] at h_2
    refine ww_iconst hX (pc := 26) (x := 1) dX0_isSo_26 rfl ?_
    refine ww_goto hX (pc := 27) (tgt := 31) dX0_isSo_27 (by decide) ?_
    refine rZ hX (pc := 31) hT (Nat.le_refl 0) (Nat.le_refl 0) dX0_isSo_31 (by decide) ?_
    exact ⟨rfl, (Kp_rf (a := 15) (b := 18)), by omega, fun _ => by omega, fun g => by omega⟩
  · simp only [w32_mod] at h_2
    refine ww_aload_n hX (pc := 5) dX0_isSo_5 rfl ?_
    refine ww_aload_n hX (pc := 6) dX0_isSo_6 rfl ?_
    refine ww_iload_n hX (pc := 7) dX0_isSo_7 rfl ?_
    refine ww_iload_n hX (pc := 8) dX0_isSo_8 rfl ?_
    refine vI3 hX (pc := 9) sX0_39 (xs_15 hL) (c6_X0_works l0 hL hsk hn hst (by omega) (by omega) (by omega) hen (hF (by omega))) (by decide) (Nat.le_refl 0) (Nat.le_refl 0) (Nat.le_of_ble_eq_true rfl) dX0_isSo_9 (fun x_9 I_9 J_9 h_9 => ?_)
    obtain ⟨rfl, kj_9, h_9, o_9⟩ := h_9
    have kJ_9 : Kp 15 18 Ja J_9 := Kp_tr (Kp_rf (a := 15) (b := 18)) kj_9
    refine ww_if_eq hX (pc := 12) (tgt := 30) dX0_isSo_12 (by decide) (fun h_12 => ?_) (fun h_12 => ?_)
    · simp only [w32_mod] at h_12
      refine ww_iconst hX (pc := 30) (x := 0) dX0_isSo_30 rfl ?_
      refine rZ hX (pc := 31) hT (Nat.le_refl 0) (Nat.le_refl 0) dX0_isSo_31 (by decide) ?_
      exact ⟨rfl, kJ_9, by omega, fun g => by omega, fun _ => zIs_n o_9 (by omega) (by omega)⟩
    · simp only [w32_mod] at h_12
      refine ww_aload_n hX (pc := 15) dX0_isSo_15 rfl ?_
      refine ww_getR hX (pc := 16) fX0_17 (by decide) (xs_15 hL) (xr_15_1 hL) dX0_isSo_16 ?_
      refine ww_iconst hX (pc := 19) (x := 0) dX0_isSo_19 rfl ?_
      refine ww_lald hX (pc := 20) (xs_17 hL) (by decide) (by omega) (by omega) dX0_isSo_20 ?_
      refine ww_lconst hX (pc := 21) (x := 0) dX0_isSo_21 (by decide) ?_
      have hl9 := l_cmp_v (J_9 17 (Int.toNat 0)) 0
      have ht9 : J_9 17 (Int.toNat 0) = J_9 17 0 := rfl
      have hk9 : w64 0 = 0 := rfl
      refine ww_lcmp hX (pc := 22) dX0_isSo_22 ?_
      refine ww_if_eq hX (pc := 23) (tgt := 30) dX0_isSo_23 (by decide) (fun h_23 => ?_) (fun h_23 => ?_)
      · simp only [w32_mod] at h_23
        refine ww_iconst hX (pc := 30) (x := 0) dX0_isSo_30 rfl ?_
        refine rZ hX (pc := 31) hT (Nat.le_refl 0) (Nat.le_refl 0) dX0_isSo_31 (by decide) ?_
        exact ⟨rfl, kJ_9, by omega, fun g => by omega, fun _ => zIs_s o_9 (by omega) (fun g1 g2 g3 => by have g4 := w64_id (x := J_9 17 (Int.toNat 0)) (by omega) (by omega); omega) (fun g1 g2 g3 => by have g4 := w64_id (x := J_9 17 (Int.toNat 0)) (by omega) (by omega); omega)⟩
      · simp only [w32_mod] at h_23
        refine ww_iconst hX (pc := 26) (x := 1) dX0_isSo_26 rfl ?_
        refine ww_goto hX (pc := 27) (tgt := 31) dX0_isSo_27 (by decide) ?_
        refine rZ hX (pc := 31) hT (Nat.le_refl 0) (Nat.le_refl 0) dX0_isSo_31 (by decide) ?_
        exact ⟨rfl, kJ_9, by omega, fun g => by omega, fun _ => zIs_s o_9 (by omega) (fun g1 g2 g3 => by have g4 := w64_id (x := J_9 17 (Int.toNat 0)) (by omega) (by omega); omega) (fun g1 g2 g3 => by have g4 := w64_id (x := J_9 17 (Int.toNat 0)) (by omega) (by omega); omega)⟩
set_option maxHeartbeats 4000000 in
set_option maxRecDepth 20000 in
theorem c6_X0_ask (l0 : Launch) {Ia Ja : aI1} {Ra : aR1} {Sa : aS1} (hL : LY Ra Sa) (hI : XI Ia) {w k m n nm : Nat} (hlw : Sa[w]? = some (12, 0)) (hw0 : Ra w 0 = some k) (hw1 : Ra w 1 = some m) (hsk : Sa[k]? = some (0, n)) (hsm : Sa[m]? = some (0, nm)) (hn : n ≤ 65536) (hnm : nm ≤ 65536) (hk18 : 18 ≤ k) (hm18 : 18 ≤ m) (hw18 : 18 ≤ w) (hst : (∀ j, j < n → -10000 ≤ Ia k j ∧ Ia k j ≤ 10000)) (hmt : ∀ j, j < nm → -10000 ≤ Ia m j ∧ Ia m j ≤ 10000) {qs : List zQ} (hq2 : Ia w 2 = qs.length) (hq12 : qs.length ≤ 12) (hcs : zCs (Ia k) (Ia m) qs) (hmk : ∀ i, i ≤ qs.length → i ≠ 0 → Ia m (2 * i) ≤ n) (hnq : nm = 2 * qs.length + 1) {e : Int} (he0 : 0 ≤ e) (he1 : e < 256)  : CT l0 3 0 0 mX0_ask [kR (some 15), kR (some w), kR (some 1), kI e] Ia Ja Ra Sa (cI (fun x I' J' => Kp 15 18 Ia I' ∧ Kp 15 18 Ja J' ∧ x = zGv (Ia 1 6) (zTl qs (zEn e (Ia 1 5) (Ia 1 6)))) Ra Sa) := by
  refine ct_in pn_X0 (Nat.le_of_ble_eq_true rfl) (fun X hX hT hIn => ?_)
  have hX : aK l0 X cX0_ask 10 RX0 (some .int) 3 0 0 := hX
  change WW X 0 [some (kR (some 15)), some (kR (some w)), some (kR (some 1)), some (kI e), none, none, none, none, none, none] [] Ia Ja Ra Sa 0 0
  obtain ⟨hn1, hn2⟩ := hI.1
  obtain ⟨hk1, hk2⟩ := hI.2.1
  obtain ⟨hf1, hf2⟩ := hI.fu
  refine ww_aload_n hX (pc := 0) dX0_ask_0 rfl ?_
  refine ww_aload_n hX (pc := 1) dX0_ask_1 rfl ?_
  refine ww_iload_n hX (pc := 2) dX0_ask_2 rfl ?_
  refine vV2 hX (pc := 3) sX0_21 (xs_15 hL) (c6_X0_fillWords l0 hL hI (by omega) (by omega)) (by decide) (Nat.le_refl 0) (Nat.le_refl 0) (Nat.le_of_ble_eq_true rfl) dX0_ask_3 (fun I_3 J_3 h_3 => ?_)
  have kI_3 : Kp 15 18 Ia I_3 := Kp_tr (Kp_rf (a := 15) (b := 18)) (Kp_wd h_3.1 (by decide) (by decide))
  have kJ_3 : Kp 15 18 Ja J_3 := Kp_tr (Kp_rf (a := 15) (b := 18)) (Kp_wd h_3.2.1 (by decide) (by decide))
  have r1_5_I_3 : I_3 1 5 = Ia 1 5 := Kp_at kI_3 1 5 (by decide)
  have r1_6_I_3 : I_3 1 6 = Ia 1 6 := Kp_at kI_3 1 6 (by decide)
  have rf_I_3 : FU (I_3 1 5) = FU (Ia 1 5) := by rw [r1_5_I_3]
  have hcl3 : I_3 w 2 = Ia w 2 := by rw [h_3.1 w (by omega)]
  have ek3 : I_3 k = Ia k := h_3.1 k (by omega)
  have em3 : I_3 m = Ia m := h_3.1 m (by omega)
  have hst3 : (∀ j, j < n → -10000 ≤ I_3 k j ∧ I_3 k j ≤ 10000) := by rw [ek3]; exact hst
  have hmt3 : ∀ j, j < nm → -10000 ≤ I_3 m j ∧ I_3 m j ≤ 10000 := by rw [em3]; exact hmt
  have hcs3 : zCs (I_3 k) (I_3 m) qs := by rw [ek3, em3]; exact hcs
  have hmk3 : ∀ i, i ≤ qs.length → i ≠ 0 → I_3 m (2 * i) ≤ n := by rw [em3]; exact hmk
  have hen3 : ∀ j, j < 8 → I_3 16 j = zEn e (Ia 1 5) (Ia 1 6) j ∧ -1000 ≤ zEn e (Ia 1 5) (Ia 1 6) j ∧ zEn e (Ia 1 5) (Ia 1 6) j ≤ 1000 := fun j hj => ⟨h_3.2.2 j hj, zEn_b (by omega) (by omega) (by omega) j hj⟩
  refine ww_aload_n hX (pc := 6) dX0_ask_6 rfl ?_
  refine ww_getI hX (pc := 7) fX0_25 (by decide) hlw dX0_ask_7 ?_
  refine ww_iconst hX (pc := 10) (x := 1) dX0_ask_10 rfl ?_
  refine ww_isub hX (pc := 11) dX0_ask_11 ?_
  refine ww_nmI (fun v_12 hv_12 => ?_)
  refine ww_istore hX (pc := 12) (lv' := [some (kR (some 15)), some (kR (some w)), some (kR (some 1)), some (kI e), some (kI v_12), none, none, none, none, none]) dX0_ask_12 (by decide) rfl rfl ?_
  have hl_14 : ∀ (n_14 : Nat) (c9 : Int) (J2 : aI1), (c9 + 1).toNat = n_14 → (Kp 15 18 Ja J2 ∧ -1 ≤ c9 ∧ c9 < qs.length ∧ ∀ (j : Nat) (q : zQ), c9 < j → qs[j]? = some q → zCv q (zEn e (Ia 1 5) (Ia 1 6)) = none) → WW X 14 [some (kR (some 15)), some (kR (some w)), some (kR (some 1)), some (kI e), some (kI c9), none, none, none, none, none] [] I_3 J2 Ra Sa 0 0 := by
    intro n_14
    induction n_14 using Nat.strongRecOn with
    | ind n_14 ih_14 =>
      intro c9 J2 hm_14 hv_14
      have hq_14 := Sh0_i hm_14
      clear hm_14
      obtain ⟨kJ2, hc0, hc1, hno⟩ := hv_14
      refine ww_iload hX (pc := 14) dX0_ask_14 rfl ?_
      refine ww_if_lt hX (pc := 16) (tgt := 140) dX0_ask_16 (by decide) (fun h_16 => ?_) (fun h_16 => ?_)
      · simp only [w32_mod] at h_16
        refine ww_iconst hX (pc := 140) (x := (-1)) dX0_ask_140 rfl ?_
        refine rI hX (pc := 141) hT (Nat.le_refl 0) (Nat.le_refl 0) dX0_ask_141 ?_
        exact ⟨kI_3, kJ2, (by
            rw [zTl_no qs _ (fun j q g => hno j q (by omega) g)]
            rfl)⟩
      · simp only [w32_mod] at h_16
        refine ww_iconst hX (pc := 19) (x := 2) dX0_ask_19 rfl ?_
        refine ww_iload hX (pc := 20) dX0_ask_20 rfl ?_
        refine ww_imul hX (pc := 22) dX0_ask_22 ?_
        refine ww_iconst hX (pc := 23) (x := 2) dX0_ask_23 rfl ?_
        refine ww_iadd hX (pc := 24) dX0_ask_24 ?_
        refine ww_aload_n hX (pc := 25) dX0_ask_25 rfl ?_
        refine ww_getR hX (pc := 26) fX0_29 (by decide) hlw hw1 dX0_ask_26 ?_
        refine ww_alen hX (pc := 29) (by decide) hsm dX0_ask_29 ?_
        refine ww_icmp_ge hX (pc := 30) (tgt := 140) dX0_ask_30 (by decide) (fun h_30 => ?_) (fun h_30 => ?_)
        · simp only [w32_mod] at h_30
          exfalso
          omega
        · simp only [w32_mod] at h_30
          have hm1 := hmt3 (2 * c9).toNat (by omega)
          have hm2 := hmt3 (2 * c9 + 1).toNat (by omega)
          have hm3 := hmt3 (2 * c9 + 2).toNat (by omega)
          obtain ⟨q9, hq9⟩ : ∃ q, qs[c9.toNat]? = some q := ⟨_, List.getElem?_eq_getElem (by omega)⟩
          have hcs9 := hcs3 c9.toNat q9 hq9
          obtain ⟨a0, b0, c0, rt, m0, m1, m2, hc400, hab0, hbc0, hf1, hf2, hdj⟩ := zCS_x hcs9 (zEn e (Ia 1 5) (Ia 1 6))
          have hdj : zDj b0 c0 q9 (zEn e (Ia 1 5) (Ia 1 6)) rt := hdj
          have hmk9 := hmk3 (c9.toNat + 1) (by omega) (by omega)
          rw [show 2 * (c9.toNat + 1) = 2 * c9.toNat + 2 by omega] at hmk9
          have i0 : I_3 m (2 * c9).toNat = I_3 m (2 * c9.toNat) := congrArg _ (by omega)
          have i1 : I_3 m (2 * c9 + 1).toNat = I_3 m (2 * c9.toNat + 1) := congrArg _ (by omega)
          have i2 : I_3 m (2 * c9 + 2).toNat = I_3 m (2 * c9.toNat + 2) := congrArg _ (by omega)
          refine ww_aload_n hX (pc := 33) dX0_ask_33 rfl ?_
          refine ww_getR hX (pc := 34) fX0_29 (by decide) hlw hw1 dX0_ask_34 ?_
          refine ww_iconst hX (pc := 37) (x := 2) dX0_ask_37 rfl ?_
          refine ww_iload hX (pc := 38) dX0_ask_38 rfl ?_
          refine ww_imul hX (pc := 40) dX0_ask_40 ?_
          refine ww_iald hX (pc := 41) hsm (by omega) (by omega) (by omega) dX0_ask_41 ?_
          refine ww_nmI (fun v_42 hv_42 => ?_)
          refine ww_istore hX (pc := 42) (lv' := [some (kR (some 15)), some (kR (some w)), some (kR (some 1)), some (kI e), some (kI c9), some (kI v_42), none, none, none, none]) dX0_ask_42 (by decide) rfl rfl ?_
          refine ww_aload_n hX (pc := 44) dX0_ask_44 rfl ?_
          refine ww_getR hX (pc := 45) fX0_29 (by decide) hlw hw1 dX0_ask_45 ?_
          refine ww_iconst hX (pc := 48) (x := 2) dX0_ask_48 rfl ?_
          refine ww_iload hX (pc := 49) dX0_ask_49 rfl ?_
          refine ww_imul hX (pc := 51) dX0_ask_51 ?_
          refine ww_iconst hX (pc := 52) (x := 1) dX0_ask_52 rfl ?_
          refine ww_iadd hX (pc := 53) dX0_ask_53 ?_
          refine ww_iald hX (pc := 54) hsm (by omega) (by omega) (by omega) dX0_ask_54 ?_
          refine ww_nmI (fun v_55 hv_55 => ?_)
          refine ww_istore hX (pc := 55) (lv' := [some (kR (some 15)), some (kR (some w)), some (kR (some 1)), some (kI e), some (kI c9), some (kI v_42), some (kI v_55), none, none, none]) dX0_ask_55 (by decide) rfl rfl ?_
          refine ww_aload_n hX (pc := 57) dX0_ask_57 rfl ?_
          refine ww_getR hX (pc := 58) fX0_29 (by decide) hlw hw1 dX0_ask_58 ?_
          refine ww_iconst hX (pc := 61) (x := 2) dX0_ask_61 rfl ?_
          refine ww_iload hX (pc := 62) dX0_ask_62 rfl ?_
          refine ww_imul hX (pc := 64) dX0_ask_64 ?_
          refine ww_iconst hX (pc := 65) (x := 2) dX0_ask_65 rfl ?_
          refine ww_iadd hX (pc := 66) dX0_ask_66 ?_
          refine ww_iald hX (pc := 67) hsm (by omega) (by omega) (by omega) dX0_ask_67 ?_
          refine ww_nmI (fun v_68 hv_68 => ?_)
          refine ww_istore hX (pc := 68) (lv' := [some (kR (some 15)), some (kR (some w)), some (kR (some 1)), some (kI e), some (kI c9), some (kI v_42), some (kI v_55), some (kI v_68), none, none]) dX0_ask_68 (by decide) rfl rfl ?_
          refine ww_aload_n hX (pc := 70) dX0_ask_70 rfl ?_
          refine ww_aload_n hX (pc := 71) dX0_ask_71 rfl ?_
          refine ww_getR hX (pc := 72) fX0_32 (by decide) hlw hw0 dX0_ask_72 ?_
          refine ww_iload hX (pc := 75) dX0_ask_75 rfl ?_
          refine ww_iload hX (pc := 77) dX0_ask_77 rfl ?_
          refine vI3 hX (pc := 79) sX0_35 (xs_15 hL) (c6_X0_isSo l0 hL hsk hn hst3 (by omega) (by omega) (by omega) hen3 (fun g => zFin_bt (hf2 (by omega)) (by omega) (by omega))) (by decide) (Nat.le_refl 0) (Nat.le_refl 0) (Nat.le_of_ble_eq_true rfl) dX0_ask_79 (fun x_79 I_79 J_79 h_79 => ?_)
          obtain ⟨rfl, kj_79, h_79, h_79a, h_79b⟩ := h_79
          have kJ_79 : Kp 15 18 Ja J_79 := Kp_tr kJ2 kj_79
          have h_79c : b0 = c0 → x_79 = 1 := fun g => h_79a (by omega)
          have h_79d : b0 < c0 → zIs rt x_79 := fun g => h_79b (by omega)
          refine ww_if_eq hX (pc := 82) (tgt := 134) dX0_ask_82 (by decide) (fun h_82 => ?_) (fun h_82 => ?_)
          · simp only [w32_mod] at h_82
            refine ww_iinc hX (pc := 134) (lv' := [some (kR (some 15)), some (kR (some w)), some (kR (some 1)), some (kI e), some (kI (c9 + (-1))), some (kI v_42), some (kI v_55), some (kI v_68), none, none]) dX0_ask_134 rfl (by decide) rfl rfl ?_
            refine ww_goto hX (pc := 137) (tgt := 14) dX0_ask_137 (by decide) ?_
            refine ww_sub [some (kR (some 15)), some (kR (some w)), some (kR (some 1)), some (kI e), some (kI (c9 + (-1))), none, none, none, none, none] (aLe_s (aLe_s (aLe_s (aLe_s (aLe_s (aLe_n (aLe_n (aLe_n (aLe_n (aLe_n aLe_0)))))))))) ?_
            exact ih_14 _ (by have hm9 := Sh0_e hq_14; omega) (c9 + (-1)) J_79 rfl ⟨kJ_79, by omega, by omega, fun j q g1 g2 => (by
    by_cases g : j = c9.toNat
    · subst g
      rw [hq9] at g2
      cases g2
      exact zKv_0 hdj h_79c h_79d (by omega)
    · exact hno j q (by omega) g2)⟩
          · simp only [w32_mod] at h_82
            refine ww_aload_n hX (pc := 85) dX0_ask_85 rfl ?_
            refine ww_aload_n hX (pc := 86) dX0_ask_86 rfl ?_
            refine ww_getR hX (pc := 87) fX0_32 (by decide) hlw hw0 dX0_ask_87 ?_
            refine ww_iload hX (pc := 90) dX0_ask_90 rfl ?_
            refine ww_iload hX (pc := 92) dX0_ask_92 rfl ?_
            refine vI3 hX (pc := 94) sX0_39 (xs_15 hL) (c6_X0_works l0 hL hsk hn hst3 (by omega) (by omega) (by omega) hen3 (zFin_bt hf1 (by omega) (by omega))) (by decide) (Nat.le_refl 0) (Nat.le_refl 0) (Nat.le_of_ble_eq_true rfl) dX0_ask_94 (fun x_94 I_94 J_94 h_94 => ?_)
            obtain ⟨rfl, kj_94, h_94, o_94⟩ := h_94
            have kJ_94 : Kp 15 18 Ja J_94 := Kp_tr kJ_79 kj_94
            refine ww_if_eq hX (pc := 97) (tgt := 134) dX0_ask_97 (by decide) (fun h_97 => ?_) (fun h_97 => ?_)
            · simp only [w32_mod] at h_97
              refine ww_iinc hX (pc := 134) (lv' := [some (kR (some 15)), some (kR (some w)), some (kR (some 1)), some (kI e), some (kI (c9 + (-1))), some (kI v_42), some (kI v_55), some (kI v_68), none, none]) dX0_ask_134 rfl (by decide) rfl rfl ?_
              refine ww_goto hX (pc := 137) (tgt := 14) dX0_ask_137 (by decide) ?_
              refine ww_sub [some (kR (some 15)), some (kR (some w)), some (kR (some 1)), some (kI e), some (kI (c9 + (-1))), none, none, none, none, none] (aLe_s (aLe_s (aLe_s (aLe_s (aLe_s (aLe_n (aLe_n (aLe_n (aLe_n (aLe_n aLe_0)))))))))) ?_
              exact ih_14 _ (by have hm9 := Sh0_e hq_14; omega) (c9 + (-1)) J_94 rfl ⟨kJ_94, by omega, by omega, fun j q g1 g2 => (by
    by_cases g : j = c9.toNat
    · subst g
      rw [hq9] at g2
      cases g2
      exact (zKv_1 hdj h_79d (by omega)).trans (zWv_z o_94 (by omega))
    · exact hno j q (by omega) g2)⟩
            · simp only [w32_mod] at h_97
              refine ww_aload_n hX (pc := 100) dX0_ask_100 rfl ?_
              refine ww_getR hX (pc := 101) fX0_17 (by decide) (xs_15 hL) (xr_15_1 hL) dX0_ask_101 ?_
              refine ww_iconst hX (pc := 104) (x := 0) dX0_ask_104 rfl ?_
              refine ww_lald hX (pc := 105) (xs_17 hL) (by decide) (by omega) (by omega) dX0_ask_105 ?_
              refine ww_nmL (fun v_106 hv_106 => ?_)
              refine ww_lstore hX (pc := 106) (lv' := [some (kR (some 15)), some (kR (some w)), some (kR (some 1)), some (kI e), some (kI c9), some (kI v_42), some (kI v_55), some (kI v_68), some (kL v_106), none]) dX0_ask_106 (by decide) rfl rfl ?_
              have hq1 := l_cmp_v v_106 0
              have hq0 : w64 0 = 0 := rfl
              have hvr := (zWv_o o_94 (by omega)).2
              have ht9 : J_94 17 (Int.toNat 0) = J_94 17 0 := rfl
              have hvq := w64_id (x := v_106) (by omega) (by omega)
              refine ww_lload hX (pc := 108) dX0_ask_108 rfl ?_
              refine ww_lconst hX (pc := 110) (x := 0) dX0_ask_110 (by decide) ?_
              refine ww_lcmp hX (pc := 111) dX0_ask_111 ?_
              refine ww_if_lt hX (pc := 112) (tgt := 132) dX0_ask_112 (by decide) (fun h_112 => ?_) (fun h_112 => ?_)
              · simp only [w32_mod] at h_112
                refine ww_iconst hX (pc := 132) (x := (-1)) dX0_ask_132 rfl ?_
                refine rI hX (pc := 133) hT (Nat.le_refl 0) (Nat.le_refl 0) dX0_ask_133 ?_
                exact ⟨kI_3, kJ_94, (by
                    obtain ⟨t1, t2, t3⟩ := zWv_o o_94 (by omega)
                    have t4 := w64_id (x := v_106) (by omega) (by omega)
                    have t5 : zTl qs (zEn e (Ia 1 5) (Ia 1 6)) = some v_106 := zTl_at qs _ c9.toNat q9 v_106 hq9 (by rw [zKv_1 hdj h_79d (by omega), t1, hv_106]; rfl) (fun j q g1 g2 => hno j q (by omega) g2)
                    rw [t5]
                    exact zGv_so (fun g => by omega) (fun g => by omega))⟩
              · simp only [w32_mod] at h_112
                have hq22 := l_cmp_v v_106 (I_3 1 6)
                have hq3 : w64 (I_3 1 6) = I_3 1 6 := w64_id (by omega) (by omega)
                refine ww_lload hX (pc := 115) dX0_ask_115 rfl ?_
                refine ww_aload_n hX (pc := 117) dX0_ask_117 rfl ?_
                refine ww_getI hX (pc := 118) fX0_42 (by decide) (xs_1 hL) dX0_ask_118 ?_
                refine ww_i2l hX (pc := 121) dX0_ask_121 ?_
                refine ww_toL (w32_id (by omega) (by omega)) ?_
                refine ww_lcmp hX (pc := 122) dX0_ask_122 ?_
                refine ww_if_ge hX (pc := 123) (tgt := 132) dX0_ask_123 (by decide) (fun h_123 => ?_) (fun h_123 => ?_)
                · simp only [w32_mod] at h_123
                  refine ww_iconst hX (pc := 132) (x := (-1)) dX0_ask_132 rfl ?_
                  refine rI hX (pc := 133) hT (Nat.le_refl 0) (Nat.le_refl 0) dX0_ask_133 ?_
                  exact ⟨kI_3, kJ_94, (by
                      obtain ⟨t1, t2, t3⟩ := zWv_o o_94 (by omega)
                      have t4 := w64_id (x := v_106) (by omega) (by omega)
                      have t5 : zTl qs (zEn e (Ia 1 5) (Ia 1 6)) = some v_106 := zTl_at qs _ c9.toNat q9 v_106 hq9 (by rw [zKv_1 hdj h_79d (by omega), t1, hv_106]; rfl) (fun j q g1 g2 => hno j q (by omega) g2)
                      rw [t5]
                      exact zGv_so (fun g => by omega) (fun g => by omega))⟩
                · simp only [w32_mod] at h_123
                  refine ww_lload hX (pc := 126) dX0_ask_126 rfl ?_
                  refine ww_l2i hX (pc := 128) dX0_ask_128 ?_
                  have hq4 := w32_of64 (v := v_106) (by omega) (by omega)
                  refine ww_w32 ?_
                  refine ww_goto hX (pc := 129) (tgt := 133) dX0_ask_129 (by decide) ?_
                  refine rI hX (pc := 133) hT (Nat.le_refl 0) (Nat.le_refl 0) dX0_ask_133 ?_
                  exact ⟨kI_3, kJ_94, (by
                      obtain ⟨t1, t2, t3⟩ := zWv_o o_94 (by omega)
                      have t4 := w64_id (x := v_106) (by omega) (by omega)
                      have t5 : zTl qs (zEn e (Ia 1 5) (Ia 1 6)) = some v_106 := zTl_at qs _ c9.toNat q9 v_106 hq9 (by rw [zKv_1 hdj h_79d (by omega), t1, hv_106]; rfl) (fun j q g1 g2 => hno j q (by omega) g2)
                      rw [t5]
                      exact zGv_so (fun g => by omega) (fun g => by omega))⟩
  exact hl_14 _ v_12 J_3 rfl ⟨kJ_3, by omega, by omega, fun j q g1 g2 => absurd (List.getElem?_eq_some_iff.mp g2).1 (by omega)⟩
