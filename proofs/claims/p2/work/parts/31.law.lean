/-- a law that was learnt: its object, its steps and its marks stand side by side -/
def LawOK (I : aI1) (R : aR1) (S : aS1) (w : Nat) : Prop := 73 ≤ w ∧ S[w]? = some (12, 0) ∧ R w 0 = some (w + 1) ∧ R w 1 = some (w + 2) ∧ (0 ≤ I w 2 ∧ I w 2 ≤ 1000) ∧ (∃ n, n ≤ 400 ∧ S[w + 1]? = some (0, n) ∧ ∀ j, j < n → -10000 ≤ I (w + 1) j ∧ I (w + 1) j ≤ 10000) ∧ (∃ n, n ≤ 25 ∧ S[w + 2]? = some (0, n) ∧ ∀ j, j < n → -10000 ≤ I (w + 2) j ∧ I (w + 2) j ≤ 10000)
set_option maxHeartbeats 4000000 in
set_option maxRecDepth 20000 in
theorem c_J7_copyOf_59c91 (l0 : Launch) {Ia Ja : aI1} {Ra : aR1} {Sa : aS1} {k n0 N z : Nat} {n : Int} (hs : Sa[k]? = some (0, n0)) (hz : Sa.length = z) (hn : n = (N : Int)) (hN : N ≤ n0) (h0 : n0 ≤ 65536)  : CT l0 1 1 N mJ7_copyOf_59c91 [kR (some k), kI n] Ia Ja Ra Sa (dR (fun x I' J' R' S' => x = some z ∧ Ja = J' ∧ Ra = R' ∧ Sa ++ [(0, N)] = S' ∧ (∀ a, a ≠ z → I' a = Ia a) ∧ ∀ j, j < N → I' z j = Ia k j)) := by
  refine ct_in pn_J7 (Nat.le_of_ble_eq_true rfl) (fun X hX hT hIn => ?_)
  have hX : aK l0 X cJ7_copyOf_59c91 3 RJ7 (some (.array .int)) 1 1 N := hX
  change WW X 0 [some (kR (some k)), some (kI n), none] [] Ia Ja Ra Sa 0 0
  have hkz : k < z := by rw [← hz]; exact (List.getElem?_eq_some_iff.mp hs).1
  refine ww_iload_n hX (pc := 0) dJ7_copyOf_59c91_0 rfl ?_
  refine ww_aload_n hX (pc := 1) dJ7_copyOf_59c91_1 rfl ?_
  refine ww_alen hX (pc := 2) (by decide) hs dJ7_copyOf_59c91_2 ?_
  refine ww_icmp_ne hX (pc := 3) (tgt := 14) dJ7_copyOf_59c91_3 (by decide) (fun h_3 => ?_) (fun h_3 => ?_)
  · simp only [w32_mod] at h_3
    refine ww_iload_n hX (pc := 14) dJ7_copyOf_59c91_14 rfl ?_
    refine ww_na_intz hX (pc := 15) (N := N) (z := z) hz tb_103 (by omega) (by omega) (by omega) (by omega) dJ7_copyOf_59c91_15 ?_
    refine ww_nmH (fun I_15 eI_15 => ?_)
    refine ww_astore_n hX (pc := 17) (lv' := [some (kR (some k)), some (kI n), some (kR (some z))]) dJ7_copyOf_59c91_17 (by decide) rfl rfl ?_
    refine ww_aload_n hX (pc := 18) dJ7_copyOf_59c91_18 rfl ?_
    refine ww_iconst hX (pc := 19) (x := 0) dJ7_copyOf_59c91_19 rfl ?_
    refine ww_aload_n hX (pc := 20) dJ7_copyOf_59c91_20 rfl ?_
    refine ww_iconst hX (pc := 21) (x := 0) dJ7_copyOf_59c91_21 rfl ?_
    refine ww_aload_n hX (pc := 22) dJ7_copyOf_59c91_22 rfl ?_
    refine ww_alen hX (pc := 23) (by decide) (sz_l hs) dJ7_copyOf_59c91_23 ?_
    refine ww_iload_n hX (pc := 24) dJ7_copyOf_59c91_24 rfl ?_
    refine ww_mmin hX (pc := 25) tb_660 tb_579 tb_13 tb_580 (by decide) (by omega) (by omega) (Nat.le_of_ble_eq_true rfl) dJ7_copyOf_59c91_25 ?_
    refine ww_toI (b := n) (by rw [i_min_r (by omega) (by omega) (by omega) (by omega)]; omega) ?_
    refine ww_copy hX (pc := 28) tb_661 tb_663 tb_662 tb_19 (sz_l hs) (sz_n hz) (by omega) (by omega) (by omega) (by omega) (by omega) (by omega) (by omega) (by decide) (Nat.le_of_ble_eq_true rfl) dJ7_copyOf_59c91_28 ?_
    refine ww_nmH (fun I_28 eI_28 => ?_)
    refine ww_aload_n hX (pc := 31) dJ7_copyOf_59c91_31 rfl ?_
    refine ww_aret hX (pc := 32) hT (Or.inr ⟨_, rfl⟩) (by omega) (by omega) dJ7_copyOf_59c91_32 ?_
    exact ⟨_, rfl, rfl, rfl, rfl, rfl, fun a ha => by rw [eI_28, upR_n _ _ ha, eI_15, upR_n _ _ ha], fun j hj => by
      rw [eI_28, upR_s]
      unfold va_cpy
      rw [if_pos ⟨Nat.zero_le _, by show j < 0 + n.toNat; omega⟩, eI_15, upR_n _ _ (by omega)]
      congr 1
      show 0 + (j - 0) = j
      omega⟩
  · simp only [w32_mod] at h_3
    obtain rfl : N = n0 := by omega
    refine ww_aload_n hX (pc := 6) dJ7_copyOf_59c91_6 rfl ?_
    refine ww_clonez hX (pc := 7) (z := z) hz tk_link hs (by decide) (Nat.le_of_ble_eq_true rfl) (by omega) (by omega) dJ7_copyOf_59c91_7 ?_
    refine ww_nmH (fun I_7 eI_7 => ?_)
    refine ww_castI hX (pc := 10) tb_659 (sz_n hz) dJ7_copyOf_59c91_10 ?_
    refine ww_aret hX (pc := 13) hT (Or.inr ⟨_, rfl⟩) (by omega) (by omega) dJ7_copyOf_59c91_13 ?_
    exact ⟨_, rfl, rfl, rfl, rfl, rfl, fun a ha => by rw [eI_7, upR_n _ _ ha], fun j hj => by rw [eI_7, upR_s]⟩
set_option maxHeartbeats 4000000 in
set_option maxRecDepth 20000 in
theorem c_X6_init (l0 : Launch) {Ia Ja : aI1} {Ra : aR1} {Sa : aS1} {o a b : Nat} {c : Int} (ho : Sa[o]? = some (12, 0))  : CT l0 1 0 0 mX6_init [kR (some o), kR (some a), kR (some b), kI c] Ia Ja Ra Sa (dV (fun I' J' R' S' => up2 Ia o 2 c = I' ∧ Ja = J' ∧ up2 (up2 Ra o 0 (some a)) o 1 (some b) = R' ∧ Sa = S')) := by
  refine ct_in pn_X6 (Nat.le_of_ble_eq_true rfl) (fun X hX hT hIn => ?_)
  have hX : aK l0 X cX6_init 4 RX6 none 1 0 0 := hX
  change WW X 0 [some (kR (some o)), some (kR (some a)), some (kR (some b)), some (kI c)] [] Ia Ja Ra Sa 0 0
  refine ww_aload_n hX (pc := 0) dX6_init_0 rfl ?_
  refine ww_objInit hX (pc := 1) tb_667 tb_27 tb_28 (by decide) (Nat.le_of_ble_eq_true rfl) dX6_init_1 ?_
  refine ww_aload_n hX (pc := 4) dX6_init_4 rfl ?_
  refine ww_aload_n hX (pc := 5) dX6_init_5 rfl ?_
  refine ww_putR hX (pc := 6) (fun _ => hIn rfl) gX6_7 (by decide) ho dX6_init_6 ?_
  refine ww_aload_n hX (pc := 9) dX6_init_9 rfl ?_
  refine ww_aload_n hX (pc := 10) dX6_init_10 rfl ?_
  refine ww_putR hX (pc := 11) (fun _ => hIn rfl) gX6_13 (by decide) ho dX6_init_11 ?_
  refine ww_aload_n hX (pc := 14) dX6_init_14 rfl ?_
  refine ww_iload_n hX (pc := 15) dX6_init_15 rfl ?_
  refine ww_putI hX (pc := 16) (fun _ => hIn rfl) gX6_16 rfl ho dX6_init_16 ?_
  exact ww_vret hX (pc := 19) hT (by omega) (by omega) dX6_init_19 ⟨rfl, rfl, rfl, rfl, rfl⟩
set_option maxHeartbeats 4000000 in
set_option maxRecDepth 20000 in
theorem c_X7_understand (l0 : Launch) {Ia Ja : aI1} {Ra : aR1} {Sa : aS1} (hL : LY Ra Sa) (hI : XI Ia) (hR : LR Ia) {z : Nat} (hz : Sa.length = z) (hz73 : 73 ≤ z)  : CT l0 293 3 428 mX7_understand [kR (some 10)] Ia Ja Ra Sa (dR (fun x I' J' R' S' => (∀ a, a < z → (a < 10 ∨ 15 ≤ a) → I' a = Ia a) ∧ (∀ a, a < z → (a < 10 ∨ 15 ≤ a) → J' a = Ja a) ∧ LR I' ∧ (∀ a, a < z → R' a = Ra a) ∧ ((x = none ∧ Sa = S') ∨ (x = some z ∧ ∃ N1 N2, N1 ≤ 400 ∧ N2 ≤ 25 ∧ S' = Sa ++ [(12, 0)] ++ [(0, N1)] ++ [(0, N2)] ∧ LawOK I' R' S' z)))) := by
  refine ct_in pn_X7 (Nat.le_of_ble_eq_true rfl) (fun X hX hT hIn => ?_)
  have hX : aK l0 X cX7_understand 1 RX7 (some (.object "LitCoast$Law")) 293 3 428 := hX
  change WW X 0 [some (kR (some 10))] [] Ia Ja Ra Sa 0 0
  obtain ⟨hn1, hn2⟩ := hI.1
  obtain ⟨hk1, hk2⟩ := hI.2.1
  obtain ⟨hf1, hf2⟩ := hI.fu
  obtain ⟨hl1, hl2⟩ := hI.2.2.2.2.2.2.1
  have hq := hR.1
  unfold LRf at hq
  refine ww_aload_n hX (pc := 0) dX7_understand_0 rfl ?_
  refine vV0 hX (pc := 1) sX7_32 (xs_10 hL) (c_X7_findTokens l0 hL hI hR) (by decide) (Nat.zero_le _) (Nat.zero_le _) (Nat.le_of_ble_eq_true rfl) dX7_understand_1 (fun I_1 J_1 h_1 => ?_)
  have kI_1 : Kp 10 15 Ia I_1 := Kp_tr (Kp_rf (a := 10) (b := 15)) (Kp_wd h_1.1 (by decide) (by decide))
  have kJ_1 : Kp 10 15 Ja J_1 := Kp_tr (Kp_rf (a := 10) (b := 15)) (Kp_wd h_1.2.1 (by decide) (by decide))
  have r1_5_I_1 : I_1 1 5 = Ia 1 5 := Kp_at kI_1 1 5 (by decide)
  have r8_1_I_1 : I_1 8 1 = Ia 8 1 := Kp_at kI_1 8 1 (by decide)
  have rf_I_1 : FU (I_1 1 5) = FU (Ia 1 5) := by rw [r1_5_I_1]
  have lI_1 : LR I_1 := h_1.2.2.1
  have qI_1 := lI_1.1
  unfold LRf at qI_1
  have cI_1 := h_1.2.2.2
  refine ww_aload_n hX (pc := 4) dX7_understand_4 rfl ?_
  refine ww_iconst hX (pc := 5) (x := 0) dX7_understand_5 rfl ?_
  refine ww_putI hX (pc := 6) (fun h9 => absurd h9 (by decide)) gX7_35 rfl (xs_10 hL) dX7_understand_6 ?_
  refine ww_nmH (fun I_6 eI_6 => ?_)
  have kI_6 : Kp 10 15 Ia I_6 := by rw [eI_6]; exact Kp_up kI_1 _ _ (by decide)
  have r1_5_I_6 : I_6 1 5 = Ia 1 5 := Kp_at kI_6 1 5 (by decide)
  have r8_1_I_6 : I_6 8 1 = Ia 8 1 := Kp_at kI_6 8 1 (by decide)
  have rf_I_6 : FU (I_6 1 5) = FU (Ia 1 5) := by rw [r1_5_I_6]
  have lI_6 : LR I_6 := by rw [eI_6]; exact LR_7 lI_1 (by omega) (by omega)
  have wI_6 := (congrFun (congrFun eI_6 10) 7).trans (up2_s _ _ _ _)
  have wI_6_6 : I_6 10 6 = I_1 10 6 := by rw [eI_6, up2_n _ _ (Or.inr (by decide))]
  have wI_6_8 : I_6 10 8 = I_1 10 8 := by rw [eI_6, up2_n _ _ (Or.inr (by decide))]
  have wI_6_9 : I_6 10 9 = I_1 10 9 := by rw [eI_6, up2_n _ _ (Or.inr (by decide))]
  have wI_6_10 : I_6 10 10 = I_1 10 10 := by rw [eI_6, up2_n _ _ (Or.inr (by decide))]
  have wI_6_11 : I_6 10 11 = I_1 10 11 := by rw [eI_6, up2_n _ _ (Or.inr (by decide))]
  refine ww_aload_n hX (pc := 9) dX7_understand_9 rfl ?_
  refine ww_aload_n hX (pc := 10) dX7_understand_10 rfl ?_
  refine ww_getR hX (pc := 11) fX7_15 (by decide) (xs_10 hL) (xr_10_2 hL) dX7_understand_11 ?_
  refine ww_iconst hX (pc := 14) (x := 0) dX7_understand_14 rfl ?_
  refine ww_iald hX (pc := 15) (xs_11 hL) (by decide) (by omega) (by omega) dX7_understand_15 ?_
  have hk0 : -1000 ≤ I_6 11 (Int.toNat 0) ∧ I_6 11 (Int.toNat 0) ≤ 1400 := lI_6.2.1 0 (by decide)
  refine ww_putI hX (pc := 16) (fun h9 => absurd h9 (by decide)) gX7_38 rfl (xs_10 hL) dX7_understand_16 ?_
  refine ww_nmH (fun I_16 eI_16 => ?_)
  have kI_16 : Kp 10 15 Ia I_16 := by rw [eI_16]; exact Kp_up kI_6 _ _ (by decide)
  have r1_5_I_16 : I_16 1 5 = Ia 1 5 := Kp_at kI_16 1 5 (by decide)
  have r8_1_I_16 : I_16 8 1 = Ia 8 1 := Kp_at kI_16 8 1 (by decide)
  have rf_I_16 : FU (I_16 1 5) = FU (Ia 1 5) := by rw [r1_5_I_16]
  have lI_16 : LR I_16 := by rw [eI_16]; exact LR_8 lI_6 (by omega) (by omega)
  have wI_16 := (congrFun (congrFun eI_16 10) 8).trans (up2_s _ _ _ _)
  have wI_16_6 : I_16 10 6 = I_6 10 6 := by rw [eI_16, up2_n _ _ (Or.inr (by decide))]
  have wI_16_7 : I_16 10 7 = I_6 10 7 := by rw [eI_16, up2_n _ _ (Or.inr (by decide))]
  have wI_16_9 : I_16 10 9 = I_6 10 9 := by rw [eI_16, up2_n _ _ (Or.inr (by decide))]
  have wI_16_10 : I_16 10 10 = I_6 10 10 := by rw [eI_16, up2_n _ _ (Or.inr (by decide))]
  have wI_16_11 : I_16 10 11 = I_6 10 11 := by rw [eI_16, up2_n _ _ (Or.inr (by decide))]
  refine ww_aload_n hX (pc := 19) dX7_understand_19 rfl ?_
  refine ww_iconst hX (pc := 20) (x := 0) dX7_understand_20 rfl ?_
  refine ww_putI hX (pc := 21) (fun h9 => absurd h9 (by decide)) gX7_41 rfl (xs_10 hL) dX7_understand_21 ?_
  refine ww_nmH (fun I_21 eI_21 => ?_)
  have kI_21 : Kp 10 15 Ia I_21 := by rw [eI_21]; exact Kp_up kI_16 _ _ (by decide)
  have r1_5_I_21 : I_21 1 5 = Ia 1 5 := Kp_at kI_21 1 5 (by decide)
  have r8_1_I_21 : I_21 8 1 = Ia 8 1 := Kp_at kI_21 8 1 (by decide)
  have rf_I_21 : FU (I_21 1 5) = FU (Ia 1 5) := by rw [r1_5_I_21]
  have lI_21 : LR I_21 := by rw [eI_21]; exact LR_9 lI_16 (by omega) (by omega)
  have wI_21 := (congrFun (congrFun eI_21 10) 9).trans (up2_s _ _ _ _)
  have wI_21_6 : I_21 10 6 = I_16 10 6 := by rw [eI_21, up2_n _ _ (Or.inr (by decide))]
  have wI_21_7 : I_21 10 7 = I_16 10 7 := by rw [eI_21, up2_n _ _ (Or.inr (by decide))]
  have wI_21_8 : I_21 10 8 = I_16 10 8 := by rw [eI_21, up2_n _ _ (Or.inr (by decide))]
  have wI_21_10 : I_21 10 10 = I_16 10 10 := by rw [eI_21, up2_n _ _ (Or.inr (by decide))]
  have wI_21_11 : I_21 10 11 = I_16 10 11 := by rw [eI_21, up2_n _ _ (Or.inr (by decide))]
  refine ww_aload_n hX (pc := 24) dX7_understand_24 rfl ?_
  refine ww_iconst hX (pc := 25) (x := 0) dX7_understand_25 rfl ?_
  refine ww_putI hX (pc := 26) (fun h9 => absurd h9 (by decide)) gX7_44 rfl (xs_10 hL) dX7_understand_26 ?_
  refine ww_nmH (fun I_26 eI_26 => ?_)
  have kI_26 : Kp 10 15 Ia I_26 := by rw [eI_26]; exact Kp_up kI_21 _ _ (by decide)
  have r1_5_I_26 : I_26 1 5 = Ia 1 5 := Kp_at kI_26 1 5 (by decide)
  have r8_1_I_26 : I_26 8 1 = Ia 8 1 := Kp_at kI_26 8 1 (by decide)
  have rf_I_26 : FU (I_26 1 5) = FU (Ia 1 5) := by rw [r1_5_I_26]
  have lI_26 : LR I_26 := by rw [eI_26]; exact LR_10 lI_21 (by omega) (by omega)
  have wI_26 := (congrFun (congrFun eI_26 10) 10).trans (up2_s _ _ _ _)
  have wI_26_6 : I_26 10 6 = I_21 10 6 := by rw [eI_26, up2_n _ _ (Or.inr (by decide))]
  have wI_26_7 : I_26 10 7 = I_21 10 7 := by rw [eI_26, up2_n _ _ (Or.inr (by decide))]
  have wI_26_8 : I_26 10 8 = I_21 10 8 := by rw [eI_26, up2_n _ _ (Or.inr (by decide))]
  have wI_26_9 : I_26 10 9 = I_21 10 9 := by rw [eI_26, up2_n _ _ (Or.inr (by decide))]
  have wI_26_11 : I_26 10 11 = I_21 10 11 := by rw [eI_26, up2_n _ _ (Or.inr (by decide))]
  refine ww_aload_n hX (pc := 29) dX7_understand_29 rfl ?_
  refine ww_iconst hX (pc := 30) (x := 0) dX7_understand_30 rfl ?_
  refine ww_putI hX (pc := 31) (fun h9 => absurd h9 (by decide)) gX7_47 rfl (xs_10 hL) dX7_understand_31 ?_
  refine ww_nmH (fun I_31 eI_31 => ?_)
  have kI_31 : Kp 10 15 Ia I_31 := by rw [eI_31]; exact Kp_up kI_26 _ _ (by decide)
  have r1_5_I_31 : I_31 1 5 = Ia 1 5 := Kp_at kI_31 1 5 (by decide)
  have r8_1_I_31 : I_31 8 1 = Ia 8 1 := Kp_at kI_31 8 1 (by decide)
  have rf_I_31 : FU (I_31 1 5) = FU (Ia 1 5) := by rw [r1_5_I_31]
  have lI_31 : LR I_31 := by rw [eI_31]; exact LR_11 lI_26 (by omega) (by omega)
  have wI_31 := (congrFun (congrFun eI_31 10) 11).trans (up2_s _ _ _ _)
  have wI_31_6 : I_31 10 6 = I_26 10 6 := by rw [eI_31, up2_n _ _ (Or.inr (by decide))]
  have wI_31_7 : I_31 10 7 = I_26 10 7 := by rw [eI_31, up2_n _ _ (Or.inr (by decide))]
  have wI_31_8 : I_31 10 8 = I_26 10 8 := by rw [eI_31, up2_n _ _ (Or.inr (by decide))]
  have wI_31_9 : I_31 10 9 = I_26 10 9 := by rw [eI_31, up2_n _ _ (Or.inr (by decide))]
  have wI_31_10 : I_31 10 10 = I_26 10 10 := by rw [eI_31, up2_n _ _ (Or.inr (by decide))]
  refine ww_aload_n hX (pc := 34) dX7_understand_34 rfl ?_
  refine ww_iconst hX (pc := 35) (x := (-1)) dX7_understand_35 rfl ?_
  refine ww_putI hX (pc := 36) (fun h9 => absurd h9 (by decide)) gX7_9 rfl (xs_10 hL) dX7_understand_36 ?_
  refine ww_nmH (fun I_36 eI_36 => ?_)
  have kI_36 : Kp 10 15 Ia I_36 := by rw [eI_36]; exact Kp_up kI_31 _ _ (by decide)
  have r1_5_I_36 : I_36 1 5 = Ia 1 5 := Kp_at kI_36 1 5 (by decide)
  have r8_1_I_36 : I_36 8 1 = Ia 8 1 := Kp_at kI_36 8 1 (by decide)
  have rf_I_36 : FU (I_36 1 5) = FU (Ia 1 5) := by rw [r1_5_I_36]
  have lI_36 : LR I_36 := by rw [eI_36]; exact LR_0 lI_31
  have wI_36 := (congrFun (congrFun eI_36 10) 0).trans (up2_s _ _ _ _)
  have wI_36_6 : I_36 10 6 = I_31 10 6 := by rw [eI_36, up2_n _ _ (Or.inr (by decide))]
  have wI_36_7 : I_36 10 7 = I_31 10 7 := by rw [eI_36, up2_n _ _ (Or.inr (by decide))]
  have wI_36_8 : I_36 10 8 = I_31 10 8 := by rw [eI_36, up2_n _ _ (Or.inr (by decide))]
  have wI_36_9 : I_36 10 9 = I_31 10 9 := by rw [eI_36, up2_n _ _ (Or.inr (by decide))]
  have wI_36_10 : I_36 10 10 = I_31 10 10 := by rw [eI_36, up2_n _ _ (Or.inr (by decide))]
  have wI_36_11 : I_36 10 11 = I_31 10 11 := by rw [eI_36, up2_n _ _ (Or.inr (by decide))]
  refine ww_aload_n hX (pc := 39) dX7_understand_39 rfl ?_
  refine vI0 hX (pc := 40) sX7_50 (xs_10 hL) (c_X7_takeClauses l0 hL (XI_kp hI kI_36 (by decide)) lI_36) (by decide) (Nat.zero_le _) (Nat.zero_le _) (Nat.le_of_ble_eq_true rfl) dX7_understand_40 (fun x_40 I_40 J_40 h_40 => ?_)
  have kI_40 : Kp 10 15 Ia I_40 := Kp_tr kI_36 (Kp_wd h_40.1 (by decide) (by decide))
  have kJ_40 : Kp 10 15 Ja J_40 := Kp_tr kJ_1 (Kp_wd h_40.2.1 (by decide) (by decide))
  have r1_5_I_40 : I_40 1 5 = Ia 1 5 := Kp_at kI_40 1 5 (by decide)
  have r8_1_I_40 : I_40 8 1 = Ia 8 1 := Kp_at kI_40 8 1 (by decide)
  have rf_I_40 : FU (I_40 1 5) = FU (Ia 1 5) := by rw [r1_5_I_40]
  have lI_40 : LR I_40 := h_40.2.2.1
  have qI_40 := lI_40.1
  unfold LRf at qI_40
  have cI_40 := h_40.2.2.2
  refine ww_if_ne hX (pc := 43) (tgt := 48) dX7_understand_43 (by decide) (fun h_43 => ?_) (fun h_43 => ?_)
  · simp only [w32_mod] at h_43
    refine ww_newz hX (pc := 48) 3 (z := z) hz cl_6 tb_648 tb_649 tb_18 rfl (by omega) (by omega) dX7_understand_48 ?_
    refine ww_nmH (fun I_48 eI_48 => ?_)
    refine ww_nmK (fun J_48 eJ_48 => ?_)
    have e9 : ∀ a, a < z → I_48 a = I_40 a := fun a ha => by rw [eI_48, upR_n _ _ (by omega)]
    have e10 : I_48 10 = I_40 10 := e9 10 (by omega)
    refine ww_dupR hX (pc := 51) dX7_understand_51 ?_
    refine ww_aload_n hX (pc := 52) dX7_understand_52 rfl ?_
    refine ww_getR hX (pc := 53) fX7_22 (by decide) (sz_l (xs_10 hL)) (by rw [upR_n _ _ (by omega)]; exact xr_10_4 hL) dX7_understand_53 ?_
    refine ww_aload_n hX (pc := 56) dX7_understand_56 rfl ?_
    refine ww_getI hX (pc := 57) fX7_41 (by decide) (sz_l (xs_10 hL)) dX7_understand_57 ?_
    obtain ⟨N1, hN1⟩ : ∃ N : Nat, I_48 10 9 = (N : Int) := ⟨(I_48 10 9).toNat, by rw [e10]; omega⟩
    have hN1' : N1 ≤ 400 := by rw [e10] at hN1; omega
    refine ww_callS hX (pc := 60) (av := [kR (some 13), kI (I_48 10 9)]) sX7_56 (c_J7_copyOf_59c91 l0 (N := N1) (sz_l (xs_13 hL)) (lz hz) hN1 hN1' (by decide)) rfl (by decide) (by omega) (by omega) (Nat.le_of_ble_eq_true rfl) dX7_understand_60 (fun r_60 I_60 J_60 R_60 S_60 h_60 => ?_)
    obtain ⟨_, rfl, rfl, rfl, rfl, rfl, hI_60, hj_60⟩ := h_60
    change WW X 63 [some (kR (some 10))] [kR (some (z + 1)), kR (some z), kR (some z)] I_60 J_48 _ _ _ _
    refine ww_aload_n hX (pc := 63) dX7_understand_63 rfl ?_
    refine ww_getR hX (pc := 64) fX7_25 (by decide) (sz_l (sz_l (xs_10 hL))) (by rw [upR_n _ _ (by omega)]; exact xr_10_5 hL) dX7_understand_64 ?_
    refine ww_iconst hX (pc := 67) (x := 2) dX7_understand_67 rfl ?_
    refine ww_aload_n hX (pc := 68) dX7_understand_68 rfl ?_
    refine ww_getI hX (pc := 69) fX7_47 (by decide) (sz_l (sz_l (xs_10 hL))) dX7_understand_69 ?_
    refine ww_imul hX (pc := 72) dX7_understand_72 ?_
    refine ww_iconst hX (pc := 73) (x := 1) dX7_understand_73 rfl ?_
    refine ww_iadd hX (pc := 74) dX7_understand_74 ?_
    refine ww_nmI (fun v_74 hv_74 => ?_)
    have e11 : I_60 10 = I_40 10 := (hI_60 10 (by omega)).trans e10
    rw [e11] at hv_74
    obtain ⟨N2, hN2⟩ : ∃ N : Nat, v_74 = (N : Int) := ⟨v_74.toNat, by omega⟩
    have hN2' : N2 ≤ 25 := by omega
    refine ww_callS hX (pc := 75) (av := [kR (some 14), kI v_74]) sX7_56 (c_J7_copyOf_59c91 l0 (N := N2) (sz_l (sz_l (xs_14 hL))) (lz (lz hz)) hN2 hN2' (by decide)) rfl (by decide) (by omega) (by omega) (Nat.le_of_ble_eq_true rfl) dX7_understand_75 (fun r_75 I_75 J_75 R_75 S_75 h_75 => ?_)
    obtain ⟨_, rfl, rfl, rfl, rfl, rfl, hI_75, hj_75⟩ := h_75
    change WW X 78 [some (kR (some 10))] [kR (some (z + 2)), kR (some (z + 1)), kR (some z), kR (some z)] I_75 J_48 _ _ _ _
    refine ww_aload_n hX (pc := 78) dX7_understand_78 rfl ?_
    refine ww_getI hX (pc := 79) fX7_47 (by decide) (sz_l (sz_l (sz_l (xs_10 hL)))) dX7_understand_79 ?_
    refine ww_callI hX (pc := 82) (av := [kR (some (z + 1)), kR (some (z + 2)), kI (I_75 10 11)]) sX7_62 (c_X6_init l0 (sz_l (sz_l (sz_n hz)))) rfl (by decide) (by omega) (by omega) (Nat.le_of_ble_eq_true rfl) dX7_understand_82 (fun r_82 I_82 J_82 R_82 S_82 h_82 => ?_)
    obtain ⟨rfl, rfl, rfl, rfl, rfl⟩ := h_82
    change WW X 85 [some (kR (some 10))] [kR (some z)] _ J_48 _ _ _ _
    have e12 : I_75 10 = I_40 10 := (hI_75 10 (by omega)).trans e11
    have e13 : ∀ a, a < z → up2 I_75 z 2 (I_75 10 11) a = I_40 a := fun a ha => by
      rw [up2_off _ _ _ (by omega), hI_75 a (by omega), hI_60 a (by omega), e9 a ha]
    refine ww_aret hX (pc := 85) hT (Or.inl ⟨_, rfl⟩) (by omega) (by omega) dX7_understand_85 ⟨_, rfl, fun a ha h => (e13 a ha).trans (kI_40 a (by omega)), fun a ha h => by rw [eJ_48, upR_n _ _ (by omega)]; exact kJ_40 a (by omega), ?_, fun a ha => by rw [up2_off _ _ _ (by omega), up2_off _ _ _ (by omega), upR_n _ _ (by omega)], Or.inr ⟨rfl, N1, N2, hN1', hN2', rfl, hz73, sz_l (sz_l (sz_n hz)), by rw [up2_n _ _ (Or.inr (by decide)), up2_s], by rw [up2_s], ?_, ⟨N1, hN1', sz_l (sz_n (lz hz)), fun j hj => ?_⟩, ⟨N2, hN2', sz_n (lz (lz hz)), fun j hj => ?_⟩⟩⟩
    · unfold LR
      rw [e13 10 (by omega), e13 11 (by omega), e13 13 (by omega), e13 14 (by omega)]
      exact lI_40
    · rw [up2_s, e12]; omega
    · rw [up2_off _ _ _ (by omega), hI_75 _ (by omega), hj_60 j hj, e9 13 (by omega)]
      exact lI_40.2.2.1 j (by omega)
    · rw [up2_off _ _ _ (by omega), hj_75 j hj, hI_60 14 (by omega), e9 14 (by omega)]
      exact lI_40.2.2.2 j (by omega)
  · simp only [w32_mod] at h_43
    refine ww_null hX (pc := 46) dX7_understand_46 ?_
    exact ww_aret hX (pc := 47) hT (Or.inl ⟨_, rfl⟩) (by omega) (by omega) dX7_understand_47 ⟨_, rfl, fun a _ h => kI_40 a (by omega), fun a _ h => kJ_40 a (by omega), lI_40, fun a _ => rfl, Or.inl ⟨rfl, rfl⟩⟩
