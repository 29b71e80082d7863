theorem zLO_0 {I I' : aI1} {T : Nat} {x : Int} {r : Nat ⊕ List zQ} (h : zLO I I' T x r) (hx : x = 0) : ∃ f, r = .inl f ∧ f ≤ T ∧ I' 10 0 = I 12 f := by
  cases r with
  | inl f => exact ⟨f, rfl, h.2⟩
  | inr q => exact absurd h.1 (by omega)
theorem zLO_1 {I I' : aI1} {T : Nat} {x : Int} {r : Nat ⊕ List zQ} (h : zLO I I' T x r) (hx : x = 1) : ∃ qs, r = .inr qs ∧ I' 10 11 = qs.length ∧ zCs (I' 13) (I' 14) qs ∧ (∀ i, i ≤ qs.length → i ≠ 0 → I' 14 (2 * i) ≤ I' 10 9) ∧ I' 10 0 = I 10 0 := by
  cases r with
  | inl f => exact absurd h.1 (by omega)
  | inr q => exact ⟨q, rfl, h.2⟩
theorem zCs_cp {sp sp2 mk mk2 : Nat → Int} {qs : List zQ} {b : Int} (h : zCs sp mk qs) (hb : ∀ i, i ≤ qs.length → i ≠ 0 → mk (2 * i) ≤ b) (hs : ∀ j : Nat, (j : Int) < b → sp2 j = sp j) (hm : ∀ j : Nat, j < 2 * qs.length + 1 → mk2 j = mk j) : zCs sp2 mk2 qs := fun i q hq => by
  have hi := (List.getElem?_eq_some_iff.mp hq).1
  have h1 := h i q hq
  have h2 := hb (i + 1) (by omega) (by omega)
  rw [show 2 * (i + 1) = 2 * i + 2 by omega] at h2
  rw [hm _ (by omega), hm _ (by omega), hm _ (by omega)]
  exact zCS_cg h1 (fun j hj => hs j (by omega))
/-- a law that was understood: what its clauses tell -/
def zLR (I : aI1) (S : aS1) (w : Nat) (qs : List zQ) : Prop := I w 2 = qs.length ∧ qs.length ≤ 12 ∧ zCs (I (w + 1)) (I (w + 2)) qs ∧ ∃ n, S[w + 1]? = some (0, n) ∧ n ≤ 400 ∧ (∀ i, i ≤ qs.length → i ≠ 0 → I (w + 2) (2 * i) ≤ n) ∧ S[w + 2]? = some (0, 2 * qs.length + 1)
/-- what a TEXT tells -/
def zTx (f : Nat → Int) (N : Nat) : Nat ⊕ List zQ := zLw (zCd f (zTk f N 0)) (zVl f (zTk f N 0)) (zTk f N 0).length 12 0 0
set_option maxHeartbeats 4000000 in
set_option maxRecDepth 20000 in
theorem c6_X7_understand (l0 : Launch) {Ia Ja : aI1} {Ra : aR1} {Sa : aS1} (hL : LY Ra Sa) (hI : XI Ia) (hR : LR Ia) {z : Nat} (hz : Sa.length = z) (hz73 : 73 ≤ z) {f : Nat → Int} {N : Nat} (hN : Ia 8 1 = N) (hf : ∀ j, j < N → f j = Ia 9 j)  : CT l0 293 3 428 mX7_understand [kR (some 10)] Ia Ja Ra Sa (dR (fun x I' J' R' S' => (∀ a, a < z → (a < 10 ∨ 15 ≤ a) → I' a = Ia a) ∧ (∀ a, a < z → (a < 10 ∨ 15 ≤ a) → J' a = Ja a) ∧ LR I' ∧ (∀ a, a < z → R' a = Ra a) ∧ ((x = none ∧ Sa = S' ∧ ∃ fp, zTx f N = .inl fp ∧ I' 10 0 = zPc N (zTk f N 0) fp) ∨ (x = some z ∧ ∃ N1 N2, N1 ≤ 400 ∧ N2 ≤ 25 ∧ S' = Sa ++ [(12, 0)] ++ [(0, N1)] ++ [(0, N2)] ∧ LawOK I' R' S' z ∧ ∃ qs, zTx f N = .inr qs ∧ I' 10 0 = -1 ∧ zLR I' S' z qs)))) := by
  refine ct_in pn_X7 (Nat.le_of_ble_eq_true rfl) (fun X hX hT hIn => ?_)
  have hX : aK l0 X cX7_understand 1 RX7 (some (.object "LitCoast$Law")) 293 3 428 := hX
  change WW X 0 [some (kR (some 10))] [] Ia Ja Ra Sa 0 0
  obtain ⟨hn1, hn2⟩ := hI.1
  obtain ⟨hk1, hk2⟩ := hI.2.1
  obtain ⟨hf1, hf2⟩ := hI.fu
  obtain ⟨hl1, hl2⟩ := hI.2.2.2.2.2.2.1
  have hq := hR.1
  unfold LRf at hq
  refine ww_aload_n hX (pc := 0) dX7_understand_0 rfl ?_
  refine vV0 hX (pc := 1) sX7_32 (xs_10 hL) (c6_X7_findTokens l0 hL hI hR hN hf) (by decide) (Nat.zero_le _) (Nat.zero_le _) (Nat.le_of_ble_eq_true rfl) dX7_understand_1 (fun I_1 J_1 h_1 => ?_)
  have kI_1 : Kp 10 15 Ia I_1 := Kp_tr (Kp_rf (a := 10) (b := 15)) (Kp_wd h_1.1 (by decide) (by decide))
  have kJ_1 : Kp 10 15 Ja J_1 := Kp_tr (Kp_rf (a := 10) (b := 15)) (Kp_wd h_1.2.1 (by decide) (by decide))
  have r1_5_I_1 : I_1 1 5 = Ia 1 5 := Kp_at kI_1 1 5 (by decide)
  have r8_1_I_1 : I_1 8 1 = Ia 8 1 := Kp_at kI_1 8 1 (by decide)
  have rf_I_1 : FU (I_1 1 5) = FU (Ia 1 5) := by rw [r1_5_I_1]
  have lI_1 : LR I_1 := h_1.2.2.1
  have qI_1 := lI_1.1
  unfold LRf at qI_1
  obtain ⟨cd, hcd⟩ : ∃ c, c = zCd f (zTk f N 0) := ⟨_, rfl⟩
  obtain ⟨vl, hvd⟩ : ∃ c, c = zVl f (zTk f N 0) := ⟨_, rfl⟩
  obtain ⟨T, hTd⟩ : ∃ c, c = (zTk f N 0).length := ⟨_, rfl⟩
  have tkI_1 : zTK I_1 cd vl T := by rw [hcd, hvd, hTd]; exact h_1.2.2.2.2.1
  have plI_1 := h_1.2.2.2.2.2
  refine ww_aload_n hX (pc := 4) dX7_understand_4 rfl ?_
  refine ww_iconst hX (pc := 5) (x := 0) dX7_understand_5 rfl ?_
  refine ww_putI hX (pc := 6) (fun h9 => absurd h9 (by decide)) gX7_35 rfl (xs_10 hL) dX7_understand_6 ?_
  refine ww_nmH (fun I_6 eI_6 => ?_)
  have kI_6 : Kp 10 15 Ia I_6 := by rw [eI_6]; exact Kp_up kI_1 _ _ (by decide)
  have r1_5_I_6 : I_6 1 5 = Ia 1 5 := Kp_at kI_6 1 5 (by decide)
  have r8_1_I_6 : I_6 8 1 = Ia 8 1 := Kp_at kI_6 8 1 (by decide)
  have rf_I_6 : FU (I_6 1 5) = FU (Ia 1 5) := by rw [r1_5_I_6]
  have lI_6 : LR I_6 := by rw [eI_6]; exact LR_7 lI_1 (by omega) (by omega)
  have wI_6 := (congrFun (congrFun eI_6 10) 7).trans (up2_s _ _ _ _)
  have wI_6_6 : I_6 10 6 = I_1 10 6 := by rw [eI_6, up2_n _ _ (Or.inr (by decide))]
  have wI_6_8 : I_6 10 8 = I_1 10 8 := by rw [eI_6, up2_n _ _ (Or.inr (by decide))]
  have wI_6_9 : I_6 10 9 = I_1 10 9 := by rw [eI_6, up2_n _ _ (Or.inr (by decide))]
  have wI_6_10 : I_6 10 10 = I_1 10 10 := by rw [eI_6, up2_n _ _ (Or.inr (by decide))]
  have wI_6_11 : I_6 10 11 = I_1 10 11 := by rw [eI_6, up2_n _ _ (Or.inr (by decide))]
  have fsI_6 : zFr I_1 I_6 := by rw [eI_6]; exact zFr_f zFr_rf (by decide)
  have y13_I_6 : I_6 13 = I_1 13 := by rw [eI_6, up2_off _ _ _ (by decide)]
  have y14_I_6 : I_6 14 = I_1 14 := by rw [eI_6, up2_off _ _ _ (by decide)]
  have z0I_6 : I_6 10 0 = I_1 10 0 := by rw [eI_6, up2_n _ _ (Or.inr (by decide))]
  have tkI_6 : zTK I_6 cd vl T := zTK_f tkI_1 fsI_6
  refine ww_aload_n hX (pc := 9) dX7_understand_9 rfl ?_
  refine ww_aload_n hX (pc := 10) dX7_understand_10 rfl ?_
  refine ww_getR hX (pc := 11) fX7_15 (by decide) (xs_10 hL) (xr_10_2 hL) dX7_understand_11 ?_
  refine ww_iconst hX (pc := 14) (x := 0) dX7_understand_14 rfl ?_
  refine ww_iald hX (pc := 15) (xs_11 hL) (by decide) (by omega) (by omega) dX7_understand_15 ?_
  have hk0 : -1000 ≤ I_6 11 (Int.toNat 0) ∧ I_6 11 (Int.toNat 0) ≤ 1400 := lI_6.2.1 0 (by decide)
  refine ww_putI hX (pc := 16) (fun h9 => absurd h9 (by decide)) gX7_38 rfl (xs_10 hL) dX7_understand_16 ?_
  refine ww_nmH (fun I_16 eI_16 => ?_)
  have kI_16 : Kp 10 15 Ia I_16 := by rw [eI_16]; exact Kp_up kI_6 _ _ (by decide)
  have r1_5_I_16 : I_16 1 5 = Ia 1 5 := Kp_at kI_16 1 5 (by decide)
  have r8_1_I_16 : I_16 8 1 = Ia 8 1 := Kp_at kI_16 8 1 (by decide)
  have rf_I_16 : FU (I_16 1 5) = FU (Ia 1 5) := by rw [r1_5_I_16]
  have lI_16 : LR I_16 := by rw [eI_16]; exact LR_8 lI_6 (by omega) (by omega)
  have wI_16 := (congrFun (congrFun eI_16 10) 8).trans (up2_s _ _ _ _)
  have wI_16_6 : I_16 10 6 = I_6 10 6 := by rw [eI_16, up2_n _ _ (Or.inr (by decide))]
  have wI_16_7 : I_16 10 7 = I_6 10 7 := by rw [eI_16, up2_n _ _ (Or.inr (by decide))]
  have wI_16_9 : I_16 10 9 = I_6 10 9 := by rw [eI_16, up2_n _ _ (Or.inr (by decide))]
  have wI_16_10 : I_16 10 10 = I_6 10 10 := by rw [eI_16, up2_n _ _ (Or.inr (by decide))]
  have wI_16_11 : I_16 10 11 = I_6 10 11 := by rw [eI_16, up2_n _ _ (Or.inr (by decide))]
  have fsI_16 : zFr I_6 I_16 := by rw [eI_16]; exact zFr_f zFr_rf (by decide)
  have y13_I_16 : I_16 13 = I_6 13 := by rw [eI_16, up2_off _ _ _ (by decide)]
  have y14_I_16 : I_16 14 = I_6 14 := by rw [eI_16, up2_off _ _ _ (by decide)]
  have z0I_16 : I_16 10 0 = I_6 10 0 := by rw [eI_16, up2_n _ _ (Or.inr (by decide))]
  have tkI_16 : zTK I_16 cd vl T := zTK_f tkI_6 fsI_16
  refine ww_aload_n hX (pc := 19) dX7_understand_19 rfl ?_
  refine ww_iconst hX (pc := 20) (x := 0) dX7_understand_20 rfl ?_
  refine ww_putI hX (pc := 21) (fun h9 => absurd h9 (by decide)) gX7_41 rfl (xs_10 hL) dX7_understand_21 ?_
  refine ww_nmH (fun I_21 eI_21 => ?_)
  have kI_21 : Kp 10 15 Ia I_21 := by rw [eI_21]; exact Kp_up kI_16 _ _ (by decide)
  have r1_5_I_21 : I_21 1 5 = Ia 1 5 := Kp_at kI_21 1 5 (by decide)
  have r8_1_I_21 : I_21 8 1 = Ia 8 1 := Kp_at kI_21 8 1 (by decide)
  have rf_I_21 : FU (I_21 1 5) = FU (Ia 1 5) := by rw [r1_5_I_21]
  have lI_21 : LR I_21 := by rw [eI_21]; exact LR_9 lI_16 (by omega) (by omega)
  have wI_21 := (congrFun (congrFun eI_21 10) 9).trans (up2_s _ _ _ _)
  have wI_21_6 : I_21 10 6 = I_16 10 6 := by rw [eI_21, up2_n _ _ (Or.inr (by decide))]
  have wI_21_7 : I_21 10 7 = I_16 10 7 := by rw [eI_21, up2_n _ _ (Or.inr (by decide))]
  have wI_21_8 : I_21 10 8 = I_16 10 8 := by rw [eI_21, up2_n _ _ (Or.inr (by decide))]
  have wI_21_10 : I_21 10 10 = I_16 10 10 := by rw [eI_21, up2_n _ _ (Or.inr (by decide))]
  have wI_21_11 : I_21 10 11 = I_16 10 11 := by rw [eI_21, up2_n _ _ (Or.inr (by decide))]
  have fsI_21 : zFr I_16 I_21 := by rw [eI_21]; exact zFr_f zFr_rf (by decide)
  have y13_I_21 : I_21 13 = I_16 13 := by rw [eI_21, up2_off _ _ _ (by decide)]
  have y14_I_21 : I_21 14 = I_16 14 := by rw [eI_21, up2_off _ _ _ (by decide)]
  have z0I_21 : I_21 10 0 = I_16 10 0 := by rw [eI_21, up2_n _ _ (Or.inr (by decide))]
  have tkI_21 : zTK I_21 cd vl T := zTK_f tkI_16 fsI_21
  refine ww_aload_n hX (pc := 24) dX7_understand_24 rfl ?_
  refine ww_iconst hX (pc := 25) (x := 0) dX7_understand_25 rfl ?_
  refine ww_putI hX (pc := 26) (fun h9 => absurd h9 (by decide)) gX7_44 rfl (xs_10 hL) dX7_understand_26 ?_
  refine ww_nmH (fun I_26 eI_26 => ?_)
  have kI_26 : Kp 10 15 Ia I_26 := by rw [eI_26]; exact Kp_up kI_21 _ _ (by decide)
  have r1_5_I_26 : I_26 1 5 = Ia 1 5 := Kp_at kI_26 1 5 (by decide)
  have r8_1_I_26 : I_26 8 1 = Ia 8 1 := Kp_at kI_26 8 1 (by decide)
  have rf_I_26 : FU (I_26 1 5) = FU (Ia 1 5) := by rw [r1_5_I_26]
  have lI_26 : LR I_26 := by rw [eI_26]; exact LR_10 lI_21 (by omega) (by omega)
  have wI_26 := (congrFun (congrFun eI_26 10) 10).trans (up2_s _ _ _ _)
  have wI_26_6 : I_26 10 6 = I_21 10 6 := by rw [eI_26, up2_n _ _ (Or.inr (by decide))]
  have wI_26_7 : I_26 10 7 = I_21 10 7 := by rw [eI_26, up2_n _ _ (Or.inr (by decide))]
  have wI_26_8 : I_26 10 8 = I_21 10 8 := by rw [eI_26, up2_n _ _ (Or.inr (by decide))]
  have wI_26_9 : I_26 10 9 = I_21 10 9 := by rw [eI_26, up2_n _ _ (Or.inr (by decide))]
  have wI_26_11 : I_26 10 11 = I_21 10 11 := by rw [eI_26, up2_n _ _ (Or.inr (by decide))]
  have fsI_26 : zFr I_21 I_26 := by rw [eI_26]; exact zFr_f zFr_rf (by decide)
  have y13_I_26 : I_26 13 = I_21 13 := by rw [eI_26, up2_off _ _ _ (by decide)]
  have y14_I_26 : I_26 14 = I_21 14 := by rw [eI_26, up2_off _ _ _ (by decide)]
  have z0I_26 : I_26 10 0 = I_21 10 0 := by rw [eI_26, up2_n _ _ (Or.inr (by decide))]
  have tkI_26 : zTK I_26 cd vl T := zTK_f tkI_21 fsI_26
  refine ww_aload_n hX (pc := 29) dX7_understand_29 rfl ?_
  refine ww_iconst hX (pc := 30) (x := 0) dX7_understand_30 rfl ?_
  refine ww_putI hX (pc := 31) (fun h9 => absurd h9 (by decide)) gX7_47 rfl (xs_10 hL) dX7_understand_31 ?_
  refine ww_nmH (fun I_31 eI_31 => ?_)
  have kI_31 : Kp 10 15 Ia I_31 := by rw [eI_31]; exact Kp_up kI_26 _ _ (by decide)
  have r1_5_I_31 : I_31 1 5 = Ia 1 5 := Kp_at kI_31 1 5 (by decide)
  have r8_1_I_31 : I_31 8 1 = Ia 8 1 := Kp_at kI_31 8 1 (by decide)
  have rf_I_31 : FU (I_31 1 5) = FU (Ia 1 5) := by rw [r1_5_I_31]
  have lI_31 : LR I_31 := by rw [eI_31]; exact LR_11 lI_26 (by omega) (by omega)
  have wI_31 := (congrFun (congrFun eI_31 10) 11).trans (up2_s _ _ _ _)
  have wI_31_6 : I_31 10 6 = I_26 10 6 := by rw [eI_31, up2_n _ _ (Or.inr (by decide))]
  have wI_31_7 : I_31 10 7 = I_26 10 7 := by rw [eI_31, up2_n _ _ (Or.inr (by decide))]
  have wI_31_8 : I_31 10 8 = I_26 10 8 := by rw [eI_31, up2_n _ _ (Or.inr (by decide))]
  have wI_31_9 : I_31 10 9 = I_26 10 9 := by rw [eI_31, up2_n _ _ (Or.inr (by decide))]
  have wI_31_10 : I_31 10 10 = I_26 10 10 := by rw [eI_31, up2_n _ _ (Or.inr (by decide))]
  have fsI_31 : zFr I_26 I_31 := by rw [eI_31]; exact zFr_f zFr_rf (by decide)
  have y13_I_31 : I_31 13 = I_26 13 := by rw [eI_31, up2_off _ _ _ (by decide)]
  have y14_I_31 : I_31 14 = I_26 14 := by rw [eI_31, up2_off _ _ _ (by decide)]
  have z0I_31 : I_31 10 0 = I_26 10 0 := by rw [eI_31, up2_n _ _ (Or.inr (by decide))]
  have tkI_31 : zTK I_31 cd vl T := zTK_f tkI_26 fsI_31
  refine ww_aload_n hX (pc := 34) dX7_understand_34 rfl ?_
  refine ww_iconst hX (pc := 35) (x := (-1)) dX7_understand_35 rfl ?_
  refine ww_putI hX (pc := 36) (fun h9 => absurd h9 (by decide)) gX7_9 rfl (xs_10 hL) dX7_understand_36 ?_
  refine ww_nmH (fun I_36 eI_36 => ?_)
  have kI_36 : Kp 10 15 Ia I_36 := by rw [eI_36]; exact Kp_up kI_31 _ _ (by decide)
  have r1_5_I_36 : I_36 1 5 = Ia 1 5 := Kp_at kI_36 1 5 (by decide)
  have r8_1_I_36 : I_36 8 1 = Ia 8 1 := Kp_at kI_36 8 1 (by decide)
  have rf_I_36 : FU (I_36 1 5) = FU (Ia 1 5) := by rw [r1_5_I_36]
  have lI_36 : LR I_36 := by rw [eI_36]; exact LR_0 lI_31
  have wI_36 := (congrFun (congrFun eI_36 10) 0).trans (up2_s _ _ _ _)
  have wI_36_6 : I_36 10 6 = I_31 10 6 := by rw [eI_36, up2_n _ _ (Or.inr (by decide))]
  have wI_36_7 : I_36 10 7 = I_31 10 7 := by rw [eI_36, up2_n _ _ (Or.inr (by decide))]
  have wI_36_8 : I_36 10 8 = I_31 10 8 := by rw [eI_36, up2_n _ _ (Or.inr (by decide))]
  have wI_36_9 : I_36 10 9 = I_31 10 9 := by rw [eI_36, up2_n _ _ (Or.inr (by decide))]
  have wI_36_10 : I_36 10 10 = I_31 10 10 := by rw [eI_36, up2_n _ _ (Or.inr (by decide))]
  have wI_36_11 : I_36 10 11 = I_31 10 11 := by rw [eI_36, up2_n _ _ (Or.inr (by decide))]
  have fsI_36 : zFr I_31 I_36 := by rw [eI_36]; exact zFr_f zFr_rf (by decide)
  have y13_I_36 : I_36 13 = I_31 13 := by rw [eI_36, up2_off _ _ _ (by decide)]
  have y14_I_36 : I_36 14 = I_31 14 := by rw [eI_36, up2_off _ _ _ (by decide)]
  have tkI_36 : zTK I_36 cd vl T := zTK_f tkI_31 fsI_36
  have y12_36 : I_36 12 = I_1 12 := fsI_36.2.1.trans (fsI_31.2.1.trans (fsI_26.2.1.trans (fsI_21.2.1.trans (fsI_16.2.1.trans fsI_6.2.1))))
  have y11_36 : I_36 11 = I_1 11 := fsI_36.1.trans (fsI_31.1.trans (fsI_26.1.trans (fsI_21.1.trans (fsI_16.1.trans fsI_6.1))))
  have hk36 : I_36 10 8 = I_36 11 0 := by
    have h9 : I_16 10 8 = I_6 11 0 := wI_16
    rw [y11_36, ← fsI_6.1]; omega
  have z36 : I_36 10 0 = -1 := by rw [eI_36, up2_s]
  refine ww_aload_n hX (pc := 39) dX7_understand_39 rfl ?_
  refine vI0 hX (pc := 40) sX7_50 (xs_10 hL) (c6_X7_takeClauses l0 hL (XI_kp hI kI_36 (by decide)) lI_36 tkI_36 (show zAt I_36 T 0 0 from ⟨by omega, Nat.zero_le _, hk36, by omega, by omega, by have h9 := tkI_36.2.2.2.2.2 0 (Nat.zero_le _); omega⟩) (by omega)) (by decide) (Nat.zero_le _) (Nat.zero_le _) (Nat.le_of_ble_eq_true rfl) dX7_understand_40 (fun x_40 I_40 J_40 h_40 => ?_)
  have kI_40 : Kp 10 15 Ia I_40 := Kp_tr kI_36 (Kp_wd h_40.1 (by decide) (by decide))
  have kJ_40 : Kp 10 15 Ja J_40 := Kp_tr kJ_1 (Kp_wd h_40.2.1 (by decide) (by decide))
  have r1_5_I_40 : I_40 1 5 = Ia 1 5 := Kp_at kI_40 1 5 (by decide)
  have r8_1_I_40 : I_40 8 1 = Ia 8 1 := Kp_at kI_40 8 1 (by decide)
  have rf_I_40 : FU (I_40 1 5) = FU (Ia 1 5) := by rw [r1_5_I_40]
  have lI_40 : LR I_40 := h_40.2.2.1
  have qI_40 := lI_40.1
  unfold LRf at qI_40
  have f3I_40 := h_40.2.2.2.1
  have xrI_40 := h_40.2.2.2.2.1
  have yI_40 : zLO I_36 I_40 (zTk f N 0).length x_40 (zTx f N) := by
    have h9 := h_40.2.2.2.2.2
    rw [hcd, hvd, hTd] at h9
    exact h9
  refine ww_if_ne hX (pc := 43) (tgt := 48) dX7_understand_43 (by decide) (fun h_43 => ?_) (fun h_43 => ?_)
  · simp only [w32_mod] at h_43
    obtain ⟨qs, hqs1, hqs2, hqs3, hqs4, hqs5⟩ := zLO_1 yI_40 (by omega)
    refine ww_newz hX (pc := 48) 3 (z := z) hz cl_6 tb_648 tb_649 tb_18 rfl (by omega) (by omega) dX7_understand_48 ?_
    refine ww_nmH (fun I_48 eI_48 => ?_)
    refine ww_nmK (fun J_48 eJ_48 => ?_)
    have e9 : ∀ a, a < z → I_48 a = I_40 a := fun a ha => by rw [eI_48, upR_n _ _ (by omega)]
    have e10 : I_48 10 = I_40 10 := e9 10 (by omega)
    refine ww_dupR hX (pc := 51) dX7_understand_51 ?_
    refine ww_aload_n hX (pc := 52) dX7_understand_52 rfl ?_
    refine ww_getR hX (pc := 53) fX7_22 (by decide) (sz_l (xs_10 hL)) (by rw [upR_n _ _ (by omega)]; exact xr_10_4 hL) dX7_understand_53 ?_
    refine ww_aload_n hX (pc := 56) dX7_understand_56 rfl ?_
    refine ww_getI hX (pc := 57) fX7_41 (by decide) (sz_l (xs_10 hL)) dX7_understand_57 ?_
    obtain ⟨N1, hN1⟩ : ∃ N : Nat, I_48 10 9 = (N : Int) := ⟨(I_48 10 9).toNat, by rw [e10]; omega⟩
    have hN1' : N1 ≤ 400 := by rw [e10] at hN1; omega
    refine ww_callS hX (pc := 60) (av := [kR (some 13), kI (I_48 10 9)]) sX7_56 (c_J7_copyOf_59c91 l0 (N := N1) (sz_l (xs_13 hL)) (lz hz) hN1 hN1' (by decide)) rfl (by decide) (by omega) (by omega) (Nat.le_of_ble_eq_true rfl) dX7_understand_60 (fun r_60 I_60 J_60 R_60 S_60 h_60 => ?_)
    obtain ⟨_, rfl, rfl, rfl, rfl, rfl, hI_60, hj_60⟩ := h_60
    change WW X 63 [some (kR (some 10))] [kR (some (z + 1)), kR (some z), kR (some z)] I_60 J_48 _ _ _ _
    refine ww_aload_n hX (pc := 63) dX7_understand_63 rfl ?_
    refine ww_getR hX (pc := 64) fX7_25 (by decide) (sz_l (sz_l (xs_10 hL))) (by rw [upR_n _ _ (by omega)]; exact xr_10_5 hL) dX7_understand_64 ?_
    refine ww_iconst hX (pc := 67) (x := 2) dX7_understand_67 rfl ?_
    refine ww_aload_n hX (pc := 68) dX7_understand_68 rfl ?_
    refine ww_getI hX (pc := 69) fX7_47 (by decide) (sz_l (sz_l (xs_10 hL))) dX7_understand_69 ?_
    refine ww_imul hX (pc := 72) dX7_understand_72 ?_
    refine ww_iconst hX (pc := 73) (x := 1) dX7_understand_73 rfl ?_
    refine ww_iadd hX (pc := 74) dX7_understand_74 ?_
    refine ww_nmI (fun v_74 hv_74 => ?_)
    have e11 : I_60 10 = I_40 10 := (hI_60 10 (by omega)).trans e10
    rw [e11] at hv_74
    obtain ⟨N2, hN2⟩ : ∃ N : Nat, v_74 = (N : Int) := ⟨v_74.toNat, by omega⟩
    have hN2' : N2 ≤ 25 := by omega
    refine ww_callS hX (pc := 75) (av := [kR (some 14), kI v_74]) sX7_56 (c_J7_copyOf_59c91 l0 (N := N2) (sz_l (sz_l (xs_14 hL))) (lz (lz hz)) hN2 hN2' (by decide)) rfl (by decide) (by omega) (by omega) (Nat.le_of_ble_eq_true rfl) dX7_understand_75 (fun r_75 I_75 J_75 R_75 S_75 h_75 => ?_)
    obtain ⟨_, rfl, rfl, rfl, rfl, rfl, hI_75, hj_75⟩ := h_75
    change WW X 78 [some (kR (some 10))] [kR (some (z + 2)), kR (some (z + 1)), kR (some z), kR (some z)] I_75 J_48 _ _ _ _
    refine ww_aload_n hX (pc := 78) dX7_understand_78 rfl ?_
    refine ww_getI hX (pc := 79) fX7_47 (by decide) (sz_l (sz_l (sz_l (xs_10 hL)))) dX7_understand_79 ?_
    refine ww_callI hX (pc := 82) (av := [kR (some (z + 1)), kR (some (z + 2)), kI (I_75 10 11)]) sX7_62 (c_X6_init l0 (sz_l (sz_l (sz_n hz)))) rfl (by decide) (by omega) (by omega) (Nat.le_of_ble_eq_true rfl) dX7_understand_82 (fun r_82 I_82 J_82 R_82 S_82 h_82 => ?_)
    obtain ⟨rfl, rfl, rfl, rfl, rfl⟩ := h_82
    change WW X 85 [some (kR (some 10))] [kR (some z)] _ J_48 _ _ _ _
    have e12 : I_75 10 = I_40 10 := (hI_75 10 (by omega)).trans e11
    have e13 : ∀ a, a < z → up2 I_75 z 2 (I_75 10 11) a = I_40 a := fun a ha => by
      rw [up2_off _ _ _ (by omega), hI_75 a (by omega), hI_60 a (by omega), e9 a ha]
    have hzl : zLR (up2 I_75 z 2 (I_75 10 11)) (Sa ++ [(12, 0)] ++ [(0, N1)] ++ [(0, N2)]) z qs := by
      have hc11 : I_75 10 11 = qs.length := by rw [e12]; exact hqs2
      refine ⟨by rw [up2_s]; exact hc11, by omega, ?_, N1, sz_l (sz_n (lz hz)), hN1', fun i hi h0 => ?_, ?_⟩
      · refine zCs_cp hqs3 hqs4 (fun j hj => ?_) (fun j hj => ?_)
        · rw [up2_off _ _ _ (by omega), hI_75 _ (by omega), hj_60 j (by rw [e10] at hN1; omega), e9 13 (by omega)]
        · rw [up2_off _ _ _ (by omega), hj_75 j (by omega), hI_60 14 (by omega), e9 14 (by omega)]
      · rw [up2_off _ _ _ (by omega), hj_75 _ (by omega), hI_60 14 (by omega), e9 14 (by omega)]
        have h9 := hqs4 i hi h0
        rw [e10] at hN1
        omega
      · rw [show 2 * qs.length + 1 = N2 by omega]
        exact sz_n (lz (lz hz))
    refine ww_aret hX (pc := 85) hT (Or.inl ⟨_, rfl⟩) (by omega) (by omega) dX7_understand_85 ⟨_, rfl, fun a ha h => (e13 a ha).trans (kI_40 a (by omega)), fun a ha h => by rw [eJ_48, upR_n _ _ (by omega)]; exact kJ_40 a (by omega), ?_, fun a ha => by rw [up2_off _ _ _ (by omega), up2_off _ _ _ (by omega), upR_n _ _ (by omega)], Or.inr ⟨rfl, N1, N2, hN1', hN2', rfl, ⟨hz73, sz_l (sz_l (sz_n hz)), by rw [up2_n _ _ (Or.inr (by decide)), up2_s], by rw [up2_s], ?_, ⟨N1, hN1', sz_l (sz_n (lz hz)), fun j hj => ?_⟩, ⟨N2, hN2', sz_n (lz (lz hz)), fun j hj => ?_⟩⟩, qs, hqs1, by rw [e13 10 (by omega)]; omega, hzl⟩⟩
    · unfold LR
      rw [e13 10 (by omega), e13 11 (by omega), e13 13 (by omega), e13 14 (by omega)]
      exact lI_40
    · rw [up2_s, e12]; omega
    · rw [up2_off _ _ _ (by omega), hI_75 _ (by omega), hj_60 j hj, e9 13 (by omega)]
      exact lI_40.2.2.1 j (by omega)
    · rw [up2_off _ _ _ (by omega), hj_75 j hj, hI_60 14 (by omega), e9 14 (by omega)]
      exact lI_40.2.2.2 j (by omega)
  · simp only [w32_mod] at h_43
    obtain ⟨fp, hfp1, hfp2, hfp3⟩ := zLO_0 yI_40 (by omega)
    refine ww_null hX (pc := 46) dX7_understand_46 ?_
    exact ww_aret hX (pc := 47) hT (Or.inl ⟨_, rfl⟩) (by omega) (by omega) dX7_understand_47 ⟨_, rfl, fun a _ h => kI_40 a (by omega), fun a _ h => kJ_40 a (by omega), lI_40, fun a _ => rfl, Or.inl ⟨rfl, rfl, fp, hfp1, by rw [hfp3, y12_36, plI_1 fp hfp2]⟩⟩
