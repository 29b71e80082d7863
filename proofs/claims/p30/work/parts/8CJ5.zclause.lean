/-- what reading a clause keeps -/
def zF3 (I I' : aI1) : Prop := I' 11 = I 11 ∧ I' 12 = I 12 ∧ I' 10 6 = I 10 6
theorem zF3_tr {I I1 I2 : aI1} (h : zF3 I I1) (g : zF3 I1 I2) : zF3 I I2 := ⟨g.1.trans h.1, g.2.1.trans h.2.1, g.2.2.trans h.2.2⟩
theorem zF3_f {I I1 : aI1} (h : zFr I I1) : zF3 I I1 := ⟨h.1, h.2.1, h.2.2.2⟩
theorem zTK_3 {I I' : aI1} {cd vl : Nat → Int} {T : Nat} (h : zTK I cd vl T) (f : zF3 I I') : zTK I' cd vl T := zTK_fr h f.1 f.2.1 f.2.2
theorem zAt_fr {I I' : aI1} {T t l : Nat} (h : zAt I T t l) (e10 : I' 10 = I 10) (e11 : I' 11 = I 11) (e12 : I' 12 = I 12) : zAt I' T t l := by
  unfold zAt at h ⊢
  rw [e10, e11, e12]
  exact h
theorem zM3_mk {F F' : Nat → Int} {cc a b c v1 v2 v3 : Int} {j1 j2 j3 : Nat} (h : F' = up1 (up1 (up1 F j1 v1) j2 v2) j3 v3) (h1 : j1 = (2 * cc).toNat) (g1 : v1 = a) (h2 : j2 = (2 * cc + 1).toNat) (g2 : v2 = b) (h3 : j3 = (2 * cc + 2).toNat) (g3 : v3 = c) : F' = zM3 F cc a b c := by
  subst h1 h2 h3 g1 g2 g3
  exact h
theorem zLO_c0 {I I2 I3 : aI1} {cd vl : Nat → Int} {T n t l : Nat} {ac : List zQ} {x y : Int} {R : Nat ⊕ List zQ} (e12 : I2 12 = I 12) (hr : zLa ac (zLw cd vl T (n + 1) t l) = R) (h : zCO I2 I3 T x (zCl cd vl t l)) (hx : x = 0) (hy : y = 0) : zLO I I3 T y R := by
  obtain ⟨f, h1, h2, h3⟩ := zCO_0 h hx
  exact zLO_l e12 (by rw [← hr, zLw_f h1]; rfl) hy h2 h3
theorem zLO_ce {I I2 I3 : aI1} {cd vl : Nat → Int} {T n t l : Nat} {ac : List zQ} {x y : Int} {q : Nat × Nat × zQ} {R : Nat ⊕ List zQ} (hr : zLa ac (zLw cd vl T (n + 1) t l) = R) (h1 : I2 10 11 = ac.length) (h2 : zCs (I2 13) (I2 14) ac) (h3 : ac = [] ∨ I2 14 (2 * ac.length) = I2 10 9) (h4 : ∀ i, i ≤ ac.length → i ≠ 0 → I2 14 (2 * i) ≤ I2 10 9) (hq : zCl cd vl t l = .inr q) (h : zCO I2 I3 T x (.inr q)) (hT : q.1 = T) (e0 : I2 10 0 = I 10 0) (hy : y = 1) : zLO I I3 T y R := by
  obtain ⟨c1, c2, c3, c4⟩ := zLI2_c (cd := cd) (vl := vl) (t := t) (l := l) h1 h2 h3 h4 h
  have h0 := h.2.2.2.2.2.2.2.2.2
  rw [← hr, zLw_e hq hT]
  exact ⟨hy, c1, c2, c4, h0.trans e0⟩
theorem zLO_cn {I I3 I4 : aI1} {cd vl : Nat → Int} {T n t l : Nat} {ac : List zQ} {x : Int} {q : Nat × Nat × zQ} {R : Nat ⊕ List zQ} (e12 : I3 12 = I 12) (hr : zLa ac (zLw cd vl T (n + 1) t l) = R) (hq : zCl cd vl t l = .inr q) (hat : zAt I3 T q.1 q.2.1) (hT : ¬ q.1 = T) (hc : ¬ cd q.1 = 159) (hf : zFa I3 I4 x) : zLO I I4 T x R := by
  have h2 := hf.2
  rw [hat.1] at h2
  exact zLO_l e12 (by rw [← hr, zLw_n hq hT hc]; rfl) hf.1 hat.2.1 h2
theorem zLO_c9 {I I2 I4 : aI1} {cd vl : Nat → Int} {T n t l : Nat} {ac : List zQ} {x : Int} {R : Nat ⊕ List zQ} (e12 : I2 12 = I 12) (hr : zLa ac (zLw cd vl T n t l) = R) (hn : n = 0) (hat : zAt I2 T t l) (hf : zFa I2 I4 x) : zLO I I4 T x R := by
  have h2 := hf.2
  rw [hat.1] at h2
  subst hn
  exact zLO_l e12 hr.symm hf.1 hat.2.1 h2
theorem zLI2_s {I2 I3 I4 : aI1} {cd vl : Nat → Int} {T n t l : Nat} {ac : List zQ} {x : Int} {q : Nat × Nat × zQ} {R : Nat ⊕ List zQ} (hr : zLa ac (zLw cd vl T (n + 1) t l) = R) (h1 : I2 10 11 = ac.length) (h2 : zCs (I2 13) (I2 14) ac) (h3 : ac = [] ∨ I2 14 (2 * ac.length) = I2 10 9) (h4 : ∀ i, i ≤ ac.length → i ≠ 0 → I2 14 (2 * i) ≤ I2 10 9) (hq : zCl cd vl t l = .inr q) (h : zCO I2 I3 T x (.inr q)) (hT : ¬ q.1 = T) (hc : cd q.1 = 159) (hat : zAt I4 T (q.1 + 1) q.2.1) (e13 : I4 13 = I3 13) (e14 : I4 14 = I3 14) (e9 : I4 10 9 = I3 10 9) (e11 : I4 10 11 = I3 10 11) : zLI2 cd vl n I4 T R := by
  obtain ⟨c1, c2, c3, c4⟩ := zLI2_c (cd := cd) (vl := vl) (t := t) (l := l) h1 h2 h3 h4 h
  refine ⟨ac ++ [q.2.2], q.1 + 1, q.2.1, hat, by rw [e11]; exact c1, by rw [e13, e14]; exact c2, Or.inr (by rw [e14, e9]; exact c3), by rw [e14, e9]; exact c4, ?_⟩
  rw [← hr, zLw_s hq hT hc, zLa_la]
set_option maxHeartbeats 4000000 in
set_option maxRecDepth 20000 in
theorem c6_X7_takeClause (l0 : Launch) {Ia Ja : aI1} {Ra : aR1} {Sa : aS1} (hL : LY Ra Sa) (hI : XI Ia) (hR : LR Ia) {cd vl : Nat → Int} {T t l : Nat} (hk : zTK Ia cd vl T) (ha : zAt Ia T t l) (hcc : Ia 10 11 ≤ 11)  : CT l0 291 0 0 mX7_takeClause [kR (some 10)] Ia Ja Ra Sa (cI (fun x I' J' => Kp 10 15 Ia I' ∧ Kp 10 15 Ja J' ∧ LR I' ∧ zF3 Ia I' ∧ (x = 0 ∨ x = 1) ∧ zCO Ia I' T x (zCl cd vl t l)) Ra Sa) := by
  refine ct_in pn_X7 (Nat.le_of_ble_eq_true rfl) (fun X hX hT hIn => ?_)
  have hX : aK l0 X cX7_takeClause 1 RX7 (some .boolean) 291 0 0 := hX
  change WW X 0 [some (kR (some 10))] [] Ia Ja Ra Sa 0 0
  obtain ⟨hn1, hn2⟩ := hI.1
  obtain ⟨hk1, hk2⟩ := hI.2.1
  obtain ⟨hf1, hf2⟩ := hI.fu
  obtain ⟨hl1, hl2⟩ := hI.2.2.2.2.2.2.1
  have hq := hR.1
  unfold LRf at hq
  refine ww_aload_n hX (pc := 0) dX7_takeClause_0 rfl ?_
  refine ww_getI hX (pc := 1) fX7_38 (by decide) (xs_10 hL) dX7_takeClause_1 ?_
  refine ww_sipush hX (pc := 4) (x := 258) dX7_takeClause_4 (by decide) ?_
  refine ww_icmp_ne hX (pc := 7) (tgt := 26) dX7_takeClause_7 (by decide) (fun h_7 => ?_) (fun h_7 => ?_)
  · simp only [w32_mod] at h_7
    refine ww_aload_n hX (pc := 26) dX7_takeClause_26 rfl ?_
    refine vI0 hX (pc := 27) sX7_68 (xs_10 hL) (c6_X7_fail l0 hL hI hR) (by decide) (Nat.le_refl 0) (Nat.le_refl 0) (Nat.le_of_ble_eq_true rfl) dX7_takeClause_27 (fun x_27 I_27 J_27 h_27 => ?_)
    have kI_27 : Kp 10 15 Ia I_27 := Kp_tr (Kp_rf (a := 10) (b := 15)) (Kp_wd h_27.1 (by decide) (by decide))
    have kJ_27 : Kp 10 15 Ja J_27 := Kp_tr (Kp_rf (a := 10) (b := 15)) (Kp_wd h_27.2.1 (by decide) (by decide))
    have r1_5_I_27 : I_27 1 5 = Ia 1 5 := Kp_at kI_27 1 5 (by decide)
    have r8_1_I_27 : I_27 8 1 = Ia 8 1 := Kp_at kI_27 8 1 (by decide)
    have rf_I_27 : FU (I_27 1 5) = FU (Ia 1 5) := by rw [r1_5_I_27]
    have lI_27 : LR I_27 := h_27.2.2.1
    have qI_27 := lI_27.1
    unfold LRf at qI_27
    have cI_27 := h_27.2.2.2.1
    have fsI_27 : zFr Ia I_27 := h_27.2.2.2.2.1
    have xrI_27 := h_27.2.2.2.2.2.1
    have yI_27 := h_27.2.2.2.2.2.2
    have tkI_27 : zTK I_27 cd vl T := zTK_f hk fsI_27
    refine rZ hX (pc := 30) hT (Nat.le_refl 0) (Nat.le_refl 0) dX7_takeClause_30 (by omega) ?_
    exact ⟨kI_27, kJ_27, lI_27, zF3_f fsI_27, by omega, zCO_fa ha (fun h9 => by have := (zK_w hk ha 258 (by decide) (by decide)).mpr h9; omega) yI_27⟩
  · simp only [w32_mod] at h_7
    have hc1 : cd t = 1 := (zK_w hk ha 258 (by decide) (by decide)).mp (by omega)
    refine ww_iconst hX (pc := 10) (x := 2) dX7_takeClause_10 rfl ?_
    refine ww_aload_n hX (pc := 11) dX7_takeClause_11 rfl ?_
    refine ww_getI hX (pc := 12) fX7_47 (by decide) (xs_10 hL) dX7_takeClause_12 ?_
    refine ww_imul hX (pc := 15) dX7_takeClause_15 ?_
    refine ww_iconst hX (pc := 16) (x := 2) dX7_takeClause_16 rfl ?_
    refine ww_iadd hX (pc := 17) dX7_takeClause_17 ?_
    refine ww_aload_n hX (pc := 18) dX7_takeClause_18 rfl ?_
    refine ww_getR hX (pc := 19) fX7_25 (by decide) (xs_10 hL) (xr_10_5 hL) dX7_takeClause_19 ?_
    refine ww_alen hX (pc := 22) (by decide) (xs_14 hL) dX7_takeClause_22 ?_
    refine ww_icmp_lt hX (pc := 23) (tgt := 31) dX7_takeClause_23 (by decide) (fun h_23 => ?_) (fun h_23 => ?_)
    · simp only [w32_mod] at h_23
      refine ww_aload_n hX (pc := 31) dX7_takeClause_31 rfl ?_
      refine vV0 hX (pc := 32) sX7_71 (xs_10 hL) (c6_X7_advance l0 hL hI hR) (by decide) (Nat.le_refl 0) (Nat.le_refl 0) (Nat.le_of_ble_eq_true rfl) dX7_takeClause_32 (fun I_32 J_32 h_32 => ?_)
      have kI_32 : Kp 10 15 Ia I_32 := Kp_tr (Kp_rf (a := 10) (b := 15)) (Kp_wd h_32.1 (by decide) (by decide))
      have kJ_32 : Kp 10 15 Ja J_32 := Kp_tr (Kp_rf (a := 10) (b := 15)) (Kp_wd h_32.2.1 (by decide) (by decide))
      have r1_5_I_32 : I_32 1 5 = Ia 1 5 := Kp_at kI_32 1 5 (by decide)
      have r8_1_I_32 : I_32 8 1 = Ia 8 1 := Kp_at kI_32 8 1 (by decide)
      have rf_I_32 : FU (I_32 1 5) = FU (Ia 1 5) := by rw [r1_5_I_32]
      have lI_32 : LR I_32 := h_32.2.2.1
      have qI_32 := lI_32.1
      unfold LRf at qI_32
      have cI_32 := h_32.2.2.2.1
      have fsI_32 : zFr Ia I_32 := h_32.2.2.2.2.1
      have xrI_32 := h_32.2.2.2.2.2.1
      have yI_32 := h_32.2.2.2.2.2.2
      have tkI_32 : zTK I_32 cd vl T := zTK_f hk fsI_32
      have av32 := zAt_av hk ha (by omega) fsI_32 yI_32
      have at32 := av32.1
      refine ww_aload_n hX (pc := 35) dX7_takeClause_35 rfl ?_
      refine ww_getR hX (pc := 36) fX7_25 (by decide) (xs_10 hL) (xr_10_5 hL) dX7_takeClause_36 ?_
      refine ww_iconst hX (pc := 39) (x := 2) dX7_takeClause_39 rfl ?_
      refine ww_aload_n hX (pc := 40) dX7_takeClause_40 rfl ?_
      refine ww_getI hX (pc := 41) fX7_47 (by decide) (xs_10 hL) dX7_takeClause_41 ?_
      refine ww_imul hX (pc := 44) dX7_takeClause_44 ?_
      refine ww_aload_n hX (pc := 45) dX7_takeClause_45 rfl ?_
      refine ww_getI hX (pc := 46) fX7_41 (by decide) (xs_10 hL) dX7_takeClause_46 ?_
      refine ww_iast hX (pc := 49) (xs_14 hL) (by decide) (by omega) (by omega) dX7_takeClause_49 ?_
      refine ww_nmH (fun I_49 eI_49 => ?_)
      have kI_49 : Kp 10 15 Ia I_49 := by rw [eI_49]; exact Kp_up kI_32 _ _ (by decide)
      have r1_5_I_49 : I_49 1 5 = Ia 1 5 := Kp_at kI_49 1 5 (by decide)
      have r8_1_I_49 : I_49 8 1 = Ia 8 1 := Kp_at kI_49 8 1 (by decide)
      have rf_I_49 : FU (I_49 1 5) = FU (Ia 1 5) := by rw [r1_5_I_49]
      have lI_49 : LR I_49 := by rw [eI_49]; exact LR_c14 lI_32 _ (by omega) (by omega)
      have wI_49 : I_49 10 = I_32 10 := by rw [eI_49, up2_off _ _ _ (by decide)]
      have wI_49_6 : I_49 10 6 = I_32 10 6 := by rw [wI_49]
      have wI_49_7 : I_49 10 7 = I_32 10 7 := by rw [wI_49]
      have wI_49_8 : I_49 10 8 = I_32 10 8 := by rw [wI_49]
      have wI_49_9 : I_49 10 9 = I_32 10 9 := by rw [wI_49]
      have wI_49_10 : I_49 10 10 = I_32 10 10 := by rw [wI_49]
      have wI_49_11 : I_49 10 11 = I_32 10 11 := by rw [wI_49]
      have y13_I_49 : I_49 13 = I_32 13 := by rw [eI_49, up2_off _ _ _ (by decide)]
      have y14_I_49 := (congrFun eI_49 14).trans (up2_row _ _ _ _)
      have y12_I_49 : I_49 12 = I_32 12 := by rw [eI_49, up2_off _ _ _ (by decide)]
      have y11_I_49 : I_49 11 = I_32 11 := by rw [eI_49, up2_off _ _ _ (by decide)]
      have z0I_49 : I_49 10 0 = I_32 10 0 := by rw [wI_49]
      have tkI_49 : zTK I_49 cd vl T := zTK_fr tkI_32 y11_I_49 y12_I_49 (by rw [wI_49])
      have at49 : zAt I_49 T (t + 1) l := zAt_fr at32 wI_49 y11_I_49 y12_I_49
      refine ww_aload_n hX (pc := 50) dX7_takeClause_50 rfl ?_
      refine ww_iconst hX (pc := 51) (x := 0) dX7_takeClause_51 rfl ?_
      refine vI1 hX (pc := 52) sX7_74 (xs_10 hL) (c_QSum l0 8 (by decide) hL (XI_kp hI kI_49 (by decide)) lI_49 tkI_49 at49) (by decide) (Nat.le_refl 0) (Nat.le_refl 0) (Nat.le_of_ble_eq_true rfl) dX7_takeClause_52 (fun x_52 I_52 J_52 h_52 => ?_)
      have kI_52 : Kp 10 15 Ia I_52 := Kp_tr kI_49 (Kp_wd h_52.1 (by decide) (by decide))
      have kJ_52 : Kp 10 15 Ja J_52 := Kp_tr kJ_32 (Kp_wd h_52.2.1 (by decide) (by decide))
      have r1_5_I_52 : I_52 1 5 = Ia 1 5 := Kp_at kI_52 1 5 (by decide)
      have r8_1_I_52 : I_52 8 1 = Ia 8 1 := Kp_at kI_52 8 1 (by decide)
      have rf_I_52 : FU (I_52 1 5) = FU (Ia 1 5) := by rw [r1_5_I_52]
      have lI_52 : LR I_52 := h_52.2.2.1
      have qI_52 := lI_52.1
      unfold LRf at qI_52
      have cI_52 := h_52.2.2.2.1
      have fsI_52 : zFr I_49 I_52 := h_52.2.2.2.2.1
      have xrI_52 := h_52.2.2.2.2.2.1
      have yI_52 := h_52.2.2.2.2.2.2
      have tkI_52 : zTK I_52 cd vl T := zTK_f tkI_49 fsI_52
      refine ww_if_ne hX (pc := 55) (tgt := 60) dX7_takeClause_55 (by decide) (fun h_55 => ?_) (fun h_55 => ?_)
      · simp only [w32_mod] at h_55
        obtain ⟨q9, hq1, hq2⟩ := zPO_1 yI_52 (by omega)
        refine ww_aload_n hX (pc := 60) dX7_takeClause_60 rfl ?_
        refine ww_getR hX (pc := 61) fX7_25 (by decide) (xs_10 hL) (xr_10_5 hL) dX7_takeClause_61 ?_
        refine ww_iconst hX (pc := 64) (x := 2) dX7_takeClause_64 rfl ?_
        refine ww_aload_n hX (pc := 65) dX7_takeClause_65 rfl ?_
        refine ww_getI hX (pc := 66) fX7_47 (by decide) (xs_10 hL) dX7_takeClause_66 ?_
        refine ww_imul hX (pc := 69) dX7_takeClause_69 ?_
        refine ww_iconst hX (pc := 70) (x := 1) dX7_takeClause_70 rfl ?_
        refine ww_iadd hX (pc := 71) dX7_takeClause_71 ?_
        refine ww_aload_n hX (pc := 72) dX7_takeClause_72 rfl ?_
        refine ww_getI hX (pc := 73) fX7_41 (by decide) (xs_10 hL) dX7_takeClause_73 ?_
        refine ww_iast hX (pc := 76) (xs_14 hL) (by decide) (by omega) (by omega) dX7_takeClause_76 ?_
        refine ww_nmH (fun I_76 eI_76 => ?_)
        have kI_76 : Kp 10 15 Ia I_76 := by rw [eI_76]; exact Kp_up kI_52 _ _ (by decide)
        have r1_5_I_76 : I_76 1 5 = Ia 1 5 := Kp_at kI_76 1 5 (by decide)
        have r8_1_I_76 : I_76 8 1 = Ia 8 1 := Kp_at kI_76 8 1 (by decide)
        have rf_I_76 : FU (I_76 1 5) = FU (Ia 1 5) := by rw [r1_5_I_76]
        have lI_76 : LR I_76 := by rw [eI_76]; exact LR_c14 lI_52 _ (by omega) (by omega)
        have wI_76 : I_76 10 = I_52 10 := by rw [eI_76, up2_off _ _ _ (by decide)]
        have wI_76_6 : I_76 10 6 = I_52 10 6 := by rw [wI_76]
        have wI_76_7 : I_76 10 7 = I_52 10 7 := by rw [wI_76]
        have wI_76_8 : I_76 10 8 = I_52 10 8 := by rw [wI_76]
        have wI_76_9 : I_76 10 9 = I_52 10 9 := by rw [wI_76]
        have wI_76_10 : I_76 10 10 = I_52 10 10 := by rw [wI_76]
        have wI_76_11 : I_76 10 11 = I_52 10 11 := by rw [wI_76]
        have y13_I_76 : I_76 13 = I_52 13 := by rw [eI_76, up2_off _ _ _ (by decide)]
        have y14_I_76 := (congrFun eI_76 14).trans (up2_row _ _ _ _)
        have y12_I_76 : I_76 12 = I_52 12 := by rw [eI_76, up2_off _ _ _ (by decide)]
        have y11_I_76 : I_76 11 = I_52 11 := by rw [eI_76, up2_off _ _ _ (by decide)]
        have z0I_76 : I_76 10 0 = I_52 10 0 := by rw [wI_76]
        have tkI_76 : zTK I_76 cd vl T := zTK_fr tkI_52 y11_I_76 y12_I_76 (by rw [wI_76])
        have at76 : zAt I_76 T q9.1 q9.2.1 := zAt_fr hq2.1 wI_76 y11_I_76 y12_I_76
        have f3_76 : zF3 Ia I_76 := zF3_tr (⟨y11_I_49.trans fsI_32.1, y12_I_49.trans fsI_32.2.1, by rw [wI_49]; exact fsI_32.2.2.2⟩ : zF3 Ia I_49) (zF3_tr (zF3_f fsI_52) ⟨y11_I_76, y12_I_76, by rw [wI_76]⟩)
        refine ww_aload_n hX (pc := 77) dX7_takeClause_77 rfl ?_
        refine ww_getI hX (pc := 78) fX7_38 (by decide) (xs_10 hL) dX7_takeClause_78 ?_
        refine ww_sipush hX (pc := 81) (x := 259) dX7_takeClause_81 (by decide) ?_
        refine ww_icmp_ne hX (pc := 84) (tgt := 101) dX7_takeClause_84 (by decide) (fun h_84 => ?_) (fun h_84 => ?_)
        · simp only [w32_mod] at h_84
          have hc2 : ¬ cd q9.1 = 2 := fun h9 => by
            have := (zK_w tkI_76 at76 259 (by decide) (by decide)).mpr h9
            omega
          refine ww_aload_n hX (pc := 101) dX7_takeClause_101 rfl ?_
          refine ww_dupR hX (pc := 102) dX7_takeClause_102 ?_
          refine ww_getI hX (pc := 103) fX7_47 (by decide) (xs_10 hL) dX7_takeClause_103 ?_
          refine ww_iconst hX (pc := 106) (x := 1) dX7_takeClause_106 rfl ?_
          refine ww_iadd hX (pc := 107) dX7_takeClause_107 ?_
          refine ww_putI hX (pc := 108) (fun h9 => absurd h9 (by decide)) gX7_47 rfl (xs_10 hL) dX7_takeClause_108 ?_
          refine ww_nmH (fun I_108 eI_108 => ?_)
          have kI_108 : Kp 10 15 Ia I_108 := by rw [eI_108]; exact Kp_up kI_76 _ _ (by decide)
          have r1_5_I_108 : I_108 1 5 = Ia 1 5 := Kp_at kI_108 1 5 (by decide)
          have r8_1_I_108 : I_108 8 1 = Ia 8 1 := Kp_at kI_108 8 1 (by decide)
          have rf_I_108 : FU (I_108 1 5) = FU (Ia 1 5) := by rw [r1_5_I_108]
          have lI_108 : LR I_108 := by rw [eI_108]; exact LR_11 lI_76 (by omega) (by omega)
          have wI_108 := (congrFun (congrFun eI_108 10) 11).trans (up2_s _ _ _ _)
          have wI_108_6 : I_108 10 6 = I_76 10 6 := by rw [eI_108, up2_n _ _ (Or.inr (by decide))]
          have wI_108_7 : I_108 10 7 = I_76 10 7 := by rw [eI_108, up2_n _ _ (Or.inr (by decide))]
          have wI_108_8 : I_108 10 8 = I_76 10 8 := by rw [eI_108, up2_n _ _ (Or.inr (by decide))]
          have wI_108_9 : I_108 10 9 = I_76 10 9 := by rw [eI_108, up2_n _ _ (Or.inr (by decide))]
          have wI_108_10 : I_108 10 10 = I_76 10 10 := by rw [eI_108, up2_n _ _ (Or.inr (by decide))]
          have fsI_108 : zFr I_76 I_108 := by rw [eI_108]; exact zFr_f zFr_rf (by decide)
          have y13_I_108 : I_108 13 = I_76 13 := by rw [eI_108, up2_off _ _ _ (by decide)]
          have y14_I_108 : I_108 14 = I_76 14 := by rw [eI_108, up2_off _ _ _ (by decide)]
          have z0I_108 : I_108 10 0 = I_76 10 0 := by rw [eI_108, up2_n _ _ (Or.inr (by decide))]
          have tkI_108 : zTK I_108 cd vl T := zTK_f tkI_76 fsI_108
          have z0_108 : I_108 10 0 = I_76 10 0 := by rw [eI_108, up2_n _ _ (Or.inr (by decide))]
          refine ww_aload_n hX (pc := 111) dX7_takeClause_111 rfl ?_
          refine ww_getR hX (pc := 112) fX7_25 (by decide) (xs_10 hL) (xr_10_5 hL) dX7_takeClause_112 ?_
          refine ww_iconst hX (pc := 115) (x := 2) dX7_takeClause_115 rfl ?_
          refine ww_aload_n hX (pc := 116) dX7_takeClause_116 rfl ?_
          refine ww_getI hX (pc := 117) fX7_47 (by decide) (xs_10 hL) dX7_takeClause_117 ?_
          refine ww_imul hX (pc := 120) dX7_takeClause_120 ?_
          refine ww_aload_n hX (pc := 121) dX7_takeClause_121 rfl ?_
          refine ww_getI hX (pc := 122) fX7_41 (by decide) (xs_10 hL) dX7_takeClause_122 ?_
          refine ww_iast hX (pc := 125) (xs_14 hL) (by decide) (by omega) (by omega) dX7_takeClause_125 ?_
          refine ww_nmH (fun I_125 eI_125 => ?_)
          have kI_125 : Kp 10 15 Ia I_125 := by rw [eI_125]; exact Kp_up kI_108 _ _ (by decide)
          have r1_5_I_125 : I_125 1 5 = Ia 1 5 := Kp_at kI_125 1 5 (by decide)
          have r8_1_I_125 : I_125 8 1 = Ia 8 1 := Kp_at kI_125 8 1 (by decide)
          have rf_I_125 : FU (I_125 1 5) = FU (Ia 1 5) := by rw [r1_5_I_125]
          have lI_125 : LR I_125 := by rw [eI_125]; exact LR_c14 lI_108 _ (by omega) (by omega)
          have wI_125 : I_125 10 = I_108 10 := by rw [eI_125, up2_off _ _ _ (by decide)]
          have wI_125_6 : I_125 10 6 = I_108 10 6 := by rw [wI_125]
          have wI_125_7 : I_125 10 7 = I_108 10 7 := by rw [wI_125]
          have wI_125_8 : I_125 10 8 = I_108 10 8 := by rw [wI_125]
          have wI_125_9 : I_125 10 9 = I_108 10 9 := by rw [wI_125]
          have wI_125_10 : I_125 10 10 = I_108 10 10 := by rw [wI_125]
          have wI_125_11 : I_125 10 11 = I_108 10 11 := by rw [wI_125]
          have y13_I_125 : I_125 13 = I_108 13 := by rw [eI_125, up2_off _ _ _ (by decide)]
          have y14_I_125 := (congrFun eI_125 14).trans (up2_row _ _ _ _)
          have y12_I_125 : I_125 12 = I_108 12 := by rw [eI_125, up2_off _ _ _ (by decide)]
          have y11_I_125 : I_125 11 = I_108 11 := by rw [eI_125, up2_off _ _ _ (by decide)]
          have z0I_125 : I_125 10 0 = I_108 10 0 := by rw [wI_125]
          have tkI_125 : zTK I_125 cd vl T := zTK_fr tkI_108 y11_I_125 y12_I_125 (by rw [wI_125])
          refine ww_iconst hX (pc := 126) (x := 1) dX7_takeClause_126 rfl ?_
          refine rZ hX (pc := 127) hT (Nat.le_refl 0) (Nat.le_refl 0) dX7_takeClause_127 (by decide) ?_
          exact ⟨kI_125, kJ_52, lI_125, zF3_tr f3_76 (zF3_tr (zF3_f fsI_108) ⟨y11_I_125, y12_I_125, by rw [wI_125]⟩), by omega, zCO_n hk hc1 hq1 hc2 hq2 (by rw [wI_49]; exact yI_32.2.2.1) (y13_I_49.trans yI_32.2.2.2.2.1) (by rw [wI_49]; exact yI_32.2.2.2.2.2) (y12_I_49.trans fsI_32.2.1) (by omega) (by omega) (by omega) (by omega) (by omega) (by omega) (by omega) (by rw [wI_125, z0_108, wI_76]) (y11_I_125.trans (fsI_108.1.trans y11_I_76)) (y12_I_125.trans (fsI_108.2.1.trans y12_I_76)) fsI_52.2.1 (y13_I_125.trans (y13_I_108.trans y13_I_76)) (by omega) (zM3_mk (by rw [y14_I_125, y14_I_108, y14_I_76, fsI_52.2.2.1, y14_I_49, fsI_32.2.2.1]) (by omega) (by omega) (by omega) (by omega) (by omega) (by omega)) rfl⟩
        · simp only [w32_mod] at h_84
          have hc2 : cd q9.1 = 2 := (zK_w tkI_76 at76 259 (by decide) (by decide)).mp (by omega)
          refine ww_aload_n hX (pc := 87) dX7_takeClause_87 rfl ?_
          refine vV0 hX (pc := 88) sX7_71 (xs_10 hL) (c6_X7_advance l0 hL (XI_kp hI kI_76 (by decide)) lI_76) (by decide) (Nat.le_refl 0) (Nat.le_refl 0) (Nat.le_of_ble_eq_true rfl) dX7_takeClause_88 (fun I_88 J_88 h_88 => ?_)
          have kI_88 : Kp 10 15 Ia I_88 := Kp_tr kI_76 (Kp_wd h_88.1 (by decide) (by decide))
          have kJ_88 : Kp 10 15 Ja J_88 := Kp_tr kJ_52 (Kp_wd h_88.2.1 (by decide) (by decide))
          have r1_5_I_88 : I_88 1 5 = Ia 1 5 := Kp_at kI_88 1 5 (by decide)
          have r8_1_I_88 : I_88 8 1 = Ia 8 1 := Kp_at kI_88 8 1 (by decide)
          have rf_I_88 : FU (I_88 1 5) = FU (Ia 1 5) := by rw [r1_5_I_88]
          have lI_88 : LR I_88 := h_88.2.2.1
          have qI_88 := lI_88.1
          unfold LRf at qI_88
          have cI_88 := h_88.2.2.2.1
          have fsI_88 : zFr I_76 I_88 := h_88.2.2.2.2.1
          have xrI_88 := h_88.2.2.2.2.2.1
          have yI_88 := h_88.2.2.2.2.2.2
          have tkI_88 : zTK I_88 cd vl T := zTK_f tkI_76 fsI_88
          have av88 := zAt_av tkI_76 at76 (by omega) fsI_88 yI_88
          have at88 := av88.1
          refine ww_aload_n hX (pc := 91) dX7_takeClause_91 rfl ?_
          refine ww_iconst hX (pc := 92) (x := 0) dX7_takeClause_92 rfl ?_
          refine vI1 hX (pc := 93) sX7_78 (xs_10 hL) (c_QTest l0 8 (by decide) hL (XI_kp hI kI_88 (by decide)) lI_88 tkI_88 at88) (by decide) (Nat.le_refl 0) (Nat.le_refl 0) (Nat.le_of_ble_eq_true rfl) dX7_takeClause_93 (fun x_93 I_93 J_93 h_93 => ?_)
          have kI_93 : Kp 10 15 Ia I_93 := Kp_tr kI_88 (Kp_wd h_93.1 (by decide) (by decide))
          have kJ_93 : Kp 10 15 Ja J_93 := Kp_tr kJ_88 (Kp_wd h_93.2.1 (by decide) (by decide))
          have r1_5_I_93 : I_93 1 5 = Ia 1 5 := Kp_at kI_93 1 5 (by decide)
          have r8_1_I_93 : I_93 8 1 = Ia 8 1 := Kp_at kI_93 8 1 (by decide)
          have rf_I_93 : FU (I_93 1 5) = FU (Ia 1 5) := by rw [r1_5_I_93]
          have lI_93 : LR I_93 := h_93.2.2.1
          have qI_93 := lI_93.1
          unfold LRf at qI_93
          have cI_93 := h_93.2.2.2.1
          have fsI_93 : zFr I_88 I_93 := h_93.2.2.2.2.1
          have xrI_93 := h_93.2.2.2.2.2.1
          have yI_93 := h_93.2.2.2.2.2.2
          have tkI_93 : zTK I_93 cd vl T := zTK_f tkI_88 fsI_93
          refine ww_if_ne hX (pc := 96) (tgt := 101) dX7_takeClause_96 (by decide) (fun h_96 => ?_) (fun h_96 => ?_)
          · simp only [w32_mod] at h_96
            obtain ⟨r9, hr1, hr2⟩ := zPO_1 yI_93 (by omega)
            refine ww_aload_n hX (pc := 101) dX7_takeClause_101 rfl ?_
            refine ww_dupR hX (pc := 102) dX7_takeClause_102 ?_
            refine ww_getI hX (pc := 103) fX7_47 (by decide) (xs_10 hL) dX7_takeClause_103 ?_
            refine ww_iconst hX (pc := 106) (x := 1) dX7_takeClause_106 rfl ?_
            refine ww_iadd hX (pc := 107) dX7_takeClause_107 ?_
            refine ww_putI hX (pc := 108) (fun h9 => absurd h9 (by decide)) gX7_47 rfl (xs_10 hL) dX7_takeClause_108 ?_
            refine ww_nmH (fun I_108 eI_108 => ?_)
            have kI_108 : Kp 10 15 Ia I_108 := by rw [eI_108]; exact Kp_up kI_93 _ _ (by decide)
            have r1_5_I_108 : I_108 1 5 = Ia 1 5 := Kp_at kI_108 1 5 (by decide)
            have r8_1_I_108 : I_108 8 1 = Ia 8 1 := Kp_at kI_108 8 1 (by decide)
            have rf_I_108 : FU (I_108 1 5) = FU (Ia 1 5) := by rw [r1_5_I_108]
            have lI_108 : LR I_108 := by rw [eI_108]; exact LR_11 lI_93 (by omega) (by omega)
            have wI_108 := (congrFun (congrFun eI_108 10) 11).trans (up2_s _ _ _ _)
            have wI_108_6 : I_108 10 6 = I_93 10 6 := by rw [eI_108, up2_n _ _ (Or.inr (by decide))]
            have wI_108_7 : I_108 10 7 = I_93 10 7 := by rw [eI_108, up2_n _ _ (Or.inr (by decide))]
            have wI_108_8 : I_108 10 8 = I_93 10 8 := by rw [eI_108, up2_n _ _ (Or.inr (by decide))]
            have wI_108_9 : I_108 10 9 = I_93 10 9 := by rw [eI_108, up2_n _ _ (Or.inr (by decide))]
            have wI_108_10 : I_108 10 10 = I_93 10 10 := by rw [eI_108, up2_n _ _ (Or.inr (by decide))]
            have fsI_108 : zFr I_93 I_108 := by rw [eI_108]; exact zFr_f zFr_rf (by decide)
            have y13_I_108 : I_108 13 = I_93 13 := by rw [eI_108, up2_off _ _ _ (by decide)]
            have y14_I_108 : I_108 14 = I_93 14 := by rw [eI_108, up2_off _ _ _ (by decide)]
            have z0I_108 : I_108 10 0 = I_93 10 0 := by rw [eI_108, up2_n _ _ (Or.inr (by decide))]
            have tkI_108 : zTK I_108 cd vl T := zTK_f tkI_93 fsI_108
            have z0_108 : I_108 10 0 = I_93 10 0 := by rw [eI_108, up2_n _ _ (Or.inr (by decide))]
            refine ww_aload_n hX (pc := 111) dX7_takeClause_111 rfl ?_
            refine ww_getR hX (pc := 112) fX7_25 (by decide) (xs_10 hL) (xr_10_5 hL) dX7_takeClause_112 ?_
            refine ww_iconst hX (pc := 115) (x := 2) dX7_takeClause_115 rfl ?_
            refine ww_aload_n hX (pc := 116) dX7_takeClause_116 rfl ?_
            refine ww_getI hX (pc := 117) fX7_47 (by decide) (xs_10 hL) dX7_takeClause_117 ?_
            refine ww_imul hX (pc := 120) dX7_takeClause_120 ?_
            refine ww_aload_n hX (pc := 121) dX7_takeClause_121 rfl ?_
            refine ww_getI hX (pc := 122) fX7_41 (by decide) (xs_10 hL) dX7_takeClause_122 ?_
            refine ww_iast hX (pc := 125) (xs_14 hL) (by decide) (by omega) (by omega) dX7_takeClause_125 ?_
            refine ww_nmH (fun I_125 eI_125 => ?_)
            have kI_125 : Kp 10 15 Ia I_125 := by rw [eI_125]; exact Kp_up kI_108 _ _ (by decide)
            have r1_5_I_125 : I_125 1 5 = Ia 1 5 := Kp_at kI_125 1 5 (by decide)
            have r8_1_I_125 : I_125 8 1 = Ia 8 1 := Kp_at kI_125 8 1 (by decide)
            have rf_I_125 : FU (I_125 1 5) = FU (Ia 1 5) := by rw [r1_5_I_125]
            have lI_125 : LR I_125 := by rw [eI_125]; exact LR_c14 lI_108 _ (by omega) (by omega)
            have wI_125 : I_125 10 = I_108 10 := by rw [eI_125, up2_off _ _ _ (by decide)]
            have wI_125_6 : I_125 10 6 = I_108 10 6 := by rw [wI_125]
            have wI_125_7 : I_125 10 7 = I_108 10 7 := by rw [wI_125]
            have wI_125_8 : I_125 10 8 = I_108 10 8 := by rw [wI_125]
            have wI_125_9 : I_125 10 9 = I_108 10 9 := by rw [wI_125]
            have wI_125_10 : I_125 10 10 = I_108 10 10 := by rw [wI_125]
            have wI_125_11 : I_125 10 11 = I_108 10 11 := by rw [wI_125]
            have y13_I_125 : I_125 13 = I_108 13 := by rw [eI_125, up2_off _ _ _ (by decide)]
            have y14_I_125 := (congrFun eI_125 14).trans (up2_row _ _ _ _)
            have y12_I_125 : I_125 12 = I_108 12 := by rw [eI_125, up2_off _ _ _ (by decide)]
            have y11_I_125 : I_125 11 = I_108 11 := by rw [eI_125, up2_off _ _ _ (by decide)]
            have z0I_125 : I_125 10 0 = I_108 10 0 := by rw [wI_125]
            have tkI_125 : zTK I_125 cd vl T := zTK_fr tkI_108 y11_I_125 y12_I_125 (by rw [wI_125])
            refine ww_iconst hX (pc := 126) (x := 1) dX7_takeClause_126 rfl ?_
            refine rZ hX (pc := 127) hT (Nat.le_refl 0) (Nat.le_refl 0) dX7_takeClause_127 (by decide) ?_
            exact ⟨kI_125, kJ_93, lI_125, zF3_tr f3_76 (zF3_tr (zF3_f fsI_88) (zF3_tr (zF3_f fsI_93) (zF3_tr (zF3_f fsI_108) ⟨y11_I_125, y12_I_125, by rw [wI_125]⟩))), by omega, zCO_s hk hc1 hq1 hc2 hq2 (by rw [wI_49]; exact yI_32.2.2.1) (y13_I_49.trans yI_32.2.2.2.2.1) (by rw [wI_49]; exact yI_32.2.2.2.2.2) (y12_I_49.trans fsI_32.2.1) hr1 hr2 (by rw [yI_88.2.2.1, wI_76]) (yI_88.2.2.2.2.1.trans y13_I_76) (by rw [yI_88.2.2.2.2.2, wI_76]) (by omega) (by omega) (by omega) (by omega) (by omega) (by omega) (by omega) (by rw [wI_125, z0_108]) (y11_I_125.trans fsI_108.1) (y12_I_125.trans fsI_108.2.1) (fsI_93.2.1.trans (fsI_88.2.1.trans f3_76.2.1)) (y13_I_125.trans y13_I_108) (by omega) (zM3_mk (by rw [y14_I_125, y14_I_108, fsI_93.2.2.1, fsI_88.2.2.1, y14_I_76, fsI_52.2.2.1, y14_I_49, fsI_32.2.2.1]) (by omega) (by omega) (by omega) (by omega) (by omega) (by omega)) rfl⟩
          · simp only [w32_mod] at h_96
            refine ww_iconst hX (pc := 99) (x := 0) dX7_takeClause_99 rfl ?_
            refine rZ hX (pc := 100) hT (Nat.le_refl 0) (Nat.le_refl 0) dX7_takeClause_100 (by decide) ?_
            exact ⟨kI_93, kJ_93, lI_93, zF3_tr f3_76 (zF3_tr (zF3_f fsI_88) (zF3_f fsI_93)), by omega, zCO_g (fsI_88.2.1.trans f3_76.2.1) hc1 hq1 hc2 yI_93 (by omega) rfl⟩
      · simp only [w32_mod] at h_55
        refine ww_iconst hX (pc := 58) (x := 0) dX7_takeClause_58 rfl ?_
        refine rZ hX (pc := 59) hT (Nat.le_refl 0) (Nat.le_refl 0) dX7_takeClause_59 (by decide) ?_
        exact ⟨kI_52, kJ_52, lI_52, zF3_tr (⟨y11_I_49.trans fsI_32.1, y12_I_49.trans fsI_32.2.1, by rw [wI_49]; exact fsI_32.2.2.2⟩ : zF3 Ia I_49) (zF3_f fsI_52), by omega, zCO_f (y12_I_49.trans fsI_32.2.1) hc1 yI_52 (by omega) rfl⟩
    · simp only [w32_mod] at h_23
      exfalso
      omega
set_option maxHeartbeats 4000000 in
set_option maxRecDepth 20000 in
theorem c6_X7_takeClauses (l0 : Launch) {Ia Ja : aI1} {Ra : aR1} {Sa : aS1} (hL : LY Ra Sa) (hI : XI Ia) (hR : LR Ia) {cd vl : Nat → Int} {T : Nat} (hk : zTK Ia cd vl T) (ha : zAt Ia T 0 0) (hc0 : Ia 10 11 = 0)  : CT l0 292 0 0 mX7_takeClauses [kR (some 10)] Ia Ja Ra Sa (cI (fun x I' J' => Kp 10 15 Ia I' ∧ Kp 10 15 Ja J' ∧ LR I' ∧ zF3 Ia I' ∧ (x = 0 ∨ x = 1) ∧ zLO Ia I' T x (zLw cd vl T 12 0 0)) Ra Sa) := by
  refine ct_in pn_X7 (Nat.le_of_ble_eq_true rfl) (fun X hX hT hIn => ?_)
  have hX : aK l0 X cX7_takeClauses 2 RX7 (some .boolean) 292 0 0 := hX
  change WW X 0 [some (kR (some 10)), none] [] Ia Ja Ra Sa 0 0
  obtain ⟨hn1, hn2⟩ := hI.1
  obtain ⟨hk1, hk2⟩ := hI.2.1
  obtain ⟨hf1, hf2⟩ := hI.fu
  obtain ⟨hl1, hl2⟩ := hI.2.2.2.2.2.2.1
  have hq := hR.1
  unfold LRf at hq
  refine ww_iconst hX (pc := 0) (x := 0) dX7_takeClauses_0 rfl ?_
  refine ww_istore_n hX (pc := 1) (lv' := [some (kR (some 10)), some (kI 0)]) dX7_takeClauses_1 (by decide) rfl rfl ?_
  have hl_2 : ∀ (n_2 : Nat) (i : Int) (I2 : aI1) (J2 : aI1), (12 - i).toNat = n_2 → (Kp 10 15 Ia I2 ∧ Kp 10 15 Ja J2 ∧ LR I2 ∧ True ∧ (0 ≤ i ∧ i ≤ 12) ∧ zF3 Ia I2 ∧ I2 10 0 = Ia 10 0 ∧ I2 10 11 = i ∧ zLI2 cd vl (12 - i).toNat I2 T (zLw cd vl T 12 0 0)) → WW X 2 [some (kR (some 10)), some (kI i)] [] I2 J2 Ra Sa 0 0 := by
    intro n_2
    induction n_2 using Nat.strongRecOn with
    | ind n_2 ih_2 =>
      intro i I2 J2 hm_2 hv_2
      have hq_2 := Sh0_i hm_2
      clear hm_2
      obtain ⟨kI2, kJ2, lI2, cI2, hi9, f3I2, z0I2, hci, hli⟩ := hv_2
      have r1_5_I2 : I2 1 5 = Ia 1 5 := Kp_at kI2 1 5 (by decide)
      have r8_1_I2 : I2 8 1 = Ia 8 1 := Kp_at kI2 8 1 (by decide)
      have rf_I2 : FU (I2 1 5) = FU (Ia 1 5) := by rw [r1_5_I2]
      have qI2 := lI2.1
      unfold LRf at qI2
      obtain ⟨ac, t, l, hat, h1, h2, h3, h4, hr⟩ := hli
      have tkI2 : zTK I2 cd vl T := zTK_3 hk f3I2
      refine ww_iload_n hX (pc := 2) dX7_takeClauses_2 rfl ?_
      refine ww_bipush hX (pc := 3) (x := 12) dX7_takeClauses_3 (by decide) ?_
      refine ww_icmp_ge hX (pc := 5) (tgt := 53) dX7_takeClauses_5 (by decide) (fun h_5 => ?_) (fun h_5 => ?_)
      · simp only [w32_mod] at h_5
        refine ww_aload_n hX (pc := 53) dX7_takeClauses_53 rfl ?_
        refine vI0 hX (pc := 54) sX7_68 (xs_10 hL) (c6_X7_fail l0 hL (XI_kp hI kI2 (by decide)) lI2) (by decide) (Nat.le_refl 0) (Nat.le_refl 0) (Nat.le_of_ble_eq_true rfl) dX7_takeClauses_54 (fun x_54 I_54 J_54 h_54 => ?_)
        have kI_54 : Kp 10 15 Ia I_54 := Kp_tr kI2 (Kp_wd h_54.1 (by decide) (by decide))
        have kJ_54 : Kp 10 15 Ja J_54 := Kp_tr kJ2 (Kp_wd h_54.2.1 (by decide) (by decide))
        have r1_5_I_54 : I_54 1 5 = Ia 1 5 := Kp_at kI_54 1 5 (by decide)
        have r8_1_I_54 : I_54 8 1 = Ia 8 1 := Kp_at kI_54 8 1 (by decide)
        have rf_I_54 : FU (I_54 1 5) = FU (Ia 1 5) := by rw [r1_5_I_54]
        have lI_54 : LR I_54 := h_54.2.2.1
        have qI_54 := lI_54.1
        unfold LRf at qI_54
        have cI_54 := h_54.2.2.2.1
        have fsI_54 : zFr I2 I_54 := h_54.2.2.2.2.1
        have xrI_54 := h_54.2.2.2.2.2.1
        have yI_54 := h_54.2.2.2.2.2.2
        have tkI_54 : zTK I_54 cd vl T := zTK_f tkI2 fsI_54
        refine rZ hX (pc := 57) hT (Nat.le_refl 0) (Nat.le_refl 0) dX7_takeClauses_57 (by omega) ?_
        exact ⟨kI_54, kJ_54, lI_54, zF3_tr f3I2 (zF3_f fsI_54), by omega, zLO_c9 f3I2.2.1 hr (by omega) hat yI_54⟩
      · simp only [w32_mod] at h_5
        have hr9 : zLa ac (zLw cd vl T ((12 - i).toNat - 1 + 1) t l) = (zLw cd vl T 12 0 0) := by rw [show (12 - i).toNat - 1 + 1 = (12 - i).toNat by omega]; exact hr
        refine ww_aload_n hX (pc := 8) dX7_takeClauses_8 rfl ?_
        refine vI0 hX (pc := 9) sX7_65 (xs_10 hL) (c6_X7_takeClause l0 hL (XI_kp hI kI2 (by decide)) lI2 tkI2 hat (by omega)) (by decide) (Nat.le_refl 0) (Nat.le_refl 0) (Nat.le_of_ble_eq_true rfl) dX7_takeClauses_9 (fun x_9 I_9 J_9 h_9 => ?_)
        have kI_9 : Kp 10 15 Ia I_9 := Kp_tr kI2 (Kp_wd h_9.1 (by decide) (by decide))
        have kJ_9 : Kp 10 15 Ja J_9 := Kp_tr kJ2 (Kp_wd h_9.2.1 (by decide) (by decide))
        have r1_5_I_9 : I_9 1 5 = Ia 1 5 := Kp_at kI_9 1 5 (by decide)
        have r8_1_I_9 : I_9 8 1 = Ia 8 1 := Kp_at kI_9 8 1 (by decide)
        have rf_I_9 : FU (I_9 1 5) = FU (Ia 1 5) := by rw [r1_5_I_9]
        have lI_9 : LR I_9 := h_9.2.2.1
        have qI_9 := lI_9.1
        unfold LRf at qI_9
        have f3I_9 := h_9.2.2.2.1
        have xrI_9 := h_9.2.2.2.2.1
        have yI_9 := h_9.2.2.2.2.2
        have tkI_9 : zTK I_9 cd vl T := zTK_3 tkI2 f3I_9
        refine ww_if_ne hX (pc := 12) (tgt := 17) dX7_takeClauses_12 (by decide) (fun h_12 => ?_) (fun h_12 => ?_)
        · simp only [w32_mod] at h_12
          obtain ⟨q9, hq1, hq2⟩ := zCO_1 yI_9 (by omega)
          refine ww_aload_n hX (pc := 17) dX7_takeClauses_17 rfl ?_
          refine ww_getI hX (pc := 18) fX7_38 (by decide) (xs_10 hL) dX7_takeClauses_18 ?_
          refine ww_sipush hX (pc := 21) (x := 256) dX7_takeClauses_21 (by decide) ?_
          refine ww_icmp_ne hX (pc := 24) (tgt := 29) dX7_takeClauses_24 (by decide) (fun h_24 => ?_) (fun h_24 => ?_)
          · simp only [w32_mod] at h_24
            have hT9 : ¬ q9.1 = T := fun h9 => by
              have := (zK_e tkI_9 hq2.2.1).mpr h9
              omega
            refine ww_aload_n hX (pc := 29) dX7_takeClauses_29 rfl ?_
            refine ww_getI hX (pc := 30) fX7_38 (by decide) (xs_10 hL) dX7_takeClauses_30 ?_
            refine ww_bipush hX (pc := 33) (x := 59) dX7_takeClauses_33 (by decide) ?_
            refine ww_icmp_eq hX (pc := 35) (tgt := 43) dX7_takeClauses_35 (by decide) (fun h_35 => ?_) (fun h_35 => ?_)
            · simp only [w32_mod] at h_35
              have hc9 : cd q9.1 = 159 := (zK_b tkI_9 hq2.2.1 59 (by decide) (by decide)).mp (by omega)
              refine ww_aload_n hX (pc := 43) dX7_takeClauses_43 rfl ?_
              refine vV0 hX (pc := 44) sX7_71 (xs_10 hL) (c6_X7_advance l0 hL (XI_kp hI kI_9 (by decide)) lI_9) (by decide) (Nat.le_refl 0) (Nat.le_refl 0) (Nat.le_of_ble_eq_true rfl) dX7_takeClauses_44 (fun I_44 J_44 h_44 => ?_)
              have kI_44 : Kp 10 15 Ia I_44 := Kp_tr kI_9 (Kp_wd h_44.1 (by decide) (by decide))
              have kJ_44 : Kp 10 15 Ja J_44 := Kp_tr kJ_9 (Kp_wd h_44.2.1 (by decide) (by decide))
              have r1_5_I_44 : I_44 1 5 = Ia 1 5 := Kp_at kI_44 1 5 (by decide)
              have r8_1_I_44 : I_44 8 1 = Ia 8 1 := Kp_at kI_44 8 1 (by decide)
              have rf_I_44 : FU (I_44 1 5) = FU (Ia 1 5) := by rw [r1_5_I_44]
              have lI_44 : LR I_44 := h_44.2.2.1
              have qI_44 := lI_44.1
              unfold LRf at qI_44
              have cI_44 := h_44.2.2.2.1
              have fsI_44 : zFr I_9 I_44 := h_44.2.2.2.2.1
              have xrI_44 := h_44.2.2.2.2.2.1
              have yI_44 := h_44.2.2.2.2.2.2
              have tkI_44 : zTK I_44 cd vl T := zTK_f tkI_9 fsI_44
              have av44 := zAt_av tkI_9 hq2.2.1 (by omega) fsI_44 yI_44
              have at44 := av44.1
              refine ww_iinc hX (pc := 47) (lv' := [some (kR (some 10)), some (kI (i + 1))]) dX7_takeClauses_47 rfl (by decide) rfl rfl ?_
              refine ww_goto hX (pc := 50) (tgt := 2) dX7_takeClauses_50 (by decide) ?_
              exact ih_2 _ (by have hm9 := Sh0_e hq_2; omega) (i + 1) I_44 J_44 rfl ⟨kI_44, kJ_44, lI_44, trivial, by omega, zF3_tr f3I2 (zF3_tr f3I_9 (zF3_f fsI_44)), (by rw [yI_44.2.2.2.2.2, hq2.2.2.2.2.2.2.2.2.2, z0I2]), (by have := hq2.2.2.1; omega), (by rw [show (12 - (i + 1)).toNat = (12 - i).toNat - 1 by omega]; exact zLI2_s hr9 h1 h2 h3 h4 hq1 hq2 hT9 hc9 at44 yI_44.2.2.2.2.1 fsI_44.2.2.1 yI_44.2.2.1 (by omega))⟩
            · simp only [w32_mod] at h_35
              have hc9 : ¬ cd q9.1 = 159 := fun h9 => by
                have := (zK_b tkI_9 hq2.2.1 59 (by decide) (by decide)).mpr h9
                omega
              refine ww_aload_n hX (pc := 38) dX7_takeClauses_38 rfl ?_
              refine vI0 hX (pc := 39) sX7_68 (xs_10 hL) (c6_X7_fail l0 hL (XI_kp hI kI_9 (by decide)) lI_9) (by decide) (Nat.le_refl 0) (Nat.le_refl 0) (Nat.le_of_ble_eq_true rfl) dX7_takeClauses_39 (fun x_39 I_39 J_39 h_39 => ?_)
              have kI_39 : Kp 10 15 Ia I_39 := Kp_tr kI_9 (Kp_wd h_39.1 (by decide) (by decide))
              have kJ_39 : Kp 10 15 Ja J_39 := Kp_tr kJ_9 (Kp_wd h_39.2.1 (by decide) (by decide))
              have r1_5_I_39 : I_39 1 5 = Ia 1 5 := Kp_at kI_39 1 5 (by decide)
              have r8_1_I_39 : I_39 8 1 = Ia 8 1 := Kp_at kI_39 8 1 (by decide)
              have rf_I_39 : FU (I_39 1 5) = FU (Ia 1 5) := by rw [r1_5_I_39]
              have lI_39 : LR I_39 := h_39.2.2.1
              have qI_39 := lI_39.1
              unfold LRf at qI_39
              have cI_39 := h_39.2.2.2.1
              have fsI_39 : zFr I_9 I_39 := h_39.2.2.2.2.1
              have xrI_39 := h_39.2.2.2.2.2.1
              have yI_39 := h_39.2.2.2.2.2.2
              have tkI_39 : zTK I_39 cd vl T := zTK_f tkI_9 fsI_39
              refine rZ hX (pc := 42) hT (Nat.le_refl 0) (Nat.le_refl 0) dX7_takeClauses_42 (by omega) ?_
              exact ⟨kI_39, kJ_39, lI_39, zF3_tr f3I2 (zF3_tr f3I_9 (zF3_f fsI_39)), by omega, zLO_cn (f3I_9.2.1.trans f3I2.2.1) hr9 hq1 hq2.2.1 hT9 hc9 yI_39⟩
          · simp only [w32_mod] at h_24
            have hT9 : q9.1 = T := (zK_e tkI_9 hq2.2.1).mp (by omega)
            refine ww_iconst hX (pc := 27) (x := 1) dX7_takeClauses_27 rfl ?_
            refine rZ hX (pc := 28) hT (Nat.le_refl 0) (Nat.le_refl 0) dX7_takeClauses_28 (by decide) ?_
            exact ⟨kI_9, kJ_9, lI_9, zF3_tr f3I2 f3I_9, by omega, zLO_ce hr9 h1 h2 h3 h4 hq1 hq2 hT9 z0I2 rfl⟩
        · simp only [w32_mod] at h_12
          refine ww_iconst hX (pc := 15) (x := 0) dX7_takeClauses_15 rfl ?_
          refine rZ hX (pc := 16) hT (Nat.le_refl 0) (Nat.le_refl 0) dX7_takeClauses_16 (by decide) ?_
          exact ⟨kI_9, kJ_9, lI_9, zF3_tr f3I2 f3I_9, by omega, zLO_c0 f3I2.2.1 hr9 yI_9 (by omega) rfl⟩
  exact hl_2 _ 0 Ia Ja rfl ⟨(Kp_rf (a := 10) (b := 15)), (Kp_rf (a := 10) (b := 15)), hR, trivial, by omega, ⟨rfl, rfl, rfl⟩, rfl, by omega, zLI2_0 ha hc0⟩
