section
/-- what reading a clause keeps -/
def zF3 (I I' : aI1) : Prop := I' 11 = I 11 ∧ I' 12 = I 12 ∧ I' 10 6 = I 10 6
theorem zF3_tr {I I1 I2 : aI1} (h : zF3 I I1) (g : zF3 I1 I2) : zF3 I I2 := ⟨g.1.trans h.1, g.2.1.trans h.2.1, g.2.2.trans h.2.2⟩
theorem zF3_f {I I1 : aI1} (h : zFr I I1) : zF3 I I1 := ⟨h.1, h.2.1, h.2.2.2⟩
theorem zTK_3 {I I' : aI1} {cd vl : Nat → Int} {T : Nat} (h : zTK I cd vl T) (f : zF3 I I') : zTK I' cd vl T := zTK_fr h f.1 f.2.1 f.2.2
theorem zAt_fr {I I' : aI1} {T t l : Nat} (h : zAt I T t l) (e10 : I' 10 = I 10) (e11 : I' 11 = I 11) (e12 : I' 12 = I 12) : zAt I' T t l := by
  unfold zAt at h ⊢
  rw [e10, e11, e12]
  exact h
theorem zM3_mk {F F' : Nat → Int} {cc a b c v1 v2 v3 : Int} {j1 j2 j3 : Nat} (h : F' = up1 (up1 (up1 F j1 v1) j2 v2) j3 v3) (h1 : j1 = (2 * cc).toNat) (g1 : v1 = a) (h2 : j2 = (2 * cc + 1).toNat) (g2 : v2 = b) (h3 : j3 = (2 * cc + 2).toNat) (g3 : v3 = c) : F' = zM3 F cc a b c := by
  subst h1 h2 h3 g1 g2 g3
  exact h
theorem zLO_c0 {I I2 I3 : aI1} {cd vl : Nat → Int} {T n t l : Nat} {ac : List zQ} {x y : Int} {R : Nat ⊕ List zQ} (e12 : I2 12 = I 12) (hr : zLa ac (zLw cd vl T (n + 1) t l) = R) (h : zCO I2 I3 T x (zCl cd vl t l)) (hx : x = 0) (hy : y = 0) : zLO I I3 T y R := by
  obtain ⟨f, h1, h2, h3⟩ := zCO_0 h hx
  exact zLO_l e12 (by rw [← hr, zLw_f h1]; rfl) hy h2 h3
theorem zLO_ce {I I2 I3 : aI1} {cd vl : Nat → Int} {T n t l : Nat} {ac : List zQ} {x y : Int} {q : Nat × Nat × zQ} {R : Nat ⊕ List zQ} (hr : zLa ac (zLw cd vl T (n + 1) t l) = R) (h1 : I2 10 11 = ac.length) (h2 : zCs (I2 13) (I2 14) ac) (h3 : ac = [] ∨ I2 14 (2 * ac.length) = I2 10 9) (h4 : ∀ i, i ≤ ac.length → i ≠ 0 → I2 14 (2 * i) ≤ I2 10 9) (hq : zCl cd vl t l = .inr q) (h : zCO I2 I3 T x (.inr q)) (hT : q.1 = T) (e0 : I2 10 0 = I 10 0) (hy : y = 1) : zLO I I3 T y R := by
  obtain ⟨c1, c2, c3, c4⟩ := zLI2_c (cd := cd) (vl := vl) (t := t) (l := l) h1 h2 h3 h4 h
  have h0 := h.2.2.2.2.2.2.2.2.2
  rw [← hr, zLw_e hq hT]
  exact ⟨hy, c1, c2, c4, h0.trans e0⟩
theorem zLO_cn {I I3 I4 : aI1} {cd vl : Nat → Int} {T n t l : Nat} {ac : List zQ} {x : Int} {q : Nat × Nat × zQ} {R : Nat ⊕ List zQ} (e12 : I3 12 = I 12) (hr : zLa ac (zLw cd vl T (n + 1) t l) = R) (hq : zCl cd vl t l = .inr q) (hat : zAt I3 T q.1 q.2.1) (hT : ¬ q.1 = T) (hc : ¬ cd q.1 = 159) (hf : zFa I3 I4 x) : zLO I I4 T x R := by
  have h2 := hf.2
  rw [hat.1] at h2
  exact zLO_l e12 (by rw [← hr, zLw_n hq hT hc]; rfl) hf.1 hat.2.1 h2
theorem zLO_c9 {I I2 I4 : aI1} {cd vl : Nat → Int} {T n t l : Nat} {ac : List zQ} {x : Int} {R : Nat ⊕ List zQ} (e12 : I2 12 = I 12) (hr : zLa ac (zLw cd vl T n t l) = R) (hn : n = 0) (hat : zAt I2 T t l) (hf : zFa I2 I4 x) : zLO I I4 T x R := by
  have h2 := hf.2
  rw [hat.1] at h2
  subst hn
  exact zLO_l e12 hr.symm hf.1 hat.2.1 h2
theorem zLI2_s {I2 I3 I4 : aI1} {cd vl : Nat → Int} {T n t l : Nat} {ac : List zQ} {x : Int} {q : Nat × Nat × zQ} {R : Nat ⊕ List zQ} (hr : zLa ac (zLw cd vl T (n + 1) t l) = R) (h1 : I2 10 11 = ac.length) (h2 : zCs (I2 13) (I2 14) ac) (h3 : ac = [] ∨ I2 14 (2 * ac.length) = I2 10 9) (h4 : ∀ i, i ≤ ac.length → i ≠ 0 → I2 14 (2 * i) ≤ I2 10 9) (hq : zCl cd vl t l = .inr q) (h : zCO I2 I3 T x (.inr q)) (hT : ¬ q.1 = T) (hc : cd q.1 = 159) (hat : zAt I4 T (q.1 + 1) q.2.1) (e13 : I4 13 = I3 13) (e14 : I4 14 = I3 14) (e9 : I4 10 9 = I3 10 9) (e11 : I4 10 11 = I3 10 11) : zLI2 cd vl n I4 T R := by
  obtain ⟨c1, c2, c3, c4⟩ := zLI2_c (cd := cd) (vl := vl) (t := t) (l := l) h1 h2 h3 h4 h
  refine ⟨ac ++ [q.2.2], q.1 + 1, q.2.1, hat, by rw [e11]; exact c1, by rw [e13, e14]; exact c2, Or.inr (by rw [e14, e9]; exact c3), by rw [e14, e9]; exact c4, ?_⟩
  rw [← hr, zLw_s hq hT hc, zLa_la]
set_option maxHeartbeats 4000000 in
set_option maxRecDepth 20000 in
theorem c6_X7_takeClause (l0 : Launch) {Ia Ja : aI1} {Ra : aR1} {Sa : aS1} (hL : LY Ra Sa) (hI : XI Ia) (hR : LR Ia) {cd vl : Nat → Int} {T t l : Nat} (hk : zTK Ia cd vl T) (ha : zAt Ia T t l) (hcc : Ia 10 11 ≤ 11)  : CT l0 291 0 0 mX7_takeClause [kR (some 10)] Ia Ja Ra Sa (cI (fun x I' J' => Kp 10 15 Ia I' ∧ Kp 10 15 Ja J' ∧ LR I' ∧ zF3 Ia I' ∧ (x = 0 ∨ x = 1) ∧ zCO Ia I' T x (zCl cd vl t l)) Ra Sa) := by
  refine ct_in pn_X7 (Nat.le_of_ble_eq_true rfl) (fun X hX hT hIn => ?_)
  have hX : aK l0 X cX7_takeClause 1 RX7 (some .boolean) 291 0 0 := hX
  change WW X 0 [some (kR (some 10))] [] Ia Ja Ra Sa 0 0
  obtain ⟨hn1, hn2⟩ := hI.1
  obtain ⟨hk1, hk2⟩ := hI.2.1
  obtain ⟨hf1, hf2⟩ := hI.fu
  obtain ⟨hl1, hl2⟩ := hI.2.2.2.2.2.2.1
  have hq := hR.1
  unfold LRf at hq
  refine ww_aload_n hX (pc := 0) dX7_takeClause_0 rfl ?_
  refine ww_getI hX (pc := 1) fX7_38 (by decide) (xs_10 hL) dX7_takeClause_1 ?_
  refine ww_sipush hX (pc := 4) (x := 258) dX7_takeClause_4 (by decide) ?_
  refine ww_icmp_ne hX (pc := 7) (tgt := 26) dX7_takeClause_7 (by decide) (fun h_7 => ?_) (fun h_7 => ?_)
  · simp only [w32_mod] at h_7
    refine ww_aload_n hX (pc := 26) dX7_takeClause_26 rfl ?_
    refine vI0 hX (pc := 27) sX7_68 (xs_10 hL) (c6_X7_fail l0 hL hI hR) (by decide) (Nat.le_refl 0) (Nat.le_refl 0) (Nat.le_of_ble_eq_true rfl) dX7_takeClause_27 (fun x_27 I_27 J_27 h_27 => ?_)
    have kI_27 : Kp 10 15 Ia I_27 := Kp_tr (Kp_rf (a := 10) (b := 15)) (Kp_wd h_27.1 (by decide) (by decide))
    have kJ_27 : Kp 10 15 Ja J_27 := Kp_tr (Kp_rf (a := 10) (b := 15)) (Kp_wd h_27.2.1 (by decide) (by decide))
    have r1_5_I_27 : I_27 1 5 = Ia 1 5 := Kp_at kI_27 1 5 (by decide)
    have r8_1_I_27 : I_27 8 1 = Ia 8 1 := Kp_at kI_27 8 1 (by decide)
    have rf_I_27 : FU (I_27 1 5) = FU (Ia 1 5) := by rw [r1_5_I_27]
    have lI_27 : LR I_27 := h_27.2.2.1
    have qI_27 := lI_27.1
    unfold LRf at qI_27
    have cI_27 := h_27.2.2.2.1
    have fsI_27 : zFr Ia I_27 := h_27.2.2.2.2.1
    have xrI_27 := h_27.2.2.2.2.2.1
    have yI_27 := h_27.2.2.2.2.2.2
    have tkI_27 : zTK I_27 cd vl T := zTK_f hk fsI_27
    refine rZ hX (pc := 30) hT (Nat.le_refl 0) (Nat.le_refl 0) dX7_takeClause_30 (by omega) ?_
    exact ⟨kI_27, kJ_27, lI_27, zF3_f fsI_27, by omega, zCO_fa ha (fun h9 => by have := (zK_w hk ha 258 (by decide) (by decide)).mpr h9; omega) yI_27⟩
  · simp only [w32_mod] at h_7
    have hc1 : cd t = 1 := (zK_w hk ha 258 (by decide) (by decide)).mp (by omega)
    refine ww_iconst hX (pc := 10) (x := 2) dX7_takeClause_10 rfl ?_
    refine ww_aload_n hX (pc := 11) dX7_takeClause_11 rfl ?_
    refine ww_getI hX (pc := 12) fX7_47 (by decide) (xs_10 hL) dX7_takeClause_12 ?_
    refine ww_imul hX (pc := 15) dX7_takeClause_15 ?_
    refine ww_iconst hX (pc := 16) (x := 2) dX7_takeClause_16 rfl ?_
    refine ww_iadd hX (pc := 17) dX7_takeClause_17 ?_
    refine ww_aload_n hX (pc := 18) dX7_takeClause_18 rfl ?_
    refine ww_getR hX (pc := 19) fX7_25 (by decide) (xs_10 hL) (xr_10_5 hL) dX7_takeClause_19 ?_
    refine ww_alen hX (pc := 22) (by decide) (xs_14 hL) dX7_takeClause_22 ?_
    refine ww_icmp_lt hX (pc := 23) (tgt := 31) dX7_takeClause_23 (by decide) (fun h_23 => ?_) (fun h_23 => ?_)
    · simp only [w32_mod] at h_23
      refine ww_aload_n hX (pc := 31) dX7_takeClause_31 rfl ?_
      refine vV0 hX (pc := 32) sX7_71 (xs_10 hL) (c6_X7_advance l0 hL hI hR) (by decide) (Nat.le_refl 0) (Nat.le_refl 0) (Nat.le_of_ble_eq_true rfl) dX7_takeClause_32 (fun I_32 J_32 h_32 => ?_)
      have kI_32 : Kp 10 15 Ia I_32 := Kp_tr (Kp_rf (a := 10) (b := 15)) (Kp_wd h_32.1 (by decide) (by decide))
      have kJ_32 : Kp 10 15 Ja J_32 := Kp_tr (Kp_rf (a := 10) (b := 15)) (Kp_wd h_32.2.1 (by decide) (by decide))
      have r1_5_I_32 : I_32 1 5 = Ia 1 5 := Kp_at kI_32 1 5 (by decide)
      have r8_1_I_32 : I_32 8 1 = Ia 8 1 := Kp_at kI_32 8 1 (by decide)
      have rf_I_32 : FU (I_32 1 5) = FU (Ia 1 5) := by rw [r1_5_I_32]
      have lI_32 : LR I_32 := h_32.2.2.1
      have qI_32 := lI_32.1
      unfold LRf at qI_32
      have cI_32 := h_32.2.2.2.1
      have fsI_32 : zFr Ia I_32 := h_32.2.2.2.2.1
      have xrI_32 := h_32.2.2.2.2.2.1
      have yI_32 := h_32.2.2.2.2.2.2
      have tkI_32 : zTK I_32 cd vl T := zTK_f hk fsI_32
      have av32 := zAt_av hk ha (by omega) fsI_32 yI_32
      have at32 := av32.1
      refine ww_aload_n hX (pc := 35) dX7_takeClause_35 rfl ?_
      refine ww_getR hX (pc := 36) fX7_25 (by decide) (xs_10 hL) (xr_10_5 hL) dX7_takeClause_36 ?_
      refine ww_iconst hX (pc := 39) (x := 2) dX7_takeClause_39 rfl ?_
      refine ww_aload_n hX (pc := 40) dX7_takeClause_40 rfl ?_
      refine ww_getI hX (pc := 41) fX7_47 (by decide) (xs_10 hL) dX7_takeClause_41 ?_
      refine ww_imul hX (pc := 44) dX7_takeClause_44 ?_
      refine ww_aload_n hX (pc := 45) dX7_takeClause_45 rfl ?_
      refine ww_getI hX (pc := 46) fX7_41 (by decide) (xs_10 hL) dX7_takeClause_46 ?_
      refine ww_iast hX (pc := 49) (xs_14 hL) (by decide) (by omega) (by omega) dX7_takeClause_49 ?_
      refine ww_nmH (fun I_49 eI_49 => ?_)
      have kI_49 : Kp 10 15 Ia I_49 := by rw [eI_49]; exact Kp_up kI_32 _ _ (by decide)
      have r1_5_I_49 : I_49 1 5 = Ia 1 5 := Kp_at kI_49 1 5 (by decide)
      have r8_1_I_49 : I_49 8 1 = Ia 8 1 := Kp_at kI_49 8 1 (by decide)
      have rf_I_49 : FU (I_49 1 5) = FU (Ia 1 5) := by rw [r1_5_I_49]
      have lI_49 : LR I_49 := by rw [eI_49]; exact LR_c14 lI_32 _ (by omega) (by omega)
      have wI_49 : I_49 10 = I_32 10 := by rw [eI_49, up2_off _ _ _ (by decide)]
      have wI_49_6 : I_49 10 6 = I_32 10 6 := by rw [wI_49]
      have wI_49_7 : I_49 10 7 = I_32 10 7 := by rw [wI_49]
      have wI_49_8 : I_49 10 8 = I_32 10 8 := by rw [wI_49]
      have wI_49_9 : I_49 10 9 = I_32 10 9 := by rw [wI_49]
      have wI_49_10 : I_49 10 10 = I_32 10 10 := by rw [wI_49]
      have wI_49_11 : I_49 10 11 = I_32 10 11 := by rw [wI_49]
      have y13_I_49 : I_49 13 = I_32 13 := by rw [eI_49, up2_off _ _ _ (by decide)]
      have y14_I_49 := (congrFun eI_49 14).trans (up2_row _ _ _ _)
      have y12_I_49 : I_49 12 = I_32 12 := by rw [eI_49, up2_off _ _ _ (by decide)]
      have y11_I_49 : I_49 11 = I_32 11 := by rw [eI_49, up2_off _ _ _ (by decide)]
      have z0I_49 : I_49 10 0 = I_32 10 0 := by rw [wI_49]
      have tkI_49 : zTK I_49 cd vl T := zTK_fr tkI_32 y11_I_49 y12_I_49 (by rw [wI_49])
      have at49 : zAt I_49 T (t + 1) l := zAt_fr at32 wI_49 y11_I_49 y12_I_49
      refine ww_aload_n hX (pc := 50) dX7_takeClause_50 rfl ?_
      refine ww_iconst hX (pc := 51) (x := 0) dX7_takeClause_51 rfl ?_
      refine vI1 hX (pc := 52) sX7_74 (xs_10 hL) (c_QSum l0 8 (by decide) hL (XI_kp hI kI_49 (by decide)) lI_49 tkI_49 at49) (by decide) (Nat.le_refl 0) (Nat.le_refl 0) (Nat.le_of_ble_eq_true rfl) dX7_takeClause_52 (fun x_52 I_52 J_52 h_52 => ?_)
      have kI_52 : Kp 10 15 Ia I_52 := Kp_tr kI_49 (Kp_wd h_52.1 (by decide) (by decide))
      have kJ_52 : Kp 10 15 Ja J_52 := Kp_tr kJ_32 (Kp_wd h_52.2.1 (by decide) (by decide))
      have r1_5_I_52 : I_52 1 5 = Ia 1 5 := Kp_at kI_52 1 5 (by decide)
      have r8_1_I_52 : I_52 8 1 = Ia 8 1 := Kp_at kI_52 8 1 (by decide)
      have rf_I_52 : FU (I_52 1 5) = FU (Ia 1 5) := by rw [r1_5_I_52]
      have lI_52 : LR I_52 := h_52.2.2.1
      have qI_52 := lI_52.1
      unfold LRf at qI_52
      have cI_52 := h_52.2.2.2.1
      have fsI_52 : zFr I_49 I_52 := h_52.2.2.2.2.1
      have xrI_52 := h_52.2.2.2.2.2.1
      have yI_52 := h_52.2.2.2.2.2.2
      have tkI_52 : zTK I_52 cd vl T := zTK_f tkI_49 fsI_52
      refine ww_if_ne hX (pc := 55) (tgt := 60) dX7_takeClause_55 (by decide) (fun h_55 => ?_) (fun h_55 => ?_)
      · simp only [w32_mod] at h_55
        obtain ⟨q9, hq1, hq2⟩ := zPO_1 yI_52 (by omega)
        refine ww_aload_n hX (pc := 60) dX7_takeClause_60 rfl ?_
        refine ww_getR hX (pc := 61) fX7_25 (by decide) (xs_10 hL) (xr_10_5 hL) dX7_takeClause_61 ?_
        refine ww_iconst hX (pc := 64) (x := 2) dX7_takeClause_64 rfl ?_
        refine ww_aload_n hX (pc := 65) dX7_takeClause_65 rfl ?_
        refine ww_getI hX (pc := 66) fX7_47 (by decide) (xs_10 hL) dX7_takeClause_66 ?_
        refine ww_imul hX (pc := 69) dX7_takeClause_69 ?_
        refine ww_iconst hX (pc := 70) (x := 1) dX7_takeClause_70 rfl ?_
        refine ww_iadd hX (pc := 71) dX7_takeClause_71 ?_
        refine ww_aload_n hX (pc := 72) dX7_takeClause_72 rfl ?_
        refine ww_getI hX (pc := 73) fX7_41 (by decide) (xs_10 hL) dX7_takeClause_73 ?_
        refine ww_iast hX (pc := 76) (xs_14 hL) (by decide) (by omega) (by omega) dX7_takeClause_76 ?_
        refine ww_nmH (fun I_76 eI_76 => ?_)
        have kI_76 : Kp 10 15 Ia I_76 := by rw [eI_76]; exact Kp_up kI_52 _ _ (by decide)
        have r1_5_I_76 : I_76 1 5 = Ia 1 5 := Kp_at kI_76 1 5 (by decide)
        have r8_1_I_76 : I_76 8 1 = Ia 8 1 := Kp_at kI_76 8 1 (by decide)
        have rf_I_76 : FU (I_76 1 5) = FU (Ia 1 5) := by rw [r1_5_I_76]
        have lI_76 : LR I_76 := by rw [eI_76]; exact LR_c14 lI_52 _ (by omega) (by omega)
        have wI_76 : I_76 10 = I_52 10 := by rw [eI_76, up2_off _ _ _ (by decide)]
        have wI_76_6 : I_76 10 6 = I_52 10 6 := by rw [wI_76]
        have wI_76_7 : I_76 10 7 = I_52 10 7 := by rw [wI_76]
        have wI_76_8 : I_76 10 8 = I_52 10 8 := by rw [wI_76]
        have wI_76_9 : I_76 10 9 = I_52 10 9 := by rw [wI_76]
        have wI_76_10 : I_76 10 10 = I_52 10 10 := by rw [wI_76]
        have wI_76_11 : I_76 10 11 = I_52 10 11 := by rw [wI_76]
        have y13_I_76 : I_76 13 = I_52 13 := by rw [eI_76, up2_off _ _ _ (by decide)]
        have y14_I_76 := (congrFun eI_76 14).trans (up2_row _ _ _ _)
        have y12_I_76 : I_76 12 = I_52 12 := by rw [eI_76, up2_off _ _ _ (by decide)]
        have y11_I_76 : I_76 11 = I_52 11 := by rw [eI_76, up2_off _ _ _ (by decide)]
        have z0I_76 : I_76 10 0 = I_52 10 0 := by rw [wI_76]
        have tkI_76 : zTK I_76 cd vl T := zTK_fr tkI_52 y11_I_76 y12_I_76 (by rw [wI_76])
        have at76 : zAt I_76 T q9.1 q9.2.1 := zAt_fr hq2.1 wI_76 y11_I_76 y12_I_76
        have f3_76 : zF3 Ia I_76 := zF3_tr (⟨y11_I_49.trans fsI_32.1, y12_I_49.trans fsI_32.2.1, by rw [wI_49]; exact fsI_32.2.2.2⟩ : zF3 Ia I_49) (zF3_tr (zF3_f fsI_52) ⟨y11_I_76, y12_I_76, by rw [wI_76]⟩)
        refine ww_aload_n hX (pc := 77) dX7_takeClause_77 rfl ?_
        refine ww_getI hX (pc := 78) fX7_38 (by decide) (xs_10 hL) dX7_takeClause_78 ?_
        refine ww_sipush hX (pc := 81) (x := 259) dX7_takeClause_81 (by decide) ?_
        refine ww_icmp_ne hX (pc := 84) (tgt := 101) dX7_takeClause_84 (by decide) (fun h_84 => ?_) (fun h_84 => ?_)
        · simp only [w32_mod] at h_84
          have hc2 : ¬ cd q9.1 = 2 := fun h9 => by
            have := (zK_w tkI_76 at76 259 (by decide) (by decide)).mpr h9
            omega
          refine ww_aload_n hX (pc := 101) dX7_takeClause_101 rfl ?_
          refine ww_dupR hX (pc := 102) dX7_takeClause_102 ?_
          refine ww_getI hX (pc := 103) fX7_47 (by decide) (xs_10 hL) dX7_takeClause_103 ?_
          refine ww_iconst hX (pc := 106) (x := 1) dX7_takeClause_106 rfl ?_
          refine ww_iadd hX (pc := 107) dX7_takeClause_107 ?_
          refine ww_putI hX (pc := 108) (fun h9 => absurd h9 (by decide)) gX7_47 rfl (xs_10 hL) dX7_takeClause_108 ?_
          refine ww_nmH (fun I_108 eI_108 => ?_)
          have kI_108 : Kp 10 15 Ia I_108 := by rw [eI_108]; exact Kp_up kI_76 _ _ (by decide)
          have r1_5_I_108 : I_108 1 5 = Ia 1 5 := Kp_at kI_108 1 5 (by decide)
          have r8_1_I_108 : I_108 8 1 = Ia 8 1 := Kp_at kI_108 8 1 (by decide)
          have rf_I_108 : FU (I_108 1 5) = FU (Ia 1 5) := by rw [r1_5_I_108]
          have lI_108 : LR I_108 := by rw [eI_108]; exact LR_11 lI_76 (by omega) (by omega)
          have wI_108 := (congrFun (congrFun eI_108 10) 11).trans (up2_s _ _ _ _)
          have wI_108_6 : I_108 10 6 = I_76 10 6 := by rw [eI_108, up2_n _ _ (Or.inr (by decide))]
          have wI_108_7 : I_108 10 7 = I_76 10 7 := by rw [eI_108, up2_n _ _ (Or.inr (by decide))]
          have wI_108_8 : I_108 10 8 = I_76 10 8 := by rw [eI_108, up2_n _ _ (Or.inr (by decide))]
          have wI_108_9 : I_108 10 9 = I_76 10 9 := by rw [eI_108, up2_n _ _ (Or.inr (by decide))]
          have wI_108_10 : I_108 10 10 = I_76 10 10 := by rw [eI_108, up2_n _ _ (Or.inr (by decide))]
          have fsI_108 : zFr I_76 I_108 := by rw [eI_108]; exact zFr_f zFr_rf (by decide)
          have y13_I_108 : I_108 13 = I_76 13 := by rw [eI_108, up2_off _ _ _ (by decide)]
          have y14_I_108 : I_108 14 = I_76 14 := by rw [eI_108, up2_off _ _ _ (by decide)]
          have z0I_108 : I_108 10 0 = I_76 10 0 := by rw [eI_108, up2_n _ _ (Or.inr (by decide))]
          have tkI_108 : zTK I_108 cd vl T := zTK_f tkI_76 fsI_108
          have z0_108 : I_108 10 0 = I_76 10 0 := by rw [eI_108, up2_n _ _ (Or.inr (by decide))]
          refine ww_aload_n hX (pc := 111) dX7_takeClause_111 rfl ?_
          refine ww_getR hX (pc := 112) fX7_25 (by decide) (xs_10 hL) (xr_10_5 hL) dX7_takeClause_112 ?_
          refine ww_iconst hX (pc := 115) (x := 2) dX7_takeClause_115 rfl ?_
          refine ww_aload_n hX (pc := 116) dX7_takeClause_116 rfl ?_
          refine ww_getI hX (pc := 117) fX7_47 (by decide) (xs_10 hL) dX7_takeClause_117 ?_
          refine ww_imul hX (pc := 120) dX7_takeClause_120 ?_
          refine ww_aload_n hX (pc := 121) dX7_takeClause_121 rfl ?_
          refine ww_getI hX (pc := 122) fX7_41 (by decide) (xs_10 hL) dX7_takeClause_122 ?_
          refine ww_iast hX (pc := 125) (xs_14 hL) (by decide) (by omega) (by omega) dX7_takeClause_125 ?_
          refine ww_nmH (fun I_125 eI_125 => ?_)
          have kI_125 : Kp 10 15 Ia I_125 := by rw [eI_125]; exact Kp_up kI_108 _ _ (by decide)
          have r1_5_I_125 : I_125 1 5 = Ia 1 5 := Kp_at kI_125 1 5 (by decide)
          have r8_1_I_125 : I_125 8 1 = Ia 8 1 := Kp_at kI_125 8 1 (by decide)
          have rf_I_125 : FU (I_125 1 5) = FU (Ia 1 5) := by rw [r1_5_I_125]
          have lI_125 : LR I_125 := by rw [eI_125]; exact LR_c14 lI_108 _ (by omega) (by omega)
          have wI_125 : I_125 10 = I_108 10 := by rw [eI_125, up2_off _ _ _ (by decide)]
          have wI_125_6 : I_125 10 6 = I_108 10 6 := by rw [wI_125]
          have wI_125_7 : I_125 10 7 = I_108 10 7 := by rw [wI_125]
          have wI_125_8 : I_125 10 8 = I_108 10 8 := by rw [wI_125]
          have wI_125_9 : I_125 10 9 = I_108 10 9 := by rw [wI_125]
          have wI_125_10 : I_125 10 10 = I_108 10 10 := by rw [wI_125]
          have wI_125_11 : I_125 10 11 = I_108 10 11 := by rw [wI_125]
          have y13_I_125 : I_125 13 = I_108 13 := by rw [eI_125, up2_off _ _ _ (by decide)]
          have y14_I_125 := (congrFun eI_125 14).trans (up2_row _ _ _ _)
          have y12_I_125 : I_125 12 = I_108 12 := by rw [eI_125, up2_off _ _ _ (by decide)]
          have y11_I_125 : I_125 11 = I_108 11 := by rw [eI_125, up2_off _ _ _ (by decide)]
          have z0I_125 : I_125 10 0 = I_108 10 0 := by rw [wI_125]
          have tkI_125 : zTK I_125 cd vl T := zTK_fr tkI_108 y11_I_125 y12_I_125 (by rw [wI_125])
          refine ww_iconst hX (pc := 126) (x := 1) dX7_takeClause_126 rfl ?_
          refine rZ hX (pc := 127) hT (Nat.le_refl 0) (Nat.le_refl 0) dX7_takeClause_127 (by decide) ?_
          exact ⟨kI_125, kJ_52, lI_125, zF3_tr f3_76 (zF3_tr (zF3_f fsI_108) ⟨y11_I_125, y12_I_125, by rw [wI_125]⟩), by omega, zCO_n hk hc1 hq1 hc2 hq2 (by rw [wI_49]; exact yI_32.2.2.1) (y13_I_49.trans yI_32.2.2.2.2.1) (by rw [wI_49]; exact yI_32.2.2.2.2.2) (y12_I_49.trans fsI_32.2.1) (by omega) (by omega) (by omega) (by omega) (by omega) (by omega) (by omega) (by rw [wI_125, z0_108, wI_76]) (y11_I_125.trans (fsI_108.1.trans y11_I_76)) (y12_I_125.trans (fsI_108.2.1.trans y12_I_76)) fsI_52.2.1 (y13_I_125.trans (y13_I_108.trans y13_I_76)) (by omega) (zM3_mk (by rw [y14_I_125, y14_I_108, y14_I_76, fsI_52.2.2.1, y14_I_49, fsI_32.2.2.1]) (by omega) (by omega) (by omega) (by omega) (by omega) (by omega)) rfl⟩
        · simp only [w32_mod] at h_84
          have hc2 : cd q9.1 = 2 := (zK_w tkI_76 at76 259 (by decide) (by decide)).mp (by omega)
          refine ww_aload_n hX (pc := 87) dX7_takeClause_87 rfl ?_
          refine vV0 hX (pc := 88) sX7_71 (xs_10 hL) (c6_X7_advance l0 hL (XI_kp hI kI_76 (by decide)) lI_76) (by decide) (Nat.le_refl 0) (Nat.le_refl 0) (Nat.le_of_ble_eq_true rfl) dX7_takeClause_88 (fun I_88 J_88 h_88 => ?_)
          have kI_88 : Kp 10 15 Ia I_88 := Kp_tr kI_76 (Kp_wd h_88.1 (by decide) (by decide))
          have kJ_88 : Kp 10 15 Ja J_88 := Kp_tr kJ_52 (Kp_wd h_88.2.1 (by decide) (by decide))
          have r1_5_I_88 : I_88 1 5 = Ia 1 5 := Kp_at kI_88 1 5 (by decide)
          have r8_1_I_88 : I_88 8 1 = Ia 8 1 := Kp_at kI_88 8 1 (by decide)
          have rf_I_88 : FU (I_88 1 5) = FU (Ia 1 5) := by rw [r1_5_I_88]
          have lI_88 : LR I_88 := h_88.2.2.1
          have qI_88 := lI_88.1
          unfold LRf at qI_88
          have cI_88 := h_88.2.2.2.1
          have fsI_88 : zFr I_76 I_88 := h_88.2.2.2.2.1
          have xrI_88 := h_88.2.2.2.2.2.1
          have yI_88 := h_88.2.2.2.2.2.2
          have tkI_88 : zTK I_88 cd vl T := zTK_f tkI_76 fsI_88
          have av88 := zAt_av tkI_76 at76 (by omega) fsI_88 yI_88
          have at88 := av88.1
          refine ww_aload_n hX (pc := 91) dX7_takeClause_91 rfl ?_
          refine ww_iconst hX (pc := 92) (x := 0) dX7_takeClause_92 rfl ?_
          refine vI1 hX (pc := 93) sX7_78 (xs_10 hL) (c_QTest l0 8 (by decide) hL (XI_kp hI kI_88 (by decide)) lI_88 tkI_88 at88) (by decide) (Nat.le_refl 0) (Nat.le_refl 0) (Nat.le_of_ble_eq_true rfl) dX7_takeClause_93 (fun x_93 I_93 J_93 h_93 => ?_)
          have kI_93 : Kp 10 15 Ia I_93 := Kp_tr kI_88 (Kp_wd h_93.1 (by decide) (by decide))
          have kJ_93 : Kp 10 15 Ja J_93 := Kp_tr kJ_88 (Kp_wd h_93.2.1 (by decide) (by decide))
          have r1_5_I_93 : I_93 1 5 = Ia 1 5 := Kp_at kI_93 1 5 (by decide)
          have r8_1_I_93 : I_93 8 1 = Ia 8 1 := Kp_at kI_93 8 1 (by decide)
          have rf_I_93 : FU (I_93 1 5) = FU (Ia 1 5) := by rw [r1_5_I_93]
          have lI_93 : LR I_93 := h_93.2.2.1
          have qI_93 := lI_93.1
          unfold LRf at qI_93
          have cI_93 := h_93.2.2.2.1
          have fsI_93 : zFr I_88 I_93 := h_93.2.2.2.2.1
          have xrI_93 := h_93.2.2.2.2.2.1
          have yI_93 := h_93.2.2.2.2.2.2
          have tkI_93 : zTK I_93 cd vl T := zTK_f tkI_88 fsI_93
          refine ww_if_ne hX (pc := 96) (tgt := 101) dX7_takeClause_96 (by decide) (fun h_96 => ?_) (fun h_96 => ?_)
          · simp only [w32_mod] at h_96
            obtain ⟨r9, hr1, hr2⟩ := zPO_1 yI_93 (by omega)
            refine ww_aload_n hX (pc := 101) dX7_takeClause_101 rfl ?_
            refine ww_dupR hX (pc := 102) dX7_takeClause_102 ?_
            refine ww_getI hX (pc := 103) fX7_47 (by decide) (xs_10 hL) dX7_takeClause_103 ?_
            refine ww_iconst hX (pc := 106) (x := 1) dX7_takeClause_106 rfl ?_
            refine ww_iadd hX (pc := 107) dX7_takeClause_107 ?_
            refine ww_putI hX (pc := 108) (fun h9 => absurd h9 (by decide)) gX7_47 rfl (xs_10 hL) dX7_takeClause_108 ?_
            refine ww_nmH (fun I_108 eI_108 => ?_)
            have kI_108 : Kp 10 15 Ia I_108 := by rw [eI_108]; exact Kp_up kI_93 _ _ (by decide)
            have r1_5_I_108 : I_108 1 5 = Ia 1 5 := Kp_at kI_108 1 5 (by decide)
            have r8_1_I_108 : I_108 8 1 = Ia 8 1 := Kp_at kI_108 8 1 (by decide)
            have rf_I_108 : FU (I_108 1 5) = FU (Ia 1 5) := by rw [r1_5_I_108]
            have lI_108 : LR I_108 := by rw [eI_108]; exact LR_11 lI_93 (by omega) (by omega)
            have wI_108 := (congrFun (congrFun eI_108 10) 11).trans (up2_s _ _ _ _)
            have wI_108_6 : I_108 10 6 = I_93 10 6 := by rw [eI_108, up2_n _ _ (Or.inr (by decide))]
            have wI_108_7 : I_108 10 7 = I_93 10 7 := by rw [eI_108, up2_n _ _ (Or.inr (by decide))]
            have wI_108_8 : I_108 10 8 = I_93 10 8 := by rw [eI_108, up2_n _ _ (Or.inr (by decide))]
            have wI_108_9 : I_108 10 9 = I_93 10 9 := by rw [eI_108, up2_n _ _ (Or.inr (by decide))]
            have wI_108_10 : I_108 10 10 = I_93 10 10 := by rw [eI_108, up2_n _ _ (Or.inr (by decide))]
            have fsI_108 : zFr I_93 I_108 := by rw [eI_108]; exact zFr_f zFr_rf (by decide)
            have y13_I_108 : I_108 13 = I_93 13 := by rw [eI_108, up2_off _ _ _ (by decide)]
            have y14_I_108 : I_108 14 = I_93 14 := by rw [eI_108, up2_off _ _ _ (by decide)]
            have z0I_108 : I_108 10 0 = I_93 10 0 := by rw [eI_108, up2_n _ _ (Or.inr (by decide))]
            have tkI_108 : zTK I_108 cd vl T := zTK_f tkI_93 fsI_108
            have z0_108 : I_108 10 0 = I_93 10 0 := by rw [eI_108, up2_n _ _ (Or.inr (by decide))]
            refine ww_aload_n hX (pc := 111) dX7_takeClause_111 rfl ?_
            refine ww_getR hX (pc := 112) fX7_25 (by decide) (xs_10 hL) (xr_10_5 hL) dX7_takeClause_112 ?_
            refine ww_iconst hX (pc := 115) (x := 2) dX7_takeClause_115 rfl ?_
            refine ww_aload_n hX (pc := 116) dX7_takeClause_116 rfl ?_
            refine ww_getI hX (pc := 117) fX7_47 (by decide) (xs_10 hL) dX7_takeClause_117 ?_
            refine ww_imul hX (pc := 120) dX7_takeClause_120 ?_
            refine ww_aload_n hX (pc := 121) dX7_takeClause_121 rfl ?_
            refine ww_getI hX (pc := 122) fX7_41 (by decide) (xs_10 hL) dX7_takeClause_122 ?_
            refine ww_iast hX (pc := 125) (xs_14 hL) (by decide) (by omega) (by omega) dX7_takeClause_125 ?_
            refine ww_nmH (fun I_125 eI_125 => ?_)
            have kI_125 : Kp 10 15 Ia I_125 := by rw [eI_125]; exact Kp_up kI_108 _ _ (by decide)
            have r1_5_I_125 : I_125 1 5 = Ia 1 5 := Kp_at kI_125 1 5 (by decide)
            have r8_1_I_125 : I_125 8 1 = Ia 8 1 := Kp_at kI_125 8 1 (by decide)
            have rf_I_125 : FU (I_125 1 5) = FU (Ia 1 5) := by rw [r1_5_I_125]
            have lI_125 : LR I_125 := by rw [eI_125]; exact LR_c14 lI_108 _ (by omega) (by omega)
            have wI_125 : I_125 10 = I_108 10 := by rw [eI_125, up2_off _ _ _ (by decide)]
            have wI_125_6 : I_125 10 6 = I_108 10 6 := by rw [wI_125]
            have wI_125_7 : I_125 10 7 = I_108 10 7 := by rw [wI_125]
            have wI_125_8 : I_125 10 8 = I_108 10 8 := by rw [wI_125]
            have wI_125_9 : I_125 10 9 = I_108 10 9 := by rw [wI_125]
            have wI_125_10 : I_125 10 10 = I_108 10 10 := by rw [wI_125]
            have wI_125_11 : I_125 10 11 = I_108 10 11 := by rw [wI_125]
            have y13_I_125 : I_125 13 = I_108 13 := by rw [eI_125, up2_off _ _ _ (by decide)]
            have y14_I_125 := (congrFun eI_125 14).trans (up2_row _ _ _ _)
            have y12_I_125 : I_125 12 = I_108 12 := by rw [eI_125, up2_off _ _ _ (by decide)]
            have y11_I_125 : I_125 11 = I_108 11 := by rw [eI_125, up2_off _ _ _ (by decide)]
            have z0I_125 : I_125 10 0 = I_108 10 0 := by rw [wI_125]
            have tkI_125 : zTK I_125 cd vl T := zTK_fr tkI_108 y11_I_125 y12_I_125 (by rw [wI_125])
            refine ww_iconst hX (pc := 126) (x := 1) dX7_takeClause_126 rfl ?_
            refine rZ hX (pc := 127) hT (Nat.le_refl 0) (Nat.le_refl 0) dX7_takeClause_127 (by decide) ?_
            exact ⟨kI_125, kJ_93, lI_125, zF3_tr f3_76 (zF3_tr (zF3_f fsI_88) (zF3_tr (zF3_f fsI_93) (zF3_tr (zF3_f fsI_108) ⟨y11_I_125, y12_I_125, by rw [wI_125]⟩))), by omega, zCO_s hk hc1 hq1 hc2 hq2 (by rw [wI_49]; exact yI_32.2.2.1) (y13_I_49.trans yI_32.2.2.2.2.1) (by rw [wI_49]; exact yI_32.2.2.2.2.2) (y12_I_49.trans fsI_32.2.1) hr1 hr2 (by rw [yI_88.2.2.1, wI_76]) (yI_88.2.2.2.2.1.trans y13_I_76) (by rw [yI_88.2.2.2.2.2, wI_76]) (by omega) (by omega) (by omega) (by omega) (by omega) (by omega) (by omega) (by rw [wI_125, z0_108]) (y11_I_125.trans fsI_108.1) (y12_I_125.trans fsI_108.2.1) (fsI_93.2.1.trans (fsI_88.2.1.trans f3_76.2.1)) (y13_I_125.trans y13_I_108) (by omega) (zM3_mk (by rw [y14_I_125, y14_I_108, fsI_93.2.2.1, fsI_88.2.2.1, y14_I_76, fsI_52.2.2.1, y14_I_49, fsI_32.2.2.1]) (by omega) (by omega) (by omega) (by omega) (by omega) (by omega)) rfl⟩
          · simp only [w32_mod] at h_96
            refine ww_iconst hX (pc := 99) (x := 0) dX7_takeClause_99 rfl ?_
            refine rZ hX (pc := 100) hT (Nat.le_refl 0) (Nat.le_refl 0) dX7_takeClause_100 (by decide) ?_
            exact ⟨kI_93, kJ_93, lI_93, zF3_tr f3_76 (zF3_tr (zF3_f fsI_88) (zF3_f fsI_93)), by omega, zCO_g (fsI_88.2.1.trans f3_76.2.1) hc1 hq1 hc2 yI_93 (by omega) rfl⟩
      · simp only [w32_mod] at h_55
        refine ww_iconst hX (pc := 58) (x := 0) dX7_takeClause_58 rfl ?_
        refine rZ hX (pc := 59) hT (Nat.le_refl 0) (Nat.le_refl 0) dX7_takeClause_59 (by decide) ?_
        exact ⟨kI_52, kJ_52, lI_52, zF3_tr (⟨y11_I_49.trans fsI_32.1, y12_I_49.trans fsI_32.2.1, by rw [wI_49]; exact fsI_32.2.2.2⟩ : zF3 Ia I_49) (zF3_f fsI_52), by omega, zCO_f (y12_I_49.trans fsI_32.2.1) hc1 yI_52 (by omega) rfl⟩
    · simp only [w32_mod] at h_23
      exfalso
      omega
set_option maxHeartbeats 4000000 in
set_option maxRecDepth 20000 in
theorem c6_X7_takeClauses (l0 : Launch) {Ia Ja : aI1} {Ra : aR1} {Sa : aS1} (hL : LY Ra Sa) (hI : XI Ia) (hR : LR Ia) {cd vl : Nat → Int} {T : Nat} (hk : zTK Ia cd vl T) (ha : zAt Ia T 0 0) (hc0 : Ia 10 11 = 0)  : CT l0 292 0 0 mX7_takeClauses [kR (some 10)] Ia Ja Ra Sa (cI (fun x I' J' => Kp 10 15 Ia I' ∧ Kp 10 15 Ja J' ∧ LR I' ∧ zF3 Ia I' ∧ (x = 0 ∨ x = 1) ∧ zLO Ia I' T x (zLw cd vl T 12 0 0)) Ra Sa) := by
  refine ct_in pn_X7 (Nat.le_of_ble_eq_true rfl) (fun X hX hT hIn => ?_)
  have hX : aK l0 X cX7_takeClauses 2 RX7 (some .boolean) 292 0 0 := hX
  change WW X 0 [some (kR (some 10)), none] [] Ia Ja Ra Sa 0 0
  obtain ⟨hn1, hn2⟩ := hI.1
  obtain ⟨hk1, hk2⟩ := hI.2.1
  obtain ⟨hf1, hf2⟩ := hI.fu
  obtain ⟨hl1, hl2⟩ := hI.2.2.2.2.2.2.1
  have hq := hR.1
  unfold LRf at hq
  refine ww_iconst hX (pc := 0) (x := 0) dX7_takeClauses_0 rfl ?_
  refine ww_istore_n hX (pc := 1) (lv' := [some (kR (some 10)), some (kI 0)]) dX7_takeClauses_1 (by decide) rfl rfl ?_
  have hl_2 : ∀ (n_2 : Nat) (i : Int) (I2 : aI1) (J2 : aI1), (12 - i).toNat = n_2 → (Kp 10 15 Ia I2 ∧ Kp 10 15 Ja J2 ∧ LR I2 ∧ True ∧ (0 ≤ i ∧ i ≤ 12) ∧ zF3 Ia I2 ∧ I2 10 0 = Ia 10 0 ∧ I2 10 11 = i ∧ zLI2 cd vl (12 - i).toNat I2 T (zLw cd vl T 12 0 0)) → WW X 2 [some (kR (some 10)), some (kI i)] [] I2 J2 Ra Sa 0 0 := by
    intro n_2
    induction n_2 using Nat.strongRecOn with
    | ind n_2 ih_2 =>
      intro i I2 J2 hm_2 hv_2
      have hq_2 := Sh0_i hm_2
      clear hm_2
      obtain ⟨kI2, kJ2, lI2, cI2, hi9, f3I2, z0I2, hci, hli⟩ := hv_2
      have r1_5_I2 : I2 1 5 = Ia 1 5 := Kp_at kI2 1 5 (by decide)
      have r8_1_I2 : I2 8 1 = Ia 8 1 := Kp_at kI2 8 1 (by decide)
      have rf_I2 : FU (I2 1 5) = FU (Ia 1 5) := by rw [r1_5_I2]
      have qI2 := lI2.1
      unfold LRf at qI2
      obtain ⟨ac, t, l, hat, h1, h2, h3, h4, hr⟩ := hli
      have tkI2 : zTK I2 cd vl T := zTK_3 hk f3I2
      refine ww_iload_n hX (pc := 2) dX7_takeClauses_2 rfl ?_
      refine ww_bipush hX (pc := 3) (x := 12) dX7_takeClauses_3 (by decide) ?_
      refine ww_icmp_ge hX (pc := 5) (tgt := 53) dX7_takeClauses_5 (by decide) (fun h_5 => ?_) (fun h_5 => ?_)
      · simp only [w32_mod] at h_5
        refine ww_aload_n hX (pc := 53) dX7_takeClauses_53 rfl ?_
        refine vI0 hX (pc := 54) sX7_68 (xs_10 hL) (c6_X7_fail l0 hL (XI_kp hI kI2 (by decide)) lI2) (by decide) (Nat.le_refl 0) (Nat.le_refl 0) (Nat.le_of_ble_eq_true rfl) dX7_takeClauses_54 (fun x_54 I_54 J_54 h_54 => ?_)
        have kI_54 : Kp 10 15 Ia I_54 := Kp_tr kI2 (Kp_wd h_54.1 (by decide) (by decide))
        have kJ_54 : Kp 10 15 Ja J_54 := Kp_tr kJ2 (Kp_wd h_54.2.1 (by decide) (by decide))
        have r1_5_I_54 : I_54 1 5 = Ia 1 5 := Kp_at kI_54 1 5 (by decide)
        have r8_1_I_54 : I_54 8 1 = Ia 8 1 := Kp_at kI_54 8 1 (by decide)
        have rf_I_54 : FU (I_54 1 5) = FU (Ia 1 5) := by rw [r1_5_I_54]
        have lI_54 : LR I_54 := h_54.2.2.1
        have qI_54 := lI_54.1
        unfold LRf at qI_54
        have cI_54 := h_54.2.2.2.1
        have fsI_54 : zFr I2 I_54 := h_54.2.2.2.2.1
        have xrI_54 := h_54.2.2.2.2.2.1
        have yI_54 := h_54.2.2.2.2.2.2
        have tkI_54 : zTK I_54 cd vl T := zTK_f tkI2 fsI_54
        refine rZ hX (pc := 57) hT (Nat.le_refl 0) (Nat.le_refl 0) dX7_takeClauses_57 (by omega) ?_
        exact ⟨kI_54, kJ_54, lI_54, zF3_tr f3I2 (zF3_f fsI_54), by omega, zLO_c9 f3I2.2.1 hr (by omega) hat yI_54⟩
      · simp only [w32_mod] at h_5
        have hr9 : zLa ac (zLw cd vl T ((12 - i).toNat - 1 + 1) t l) = (zLw cd vl T 12 0 0) := by rw [show (12 - i).toNat - 1 + 1 = (12 - i).toNat by omega]; exact hr
        refine ww_aload_n hX (pc := 8) dX7_takeClauses_8 rfl ?_
        refine vI0 hX (pc := 9) sX7_65 (xs_10 hL) (c6_X7_takeClause l0 hL (XI_kp hI kI2 (by decide)) lI2 tkI2 hat (by omega)) (by decide) (Nat.le_refl 0) (Nat.le_refl 0) (Nat.le_of_ble_eq_true rfl) dX7_takeClauses_9 (fun x_9 I_9 J_9 h_9 => ?_)
        have kI_9 : Kp 10 15 Ia I_9 := Kp_tr kI2 (Kp_wd h_9.1 (by decide) (by decide))
        have kJ_9 : Kp 10 15 Ja J_9 := Kp_tr kJ2 (Kp_wd h_9.2.1 (by decide) (by decide))
        have r1_5_I_9 : I_9 1 5 = Ia 1 5 := Kp_at kI_9 1 5 (by decide)
        have r8_1_I_9 : I_9 8 1 = Ia 8 1 := Kp_at kI_9 8 1 (by decide)
        have rf_I_9 : FU (I_9 1 5) = FU (Ia 1 5) := by rw [r1_5_I_9]
        have lI_9 : LR I_9 := h_9.2.2.1
        have qI_9 := lI_9.1
        unfold LRf at qI_9
        have f3I_9 := h_9.2.2.2.1
        have xrI_9 := h_9.2.2.2.2.1
        have yI_9 := h_9.2.2.2.2.2
        have tkI_9 : zTK I_9 cd vl T := zTK_3 tkI2 f3I_9
        refine ww_if_ne hX (pc := 12) (tgt := 17) dX7_takeClauses_12 (by decide) (fun h_12 => ?_) (fun h_12 => ?_)
        · simp only [w32_mod] at h_12
          obtain ⟨q9, hq1, hq2⟩ := zCO_1 yI_9 (by omega)
          refine ww_aload_n hX (pc := 17) dX7_takeClauses_17 rfl ?_
          refine ww_getI hX (pc := 18) fX7_38 (by decide) (xs_10 hL) dX7_takeClauses_18 ?_
          refine ww_sipush hX (pc := 21) (x := 256) dX7_takeClauses_21 (by decide) ?_
          refine ww_icmp_ne hX (pc := 24) (tgt := 29) dX7_takeClauses_24 (by decide) (fun h_24 => ?_) (fun h_24 => ?_)
          · simp only [w32_mod] at h_24
            have hT9 : ¬ q9.1 = T := fun h9 => by
              have := (zK_e tkI_9 hq2.2.1).mpr h9
              omega
            refine ww_aload_n hX (pc := 29) dX7_takeClauses_29 rfl ?_
            refine ww_getI hX (pc := 30) fX7_38 (by decide) (xs_10 hL) dX7_takeClauses_30 ?_
            refine ww_bipush hX (pc := 33) (x := 59) dX7_takeClauses_33 (by decide) ?_
            refine ww_icmp_eq hX (pc := 35) (tgt := 43) dX7_takeClauses_35 (by decide) (fun h_35 => ?_) (fun h_35 => ?_)
            · simp only [w32_mod] at h_35
              have hc9 : cd q9.1 = 159 := (zK_b tkI_9 hq2.2.1 59 (by decide) (by decide)).mp (by omega)
              refine ww_aload_n hX (pc := 43) dX7_takeClauses_43 rfl ?_
              refine vV0 hX (pc := 44) sX7_71 (xs_10 hL) (c6_X7_advance l0 hL (XI_kp hI kI_9 (by decide)) lI_9) (by decide) (Nat.le_refl 0) (Nat.le_refl 0) (Nat.le_of_ble_eq_true rfl) dX7_takeClauses_44 (fun I_44 J_44 h_44 => ?_)
              have kI_44 : Kp 10 15 Ia I_44 := Kp_tr kI_9 (Kp_wd h_44.1 (by decide) (by decide))
              have kJ_44 : Kp 10 15 Ja J_44 := Kp_tr kJ_9 (Kp_wd h_44.2.1 (by decide) (by decide))
              have r1_5_I_44 : I_44 1 5 = Ia 1 5 := Kp_at kI_44 1 5 (by decide)
              have r8_1_I_44 : I_44 8 1 = Ia 8 1 := Kp_at kI_44 8 1 (by decide)
              have rf_I_44 : FU (I_44 1 5) = FU (Ia 1 5) := by rw [r1_5_I_44]
              have lI_44 : LR I_44 := h_44.2.2.1
              have qI_44 := lI_44.1
              unfold LRf at qI_44
              have cI_44 := h_44.2.2.2.1
              have fsI_44 : zFr I_9 I_44 := h_44.2.2.2.2.1
              have xrI_44 := h_44.2.2.2.2.2.1
              have yI_44 := h_44.2.2.2.2.2.2
              have tkI_44 : zTK I_44 cd vl T := zTK_f tkI_9 fsI_44
              have av44 := zAt_av tkI_9 hq2.2.1 (by omega) fsI_44 yI_44
              have at44 := av44.1
              refine ww_iinc hX (pc := 47) (lv' := [some (kR (some 10)), some (kI (i + 1))]) dX7_takeClauses_47 rfl (by decide) rfl rfl ?_
              refine ww_goto hX (pc := 50) (tgt := 2) dX7_takeClauses_50 (by decide) ?_
              exact ih_2 _ (by have hm9 := Sh0_e hq_2; omega) (i + 1) I_44 J_44 rfl ⟨kI_44, kJ_44, lI_44, trivial, by omega, zF3_tr f3I2 (zF3_tr f3I_9 (zF3_f fsI_44)), (by rw [yI_44.2.2.2.2.2, hq2.2.2.2.2.2.2.2.2.2, z0I2]), (by have := hq2.2.2.1; omega), (by rw [show (12 - (i + 1)).toNat = (12 - i).toNat - 1 by omega]; exact zLI2_s hr9 h1 h2 h3 h4 hq1 hq2 hT9 hc9 at44 yI_44.2.2.2.2.1 fsI_44.2.2.1 yI_44.2.2.1 (by omega))⟩
            · simp only [w32_mod] at h_35
              have hc9 : ¬ cd q9.1 = 159 := fun h9 => by
                have := (zK_b tkI_9 hq2.2.1 59 (by decide) (by decide)).mpr h9
                omega
              refine ww_aload_n hX (pc := 38) dX7_takeClauses_38 rfl ?_
              refine vI0 hX (pc := 39) sX7_68 (xs_10 hL) (c6_X7_fail l0 hL (XI_kp hI kI_9 (by decide)) lI_9) (by decide) (Nat.le_refl 0) (Nat.le_refl 0) (Nat.le_of_ble_eq_true rfl) dX7_takeClauses_39 (fun x_39 I_39 J_39 h_39 => ?_)
              have kI_39 : Kp 10 15 Ia I_39 := Kp_tr kI_9 (Kp_wd h_39.1 (by decide) (by decide))
              have kJ_39 : Kp 10 15 Ja J_39 := Kp_tr kJ_9 (Kp_wd h_39.2.1 (by decide) (by decide))
              have r1_5_I_39 : I_39 1 5 = Ia 1 5 := Kp_at kI_39 1 5 (by decide)
              have r8_1_I_39 : I_39 8 1 = Ia 8 1 := Kp_at kI_39 8 1 (by decide)
              have rf_I_39 : FU (I_39 1 5) = FU (Ia 1 5) := by rw [r1_5_I_39]
              have lI_39 : LR I_39 := h_39.2.2.1
              have qI_39 := lI_39.1
              unfold LRf at qI_39
              have cI_39 := h_39.2.2.2.1
              have fsI_39 : zFr I_9 I_39 := h_39.2.2.2.2.1
              have xrI_39 := h_39.2.2.2.2.2.1
              have yI_39 := h_39.2.2.2.2.2.2
              have tkI_39 : zTK I_39 cd vl T := zTK_f tkI_9 fsI_39
              refine rZ hX (pc := 42) hT (Nat.le_refl 0) (Nat.le_refl 0) dX7_takeClauses_42 (by omega) ?_
              exact ⟨kI_39, kJ_39, lI_39, zF3_tr f3I2 (zF3_tr f3I_9 (zF3_f fsI_39)), by omega, zLO_cn (f3I_9.2.1.trans f3I2.2.1) hr9 hq1 hq2.2.1 hT9 hc9 yI_39⟩
          · simp only [w32_mod] at h_24
            have hT9 : q9.1 = T := (zK_e tkI_9 hq2.2.1).mp (by omega)
            refine ww_iconst hX (pc := 27) (x := 1) dX7_takeClauses_27 rfl ?_
            refine rZ hX (pc := 28) hT (Nat.le_refl 0) (Nat.le_refl 0) dX7_takeClauses_28 (by decide) ?_
            exact ⟨kI_9, kJ_9, lI_9, zF3_tr f3I2 f3I_9, by omega, zLO_ce hr9 h1 h2 h3 h4 hq1 hq2 hT9 z0I2 rfl⟩
        · simp only [w32_mod] at h_12
          refine ww_iconst hX (pc := 15) (x := 0) dX7_takeClauses_15 rfl ?_
          refine rZ hX (pc := 16) hT (Nat.le_refl 0) (Nat.le_refl 0) dX7_takeClauses_16 (by decide) ?_
          exact ⟨kI_9, kJ_9, lI_9, zF3_tr f3I2 f3I_9, by omega, zLO_c0 f3I2.2.1 hr9 yI_9 (by omega) rfl⟩
  exact hl_2 _ 0 Ia Ja rfl ⟨(Kp_rf (a := 10) (b := 15)), (Kp_rf (a := 10) (b := 15)), hR, trivial, by omega, ⟨rfl, rfl, rfl⟩, rfl, by omega, zLI2_0 ha hc0⟩
end
section
/-! TOKENS of a TEXT as pure words: bytes f j, j < n -/
def zKl (x : Int) : Int := if 97 ≤ x ∧ x ≤ 122 then 1 else if 48 ≤ x ∧ x ≤ 57 then 2 else 0
theorem zKl_1 {x : Int} : zKl x = 1 ↔ 97 ≤ x ∧ x ≤ 122 := by
  unfold zKl
  repeat' split
  all_goals omega
theorem zKl_2 {x : Int} : zKl x = 2 ↔ 48 ≤ x ∧ x ≤ 57 := by
  unfold zKl
  repeat' split
  all_goals omega
theorem zKl_r (x : Int) : zKl x = 0 ∨ zKl x = 1 ∨ zKl x = 2 := by
  unfold zKl
  repeat' split
  all_goals omega
def zEnd (f : Nat → Int) (n : Nat) (c : Int) : Nat → Nat → Nat
  | 0, s => s
  | m + 1, s => if (s < n ∧ zKl (f s) = c) ∧ ¬ c = 0 then zEnd f n c m (s + 1) else s
theorem zEnd_s {f : Nat → Int} {n m s : Nat} {c : Int} (h1 : s < n) (h2 : zKl (f s) = c) (h3 : ¬ c = 0) : zEnd f n c (m + 1) s = zEnd f n c m (s + 1) := if_pos ⟨⟨h1, h2⟩, h3⟩
theorem zEnd_e {f : Nat → Int} {n s : Nat} {c : Int} (h : ¬ ((s < n ∧ zKl (f s) = c) ∧ ¬ c = 0)) : ∀ m, zEnd f n c m s = s
  | 0 => rfl
  | m + 1 => if_neg h
theorem zEnd_r {f : Nat → Int} {n : Nat} {c : Int} : ∀ m s, s ≤ n → s ≤ zEnd f n c m s ∧ zEnd f n c m s ≤ n
  | 0, s, h => ⟨Nat.le_refl _, h⟩
  | m + 1, s, h => by
    by_cases g : (s < n ∧ zKl (f s) = c) ∧ ¬ c = 0
    · rw [zEnd_s g.1.1 g.1.2 g.2]
      have := zEnd_r (f := f) (n := n) (c := c) m (s + 1) (by omega)
      omega
    · rw [zEnd_e g]
      omega
def zSt (f : Nat → Int) (n k : Nat) : Nat := zEnd f n (zKl (f k)) (n - (k + 1)) (k + 1)
theorem zSt_r {f : Nat → Int} {n k : Nat} (h : k < n) : k < zSt f n k ∧ zSt f n k ≤ n := by
  have := zEnd_r (f := f) (n := n) (c := zKl (f k)) (n - (k + 1)) (k + 1) (by omega)
  unfold zSt
  omega
/-- on the way to the stop -/
def zSW (f : Nat → Int) (n a q : Nat) : Prop := zEnd f n (zKl (f a)) (n - q) q = zSt f n a
theorem zSW_0 {f : Nat → Int} {n a : Nat} : zSW f n a (a + 1) := rfl
theorem zSW_s {f : Nat → Int} {n a q : Nat} (h : zSW f n a q) (hq : q < n) (hk : zKl (f q) = zKl (f a)) (h0 : ¬ zKl (f a) = 0) : zSW f n a (q + 1) := by
  unfold zSW at h ⊢
  rw [show n - q = (n - (q + 1)) + 1 by omega, zEnd_s hq hk h0] at h
  exact h
theorem zSW_e {f : Nat → Int} {n a q : Nat} (h : zSW f n a q) (he : ¬ ((q < n ∧ zKl (f q) = zKl (f a)) ∧ ¬ zKl (f a) = 0)) : q = zSt f n a := by
  unfold zSW at h
  rw [zEnd_e he] at h
  exact h
def zTs (f : Nat → Int) (n : Nat) : Nat → Nat → List (Nat × Nat)
  | 0, _ => []
  | m + 1, k => if k < n then (if f k = 32 then zTs f n m (k + 1) else (k, zSt f n k) :: zTs f n m (zSt f n k)) else []
theorem zTs_0 {f : Nat → Int} {n : Nat} : ∀ m k, ¬ k < n → zTs f n m k = []
  | 0, _, _ => rfl
  | m + 1, k, h => if_neg h
theorem zTs_fu {f : Nat → Int} {n : Nat} : ∀ m p k, n - k ≤ m → n - k ≤ p → zTs f n m k = zTs f n p k
  | 0, p, k, h, _ => by rw [zTs_0 p k (by omega)]; rfl
  | m + 1, 0, k, _, h => by rw [zTs_0 (m + 1) k (by omega)]; rfl
  | m + 1, p + 1, k, h, g => by
    show (if k < n then (if f k = 32 then zTs f n m (k + 1) else (k, zSt f n k) :: zTs f n m (zSt f n k)) else []) = (if k < n then (if f k = 32 then zTs f n p (k + 1) else (k, zSt f n k) :: zTs f n p (zSt f n k)) else [])
    by_cases hk : k < n
    · rw [if_pos hk, if_pos hk]
      have := zSt_r (f := f) hk
      rw [zTs_fu m p (k + 1) (by omega) (by omega), zTs_fu m p (zSt f n k) (by omega) (by omega)]
    · rw [if_neg hk, if_neg hk]
def zTk (f : Nat → Int) (n k : Nat) : List (Nat × Nat) := zTs f n (n - k) k
theorem zTk_0 {f : Nat → Int} {n k : Nat} (h : ¬ k < n) : zTk f n k = [] := zTs_0 _ _ h
theorem zTk_b {f : Nat → Int} {n k : Nat} (h : k < n) (hb : f k = 32) : zTk f n k = zTk f n (k + 1) := by
  unfold zTk
  rw [show n - k = (n - (k + 1)) + 1 by omega]
  exact (if_pos h).trans (if_pos hb)
theorem zTk_t {f : Nat → Int} {n k : Nat} (h : k < n) (hb : ¬ f k = 32) : zTk f n k = (k, zSt f n k) :: zTk f n (zSt f n k) := by
  unfold zTk
  have := zSt_r (f := f) h
  rw [show n - k = (n - (k + 1)) + 1 by omega]
  refine (if_pos h).trans ((if_neg hb).trans ?_)
  rw [zTs_fu (n - (k + 1)) (n - zSt f n k) (zSt f n k) (by omega) (by omega)]
theorem zTs_ord {f : Nat → Int} {n : Nat} : ∀ (m k t : Nat) (q : Nat × Nat), (zTs f n m k)[t]? = some q → k ≤ q.1 ∧ q.1 < q.2 ∧ q.2 ≤ n ∧ (∀ r, (zTs f n m k)[t + 1]? = some r → q.2 ≤ r.1)
  | 0, k, t, q, h => by
    have h9 : (([] : List (Nat × Nat)))[t]? = some q := h
    simp at h9
  | m + 1, k, t, q, h => by
    by_cases hk : k < n
    · by_cases hb : f k = 32
      · have e : zTs f n (m + 1) k = zTs f n m (k + 1) := (if_pos hk).trans (if_pos hb)
        rw [e] at h ⊢
        obtain ⟨h1, h2, h3, h4⟩ := zTs_ord m (k + 1) t q h
        exact ⟨by omega, h2, h3, h4⟩
      · have e : zTs f n (m + 1) k = (k, zSt f n k) :: zTs f n m (zSt f n k) := (if_pos hk).trans (if_neg hb)
        have hs := zSt_r (f := f) hk
        rw [e] at h ⊢
        cases t with
        | zero =>
          have h9 : (k, zSt f n k) = q := by simpa using h
          subst h9
          refine ⟨Nat.le_refl _, hs.1, hs.2, fun r hr => ?_⟩
          have h8 : (zTs f n m (zSt f n k))[0]? = some r := by simpa using hr
          exact (zTs_ord m (zSt f n k) 0 r h8).1
        | succ t =>
          have h8 : (zTs f n m (zSt f n k))[t]? = some q := by simpa using h
          obtain ⟨h1, h2, h3, h4⟩ := zTs_ord m (zSt f n k) t q h8
          exact ⟨by omega, h2, h3, fun r hr => h4 r (by simpa using hr)⟩
    · rw [zTs_0 _ _ hk] at h
      simp at h
theorem zTk_ord {f : Nat → Int} {n k t : Nat} {q : Nat × Nat} (h : (zTk f n k)[t]? = some q) : k ≤ q.1 ∧ q.1 < q.2 ∧ q.2 ≤ n ∧ (∀ r, (zTk f n k)[t + 1]? = some r → q.2 ≤ r.1) := zTs_ord _ k t q h
/-! words -/
def zWs : List (List Int) := [[114, 101, 97, 100, 115], [105, 102], [111, 114], [97, 110, 100], [110, 111, 116], [115, 116, 97, 116, 101], [108, 105, 116], [115, 117, 109], [109, 105, 120], [102, 105, 114, 115, 116], [108, 97, 115, 116], [108, 97, 109, 112, 115], [110, 101, 119, 115]]
abbrev zWm (f : Nat → Int) (a s : Nat) (w : List Int) : Prop := s = a + w.length ∧ ∀ i, i < w.length → f (a + i) = w.getD i 0
def zWo (f : Nat → Int) (a s : Nat) : List (List Int) → Int → Int
  | [], _ => 0
  | w :: ws, c => if zWm f a s w then c else zWo f a s ws (c + 1)
theorem zWo_at {f : Nat → Int} {a s : Nat} : ∀ (ws : List (List Int)) (c : Int) (j : Nat), j < ws.length → (∀ i, i < j → ¬ zWm f a s (ws.getD i [])) → zWm f a s (ws.getD j []) → zWo f a s ws c = c + j
  | [], _, _, h, _, _ => absurd h (Nat.not_lt_zero _)
  | w :: ws, c, 0, _, _, h => by
    refine (if_pos (show zWm f a s w from h)).trans ?_
    omega
  | w :: ws, c, j + 1, h, g, k => by
    have h0 : ¬ zWm f a s w := g 0 (by omega)
    refine (if_neg h0).trans ?_
    rw [zWo_at ws (c + 1) j (by simpa using h) (fun i hi => g (i + 1) (by omega)) k]
    omega
theorem zWo_no {f : Nat → Int} {a s : Nat} : ∀ (ws : List (List Int)) (c : Int), (∀ i, i < ws.length → ¬ zWm f a s (ws.getD i [])) → zWo f a s ws c = 0
  | [], _, _ => rfl
  | w :: ws, c, g => by
    have h0 : ¬ zWm f a s w := g 0 (by simp)
    exact (if_neg h0).trans (zWo_no ws (c + 1) (fun i hi => g (i + 1) (by simpa using hi)))
theorem zWo_in {f : Nat → Int} {a s : Nat} : ∀ (ws : List (List Int)) (c : Int), zWo f a s ws c = 0 ∨ ∃ j : Nat, j < ws.length ∧ zWo f a s ws c = c + j ∧ zWm f a s (ws.getD j [])
  | [], _ => Or.inl rfl
  | w :: ws, c => by
    by_cases h : zWm f a s w
    · refine Or.inr ⟨0, by simp, (if_pos h).trans ?_, h⟩
      omega
    · have e : zWo f a s (w :: ws) c = zWo f a s ws (c + 1) := if_neg h
      rw [e]
      rcases zWo_in ws (c + 1) with g | ⟨j, h1, h2, h3⟩
      · exact Or.inl g
      · exact Or.inr ⟨j + 1, by simpa using h1, by rw [h2]; omega, h3⟩
def zWn (f : Nat → Int) (a s j : Nat) : Prop := ∀ i, i < j → ¬ zWm f a s (zWs.getD i [])
theorem zWn_0 {f : Nat → Int} {a s : Nat} : zWn f a s 0 := fun _ h => absurd h (Nat.not_lt_zero _)
theorem zWn_s {f : Nat → Int} {a s j : Nat} (h : zWn f a s j) (g : ¬ zWm f a s (zWs.getD j [])) : zWn f a s (j + 1) := fun i hi => by
  by_cases e : i = j
  · rw [e]; exact g
  · exact h i (by omega)
/-- the code of a word: 0 for others -/
def zWc (f : Nat → Int) (a s : Nat) : Int := zWo f a s zWs 1
theorem zWc_at {f : Nat → Int} {a s j : Nat} (h : zWn f a s j) (hj : j < 13) (g : zWm f a s (zWs.getD j [])) : zWc f a s = j + 1 := by
  have := zWo_at zWs 1 j hj h g
  unfold zWc
  omega
theorem zWc_no {f : Nat → Int} {a s : Nat} (h : zWn f a s 13) : zWc f a s = 0 := zWo_no zWs 1 h
theorem zWc_r (f : Nat → Int) (a s : Nat) : (0 ≤ zWc f a s ∧ zWc f a s ≤ 13) ∧ (zWc f a s = 3 ∨ zWc f a s = 4 → a + 2 ≤ s) := by
  unfold zWc
  rcases zWo_in (f := f) (a := a) (s := s) zWs 1 with g | ⟨j, h1, h2, h3⟩
  · rw [g]
    exact ⟨by omega, fun h => absurd h (by decide)⟩
  · have h1 : j < 13 := h1
    rw [h2]
    refine ⟨by omega, fun h => ?_⟩
    have hs := h3.1
    rcases h with h | h
    · obtain rfl : j = 2 := by omega
      have : (zWs.getD 2 []).length = 2 := rfl
      omega
    · obtain rfl : j = 3 := by omega
      have : (zWs.getD 3 []).length = 3 := rfl
      omega
/-! numbers -/
def zNu (f : Nat → Int) (a : Nat) : Nat → Int
  | 0 => 0
  | m + 1 => if zNu f a m > 1000000 then zNu f a m else 10 * zNu f a m + f (a + m) - 48
theorem zNu_t {f : Nat → Int} {a m : Nat} (h : zNu f a m > 1000000) : zNu f a (m + 1) = zNu f a m := if_pos h
theorem zNu_f {f : Nat → Int} {a m : Nat} (h : ¬ zNu f a m > 1000000) : zNu f a (m + 1) = 10 * zNu f a m + f (a + m) - 48 := if_neg h
theorem zNu_r {f : Nat → Int} {a : Nat} : ∀ m, (∀ i, i < m → 48 ≤ f (a + i) ∧ f (a + i) ≤ 57) → 0 ≤ zNu f a m ∧ zNu f a m ≤ 10000009
  | 0, _ => ⟨Int.le_refl _, by show (0 : Int) ≤ 10000009; decide⟩
  | m + 1, h => by
    have h1 := zNu_r m (fun i hi => h i (by omega))
    have h2 := h m (by omega)
    by_cases g : zNu f a m > 1000000
    · rw [zNu_t g]; exact h1
    · rw [zNu_f g]; omega
theorem zNu_m {f : Nat → Int} {a m : Nat} (h : ∀ i, i < m + 1 → 48 ≤ f (a + i) ∧ f (a + i) ≤ 57) : min (zNu f a (m + 1)) 1001 = min (10 * min (zNu f a m) 1001 + f (a + m) - 48) 1001 := by
  have h1 := zNu_r m (fun i hi => h i (by omega))
  have h2 := h m (by omega)
  by_cases g : zNu f a m > 1000000
  · rw [zNu_t g]; omega
  · rw [zNu_f g]; omega
/-! codes and values of TOKENS -/
def zCo (f : Nat → Int) (a s : Nat) : Int := if zKl (f a) = 1 then zWc f a s else if zKl (f a) = 2 then 50 else 100 + f a
def zVa (f : Nat → Int) (a s : Nat) : Int := if zKl (f a) = 2 then zNu f a (s - a) else 0
theorem zCo_1 {f : Nat → Int} {a s : Nat} (h : zKl (f a) = 1) : zCo f a s = zWc f a s := if_pos h
theorem zCo_2 {f : Nat → Int} {a s : Nat} (h : zKl (f a) = 2) : zCo f a s = 50 := (if_neg (by omega)).trans (if_pos h)
theorem zCo_0 {f : Nat → Int} {a s : Nat} (h : zKl (f a) = 0) : zCo f a s = 100 + f a := (if_neg (by omega)).trans (if_neg (by omega))
theorem zVa_2 {f : Nat → Int} {a s : Nat} (h : zKl (f a) = 2) : zVa f a s = zNu f a (s - a) := if_pos h
theorem zVa_0 {f : Nat → Int} {a s : Nat} (h : ¬ zKl (f a) = 2) : zVa f a s = 0 := if_neg h
def zCd (f : Nat → Int) (L : List (Nat × Nat)) (t : Nat) : Int := match L[t]? with
  | some q => zCo f q.1 q.2
  | none => 0
def zVl (f : Nat → Int) (L : List (Nat × Nat)) (t : Nat) : Int := match L[t]? with
  | some q => zVa f q.1 q.2
  | none => 0
def zPc (n : Nat) (L : List (Nat × Nat)) (t : Nat) : Int := match L[t]? with
  | some q => (q.1 : Int)
  | none => (n : Int)
theorem zCd_s {f : Nat → Int} {L : List (Nat × Nat)} {t : Nat} {q : Nat × Nat} (h : L[t]? = some q) : zCd f L t = zCo f q.1 q.2 := by
  unfold zCd
  rw [h]
theorem zCd_n {f : Nat → Int} {L : List (Nat × Nat)} {t : Nat} (h : L[t]? = none) : zCd f L t = 0 := by
  unfold zCd
  rw [h]
theorem zVl_s {f : Nat → Int} {L : List (Nat × Nat)} {t : Nat} {q : Nat × Nat} (h : L[t]? = some q) : zVl f L t = zVa f q.1 q.2 := by
  unfold zVl
  rw [h]
theorem zVl_n {f : Nat → Int} {L : List (Nat × Nat)} {t : Nat} (h : L[t]? = none) : zVl f L t = 0 := by
  unfold zVl
  rw [h]
theorem zPc_s {n : Nat} {L : List (Nat × Nat)} {t : Nat} {q : Nat × Nat} (h : L[t]? = some q) : zPc n L t = q.1 := by
  unfold zPc
  rw [h]
theorem zPc_n {n : Nat} {L : List (Nat × Nat)} {t : Nat} (h : L[t]? = none) : zPc n L t = n := by
  unfold zPc
  rw [h]
/-! the class's rows of TOKENS -/
def zKo (f : Nat → Int) (a s : Nat) (k : Int) : Prop := zKd k (zCo f a s) (zVa f a s) ∧ ¬ k = 256 ∧ (zCo f a s = 3 ∨ zCo f a s = 4 → a + 2 ≤ s)
theorem zKo_w {f : Nat → Int} {a s : Nat} {k : Int} (h : zKl (f a) = 1) (hk : (zWc f a s = 0 ∧ k = 257) ∨ (1 ≤ zWc f a s ∧ zWc f a s ≤ 5 ∧ k = 257 + zWc f a s) ∨ (6 ≤ zWc f a s ∧ k = 5 - zWc f a s)) : zKo f a s k := by
  obtain ⟨h1, h2⟩ := zWc_r f a s
  unfold zKo zKd
  rw [zCo_1 h]
  exact ⟨by omega, by omega, h2⟩
theorem zKo_n {f : Nat → Int} {a s : Nat} {k : Int} (h : zKl (f a) = 2) (hd : ∀ i, i < s - a → 48 ≤ f (a + i) ∧ f (a + i) ≤ 57) (hk : k = 300 + min (zNu f a (s - a)) 1001) : zKo f a s k := by
  have h1 := zNu_r (s - a) hd
  unfold zKo zKd
  rw [zCo_2 h, zVa_2 h]
  exact ⟨by omega, by omega, by omega⟩
theorem zKo_b {f : Nat → Int} {a s : Nat} {k : Int} (h : zKl (f a) = 0) (hb : 0 ≤ f a ∧ f a ≤ 255) (hk : k = f a) : zKo f a s k := by
  unfold zKo zKd
  rw [zCo_0 h]
  exact ⟨by omega, by omega, by omega⟩
def zDn (f : Nat → Int) (dn : List (Nat × Nat)) (F G : Nat → Int) : Prop := ∀ t p, dn[t]? = some p → G t = p.1 ∧ zKo f p.1 p.2 (F t)
theorem zDn_0 {f F G : Nat → Int} : zDn f [] F G := fun t p h => by simp at h
theorem zDn_ad {f F G : Nat → Int} {dn : List (Nat × Nat)} {a s : Nat} {k v : Int} (h : zDn f dn F G) (hk : zKo f a s k) (hv : v = a) : zDn f (dn ++ [(a, s)]) (up1 F dn.length k) (up1 G dn.length v) := fun t p hp => by
  by_cases ht : t < dn.length
  · rw [List.getElem?_append_left ht] at hp
    rw [up1_n _ _ (by omega), up1_n _ _ (by omega)]
    exact h t p hp
  · have h2 : t = dn.length := by
      have := (List.getElem?_eq_some_iff.mp hp).1
      rw [List.length_append, List.length_singleton] at this
      omega
    subst h2
    rw [List.getElem?_append_right (Nat.le_refl _), Nat.sub_self] at hp
    cases hp
    rw [up1_s, up1_s]
    exact ⟨hv, hk⟩
theorem zTK_mk {f : Nat → Int} {n : Nat} {I : aI1} {L : List (Nat × Nat)} (hL : L = zTk f n 0) (hn : n ≤ 400) (h : zDn f L (I 11) (I 12)) (h6 : I 10 6 = L.length) (hT : L.length ≤ 400) (e1 : I 11 L.length = 256) (e2 : I 12 L.length = n) : zTK I (zCd f L) (zVl f L) L.length ∧ ∀ t, t ≤ L.length → I 12 t = zPc n L t := by
  have hN : L[L.length]? = none := List.getElem?_eq_none (Nat.le_refl _)
  have hs : ∀ t, t < L.length → ∃ q, L[t]? = some q := fun t ht => ⟨L[t], List.getElem?_eq_getElem ht⟩
  have hp : ∀ t, t ≤ L.length → I 12 t = zPc n L t := fun t ht => by
    by_cases e : t = L.length
    · rw [e, e2, zPc_n hN]
    · obtain ⟨q, hq⟩ := hs t (by omega)
      rw [zPc_s hq]
      exact (h t q hq).1
  have ho : ∀ t q, L[t]? = some q → q.1 < q.2 ∧ q.2 ≤ n ∧ (q.2 : Int) ≤ zPc n L (t + 1) := fun t q hq => by
    have hq2 := hq
    rw [hL] at hq2
    obtain ⟨-, o1, o2, o3⟩ := zTk_ord hq2
    refine ⟨o1, o2, ?_⟩
    cases hr : L[t + 1]? with
    | none => rw [zPc_n hr]; omega
    | some r =>
      rw [zPc_s hr]
      rw [hL] at hr
      have := o3 r hr
      omega
  refine ⟨⟨h6, hT, fun t ht => ?_, ⟨e1, zCd_n hN⟩, fun t ht => ?_, fun t ht => ?_⟩, hp⟩
  · by_cases e : t = L.length
    · rw [e, e1, zCd_n hN]
      exact Or.inl ⟨rfl, Or.inl rfl⟩
    · obtain ⟨q, hq⟩ := hs t (by omega)
      rw [zCd_s hq, zVl_s hq]
      exact (h t q hq).2.1
  · obtain ⟨q, hq⟩ := hs t ht
    obtain ⟨o1, o2, o3⟩ := ho t q hq
    obtain ⟨k1, k2, k3, k4⟩ := h t q hq
    rw [hp (t + 1) (by omega), k1, zCd_s hq]
    exact ⟨k3, by omega, fun hc => by have := k4 hc; omega⟩
  · rw [hp t ht]
    by_cases e : t = L.length
    · rw [e, zPc_n hN]
      omega
    · obtain ⟨q, hq⟩ := hs t (by omega)
      obtain ⟨o1, o2, o3⟩ := ho t q hq
      rw [zPc_s hq]
      omega
end
section
theorem zWs_l : ∀ n, n < 13 → (zWs.getD n []).length = strLen.getD n 0 := by
  have : ∀ n : Fin 13, (zWs.getD n.val []).length = strLen.getD n.val 0 := by decide
  exact fun n hn => this ⟨n, hn⟩
theorem chS_w {n : Nat} (hn : n < 13) {i : Nat} (hi : i < strLen.getD n 0) : chS n (i : Int) = (zWs.getD n []).getD i 0 ∧ 0 ≤ chS n (i : Int) ∧ chS n (i : Int) ≤ 255 := by
  have h5 := (strLen_r hn).2
  have : ∀ n : Fin 13, ∀ i : Fin 5, i.val < strLen.getD n.val 0 → chS n.val (i.val : Int) = (zWs.getD n.val []).getD i.val 0 ∧ 0 ≤ chS n.val (i.val : Int) ∧ chS n.val (i.val : Int) ≤ 255 := by decide +kernel
  exact this ⟨n, hn⟩ ⟨i, by omega⟩ hi
set_option maxHeartbeats 4000000 in
set_option maxRecDepth 20000 in
theorem c6_X9_spells (l0 : Launch) {Ia Ja : aI1} {Ra : aR1} {Sa : aS1} (hL : LY Ra Sa) (hI : XI Ia) {f : Nat → Int} {N : Nat} (hN : Ia 8 1 = N) (hf : ∀ j, j < N → f j = Ia 9 j) {n : Nat} {a b : Int} (hn : n < 13) (ha0 : 0 ≤ a) (hab : a ≤ b) (hbl : b ≤ Ia 8 1)  : CT l0 4 0 0 mX9_spells [kR (some 8), kS n, kI a, kI b] Ia Ja Ra Sa (cI (fun x I' J' => Ia = I' ∧ Ja = J' ∧ (x = 0 ∨ x = 1) ∧ (x = 1 ↔ zWm f a.toNat b.toNat (zWs.getD n []))) Ra Sa) := by
  refine ct_in pn_X9 (Nat.le_of_ble_eq_true rfl) (fun X hX hT hIn => ?_)
  have hX : aK l0 X cX9_spells 5 RX9 (some .boolean) 4 0 0 := hX
  change WW X 0 [some (kR (some 8)), some (kS n), some (kI a), some (kI b), none] [] Ia Ja Ra Sa 0 0
  obtain ⟨hn1, hn2⟩ := hI.1
  obtain ⟨hk1, hk2⟩ := hI.2.1
  obtain ⟨hf1, hf2⟩ := hI.fu
  obtain ⟨hl1, hl2⟩ := hI.2.2.2.2.2.2.1
  have hsl := strLen_r hn
  refine ww_iload_n hX (pc := 0) dX9_spells_0 rfl ?_
  refine ww_if_lt hX (pc := 1) (tgt := 22) dX9_spells_1 (by decide) (fun h_1 => ?_) (fun h_1 => ?_)
  · simp only [w32_mod] at h_1
    refine ww_iconst hX (pc := 22) (x := 0) dX9_spells_22 rfl ?_
    refine rZ hX (pc := 23) hT (Nat.le_refl 0) (Nat.le_refl 0) dX9_spells_23 (by decide) ?_
    exact ⟨rfl, rfl, by omega, ⟨fun h9 => absurd h9 (by decide), fun h9 => by have h8 := h9.1; have h7 := zWs_l n hn; omega⟩⟩
  · simp only [w32_mod] at h_1
    refine ww_iload_n hX (pc := 4) dX9_spells_4 rfl ?_
    refine ww_aload_n hX (pc := 5) dX9_spells_5 rfl ?_
    refine ww_getI hX (pc := 6) fX9_15 (by decide) (xs_8 hL) dX9_spells_6 ?_
    refine ww_icmp_gt hX (pc := 9) (tgt := 22) dX9_spells_9 (by decide) (fun h_9 => ?_) (fun h_9 => ?_)
    · simp only [w32_mod] at h_9
      refine ww_iconst hX (pc := 22) (x := 0) dX9_spells_22 rfl ?_
      refine rZ hX (pc := 23) hT (Nat.le_refl 0) (Nat.le_refl 0) dX9_spells_23 (by decide) ?_
      exact ⟨rfl, rfl, by omega, ⟨fun h9 => absurd h9 (by decide), fun h9 => by have h8 := h9.1; have h7 := zWs_l n hn; omega⟩⟩
    · simp only [w32_mod] at h_9
      refine ww_aload_nS hX (pc := 12) dX9_spells_12 rfl ?_
      refine xI0 hX (pc := 13) sX9_19 hn (c_J0_length_8abf5 l0 hn) (by decide) (Nat.le_refl 0) (Nat.le_refl 0) (Nat.le_of_ble_eq_true rfl) dX9_spells_13 (fun x_13 I_13 J_13 h_13 => ?_)
      obtain ⟨rfl, rfl, h_13⟩ := h_13
      refine ww_iload_n hX (pc := 16) dX9_spells_16 rfl ?_
      refine ww_iload_n hX (pc := 17) dX9_spells_17 rfl ?_
      refine ww_isub hX (pc := 18) dX9_spells_18 ?_
      refine ww_icmp_eq hX (pc := 19) (tgt := 24) dX9_spells_19 (by decide) (fun h_19 => ?_) (fun h_19 => ?_)
      · simp only [w32_mod] at h_19
        refine ww_iconst hX (pc := 24) (x := 0) dX9_spells_24 rfl ?_
        refine ww_istore hX (pc := 25) (lv' := [some (kR (some 8)), some (kS n), some (kI a), some (kI b), some (kI 0)]) dX9_spells_25 (by decide) rfl rfl ?_
        have hl_27 : ∀ (n_27 : Nat) (i : Int), (((strLen.getD n 0 : Nat) : Int) - i).toNat = n_27 → ((0 ≤ i ∧ i ≤ (strLen.getD n 0 : Nat)) ∧ ∀ j : Nat, (j : Int) < i → f (a.toNat + j) = (zWs.getD n []).getD j 0) → WW X 27 [some (kR (some 8)), some (kS n), some (kI a), some (kI b), some (kI i)] [] Ia Ja Ra Sa 0 0 := by
          intro n_27
          induction n_27 using Nat.strongRecOn with
          | ind n_27 ih_27 =>
            intro i hm_27 hv_27
            have hq_27 := Sh0_i hm_27
            clear hm_27
            obtain ⟨⟨hi0, hi1⟩, hw9⟩ := hv_27
            refine ww_iload hX (pc := 27) dX9_spells_27 rfl ?_
            refine ww_aload_nS hX (pc := 29) dX9_spells_29 rfl ?_
            refine xI0 hX (pc := 30) sX9_19 hn (c_J0_length_8abf5 l0 hn) (by decide) (Nat.le_refl 0) (Nat.le_refl 0) (Nat.le_of_ble_eq_true rfl) dX9_spells_30 (fun x_30 I_30 J_30 h_30 => ?_)
            obtain ⟨rfl, rfl, h_30⟩ := h_30
            refine ww_icmp_ge hX (pc := 33) (tgt := 62) dX9_spells_33 (by decide) (fun h_33 => ?_) (fun h_33 => ?_)
            · simp only [w32_mod] at h_33
              refine ww_iconst hX (pc := 62) (x := 1) dX9_spells_62 rfl ?_
              refine rZ hX (pc := 63) hT (Nat.le_refl 0) (Nat.le_refl 0) dX9_spells_63 (by decide) ?_
              exact ⟨rfl, rfl, by omega, ⟨fun _ => ⟨by rw [zWs_l n hn]; omega, fun j hj => hw9 j (by rw [zWs_l n hn] at hj; omega)⟩, fun _ => rfl⟩⟩
            · simp only [w32_mod] at h_33
              refine ww_aload_n hX (pc := 36) dX9_spells_36 rfl ?_
              refine ww_getR hX (pc := 37) fX9_9 (by decide) (xs_8 hL) (xr_8_0 hL) dX9_spells_37 ?_
              refine ww_iload_n hX (pc := 40) dX9_spells_40 rfl ?_
              refine ww_iload hX (pc := 41) dX9_spells_41 rfl ?_
              refine ww_iadd hX (pc := 43) dX9_spells_43 ?_
              have hby := hI.2.2.2.2.2.2.2.2.2.2 (a + i).toNat (by omega)
              have hq9 := chS_w hn (i := i.toNat) (by omega)
              rw [show (i.toNat : Int) = i by omega] at hq9
              have hff := hf (a + i).toNat (by omega)
              refine ww_iald hX (pc := 44) (xs_9 hL) (by decide) (by omega) (by omega) dX9_spells_44 ?_
              refine ww_aload_nS hX (pc := 45) dX9_spells_45 rfl ?_
              refine ww_iload hX (pc := 46) dX9_spells_46 rfl ?_
              refine xI1 hX (pc := 48) sX9_24 hn (c_J0_charAt_5068e l0 hn (by omega) (by omega)) (by decide) (Nat.le_refl 0) (Nat.le_refl 0) (Nat.le_of_ble_eq_true rfl) dX9_spells_48 (fun x_48 I_48 J_48 h_48 => ?_)
              obtain ⟨rfl, rfl, h_48⟩ := h_48
              refine ww_icmp_eq hX (pc := 51) (tgt := 56) dX9_spells_51 (by decide) (fun h_51 => ?_) (fun h_51 => ?_)
              · simp only [w32_mod] at h_51
                have heq : f (a + i).toNat = (zWs.getD n []).getD i.toNat 0 := by rw [hff, ← hq9.1]; omega
                refine ww_iinc hX (pc := 56) (lv' := [some (kR (some 8)), some (kS n), some (kI a), some (kI b), some (kI (i + 1))]) dX9_spells_56 rfl (by decide) rfl rfl ?_
                refine ww_goto hX (pc := 59) (tgt := 27) dX9_spells_59 (by decide) ?_
                exact ih_27 _ (by have hm9 := Sh0_e hq_27; omega) (i + 1) rfl ⟨⟨by omega, by omega⟩, fun j hj => (if h9 : (j : Int) < i then hw9 j h9 else by rw [show a.toNat + j = (a + i).toNat by omega, show j = i.toNat by omega]; exact heq)⟩
              · simp only [w32_mod] at h_51
                have hne : ¬ f (a + i).toNat = (zWs.getD n []).getD i.toNat 0 := by rw [hff, ← hq9.1]; omega
                refine ww_iconst hX (pc := 54) (x := 0) dX9_spells_54 rfl ?_
                refine rZ hX (pc := 55) hT (Nat.le_refl 0) (Nat.le_refl 0) dX9_spells_55 (by decide) ?_
                exact ⟨rfl, rfl, by omega, ⟨fun h9 => absurd h9 (by decide), fun h9 => by
                    have h8 := h9.2 i.toNat (by rw [zWs_l n hn]; omega)
                    rw [show a.toNat + i.toNat = (a + i).toNat by omega] at h8
                    exact absurd h8 hne⟩⟩
        exact hl_27 _ 0 rfl ⟨⟨by omega, by omega⟩, fun j hj => absurd hj (by omega)⟩
      · simp only [w32_mod] at h_19
        refine ww_iconst hX (pc := 22) (x := 0) dX9_spells_22 rfl ?_
        refine rZ hX (pc := 23) hT (Nat.le_refl 0) (Nat.le_refl 0) dX9_spells_23 (by decide) ?_
        exact ⟨rfl, rfl, by omega, ⟨fun h9 => absurd h9 (by decide), fun h9 => by have h8 := h9.1; have h7 := zWs_l n hn; omega⟩⟩
set_option maxHeartbeats 4000000 in
set_option maxRecDepth 20000 in
theorem c6_X7_skipBlanks (l0 : Launch) {Ia Ja : aI1} {Ra : aR1} {Sa : aS1} (hL : LY Ra Sa) (hI : XI Ia) {f : Nat → Int} {N : Nat} (hN : Ia 8 1 = N) (hf : ∀ j, j < N → f j = Ia 9 j) {a : Int} (ha0 : 0 ≤ a) (ha1 : a ≤ Ia 8 1)  : CT l0 1 0 0 mX7_skipBlanks [kR (some 10), kI a] Ia Ja Ra Sa (cI (fun x I' J' => Ia = I' ∧ Ja = J' ∧ (a ≤ x ∧ x ≤ Ia 8 1) ∧ (x < Ia 8 1 → ¬ f x.toNat = 32) ∧ zTk f N x.toNat = zTk f N a.toNat) Ra Sa) := by
  refine ct_in pn_X7 (Nat.le_of_ble_eq_true rfl) (fun X hX hT hIn => ?_)
  have hX : aK l0 X cX7_skipBlanks 3 RX7 (some .int) 1 0 0 := hX
  change WW X 0 [some (kR (some 10)), some (kI a), none] [] Ia Ja Ra Sa 0 0
  obtain ⟨hn1, hn2⟩ := hI.1
  obtain ⟨hk1, hk2⟩ := hI.2.1
  obtain ⟨hf1, hf2⟩ := hI.fu
  obtain ⟨hl1, hl2⟩ := hI.2.2.2.2.2.2.1
  refine ww_iload_n hX (pc := 0) dX7_skipBlanks_0 rfl ?_
  refine ww_istore_n hX (pc := 1) (lv' := [some (kR (some 10)), some (kI a), some (kI a)]) dX7_skipBlanks_1 (by decide) rfl rfl ?_
  have hl_2 : ∀ (n_2 : Nat) (q : Int), (Ia 8 1 - q).toNat = n_2 → ((a ≤ q ∧ q ≤ Ia 8 1) ∧ zTk f N q.toNat = zTk f N a.toNat) → WW X 2 [some (kR (some 10)), some (kI a), some (kI q)] [] Ia Ja Ra Sa 0 0 := by
    intro n_2
    induction n_2 using Nat.strongRecOn with
    | ind n_2 ih_2 =>
      intro q hm_2 hv_2
      have hq_2 := Sh0_i hm_2
      clear hm_2
      obtain ⟨⟨hq0, hq1⟩, hz9⟩ := hv_2
      refine ww_iload_n hX (pc := 2) dX7_skipBlanks_2 rfl ?_
      refine ww_aload_n hX (pc := 3) dX7_skipBlanks_3 rfl ?_
      refine ww_getR hX (pc := 4) fX7_28 (by decide) (xs_10 hL) (xr_10_1 hL) dX7_skipBlanks_4 ?_
      refine ww_getI hX (pc := 7) fX7_128 (by decide) (xs_8 hL) dX7_skipBlanks_7 ?_
      refine ww_icmp_ge hX (pc := 10) (tgt := 32) dX7_skipBlanks_10 (by decide) (fun h_10 => ?_) (fun h_10 => ?_)
      · simp only [w32_mod] at h_10
        refine ww_iload_n hX (pc := 32) dX7_skipBlanks_32 rfl ?_
        refine rI hX (pc := 33) hT (Nat.le_refl 0) (Nat.le_refl 0) dX7_skipBlanks_33 ?_
        exact ⟨rfl, rfl, by omega, fun h9 => absurd h9 (by omega), hz9⟩
      · simp only [w32_mod] at h_10
        refine ww_aload_n hX (pc := 13) dX7_skipBlanks_13 rfl ?_
        refine ww_getR hX (pc := 14) fX7_28 (by decide) (xs_10 hL) (xr_10_1 hL) dX7_skipBlanks_14 ?_
        refine ww_iload_n hX (pc := 17) dX7_skipBlanks_17 rfl ?_
        refine vI1 hX (pc := 18) sX7_139 (xs_8 hL) (c_X9_byteAt l0 hL hI (by omega) (by omega)) (by decide) (Nat.le_refl 0) (Nat.le_refl 0) (Nat.le_of_ble_eq_true rfl) dX7_skipBlanks_18 (fun x_18 I_18 J_18 h_18 => ?_)
        obtain ⟨rfl, rfl, h_18⟩ := h_18
        refine ww_bipush hX (pc := 21) (x := 32) dX7_skipBlanks_21 (by decide) ?_
        refine ww_icmp_ne hX (pc := 23) (tgt := 32) dX7_skipBlanks_23 (by decide) (fun h_23 => ?_) (fun h_23 => ?_)
        · simp only [w32_mod] at h_23
          refine ww_iload_n hX (pc := 32) dX7_skipBlanks_32 rfl ?_
          refine rI hX (pc := 33) hT (Nat.le_refl 0) (Nat.le_refl 0) dX7_skipBlanks_33 ?_
          exact ⟨rfl, rfl, by omega, fun _ => by rw [hf _ (by omega)]; omega, hz9⟩
        · simp only [w32_mod] at h_23
          have hz8 : zTk f N (q + 1).toNat = zTk f N a.toNat := by rw [show (q + 1).toNat = q.toNat + 1 by omega, ← zTk_b (by omega) (by rw [hf _ (by omega)]; omega)]; exact hz9
          refine ww_iinc hX (pc := 26) (lv' := [some (kR (some 10)), some (kI a), some (kI (q + 1))]) dX7_skipBlanks_26 rfl (by decide) rfl rfl ?_
          refine ww_goto hX (pc := 29) (tgt := 2) dX7_skipBlanks_29 (by decide) ?_
          exact ih_2 _ (by have hm9 := Sh0_e hq_2; omega) (q + 1) rfl ⟨⟨by omega, by omega⟩, hz8⟩
  exact hl_2 _ a rfl ⟨⟨by omega, by omega⟩, rfl⟩
set_option maxHeartbeats 4000000 in
set_option maxRecDepth 20000 in
theorem c6_X7_stopOf (l0 : Launch) {Ia Ja : aI1} {Ra : aR1} {Sa : aS1} (hL : LY Ra Sa) (hI : XI Ia) {f : Nat → Int} {N : Nat} (hN : Ia 8 1 = N) (hf : ∀ j, j < N → f j = Ia 9 j) {a : Int} (ha0 : 0 ≤ a) (ha1 : a < Ia 8 1)  : CT l0 1 0 0 mX7_stopOf [kR (some 10), kI a] Ia Ja Ra Sa (cI (fun x I' J' => Ia = I' ∧ Ja = J' ∧ (a < x ∧ x ≤ Ia 8 1) ∧ (48 ≤ Ia 9 a.toNat ∧ Ia 9 a.toNat ≤ 57 → ∀ j : Int, a ≤ j → j < x → 48 ≤ Ia 9 j.toNat ∧ Ia 9 j.toNat ≤ 57) ∧ x = (zSt f N a.toNat : Nat)) Ra Sa) := by
  refine ct_in pn_X7 (Nat.le_of_ble_eq_true rfl) (fun X hX hT hIn => ?_)
  have hX : aK l0 X cX7_stopOf 5 RX7 (some .int) 1 0 0 := hX
  change WW X 0 [some (kR (some 10)), some (kI a), none, none, none] [] Ia Ja Ra Sa 0 0
  obtain ⟨hn1, hn2⟩ := hI.1
  obtain ⟨hk1, hk2⟩ := hI.2.1
  obtain ⟨hf1, hf2⟩ := hI.fu
  obtain ⟨hl1, hl2⟩ := hI.2.2.2.2.2.2.1
  have hba := hI.2.2.2.2.2.2.2.2.2.2 a.toNat (by omega)
  refine ww_aload_n hX (pc := 0) dX7_stopOf_0 rfl ?_
  refine ww_getR hX (pc := 1) fX7_28 (by decide) (xs_10 hL) (xr_10_1 hL) dX7_stopOf_1 ?_
  refine ww_iload_n hX (pc := 4) dX7_stopOf_4 rfl ?_
  refine vI1 hX (pc := 5) sX7_139 (xs_8 hL) (c_X9_byteAt l0 hL hI (by omega) (by omega)) (by decide) (Nat.le_refl 0) (Nat.le_refl 0) (Nat.le_of_ble_eq_true rfl) dX7_stopOf_5 (fun x_5 I_5 J_5 h_5 => ?_)
  obtain ⟨rfl, rfl, h_5⟩ := h_5
  refine sI1 hX (pc := 8) sX7_142 (c_X7_isLetter l0 (by omega) (by omega)) (by decide) (Nat.le_refl 0) (Nat.le_refl 0) (Nat.le_of_ble_eq_true rfl) dX7_stopOf_8 (fun x_8 I_8 J_8 h_8 => ?_)
  obtain ⟨rfl, rfl, h_8⟩ := h_8
  have c8 := Sh0_i h_8
  have r8 : 0 ≤ x_8 ∧ x_8 ≤ 1 := by omega
  clear h_8
  refine ww_istore_n hX (pc := 11) (lv' := [some (kR (some 10)), some (kI a), some (kI x_8), none, none]) dX7_stopOf_11 (by decide) rfl rfl ?_
  refine ww_aload_n hX (pc := 12) dX7_stopOf_12 rfl ?_
  refine ww_getR hX (pc := 13) fX7_28 (by decide) (xs_10 hL) (xr_10_1 hL) dX7_stopOf_13 ?_
  refine ww_iload_n hX (pc := 16) dX7_stopOf_16 rfl ?_
  refine vI1 hX (pc := 17) sX7_139 (xs_8 hL) (c_X9_byteAt l0 hL hI (by omega) (by omega)) (by decide) (Nat.le_refl 0) (Nat.le_refl 0) (Nat.le_of_ble_eq_true rfl) dX7_stopOf_17 (fun x_17 I_17 J_17 h_17 => ?_)
  obtain ⟨rfl, rfl, h_17⟩ := h_17
  refine sI1 hX (pc := 20) sX7_145 (c_X7_isDigit l0 (by omega) (by omega)) (by decide) (Nat.le_refl 0) (Nat.le_refl 0) (Nat.le_of_ble_eq_true rfl) dX7_stopOf_20 (fun x_20 I_20 J_20 h_20 => ?_)
  obtain ⟨rfl, rfl, h_20⟩ := h_20
  have c20 := Sh0_i h_20
  have r20 : 0 ≤ x_20 ∧ x_20 ≤ 1 := by omega
  clear h_20
  refine ww_istore_n hX (pc := 23) (lv' := [some (kR (some 10)), some (kI a), some (kI x_8), some (kI x_20), none]) dX7_stopOf_23 (by decide) rfl rfl ?_
  refine ww_iload_n hX (pc := 24) dX7_stopOf_24 rfl ?_
  refine ww_iconst hX (pc := 25) (x := 1) dX7_stopOf_25 rfl ?_
  refine ww_iadd hX (pc := 26) dX7_stopOf_26 ?_
  refine ww_nmI (fun v_27 hv_27 => ?_)
  refine ww_istore hX (pc := 27) (lv' := [some (kR (some 10)), some (kI a), some (kI x_8), some (kI x_20), some (kI v_27)]) dX7_stopOf_27 (by decide) rfl rfl ?_
  have hl_29 : ∀ (n_29 : Nat) (q : Int), (Ia 8 1 - q).toNat = n_29 → ((a < q ∧ q ≤ Ia 8 1) ∧ zSW f N a.toNat q.toNat ∧ (48 ≤ Ia 9 a.toNat ∧ Ia 9 a.toNat ≤ 57 → ∀ j : Int, a ≤ j → j < q → 48 ≤ Ia 9 j.toNat ∧ Ia 9 j.toNat ≤ 57)) → WW X 29 [some (kR (some 10)), some (kI a), some (kI x_8), some (kI x_20), some (kI q)] [] Ia Ja Ra Sa 0 0 := by
    intro n_29
    induction n_29 using Nat.strongRecOn with
    | ind n_29 ih_29 =>
      intro q hm_29 hv_29
      have hq_29 := Sh0_i hm_29
      clear hm_29
      obtain ⟨hq0, hsw, hdg⟩ := hv_29
      refine ww_iload hX (pc := 29) dX7_stopOf_29 rfl ?_
      refine ww_aload_n hX (pc := 31) dX7_stopOf_31 rfl ?_
      refine ww_getR hX (pc := 32) fX7_28 (by decide) (xs_10 hL) (xr_10_1 hL) dX7_stopOf_32 ?_
      refine ww_getI hX (pc := 35) fX7_128 (by decide) (xs_8 hL) dX7_stopOf_35 ?_
      refine ww_icmp_ge hX (pc := 38) (tgt := 85) dX7_stopOf_38 (by decide) (fun h_38 => ?_) (fun h_38 => ?_)
      · simp only [w32_mod] at h_38
        refine ww_iload hX (pc := 85) dX7_stopOf_85 rfl ?_
        refine rI hX (pc := 87) hT (Nat.le_refl 0) (Nat.le_refl 0) dX7_stopOf_87 ?_
        exact ⟨rfl, rfl, by omega, hdg, by have h9 := zSW_e hsw (fun h9 => absurd h9.1.1 (by omega)); omega⟩
      · simp only [w32_mod] at h_38
        have hbq := hI.2.2.2.2.2.2.2.2.2.2 q.toNat (by omega)
        refine ww_iload_n hX (pc := 41) dX7_stopOf_41 rfl ?_
        refine ww_if_eq hX (pc := 42) (tgt := 60) dX7_stopOf_42 (by decide) (fun h_42 => ?_) (fun h_42 => ?_)
        · simp only [w32_mod] at h_42
          have g8 : ¬ (97 ≤ x_5 ∧ x_5 ≤ 122) := fun h => by have h8 := (Sh0_e c8).2.mpr h; omega
          refine ww_iload_n hX (pc := 60) dX7_stopOf_60 rfl ?_
          refine ww_if_eq hX (pc := 61) (tgt := 85) dX7_stopOf_61 (by decide) (fun h_61 => ?_) (fun h_61 => ?_)
          · simp only [w32_mod] at h_61
            have g20 : ¬ (48 ≤ x_17 ∧ x_17 ≤ 57) := fun h => by have h8 := (Sh0_e c20).2.mpr h; omega
            refine ww_iload hX (pc := 85) dX7_stopOf_85 rfl ?_
            refine rI hX (pc := 87) hT (Nat.le_refl 0) (Nat.le_refl 0) dX7_stopOf_87 ?_
            exact ⟨rfl, rfl, by omega, hdg, by have h9 := zSW_e hsw (fun h9 => by have k1 := zKl_1 (x := f a.toNat); have k2 := zKl_2 (x := f a.toNat); have k3 := zKl_1 (x := f q.toNat); have k4 := zKl_2 (x := f q.toNat); have k5 := zKl_r (f a.toNat); have k6 := h9.1.2; have k7 := h9.2; rw [hf _ (by omega)] at k1 k2 k5 k6 k7; rw [hf _ (by omega)] at k3 k4 k6; omega); omega⟩
          · simp only [w32_mod] at h_61
            have g20 : 48 ≤ x_17 ∧ x_17 ≤ 57 := (Sh0_e c20).2.mp (by omega)
            refine ww_aload_n hX (pc := 64) dX7_stopOf_64 rfl ?_
            refine ww_getR hX (pc := 65) fX7_28 (by decide) (xs_10 hL) (xr_10_1 hL) dX7_stopOf_65 ?_
            refine ww_iload hX (pc := 68) dX7_stopOf_68 rfl ?_
            refine vI1 hX (pc := 70) sX7_139 (xs_8 hL) (c_X9_byteAt l0 hL hI (by omega) (by omega)) (by decide) (Nat.le_refl 0) (Nat.le_refl 0) (Nat.le_of_ble_eq_true rfl) dX7_stopOf_70 (fun x_70 I_70 J_70 h_70 => ?_)
            obtain ⟨rfl, rfl, h_70⟩ := h_70
            refine sI1 hX (pc := 73) sX7_145 (c_X7_isDigit l0 (by omega) (by omega)) (by decide) (Nat.le_refl 0) (Nat.le_refl 0) (Nat.le_of_ble_eq_true rfl) dX7_stopOf_73 (fun x_73 I_73 J_73 h_73 => ?_)
            obtain ⟨rfl, rfl, h_73⟩ := h_73
            refine ww_if_eq hX (pc := 76) (tgt := 85) dX7_stopOf_76 (by decide) (fun h_76 => ?_) (fun h_76 => ?_)
            · simp only [w32_mod] at h_76
              refine ww_iload hX (pc := 85) dX7_stopOf_85 rfl ?_
              refine rI hX (pc := 87) hT (Nat.le_refl 0) (Nat.le_refl 0) dX7_stopOf_87 ?_
              exact ⟨rfl, rfl, by omega, hdg, by have h9 := zSW_e hsw (fun h9 => by have k1 := zKl_1 (x := f a.toNat); have k2 := zKl_2 (x := f a.toNat); have k3 := zKl_1 (x := f q.toNat); have k4 := zKl_2 (x := f q.toNat); have k5 := zKl_r (f a.toNat); have k6 := h9.1.2; have k7 := h9.2; rw [hf _ (by omega)] at k1 k2 k5 k6 k7; rw [hf _ (by omega)] at k3 k4 k6; omega); omega⟩
            · simp only [w32_mod] at h_76
              have k_73 := h_73.2.mp (by omega)
              clear h_73
              have hk0 : ¬ zKl (f a.toNat) = 0 := fun h9 => by have := (zKl_2 (x := f a.toNat)).mpr (by rw [hf _ (by omega)]; omega); omega
              have hk9 : zKl (f q.toNat) = zKl (f a.toNat) := by rw [(zKl_2 (x := f a.toNat)).mpr (by rw [hf _ (by omega)]; omega), (zKl_2 (x := f q.toNat)).mpr (by rw [hf _ (by omega)]; omega)]
              refine ww_iinc hX (pc := 79) (lv' := [some (kR (some 10)), some (kI a), some (kI x_8), some (kI x_20), some (kI (q + 1))]) dX7_stopOf_79 rfl (by decide) rfl rfl ?_
              refine ww_goto hX (pc := 82) (tgt := 29) dX7_stopOf_82 (by decide) ?_
              exact ih_29 _ (by have hm9 := Sh0_e hq_29; omega) (q + 1) rfl ⟨⟨by omega, by omega⟩, (by rw [show (q + 1).toNat = q.toNat + 1 by omega]; exact zSW_s hsw (by omega) hk9 hk0), fun hd j h1 h2 => (if hj : j < q then hdg hd j h1 hj else (by rw [show j = q by omega]; omega))⟩
        · simp only [w32_mod] at h_42
          have g8 : 97 ≤ x_5 ∧ x_5 ≤ 122 := (Sh0_e c8).2.mp (by omega)
          refine ww_aload_n hX (pc := 45) dX7_stopOf_45 rfl ?_
          refine ww_getR hX (pc := 46) fX7_28 (by decide) (xs_10 hL) (xr_10_1 hL) dX7_stopOf_46 ?_
          refine ww_iload hX (pc := 49) dX7_stopOf_49 rfl ?_
          refine vI1 hX (pc := 51) sX7_139 (xs_8 hL) (c_X9_byteAt l0 hL hI (by omega) (by omega)) (by decide) (Nat.le_refl 0) (Nat.le_refl 0) (Nat.le_of_ble_eq_true rfl) dX7_stopOf_51 (fun x_51 I_51 J_51 h_51 => ?_)
          obtain ⟨rfl, rfl, h_51⟩ := h_51
          refine sI1 hX (pc := 54) sX7_142 (c_X7_isLetter l0 (by omega) (by omega)) (by decide) (Nat.le_refl 0) (Nat.le_refl 0) (Nat.le_of_ble_eq_true rfl) dX7_stopOf_54 (fun x_54 I_54 J_54 h_54 => ?_)
          obtain ⟨rfl, rfl, h_54⟩ := h_54
          refine ww_if_ne hX (pc := 57) (tgt := 79) dX7_stopOf_57 (by decide) (fun h_57 => ?_) (fun h_57 => ?_)
          · simp only [w32_mod] at h_57
            have k_54 := h_54.2.mp (by omega)
            clear h_54
            have hk0 : ¬ zKl (f a.toNat) = 0 := fun h9 => by have := (zKl_1 (x := f a.toNat)).mpr (by rw [hf _ (by omega)]; omega); omega
            have hk9 : zKl (f q.toNat) = zKl (f a.toNat) := by rw [(zKl_1 (x := f a.toNat)).mpr (by rw [hf _ (by omega)]; omega), (zKl_1 (x := f q.toNat)).mpr (by rw [hf _ (by omega)]; omega)]
            refine ww_iinc hX (pc := 79) (lv' := [some (kR (some 10)), some (kI a), some (kI x_8), some (kI x_20), some (kI (q + 1))]) dX7_stopOf_79 rfl (by decide) rfl rfl ?_
            refine ww_goto hX (pc := 82) (tgt := 29) dX7_stopOf_82 (by decide) ?_
            exact ih_29 _ (by have hm9 := Sh0_e hq_29; omega) (q + 1) rfl ⟨⟨by omega, by omega⟩, (by rw [show (q + 1).toNat = q.toNat + 1 by omega]; exact zSW_s hsw (by omega) hk9 hk0), fun hd j h1 h2 => (if hj : j < q then hdg hd j h1 hj else (by rw [show j = q by omega]; omega))⟩
          · simp only [w32_mod] at h_57
            refine ww_iload_n hX (pc := 60) dX7_stopOf_60 rfl ?_
            refine ww_if_eq hX (pc := 61) (tgt := 85) dX7_stopOf_61 (by decide) (fun h_61 => ?_) (fun h_61 => ?_)
            · simp only [w32_mod] at h_61
              have g20 : ¬ (48 ≤ x_17 ∧ x_17 ≤ 57) := fun h => by have h8 := (Sh0_e c20).2.mpr h; omega
              refine ww_iload hX (pc := 85) dX7_stopOf_85 rfl ?_
              refine rI hX (pc := 87) hT (Nat.le_refl 0) (Nat.le_refl 0) dX7_stopOf_87 ?_
              exact ⟨rfl, rfl, by omega, hdg, by have h9 := zSW_e hsw (fun h9 => by have k1 := zKl_1 (x := f a.toNat); have k2 := zKl_2 (x := f a.toNat); have k3 := zKl_1 (x := f q.toNat); have k4 := zKl_2 (x := f q.toNat); have k5 := zKl_r (f a.toNat); have k6 := h9.1.2; have k7 := h9.2; rw [hf _ (by omega)] at k1 k2 k5 k6 k7; rw [hf _ (by omega)] at k3 k4 k6; omega); omega⟩
            · simp only [w32_mod] at h_61
              have g20 : 48 ≤ x_17 ∧ x_17 ≤ 57 := (Sh0_e c20).2.mp (by omega)
              refine ww_aload_n hX (pc := 64) dX7_stopOf_64 rfl ?_
              refine ww_getR hX (pc := 65) fX7_28 (by decide) (xs_10 hL) (xr_10_1 hL) dX7_stopOf_65 ?_
              refine ww_iload hX (pc := 68) dX7_stopOf_68 rfl ?_
              refine vI1 hX (pc := 70) sX7_139 (xs_8 hL) (c_X9_byteAt l0 hL hI (by omega) (by omega)) (by decide) (Nat.le_refl 0) (Nat.le_refl 0) (Nat.le_of_ble_eq_true rfl) dX7_stopOf_70 (fun x_70 I_70 J_70 h_70 => ?_)
              obtain ⟨rfl, rfl, h_70⟩ := h_70
              refine sI1 hX (pc := 73) sX7_145 (c_X7_isDigit l0 (by omega) (by omega)) (by decide) (Nat.le_refl 0) (Nat.le_refl 0) (Nat.le_of_ble_eq_true rfl) dX7_stopOf_73 (fun x_73 I_73 J_73 h_73 => ?_)
              obtain ⟨rfl, rfl, h_73⟩ := h_73
              refine ww_if_eq hX (pc := 76) (tgt := 85) dX7_stopOf_76 (by decide) (fun h_76 => ?_) (fun h_76 => ?_)
              · simp only [w32_mod] at h_76
                refine ww_iload hX (pc := 85) dX7_stopOf_85 rfl ?_
                refine rI hX (pc := 87) hT (Nat.le_refl 0) (Nat.le_refl 0) dX7_stopOf_87 ?_
                exact ⟨rfl, rfl, by omega, hdg, by have h9 := zSW_e hsw (fun h9 => by have k1 := zKl_1 (x := f a.toNat); have k2 := zKl_2 (x := f a.toNat); have k3 := zKl_1 (x := f q.toNat); have k4 := zKl_2 (x := f q.toNat); have k5 := zKl_r (f a.toNat); have k6 := h9.1.2; have k7 := h9.2; rw [hf _ (by omega)] at k1 k2 k5 k6 k7; rw [hf _ (by omega)] at k3 k4 k6; omega); omega⟩
              · simp only [w32_mod] at h_76
                have k_73 := h_73.2.mp (by omega)
                clear h_73
                have hk0 : ¬ zKl (f a.toNat) = 0 := fun h9 => by have := (zKl_2 (x := f a.toNat)).mpr (by rw [hf _ (by omega)]; omega); omega
                have hk9 : zKl (f q.toNat) = zKl (f a.toNat) := by rw [(zKl_2 (x := f a.toNat)).mpr (by rw [hf _ (by omega)]; omega), (zKl_2 (x := f q.toNat)).mpr (by rw [hf _ (by omega)]; omega)]
                refine ww_iinc hX (pc := 79) (lv' := [some (kR (some 10)), some (kI a), some (kI x_8), some (kI x_20), some (kI (q + 1))]) dX7_stopOf_79 rfl (by decide) rfl rfl ?_
                refine ww_goto hX (pc := 82) (tgt := 29) dX7_stopOf_82 (by decide) ?_
                exact ih_29 _ (by have hm9 := Sh0_e hq_29; omega) (q + 1) rfl ⟨⟨by omega, by omega⟩, (by rw [show (q + 1).toNat = q.toNat + 1 by omega]; exact zSW_s hsw (by omega) hk9 hk0), fun hd j h1 h2 => (if hj : j < q then hdg hd j h1 hj else (by rw [show j = q by omega]; omega))⟩
  exact hl_29 _ v_27 rfl ⟨by omega, (by rw [show v_27.toNat = a.toNat + 1 by omega]; exact zSW_0), fun hd j h1 h2 => (by rw [show j = a by omega]; exact hd)⟩
set_option maxHeartbeats 4000000 in
set_option maxRecDepth 20000 in
theorem c6_X7_numberAt (l0 : Launch) {Ia Ja : aI1} {Ra : aR1} {Sa : aS1} (hL : LY Ra Sa) (hI : XI Ia) {f : Nat → Int} {N : Nat} (hN : Ia 8 1 = N) (hf : ∀ j, j < N → f j = Ia 9 j) {a b : Int} (ha0 : 0 ≤ a) (hab : a ≤ b) (hb : b ≤ Ia 8 1) (hdg : ∀ j : Int, a ≤ j → j < b → 48 ≤ Ia 9 j.toNat ∧ Ia 9 j.toNat ≤ 57)  : CT l0 1 0 0 mX7_numberAt [kR (some 10), kI a, kI b] Ia Ja Ra Sa (cI (fun x I' J' => Ia = I' ∧ Ja = J' ∧ (0 ≤ x ∧ x ≤ 1001) ∧ x = min (zNu f a.toNat (b.toNat - a.toNat)) 1001) Ra Sa) := by
  refine ct_in pn_X7 (Nat.le_of_ble_eq_true rfl) (fun X hX hT hIn => ?_)
  have hX : aK l0 X cX7_numberAt 5 RX7 (some .int) 1 0 0 := hX
  change WW X 0 [some (kR (some 10)), some (kI a), some (kI b), none, none] [] Ia Ja Ra Sa 0 0
  obtain ⟨hn1, hn2⟩ := hI.1
  obtain ⟨hk1, hk2⟩ := hI.2.1
  obtain ⟨hf1, hf2⟩ := hI.fu
  obtain ⟨hl1, hl2⟩ := hI.2.2.2.2.2.2.1
  have hd9 : ∀ i : Nat, i < b.toNat - a.toNat → 48 ≤ f (a.toNat + i) ∧ f (a.toNat + i) ≤ 57 := fun i hi => by
    have h9 := hdg (a + i) (by omega) (by omega)
    rw [hf _ (by omega), show a.toNat + i = (a + i).toNat by omega]
    exact h9
  refine ww_iconst hX (pc := 0) (x := 0) dX7_numberAt_0 rfl ?_
  refine ww_istore_n hX (pc := 1) (lv' := [some (kR (some 10)), some (kI a), some (kI b), some (kI 0), none]) dX7_numberAt_1 (by decide) rfl rfl ?_
  refine ww_iload_n hX (pc := 2) dX7_numberAt_2 rfl ?_
  refine ww_istore hX (pc := 3) (lv' := [some (kR (some 10)), some (kI a), some (kI b), some (kI 0), some (kI a)]) dX7_numberAt_3 (by decide) rfl rfl ?_
  have hl_5 : ∀ (n_5 : Nat) (nb : Int) (q : Int), (b - q).toNat = n_5 → ((a ≤ q ∧ q ≤ b) ∧ (0 ≤ nb ∧ nb ≤ 1001) ∧ nb = min (zNu f a.toNat (q.toNat - a.toNat)) 1001) → WW X 5 [some (kR (some 10)), some (kI a), some (kI b), some (kI nb), some (kI q)] [] Ia Ja Ra Sa 0 0 := by
    intro n_5
    induction n_5 using Nat.strongRecOn with
    | ind n_5 ih_5 =>
      intro nb q hm_5 hv_5
      have hq_5 := Sh0_i hm_5
      clear hm_5
      obtain ⟨hq0, hnb, hz9⟩ := hv_5
      refine ww_iload hX (pc := 5) dX7_numberAt_5 rfl ?_
      refine ww_iload_n hX (pc := 7) dX7_numberAt_7 rfl ?_
      refine ww_icmp_ge hX (pc := 8) (tgt := 41) dX7_numberAt_8 (by decide) (fun h_8 => ?_) (fun h_8 => ?_)
      · simp only [w32_mod] at h_8
        refine ww_iload_n hX (pc := 41) dX7_numberAt_41 rfl ?_
        refine rI hX (pc := 42) hT (Nat.le_refl 0) (Nat.le_refl 0) dX7_numberAt_42 ?_
        exact ⟨rfl, rfl, by omega, by rw [hz9, show q = b by omega]⟩
      · simp only [w32_mod] at h_8
        have hd1 := hdg q (by omega) (by omega)
        have hz8 := zNu_m (f := f) (a := a.toNat) (m := q.toNat - a.toNat) (fun i hi => hd9 i (by omega))
        rw [show a.toNat + (q.toNat - a.toNat) = q.toNat by omega, hf q.toNat (by omega), ← hz9] at hz8
        refine ww_iload_n hX (pc := 11) dX7_numberAt_11 rfl ?_
        refine ww_bipush hX (pc := 12) (x := 10) dX7_numberAt_12 (by decide) ?_
        refine ww_imul hX (pc := 14) dX7_numberAt_14 ?_
        refine ww_aload_n hX (pc := 15) dX7_numberAt_15 rfl ?_
        refine ww_getR hX (pc := 16) fX7_28 (by decide) (xs_10 hL) (xr_10_1 hL) dX7_numberAt_16 ?_
        refine ww_iload hX (pc := 19) dX7_numberAt_19 rfl ?_
        refine vI1 hX (pc := 21) sX7_139 (xs_8 hL) (c_X9_byteAt l0 hL hI (by omega) (by omega)) (by decide) (Nat.le_refl 0) (Nat.le_refl 0) (Nat.le_of_ble_eq_true rfl) dX7_numberAt_21 (fun x_21 I_21 J_21 h_21 => ?_)
        obtain ⟨rfl, rfl, h_21⟩ := h_21
        refine ww_iadd hX (pc := 24) dX7_numberAt_24 ?_
        refine ww_bipush hX (pc := 25) (x := 48) dX7_numberAt_25 (by decide) ?_
        refine ww_isub hX (pc := 27) dX7_numberAt_27 ?_
        refine ww_sipush hX (pc := 28) (x := 1001) dX7_numberAt_28 (by decide) ?_
        refine ww_mmin hX (pc := 31) tb_578 tb_579 tb_13 tb_580 (by decide) (Nat.le_refl 0) (Nat.le_refl 0) (Nat.le_of_ble_eq_true rfl) dX7_numberAt_31 ?_
        refine ww_nmI (fun v_34 hv_34 => ?_)
        refine ww_istore_n hX (pc := 34) (lv' := [some (kR (some 10)), some (kI a), some (kI b), some (kI v_34), some (kI q)]) dX7_numberAt_34 (by decide) rfl rfl ?_
        rw [i_min_r (by omega) (by omega) (by omega) (by omega)] at hv_34
        have hz7 : v_34 = min (zNu f a.toNat ((q + 1).toNat - a.toNat)) 1001 := by
          rw [show (q + 1).toNat - a.toNat = q.toNat - a.toNat + 1 by omega, hz8]
          omega
        refine ww_iinc hX (pc := 35) (lv' := [some (kR (some 10)), some (kI a), some (kI b), some (kI v_34), some (kI (q + 1))]) dX7_numberAt_35 rfl (by decide) rfl rfl ?_
        refine ww_goto hX (pc := 38) (tgt := 5) dX7_numberAt_38 (by decide) ?_
        exact ih_5 _ (by have hm9 := Sh0_e hq_5; omega) v_34 (q + 1) rfl ⟨by omega, by omega, hz7⟩
  exact hl_5 _ 0 a rfl ⟨by omega, by omega, by rw [Nat.sub_self]; rfl⟩
set_option maxHeartbeats 4000000 in
set_option maxRecDepth 20000 in
theorem c6_X7_partKind (l0 : Launch) {Ia Ja : aI1} {Ra : aR1} {Sa : aS1} (hL : LY Ra Sa) (hI : XI Ia) {f : Nat → Int} {N : Nat} (hN : Ia 8 1 = N) (hf : ∀ j, j < N → f j = Ia 9 j) {a b : Int} (ha0 : 0 ≤ a) (hab : a ≤ b) (hb : b ≤ Ia 8 1) (n5 : zWn f a.toNat b.toNat 5)  : CT l0 5 0 0 mX7_partKind [kR (some 10), kI a, kI b] Ia Ja Ra Sa (cI (fun x I' J' => Ia = I' ∧ Ja = J' ∧ (-8 ≤ x ∧ x ≤ 262) ∧ ((zWc f a.toNat b.toNat = 0 ∧ x = 257) ∨ (1 ≤ zWc f a.toNat b.toNat ∧ zWc f a.toNat b.toNat ≤ 5 ∧ x = 257 + zWc f a.toNat b.toNat) ∨ (6 ≤ zWc f a.toNat b.toNat ∧ x = 5 - zWc f a.toNat b.toNat))) Ra Sa) := by
  refine ct_in pn_X7 (Nat.le_of_ble_eq_true rfl) (fun X hX hT hIn => ?_)
  have hX : aK l0 X cX7_partKind 3 RX7 (some .int) 5 0 0 := hX
  change WW X 0 [some (kR (some 10)), some (kI a), some (kI b)] [] Ia Ja Ra Sa 0 0
  obtain ⟨hn1, hn2⟩ := hI.1
  obtain ⟨hk1, hk2⟩ := hI.2.1
  obtain ⟨hf1, hf2⟩ := hI.fu
  obtain ⟨hl1, hl2⟩ := hI.2.2.2.2.2.2.1
  refine ww_aload_n hX (pc := 0) dX7_partKind_0 rfl ?_
  refine ww_getR hX (pc := 1) fX7_28 (by decide) (xs_10 hL) (xr_10_1 hL) dX7_partKind_1 ?_
  refine ww_ldcS hX (pc := 4) (n := 5) (tx := "state") dX7_partKind_4 rfl ?_
  refine ww_iload_n hX (pc := 6) dX7_partKind_6 rfl ?_
  refine ww_iload_n hX (pc := 7) dX7_partKind_7 rfl ?_
  refine vI3 hX (pc := 8) sX7_156 (xs_8 hL) (c6_X9_spells l0 hL hI hN hf (n := 5) (by decide) (by omega) (by omega) (by omega)) (by decide) (Nat.le_refl 0) (Nat.le_refl 0) (Nat.le_of_ble_eq_true rfl) dX7_partKind_8 (fun x_8 I_8 J_8 h_8 => ?_)
  obtain ⟨rfl, rfl, h_8⟩ := h_8
  refine ww_if_eq hX (pc := 11) (tgt := 16) dX7_partKind_11 (by decide) (fun h_11 => ?_) (fun h_11 => ?_)
  · simp only [w32_mod] at h_11
    have n6 := zWn_s n5 (fun h9 => by have := h_8.2.mpr h9; omega)
    refine ww_aload_n hX (pc := 16) dX7_partKind_16 rfl ?_
    refine ww_getR hX (pc := 17) fX7_28 (by decide) (xs_10 hL) (xr_10_1 hL) dX7_partKind_17 ?_
    refine ww_ldcS hX (pc := 20) (n := 6) (tx := "lit") dX7_partKind_20 rfl ?_
    refine ww_iload_n hX (pc := 22) dX7_partKind_22 rfl ?_
    refine ww_iload_n hX (pc := 23) dX7_partKind_23 rfl ?_
    refine vI3 hX (pc := 24) sX7_156 (xs_8 hL) (c6_X9_spells l0 hL hI hN hf (n := 6) (by decide) (by omega) (by omega) (by omega)) (by decide) (Nat.le_refl 0) (Nat.le_refl 0) (Nat.le_of_ble_eq_true rfl) dX7_partKind_24 (fun x_24 I_24 J_24 h_24 => ?_)
    obtain ⟨rfl, rfl, h_24⟩ := h_24
    refine ww_if_eq hX (pc := 27) (tgt := 33) dX7_partKind_27 (by decide) (fun h_27 => ?_) (fun h_27 => ?_)
    · simp only [w32_mod] at h_27
      have n7 := zWn_s n6 (fun h9 => by have := h_24.2.mpr h9; omega)
      refine ww_aload_n hX (pc := 33) dX7_partKind_33 rfl ?_
      refine ww_getR hX (pc := 34) fX7_28 (by decide) (xs_10 hL) (xr_10_1 hL) dX7_partKind_34 ?_
      refine ww_ldcS hX (pc := 37) (n := 7) (tx := "sum") dX7_partKind_37 rfl ?_
      refine ww_iload_n hX (pc := 39) dX7_partKind_39 rfl ?_
      refine ww_iload_n hX (pc := 40) dX7_partKind_40 rfl ?_
      refine vI3 hX (pc := 41) sX7_156 (xs_8 hL) (c6_X9_spells l0 hL hI hN hf (n := 7) (by decide) (by omega) (by omega) (by omega)) (by decide) (Nat.le_refl 0) (Nat.le_refl 0) (Nat.le_of_ble_eq_true rfl) dX7_partKind_41 (fun x_41 I_41 J_41 h_41 => ?_)
      obtain ⟨rfl, rfl, h_41⟩ := h_41
      refine ww_if_eq hX (pc := 44) (tgt := 50) dX7_partKind_44 (by decide) (fun h_44 => ?_) (fun h_44 => ?_)
      · simp only [w32_mod] at h_44
        have n8 := zWn_s n7 (fun h9 => by have := h_41.2.mpr h9; omega)
        refine ww_aload_n hX (pc := 50) dX7_partKind_50 rfl ?_
        refine ww_getR hX (pc := 51) fX7_28 (by decide) (xs_10 hL) (xr_10_1 hL) dX7_partKind_51 ?_
        refine ww_ldcS hX (pc := 54) (n := 8) (tx := "mix") dX7_partKind_54 rfl ?_
        refine ww_iload_n hX (pc := 56) dX7_partKind_56 rfl ?_
        refine ww_iload_n hX (pc := 57) dX7_partKind_57 rfl ?_
        refine vI3 hX (pc := 58) sX7_156 (xs_8 hL) (c6_X9_spells l0 hL hI hN hf (n := 8) (by decide) (by omega) (by omega) (by omega)) (by decide) (Nat.le_refl 0) (Nat.le_refl 0) (Nat.le_of_ble_eq_true rfl) dX7_partKind_58 (fun x_58 I_58 J_58 h_58 => ?_)
        obtain ⟨rfl, rfl, h_58⟩ := h_58
        refine ww_if_eq hX (pc := 61) (tgt := 67) dX7_partKind_61 (by decide) (fun h_61 => ?_) (fun h_61 => ?_)
        · simp only [w32_mod] at h_61
          have n9 := zWn_s n8 (fun h9 => by have := h_58.2.mpr h9; omega)
          refine ww_aload_n hX (pc := 67) dX7_partKind_67 rfl ?_
          refine ww_getR hX (pc := 68) fX7_28 (by decide) (xs_10 hL) (xr_10_1 hL) dX7_partKind_68 ?_
          refine ww_ldcS hX (pc := 71) (n := 9) (tx := "first") dX7_partKind_71 rfl ?_
          refine ww_iload_n hX (pc := 73) dX7_partKind_73 rfl ?_
          refine ww_iload_n hX (pc := 74) dX7_partKind_74 rfl ?_
          refine vI3 hX (pc := 75) sX7_156 (xs_8 hL) (c6_X9_spells l0 hL hI hN hf (n := 9) (by decide) (by omega) (by omega) (by omega)) (by decide) (Nat.le_refl 0) (Nat.le_refl 0) (Nat.le_of_ble_eq_true rfl) dX7_partKind_75 (fun x_75 I_75 J_75 h_75 => ?_)
          obtain ⟨rfl, rfl, h_75⟩ := h_75
          refine ww_if_eq hX (pc := 78) (tgt := 84) dX7_partKind_78 (by decide) (fun h_78 => ?_) (fun h_78 => ?_)
          · simp only [w32_mod] at h_78
            have n10 := zWn_s n9 (fun h9 => by have := h_75.2.mpr h9; omega)
            refine ww_aload_n hX (pc := 84) dX7_partKind_84 rfl ?_
            refine ww_getR hX (pc := 85) fX7_28 (by decide) (xs_10 hL) (xr_10_1 hL) dX7_partKind_85 ?_
            refine ww_ldcS hX (pc := 88) (n := 10) (tx := "last") dX7_partKind_88 rfl ?_
            refine ww_iload_n hX (pc := 90) dX7_partKind_90 rfl ?_
            refine ww_iload_n hX (pc := 91) dX7_partKind_91 rfl ?_
            refine vI3 hX (pc := 92) sX7_156 (xs_8 hL) (c6_X9_spells l0 hL hI hN hf (n := 10) (by decide) (by omega) (by omega) (by omega)) (by decide) (Nat.le_refl 0) (Nat.le_refl 0) (Nat.le_of_ble_eq_true rfl) dX7_partKind_92 (fun x_92 I_92 J_92 h_92 => ?_)
            obtain ⟨rfl, rfl, h_92⟩ := h_92
            refine ww_if_eq hX (pc := 95) (tgt := 101) dX7_partKind_95 (by decide) (fun h_95 => ?_) (fun h_95 => ?_)
            · simp only [w32_mod] at h_95
              have n11 := zWn_s n10 (fun h9 => by have := h_92.2.mpr h9; omega)
              refine ww_aload_n hX (pc := 101) dX7_partKind_101 rfl ?_
              refine ww_getR hX (pc := 102) fX7_28 (by decide) (xs_10 hL) (xr_10_1 hL) dX7_partKind_102 ?_
              refine ww_ldcS hX (pc := 105) (n := 11) (tx := "lamps") dX7_partKind_105 rfl ?_
              refine ww_iload_n hX (pc := 107) dX7_partKind_107 rfl ?_
              refine ww_iload_n hX (pc := 108) dX7_partKind_108 rfl ?_
              refine vI3 hX (pc := 109) sX7_156 (xs_8 hL) (c6_X9_spells l0 hL hI hN hf (n := 11) (by decide) (by omega) (by omega) (by omega)) (by decide) (Nat.le_refl 0) (Nat.le_refl 0) (Nat.le_of_ble_eq_true rfl) dX7_partKind_109 (fun x_109 I_109 J_109 h_109 => ?_)
              obtain ⟨rfl, rfl, h_109⟩ := h_109
              refine ww_if_eq hX (pc := 112) (tgt := 118) dX7_partKind_112 (by decide) (fun h_112 => ?_) (fun h_112 => ?_)
              · simp only [w32_mod] at h_112
                have n12 := zWn_s n11 (fun h9 => by have := h_109.2.mpr h9; omega)
                refine ww_aload_n hX (pc := 118) dX7_partKind_118 rfl ?_
                refine ww_getR hX (pc := 119) fX7_28 (by decide) (xs_10 hL) (xr_10_1 hL) dX7_partKind_119 ?_
                refine ww_ldcS hX (pc := 122) (n := 12) (tx := "news") dX7_partKind_122 rfl ?_
                refine ww_iload_n hX (pc := 124) dX7_partKind_124 rfl ?_
                refine ww_iload_n hX (pc := 125) dX7_partKind_125 rfl ?_
                refine vI3 hX (pc := 126) sX7_156 (xs_8 hL) (c6_X9_spells l0 hL hI hN hf (n := 12) (by decide) (by omega) (by omega) (by omega)) (by decide) (Nat.le_refl 0) (Nat.le_refl 0) (Nat.le_of_ble_eq_true rfl) dX7_partKind_126 (fun x_126 I_126 J_126 h_126 => ?_)
                obtain ⟨rfl, rfl, h_126⟩ := h_126
                refine ww_if_eq hX (pc := 129) (tgt := 135) dX7_partKind_129 (by decide) (fun h_129 => ?_) (fun h_129 => ?_)
                · simp only [w32_mod] at h_129
                  have n13 := zWn_s n12 (fun h9 => by have := h_126.2.mpr h9; omega)
                  refine ww_sipush hX (pc := 135) (x := 257) dX7_partKind_135 (by decide) ?_
                  refine rI hX (pc := 138) hT (Nat.le_refl 0) (Nat.le_refl 0) dX7_partKind_138 ?_
                  exact ⟨rfl, rfl, by omega, by have w9 := zWc_no n13; omega⟩
                · simp only [w32_mod] at h_129
                  have w9 := zWc_at n12 (by decide) (h_126.2.mp (by omega))
                  refine ww_bipush hX (pc := 132) (x := (-8)) dX7_partKind_132 (by decide) ?_
                  refine rI hX (pc := 134) hT (Nat.le_refl 0) (Nat.le_refl 0) dX7_partKind_134 ?_
                  exact ⟨rfl, rfl, by omega, by omega⟩
              · simp only [w32_mod] at h_112
                have w9 := zWc_at n11 (by decide) (h_109.2.mp (by omega))
                refine ww_bipush hX (pc := 115) (x := (-7)) dX7_partKind_115 (by decide) ?_
                refine rI hX (pc := 117) hT (Nat.le_refl 0) (Nat.le_refl 0) dX7_partKind_117 ?_
                exact ⟨rfl, rfl, by omega, by omega⟩
            · simp only [w32_mod] at h_95
              have w9 := zWc_at n10 (by decide) (h_92.2.mp (by omega))
              refine ww_bipush hX (pc := 98) (x := (-6)) dX7_partKind_98 (by decide) ?_
              refine rI hX (pc := 100) hT (Nat.le_refl 0) (Nat.le_refl 0) dX7_partKind_100 ?_
              exact ⟨rfl, rfl, by omega, by omega⟩
          · simp only [w32_mod] at h_78
            have w9 := zWc_at n9 (by decide) (h_75.2.mp (by omega))
            refine ww_bipush hX (pc := 81) (x := (-5)) dX7_partKind_81 (by decide) ?_
            refine rI hX (pc := 83) hT (Nat.le_refl 0) (Nat.le_refl 0) dX7_partKind_83 ?_
            exact ⟨rfl, rfl, by omega, by omega⟩
        · simp only [w32_mod] at h_61
          have w9 := zWc_at n8 (by decide) (h_58.2.mp (by omega))
          refine ww_bipush hX (pc := 64) (x := (-4)) dX7_partKind_64 (by decide) ?_
          refine rI hX (pc := 66) hT (Nat.le_refl 0) (Nat.le_refl 0) dX7_partKind_66 ?_
          exact ⟨rfl, rfl, by omega, by omega⟩
      · simp only [w32_mod] at h_44
        have w9 := zWc_at n7 (by decide) (h_41.2.mp (by omega))
        refine ww_bipush hX (pc := 47) (x := (-3)) dX7_partKind_47 (by decide) ?_
        refine rI hX (pc := 49) hT (Nat.le_refl 0) (Nat.le_refl 0) dX7_partKind_49 ?_
        exact ⟨rfl, rfl, by omega, by omega⟩
    · simp only [w32_mod] at h_27
      have w9 := zWc_at n6 (by decide) (h_24.2.mp (by omega))
      refine ww_bipush hX (pc := 30) (x := (-2)) dX7_partKind_30 (by decide) ?_
      refine rI hX (pc := 32) hT (Nat.le_refl 0) (Nat.le_refl 0) dX7_partKind_32 ?_
      exact ⟨rfl, rfl, by omega, by omega⟩
  · simp only [w32_mod] at h_11
    have w9 := zWc_at n5 (by decide) (h_8.2.mp (by omega))
    refine ww_iconst hX (pc := 14) (x := (-1)) dX7_partKind_14 rfl ?_
    refine rI hX (pc := 15) hT (Nat.le_refl 0) (Nat.le_refl 0) dX7_partKind_15 ?_
    exact ⟨rfl, rfl, by omega, by omega⟩
set_option maxHeartbeats 4000000 in
set_option maxRecDepth 20000 in
theorem c6_X7_wordKind (l0 : Launch) {Ia Ja : aI1} {Ra : aR1} {Sa : aS1} (hL : LY Ra Sa) (hI : XI Ia) {f : Nat → Int} {N : Nat} (hN : Ia 8 1 = N) (hf : ∀ j, j < N → f j = Ia 9 j) {a b : Int} (ha0 : 0 ≤ a) (hab : a ≤ b) (hb : b ≤ Ia 8 1)  : CT l0 6 0 0 mX7_wordKind [kR (some 10), kI a, kI b] Ia Ja Ra Sa (cI (fun x I' J' => Ia = I' ∧ Ja = J' ∧ (-8 ≤ x ∧ x ≤ 262) ∧ ((zWc f a.toNat b.toNat = 0 ∧ x = 257) ∨ (1 ≤ zWc f a.toNat b.toNat ∧ zWc f a.toNat b.toNat ≤ 5 ∧ x = 257 + zWc f a.toNat b.toNat) ∨ (6 ≤ zWc f a.toNat b.toNat ∧ x = 5 - zWc f a.toNat b.toNat))) Ra Sa) := by
  refine ct_in pn_X7 (Nat.le_of_ble_eq_true rfl) (fun X hX hT hIn => ?_)
  have hX : aK l0 X cX7_wordKind 3 RX7 (some .int) 6 0 0 := hX
  change WW X 0 [some (kR (some 10)), some (kI a), some (kI b)] [] Ia Ja Ra Sa 0 0
  obtain ⟨hn1, hn2⟩ := hI.1
  obtain ⟨hk1, hk2⟩ := hI.2.1
  obtain ⟨hf1, hf2⟩ := hI.fu
  obtain ⟨hl1, hl2⟩ := hI.2.2.2.2.2.2.1
  have n0 : zWn f a.toNat b.toNat 0 := zWn_0
  refine ww_aload_n hX (pc := 0) dX7_wordKind_0 rfl ?_
  refine ww_getR hX (pc := 1) fX7_28 (by decide) (xs_10 hL) (xr_10_1 hL) dX7_wordKind_1 ?_
  refine ww_ldcS hX (pc := 4) (n := 0) (tx := "reads") dX7_wordKind_4 rfl ?_
  refine ww_iload_n hX (pc := 6) dX7_wordKind_6 rfl ?_
  refine ww_iload_n hX (pc := 7) dX7_wordKind_7 rfl ?_
  refine vI3 hX (pc := 8) sX7_156 (xs_8 hL) (c6_X9_spells l0 hL hI hN hf (n := 0) (by decide) (by omega) (by omega) (by omega)) (by decide) (Nat.le_refl 0) (Nat.le_refl 0) (Nat.le_of_ble_eq_true rfl) dX7_wordKind_8 (fun x_8 I_8 J_8 h_8 => ?_)
  obtain ⟨rfl, rfl, h_8⟩ := h_8
  refine ww_if_eq hX (pc := 11) (tgt := 18) dX7_wordKind_11 (by decide) (fun h_11 => ?_) (fun h_11 => ?_)
  · simp only [w32_mod] at h_11
    have n1 := zWn_s n0 (fun h9 => by have := h_8.2.mpr h9; omega)
    refine ww_aload_n hX (pc := 18) dX7_wordKind_18 rfl ?_
    refine ww_getR hX (pc := 19) fX7_28 (by decide) (xs_10 hL) (xr_10_1 hL) dX7_wordKind_19 ?_
    refine ww_ldcS hX (pc := 22) (n := 1) (tx := "if") dX7_wordKind_22 rfl ?_
    refine ww_iload_n hX (pc := 24) dX7_wordKind_24 rfl ?_
    refine ww_iload_n hX (pc := 25) dX7_wordKind_25 rfl ?_
    refine vI3 hX (pc := 26) sX7_156 (xs_8 hL) (c6_X9_spells l0 hL hI hN hf (n := 1) (by decide) (by omega) (by omega) (by omega)) (by decide) (Nat.le_refl 0) (Nat.le_refl 0) (Nat.le_of_ble_eq_true rfl) dX7_wordKind_26 (fun x_26 I_26 J_26 h_26 => ?_)
    obtain ⟨rfl, rfl, h_26⟩ := h_26
    refine ww_if_eq hX (pc := 29) (tgt := 36) dX7_wordKind_29 (by decide) (fun h_29 => ?_) (fun h_29 => ?_)
    · simp only [w32_mod] at h_29
      have n2 := zWn_s n1 (fun h9 => by have := h_26.2.mpr h9; omega)
      refine ww_aload_n hX (pc := 36) dX7_wordKind_36 rfl ?_
      refine ww_getR hX (pc := 37) fX7_28 (by decide) (xs_10 hL) (xr_10_1 hL) dX7_wordKind_37 ?_
      refine ww_ldcS hX (pc := 40) (n := 2) (tx := "or") dX7_wordKind_40 rfl ?_
      refine ww_iload_n hX (pc := 42) dX7_wordKind_42 rfl ?_
      refine ww_iload_n hX (pc := 43) dX7_wordKind_43 rfl ?_
      refine vI3 hX (pc := 44) sX7_156 (xs_8 hL) (c6_X9_spells l0 hL hI hN hf (n := 2) (by decide) (by omega) (by omega) (by omega)) (by decide) (Nat.le_refl 0) (Nat.le_refl 0) (Nat.le_of_ble_eq_true rfl) dX7_wordKind_44 (fun x_44 I_44 J_44 h_44 => ?_)
      obtain ⟨rfl, rfl, h_44⟩ := h_44
      refine ww_if_eq hX (pc := 47) (tgt := 54) dX7_wordKind_47 (by decide) (fun h_47 => ?_) (fun h_47 => ?_)
      · simp only [w32_mod] at h_47
        have n3 := zWn_s n2 (fun h9 => by have := h_44.2.mpr h9; omega)
        refine ww_aload_n hX (pc := 54) dX7_wordKind_54 rfl ?_
        refine ww_getR hX (pc := 55) fX7_28 (by decide) (xs_10 hL) (xr_10_1 hL) dX7_wordKind_55 ?_
        refine ww_ldcS hX (pc := 58) (n := 3) (tx := "and") dX7_wordKind_58 rfl ?_
        refine ww_iload_n hX (pc := 60) dX7_wordKind_60 rfl ?_
        refine ww_iload_n hX (pc := 61) dX7_wordKind_61 rfl ?_
        refine vI3 hX (pc := 62) sX7_156 (xs_8 hL) (c6_X9_spells l0 hL hI hN hf (n := 3) (by decide) (by omega) (by omega) (by omega)) (by decide) (Nat.le_refl 0) (Nat.le_refl 0) (Nat.le_of_ble_eq_true rfl) dX7_wordKind_62 (fun x_62 I_62 J_62 h_62 => ?_)
        obtain ⟨rfl, rfl, h_62⟩ := h_62
        refine ww_if_eq hX (pc := 65) (tgt := 72) dX7_wordKind_65 (by decide) (fun h_65 => ?_) (fun h_65 => ?_)
        · simp only [w32_mod] at h_65
          have n4 := zWn_s n3 (fun h9 => by have := h_62.2.mpr h9; omega)
          refine ww_aload_n hX (pc := 72) dX7_wordKind_72 rfl ?_
          refine ww_getR hX (pc := 73) fX7_28 (by decide) (xs_10 hL) (xr_10_1 hL) dX7_wordKind_73 ?_
          refine ww_ldcS hX (pc := 76) (n := 4) (tx := "not") dX7_wordKind_76 rfl ?_
          refine ww_iload_n hX (pc := 78) dX7_wordKind_78 rfl ?_
          refine ww_iload_n hX (pc := 79) dX7_wordKind_79 rfl ?_
          refine vI3 hX (pc := 80) sX7_156 (xs_8 hL) (c6_X9_spells l0 hL hI hN hf (n := 4) (by decide) (by omega) (by omega) (by omega)) (by decide) (Nat.le_refl 0) (Nat.le_refl 0) (Nat.le_of_ble_eq_true rfl) dX7_wordKind_80 (fun x_80 I_80 J_80 h_80 => ?_)
          obtain ⟨rfl, rfl, h_80⟩ := h_80
          refine ww_if_eq hX (pc := 83) (tgt := 90) dX7_wordKind_83 (by decide) (fun h_83 => ?_) (fun h_83 => ?_)
          · simp only [w32_mod] at h_83
            have n5 := zWn_s n4 (fun h9 => by have := h_80.2.mpr h9; omega)
            refine ww_aload_n hX (pc := 90) dX7_wordKind_90 rfl ?_
            refine ww_iload_n hX (pc := 91) dX7_wordKind_91 rfl ?_
            refine ww_iload_n hX (pc := 92) dX7_wordKind_92 rfl ?_
            refine vI2 hX (pc := 93) sX7_168 (xs_10 hL) (c6_X7_partKind l0 hL hI hN hf (by omega) (by omega) (by omega) n5) (by decide) (Nat.le_refl 0) (Nat.le_refl 0) (Nat.le_of_ble_eq_true rfl) dX7_wordKind_93 (fun x_93 I_93 J_93 h_93 => ?_)
            obtain ⟨rfl, rfl, h_93⟩ := h_93
            refine rI hX (pc := 96) hT (Nat.le_refl 0) (Nat.le_refl 0) dX7_wordKind_96 ?_
            exact ⟨rfl, rfl, by omega, h_93.2⟩
          · simp only [w32_mod] at h_83
            have w9 := zWc_at n4 (by decide) (h_80.2.mp (by omega))
            refine ww_sipush hX (pc := 86) (x := 262) dX7_wordKind_86 (by decide) ?_
            refine rI hX (pc := 89) hT (Nat.le_refl 0) (Nat.le_refl 0) dX7_wordKind_89 ?_
            exact ⟨rfl, rfl, by omega, by omega⟩
        · simp only [w32_mod] at h_65
          have w9 := zWc_at n3 (by decide) (h_62.2.mp (by omega))
          refine ww_sipush hX (pc := 68) (x := 261) dX7_wordKind_68 (by decide) ?_
          refine rI hX (pc := 71) hT (Nat.le_refl 0) (Nat.le_refl 0) dX7_wordKind_71 ?_
          exact ⟨rfl, rfl, by omega, by omega⟩
      · simp only [w32_mod] at h_47
        have w9 := zWc_at n2 (by decide) (h_44.2.mp (by omega))
        refine ww_sipush hX (pc := 50) (x := 260) dX7_wordKind_50 (by decide) ?_
        refine rI hX (pc := 53) hT (Nat.le_refl 0) (Nat.le_refl 0) dX7_wordKind_53 ?_
        exact ⟨rfl, rfl, by omega, by omega⟩
    · simp only [w32_mod] at h_29
      have w9 := zWc_at n1 (by decide) (h_26.2.mp (by omega))
      refine ww_sipush hX (pc := 32) (x := 259) dX7_wordKind_32 (by decide) ?_
      refine rI hX (pc := 35) hT (Nat.le_refl 0) (Nat.le_refl 0) dX7_wordKind_35 ?_
      exact ⟨rfl, rfl, by omega, by omega⟩
  · simp only [w32_mod] at h_11
    have w9 := zWc_at n0 (by decide) (h_8.2.mp (by omega))
    refine ww_sipush hX (pc := 14) (x := 258) dX7_wordKind_14 (by decide) ?_
    refine rI hX (pc := 17) hT (Nat.le_refl 0) (Nat.le_refl 0) dX7_wordKind_17 ?_
    exact ⟨rfl, rfl, by omega, by omega⟩
set_option maxHeartbeats 4000000 in
set_option maxRecDepth 20000 in
theorem c6_X7_kindOf (l0 : Launch) {Ia Ja : aI1} {Ra : aR1} {Sa : aS1} (hL : LY Ra Sa) (hI : XI Ia) {f : Nat → Int} {N : Nat} (hN : Ia 8 1 = N) (hf : ∀ j, j < N → f j = Ia 9 j) {a b : Int} (ha0 : 0 ≤ a) (hab : a < b) (hb : b ≤ Ia 8 1) (hdg : (48 ≤ Ia 9 a.toNat ∧ Ia 9 a.toNat ≤ 57 → ∀ j : Int, a ≤ j → j < b → 48 ≤ Ia 9 j.toNat ∧ Ia 9 j.toNat ≤ 57))  : CT l0 7 0 0 mX7_kindOf [kR (some 10), kI a, kI b] Ia Ja Ra Sa (cI (fun x I' J' => Ia = I' ∧ Ja = J' ∧ (-8 ≤ x ∧ x ≤ 1301) ∧ zKo f a.toNat b.toNat x) Ra Sa) := by
  refine ct_in pn_X7 (Nat.le_of_ble_eq_true rfl) (fun X hX hT hIn => ?_)
  have hX : aK l0 X cX7_kindOf 4 RX7 (some .int) 7 0 0 := hX
  change WW X 0 [some (kR (some 10)), some (kI a), some (kI b), none] [] Ia Ja Ra Sa 0 0
  obtain ⟨hn1, hn2⟩ := hI.1
  obtain ⟨hk1, hk2⟩ := hI.2.1
  obtain ⟨hf1, hf2⟩ := hI.fu
  obtain ⟨hl1, hl2⟩ := hI.2.2.2.2.2.2.1
  have hba := hI.2.2.2.2.2.2.2.2.2.2 a.toNat (by omega)
  refine ww_aload_n hX (pc := 0) dX7_kindOf_0 rfl ?_
  refine ww_getR hX (pc := 1) fX7_28 (by decide) (xs_10 hL) (xr_10_1 hL) dX7_kindOf_1 ?_
  refine ww_iload_n hX (pc := 4) dX7_kindOf_4 rfl ?_
  refine vI1 hX (pc := 5) sX7_139 (xs_8 hL) (c_X9_byteAt l0 hL hI (by omega) (by omega)) (by decide) (Nat.le_refl 0) (Nat.le_refl 0) (Nat.le_of_ble_eq_true rfl) dX7_kindOf_5 (fun x_5 I_5 J_5 h_5 => ?_)
  obtain ⟨rfl, rfl, h_5⟩ := h_5
  refine ww_istore_n hX (pc := 8) (lv' := [some (kR (some 10)), some (kI a), some (kI b), some (kI x_5)]) dX7_kindOf_8 (by decide) rfl rfl ?_
  refine ww_iload_n hX (pc := 9) dX7_kindOf_9 rfl ?_
  refine sI1 hX (pc := 10) sX7_142 (c_X7_isLetter l0 (by omega) (by omega)) (by decide) (Nat.le_refl 0) (Nat.le_refl 0) (Nat.le_of_ble_eq_true rfl) dX7_kindOf_10 (fun x_10 I_10 J_10 h_10 => ?_)
  obtain ⟨rfl, rfl, h_10⟩ := h_10
  refine ww_if_eq hX (pc := 13) (tgt := 23) dX7_kindOf_13 (by decide) (fun h_13 => ?_) (fun h_13 => ?_)
  · simp only [w32_mod] at h_13
    refine ww_iload_n hX (pc := 23) dX7_kindOf_23 rfl ?_
    refine sI1 hX (pc := 24) sX7_145 (c_X7_isDigit l0 (by omega) (by omega)) (by decide) (Nat.le_refl 0) (Nat.le_refl 0) (Nat.le_of_ble_eq_true rfl) dX7_kindOf_24 (fun x_24 I_24 J_24 h_24 => ?_)
    obtain ⟨rfl, rfl, h_24⟩ := h_24
    refine ww_if_eq hX (pc := 27) (tgt := 43) dX7_kindOf_27 (by decide) (fun h_27 => ?_) (fun h_27 => ?_)
    · simp only [w32_mod] at h_27
      refine ww_iload_n hX (pc := 43) dX7_kindOf_43 rfl ?_
      refine rI hX (pc := 44) hT (Nat.le_refl 0) (Nat.le_refl 0) dX7_kindOf_44 ?_
      exact ⟨rfl, rfl, by omega, zKo_b (by have k1 := zKl_1 (x := f a.toNat); have k2 := zKl_2 (x := f a.toNat); have k3 := zKl_r (f a.toNat); rw [hf _ (by omega)] at *; omega) (by rw [hf _ (by omega)]; exact hba) (by rw [hf _ (by omega)]; omega)⟩
    · simp only [w32_mod] at h_27
      have k_24 := h_24.2.mp (by omega)
      clear h_24
      refine ww_sipush hX (pc := 30) (x := 300) dX7_kindOf_30 (by decide) ?_
      refine ww_aload_n hX (pc := 33) dX7_kindOf_33 rfl ?_
      refine ww_iload_n hX (pc := 34) dX7_kindOf_34 rfl ?_
      refine ww_iload_n hX (pc := 35) dX7_kindOf_35 rfl ?_
      refine vI2 hX (pc := 36) sX7_151 (xs_10 hL) (c6_X7_numberAt l0 hL hI hN hf (by omega) (by omega) (by omega) (hdg (by omega))) (by decide) (Nat.le_refl 0) (Nat.le_refl 0) (Nat.le_of_ble_eq_true rfl) dX7_kindOf_36 (fun x_36 I_36 J_36 h_36 => ?_)
      obtain ⟨rfl, rfl, h_36⟩ := h_36
      refine ww_iadd hX (pc := 39) dX7_kindOf_39 ?_
      refine ww_goto hX (pc := 40) (tgt := 44) dX7_kindOf_40 (by decide) ?_
      refine rI hX (pc := 44) hT (Nat.le_refl 0) (Nat.le_refl 0) dX7_kindOf_44 ?_
      exact ⟨rfl, rfl, by omega, zKo_n ((zKl_2 (x := f a.toNat)).mpr (by rw [hf _ (by omega)]; omega)) (fun i hi => by
          have h9 := hdg (by omega) (a + i) (by omega) (by omega)
          rw [hf _ (by omega), show a.toNat + i = (a + i).toNat by omega]
          exact h9) (by rw [← h_36.2])⟩
  · simp only [w32_mod] at h_13
    have k_10 := h_10.2.mp (by omega)
    clear h_10
    refine ww_aload_n hX (pc := 16) dX7_kindOf_16 rfl ?_
    refine ww_iload_n hX (pc := 17) dX7_kindOf_17 rfl ?_
    refine ww_iload_n hX (pc := 18) dX7_kindOf_18 rfl ?_
    refine vI2 hX (pc := 19) sX7_148 (xs_10 hL) (c6_X7_wordKind l0 hL hI hN hf (by omega) (by omega) (by omega)) (by decide) (Nat.le_refl 0) (Nat.le_refl 0) (Nat.le_of_ble_eq_true rfl) dX7_kindOf_19 (fun x_19 I_19 J_19 h_19 => ?_)
    obtain ⟨rfl, rfl, h_19⟩ := h_19
    refine rI hX (pc := 22) hT (Nat.le_refl 0) (Nat.le_refl 0) dX7_kindOf_22 ?_
    exact ⟨rfl, rfl, by omega, zKo_w ((zKl_1 (x := f a.toNat)).mpr (by rw [hf _ (by omega)]; omega)) h_19.2⟩
end
