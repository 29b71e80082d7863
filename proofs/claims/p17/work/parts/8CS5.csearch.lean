section
noncomputable def S0 (k N t : Nat) : List Nat := srF k N t 65536 (zrs N) (zrs N)
/-- row 44 holds the first of a pair's CODES that are LASTING t -/
def FIo (F : aI1) (N k p t : Nat) : Prop := ∀ j : Nat, j < N → F 44 (8 * (4 * p + t) + j) = ((gd (S0 k N t) j : Nat) : Int)
def SF (F : aI1) (N k p f : Nat) (r pp : List Nat) : Prop := ∀ t : Nat, t < 4 → (F 43 (4 * p + t) = 0 → srF k N t f r pp = S0 k N t) ∧ (¬ F 43 (4 * p + t) = 0 → FIo F N k p t)
def SWx6 (F : aI1) (N k p : Nat) (q : Int) : Prop := ∃ (r pp : List Nat) (acc : Nat), RR F N r pp ∧ PK F p = (acc : Int) ∧ srch k N (65536 - q).toNat r pp acc = TOTc k N ∧ SF F N k p (65536 - q).toNat r pp
def SWi6 (mo : Int) (F : aI1) (N k p : Nat) (q : Int) : Prop := (mo = 1 → SWx6 F N k p q) ∧ (mo = 0 → PK F p = ((TOTc k N : Nat) : Int) ∧ ∀ t : Nat, t < 4 → ¬ F 43 (4 * p + t) = 0 → FIo F N k p t)
theorem FIo_of {F G : aI1} {N k p t : Nat} (e : G 44 = F 44) (h : FIo F N k p t) : FIo G N k p t := fun j hj => by rw [e]; exact h j hj
theorem SF_of {F G : aI1} {N k p f g : Nat} {r pp : List Nat} (e3 : G 43 = F 43) (e4 : G 44 = F 44) (ef : g = f) (h : SF F N k p f r pp) : SF G N k p g r pp := fun t ht => by
  rw [e3, ef]
  exact ⟨(h t ht).1, fun h9 => FIo_of e4 ((h t ht).2 h9)⟩
theorem SF_n {F G : aI1} {N k f : Nat} {r pp : List Nat} {a w c b : Int} (h : SF F N k a.toNat (f + 1) r pp) (hrr : RR F N r pp) (hN : N ≤ 8) (hni : NI F G a w c) (hnf : NF F G a w) (hw : w = b + 1 ∨ (w = 4 ∧ 3 ≤ b)) (hb : b = ((DL k r : Nat) : Int)) (hc : 1 ≤ c) (hcb : ∀ t : Nat, t < 4 → 0 ≤ F 43 (4 * a.toNat + t)) : (∀ t : Nat, t < 4 → ¬ G 43 (4 * a.toNat + t) = 0 → FIo G N k a.toNat t) ∧ (∀ t : Nat, t < 4 → G 43 (4 * a.toNat + t) = 0 → ¬ t ≤ DL k r ∧ srF k N t (f + 1) r pp = S0 k N t) := by
  refine ⟨fun t ht h1 j hj => ?_, fun t ht h1 => ?_⟩
  · rw [hnf.1 t ht j (by omega)]
    by_cases g : (t : Int) < w ∧ F 43 (4 * a.toNat + t) = 0
    · rw [if_pos g]
      have h2 := (h t ht).1 g.2
      rw [srF_s, if_pos (by omega)] at h2
      rw [← h2]
      exact (hrr.2.2 j hj).1
    · rw [if_neg g]
      refine (h t ht).2 (fun h2 => ?_) j hj
      have h3 := hni.1 t ht
      by_cases g2 : (t : Int) < w
      · exact g ⟨g2, h2⟩
      · rw [if_neg g2] at h3
        omega
  · have h3 := hni.1 t ht
    have h4 := hcb t ht
    by_cases g2 : (t : Int) < w
    · rw [if_pos g2] at h3
      omega
    · rw [if_neg g2] at h3
      exact ⟨by omega, (h t ht).1 (by omega)⟩
set_option maxHeartbeats 4000000 in
set_option maxRecDepth 20000 in
theorem c6_X2_search (l0 : Launch) {Ia Ja : aI1} {Ra : aR1} {Sa : aS1} (hL : LY Ra Sa) {p n k : Int} (hp0 : 0 ≤ p) (hp1 : p ≤ 8) (hn0 : 1 ≤ n) (hn1 : n ≤ 3) (hk0 : 2 ≤ k) (hk1 : k ≤ 4) (hF : FI Ia) (hz : ∀ t : Nat, t < 4 → Ia 43 (4 * p.toNat + t) = 0)  : CT l0 3 0 0 mX2_search [kR (some 37), kI p, kI n, kI k] Ia Ja Ra Sa (cV (fun I' J' => Kp 37 46 Ia I' ∧ Kp 37 46 Ja J' ∧ FI I' ∧ PK I' p.toNat = ((TOTc k.toNat (2 ^ n.toNat) : Nat) : Int) ∧ (∀ t : Nat, t < 4 → 0 ≤ I' 43 (4 * p.toNat + t) ∧ I' 43 (4 * p.toNat + t) < 16777216) ∧ (∀ j : Nat, (j < 4 * p.toNat ∨ 4 * p.toNat + 4 ≤ j) → I' 43 j = Ia 43 j) ∧ I' 45 = Ia 45 ∧ (∀ t : Nat, t < 4 → ¬ I' 43 (4 * p.toNat + t) = 0 → FIo I' (2 ^ n.toNat) k.toNat p.toNat t) ∧ (∀ j : Nat, (j < 32 * p.toNat ∨ 32 * p.toNat + 32 ≤ j) → I' 44 j = Ia 44 j)) Ra Sa) := by
  refine ct_in pn_X2 (Nat.le_of_ble_eq_true rfl) (fun X hX hT hIn => ?_)
  have hX : aK l0 X cX2_search 7 RX2 none 3 0 0 := hX
  change WW X 0 [some (kR (some 37)), some (kI p), some (kI n), some (kI k), none, none, none] [] Ia Ja Ra Sa 0 0
  refine ww_iconst hX (pc := 0) (x := 1) dX2_search_0 rfl ?_
  refine ww_iload_n hX (pc := 1) dX2_search_1 rfl ?_
  refine ww_ishl hX (pc := 2) dX2_search_2 ?_
  refine ww_nmI (fun v_3 hv_3 => ?_)
  refine ww_istore hX (pc := 3) (lv' := [some (kR (some 37)), some (kI p), some (kI n), some (kI k), some (kI v_3), none, none]) dX2_search_3 (by decide) rfl rfl ?_
  have hst : 2 ≤ v_3 ∧ v_3 ≤ 8 := by
    rw [hv_3, i_shl1 (by omega) (by omega)]
    rcases (show n = 1 ∨ n = 2 ∨ n = 3 by omega) with rfl | rfl | rfl <;> decide
  have hN3 : v_3.toNat = 2 ^ n.toNat := by
    rw [hv_3, i_shl1 (by omega) (by omega)]
    rcases (show n = 1 ∨ n = 2 ∨ n = 3 by omega) with rfl | rfl | rfl <;> decide
  refine ww_aload_n hX (pc := 5) dX2_search_5 rfl ?_
  refine ww_getR hX (pc := 6) fX2_18 (by decide) (xs_37 hL) (xr_37_1 hL) dX2_search_6 ?_
  refine ww_iconst hX (pc := 9) (x := 0) dX2_search_9 rfl ?_
  refine sV2 hX (pc := 10) sX2_53 (c_J7_fill_53178 l0 (xs_41 hL) (by decide)) (by decide) (Nat.le_refl 0) (Nat.le_refl 0) (Nat.le_of_ble_eq_true rfl) dX2_search_10 (fun I_10 J_10 h_10 => ?_)
  obtain ⟨rfl, eI_10⟩ := h_10
  have kI_10 : Kp 37 46 Ia I_10 := by rw [eI_10]; exact Kp_upR (Kp_rf (a := 37) (b := 46)) _ (by decide)
  refine ww_aload_n hX (pc := 13) dX2_search_13 rfl ?_
  refine ww_getR hX (pc := 14) fX2_22 (by decide) (xs_37 hL) (xr_37_2 hL) dX2_search_14 ?_
  refine ww_iconst hX (pc := 17) (x := 0) dX2_search_17 rfl ?_
  refine sV2 hX (pc := 18) sX2_53 (c_J7_fill_53178 l0 (xs_42 hL) (by decide)) (by decide) (Nat.le_refl 0) (Nat.le_refl 0) (Nat.le_of_ble_eq_true rfl) dX2_search_18 (fun I_18 J_18 h_18 => ?_)
  obtain ⟨rfl, eI_18⟩ := h_18
  have kI_18 : Kp 37 46 Ia I_18 := by rw [eI_18]; exact Kp_upR kI_10 _ (by decide)
  have hz41 : ∀ j, j < 8 → I_18 41 j = 0 := fun j hj => by rw [eI_18, upR_n _ _ (by decide), eI_10, upR_s, if_pos hj]
  have hz42 : ∀ j, j < 8 → I_18 42 j = 0 := fun j hj => by rw [eI_18, upR_s, if_pos hj]
  have hz43 : I_18 43 = Ia 43 := by rw [eI_18, upR_n _ _ (by decide), eI_10, upR_n _ _ (by decide)]
  have hz44 : I_18 44 = Ia 44 := by rw [eI_18, upR_n _ _ (by decide), eI_10, upR_n _ _ (by decide)]
  have hz45 : I_18 45 = Ia 45 := by rw [eI_18, upR_n _ _ (by decide), eI_10, upR_n _ _ (by decide)]
  refine ww_iconst hX (pc := 21) (x := 1) dX2_search_21 rfl ?_
  refine ww_istore hX (pc := 22) (lv' := [some (kR (some 37)), some (kI p), some (kI n), some (kI k), some (kI v_3), some (kI 1), none]) dX2_search_22 (by decide) rfl rfl ?_
  refine ww_iconst hX (pc := 24) (x := 0) dX2_search_24 rfl ?_
  refine ww_istore hX (pc := 25) (lv' := [some (kR (some 37)), some (kI p), some (kI n), some (kI k), some (kI v_3), some (kI 1), some (kI 0)]) dX2_search_25 (by decide) rfl rfl ?_
  have hl_27 : ∀ (n_27 : Nat) (mo : Int) (q : Int) (I2 : aI1) (J2 : aI1), (65536 - q).toNat = n_27 → (Kp 37 46 Ia I2 ∧ Kp 37 46 Ja J2 ∧ (0 ≤ q ∧ q ≤ 65536) ∧ RI I2 v_3 k ∧ FI I2 ∧ I2 45 = Ia 45 ∧ SWi6 mo I2 v_3.toNat k.toNat p.toNat q ∧ (mo = 0 ∨ mo = 1) ∧ (∀ t : Nat, t < 4 → 0 ≤ I2 43 (4 * p.toNat + t) ∧ I2 43 (4 * p.toNat + t) ≤ 24 * q) ∧ (∀ j : Nat, (j < 4 * p.toNat ∨ 4 * p.toNat + 4 ≤ j) → I2 43 j = Ia 43 j) ∧ (∀ j : Nat, (j < 32 * p.toNat ∨ 32 * p.toNat + 32 ≤ j) → I2 44 j = Ia 44 j)) → WW X 27 [some (kR (some 37)), some (kI p), some (kI n), some (kI k), some (kI v_3), some (kI mo), some (kI q)] [] I2 J2 Ra Sa 0 0 := by
    intro n_27
    induction n_27 using Nat.strongRecOn with
    | ind n_27 ih_27 =>
      intro mo q I2 J2 hm_27 hv_27
      have hq_27 := Sh0_i hm_27
      clear hm_27
      obtain ⟨kI2, kJ2, hq, hr2, fI2, e45, hsw, hmb, hct, hoj, hof⟩ := hv_27
      refine ww_iload hX (pc := 27) dX2_search_27 rfl ?_
      refine ww_ldc hX (pc := 29) (x := 65536) dX2_search_29 tb_870 ?_
      refine ww_icmp_ge hX (pc := 31) (tgt := 100) dX2_search_31 (by decide) (fun h_31 => ?_) (fun h_31 => ?_)
      · simp only [w32_mod] at h_31
        refine rV hX (pc := 100) hT (Nat.le_refl 0) (Nat.le_refl 0) dX2_search_100 ?_
        have hpt : PK I2 p.toNat = ((TOTc k.toNat v_3.toNat : Nat) : Int) := by
          rcases hmb with h9 | h9
          · exact (hsw.2 h9).1
          · obtain ⟨r, pp, acc, -, h7, h6, -⟩ := hsw.1 h9
            rw [show (65536 - q).toNat = 0 by omega] at h6
            have h5 : acc = TOTc k.toNat v_3.toNat := h6
            rw [h7, h5]
        exact ⟨kI2, kJ2, fI2, by rw [← hN3]; exact hpt, fun t ht => by have := hct t ht; omega, hoj, e45, (fun t ht h8 => by
            rw [← hN3]
            rcases hmb with h9 | h9
            · exact (hsw.2 h9).2 t ht h8
            · obtain ⟨r, pp, acc, -, -, -, h6⟩ := hsw.1 h9
              exact (h6 t ht).2 h8), hof⟩
      · simp only [w32_mod] at h_31
        refine ww_iload hX (pc := 34) dX2_search_34 rfl ?_
        refine ww_if_eq hX (pc := 36) (tgt := 100) dX2_search_36 (by decide) (fun h_36 => ?_) (fun h_36 => ?_)
        · simp only [w32_mod] at h_36
          refine rV hX (pc := 100) hT (Nat.le_refl 0) (Nat.le_refl 0) dX2_search_100 ?_
          have hpt : PK I2 p.toNat = ((TOTc k.toNat v_3.toNat : Nat) : Int) := by
            rcases hmb with h9 | h9
            · exact (hsw.2 h9).1
            · obtain ⟨r, pp, acc, -, h7, h6, -⟩ := hsw.1 h9
              rw [show (65536 - q).toNat = 0 by omega] at h6
              have h5 : acc = TOTc k.toNat v_3.toNat := h6
              rw [h7, h5]
          exact ⟨kI2, kJ2, fI2, by rw [← hN3]; exact hpt, fun t ht => by have := hct t ht; omega, hoj, e45, (fun t ht h8 => by
              rw [← hN3]
              rcases hmb with h9 | h9
              · exact (hsw.2 h9).2 t ht h8
              · obtain ⟨r, pp, acc, -, -, -, h6⟩ := hsw.1 h9
                exact (h6 t ht).2 h8), hof⟩
        · simp only [w32_mod] at h_36
          refine ww_aload_n hX (pc := 39) dX2_search_39 rfl ?_
          refine ww_getR hX (pc := 40) fX2_14 (by decide) (xs_37 hL) (xr_37_0 hL) dX2_search_40 ?_
          refine ww_aload_n hX (pc := 43) dX2_search_43 rfl ?_
          refine ww_getR hX (pc := 44) fX2_18 (by decide) (xs_37 hL) (xr_37_1 hL) dX2_search_44 ?_
          refine ww_iload hX (pc := 47) dX2_search_47 rfl ?_
          refine ww_iconst hX (pc := 49) (x := 1) dX2_search_49 rfl ?_
          refine ww_isub hX (pc := 50) dX2_search_50 ?_
          refine ww_iconst hX (pc := 51) (x := 0) dX2_search_51 rfl ?_
          refine ww_iload_n hX (pc := 52) dX2_search_52 rfl ?_
          refine vV4 hX (pc := 53) sX2_60 (xs_38 hL) (c5_X5_fill l0 (Ia := I2) (xs_38 hL) (xr_38_0 hL) (xr_38_1 hL) (xs_40 hL) (xs_39 hL) (xs_41 hL) (by decide) (by decide) (by decide) (by decide) (fun j hj => by have := hr2.1 j hj; omega) (by decide) (by omega) (by omega) (by omega) (by decide) (by omega) (by omega)) (by decide) (Nat.le_refl 0) (Nat.le_refl 0) (Nat.le_of_ble_eq_true rfl) dX2_search_53 (fun I_53 J_53 h_53 => ?_)
          obtain ⟨rfl, h_53, lv_53⟩ := h_53
          have kI_53 : Kp 37 46 Ia I_53 := Kp_tr kI2 (Kq_kp h_53 (by decide) (by decide))
          have e41_53 := h_53 41 (by decide) (by decide)
          have e42_53 := h_53 42 (by decide) (by decide)
          have e43_53 := h_53 43 (by decide) (by decide)
          have e44_53 := h_53 44 (by decide) (by decide)
          have hr_53 : RI I_53 v_3 k := RI_of hr2 e41_53 e42_53
          have f_53 : FI I_53 := FI_of fI2 (h_53 44 (by decide) (by decide))
          obtain ⟨r, pp, acc, hrr, hac, hsr, hsf⟩ := hsw.1 (by omega)
          have hd0 : I_53 40 (Int.toNat 0) = ((DL k.toNat r : Nat) : Int) := DL_v (N := v_3.toNat) (q := k.toNat) hrr.1 (by omega) (by omega) (by omega) (by omega) (by rw [show ((v_3.toNat : Nat) : Int) = v_3 - 1 + 1 by omega, show ((k.toNat : Nat) : Int) = k by omega]; exact lv_53) (fun s hs => (hrr.2.2 s hs).1)
          have hdb : 0 ≤ I_53 40 (Int.toNat 0) ∧ I_53 40 (Int.toNat 0) ≤ 8 := by
            have h9 : 0 ≤ I_53 40 (Int.toNat 0) ∧ I_53 40 (Int.toNat 0) ≤ 8 - pcn 0 := (lv_53 0 (by omega) (by omega)).2
            have h8 := pcn_r 0
            omega
          have hpk : I_53 42 (v_3 - 1).toNat = ((gd pp (v_3.toNat - 1) : Nat) : Int) := by rw [e42_53, show (v_3 - 1).toNat = v_3.toNat - 1 by omega]; exact (hrr.2.2 _ (by omega)).2
          have hpk2 := (hr_53.1 (v_3 - 1).toNat (by omega)).2
          refine ww_aload_n hX (pc := 56) dX2_search_56 rfl ?_
          refine ww_iload_n hX (pc := 57) dX2_search_57 rfl ?_
          refine ww_aload_n hX (pc := 58) dX2_search_58 rfl ?_
          refine ww_getR hX (pc := 59) fX2_14 (by decide) (xs_37 hL) (xr_37_0 hL) dX2_search_59 ?_
          refine ww_getR hX (pc := 62) fX2_63 (by decide) (xs_38 hL) (xr_38_0 hL) dX2_search_62 ?_
          refine ww_iconst hX (pc := 65) (x := 0) dX2_search_65 rfl ?_
          refine ww_iald hX (pc := 66) (xs_40 hL) (by decide) (by omega) (by omega) dX2_search_66 ?_
          refine ww_iload_n hX (pc := 67) dX2_search_67 rfl ?_
          refine ww_aload_n hX (pc := 68) dX2_search_68 rfl ?_
          refine ww_getR hX (pc := 69) fX2_22 (by decide) (xs_37 hL) (xr_37_2 hL) dX2_search_69 ?_
          refine ww_iload hX (pc := 72) dX2_search_72 rfl ?_
          refine ww_iconst hX (pc := 74) (x := 1) dX2_search_74 rfl ?_
          refine ww_isub hX (pc := 75) dX2_search_75 ?_
          refine ww_iald hX (pc := 76) (xs_42 hL) (by decide) (by omega) (by omega) dX2_search_76 ?_
          refine ww_iconst hX (pc := 77) (x := 1) dX2_search_77 rfl ?_
          refine ww_iadd hX (pc := 78) dX2_search_78 ?_
          refine sI2 hX (pc := 79) sX2_66 (c5_X2_namings l0 (by omega) (by omega) (by omega) (by omega)) (by decide) (Nat.le_refl 0) (Nat.le_refl 0) (Nat.le_of_ble_eq_true rfl) dX2_search_79 (fun x_79 I_79 J_79 h_79 => ?_)
          obtain ⟨rfl, rfl, h_79⟩ := h_79
          refine vV3 hX (pc := 82) sX2_69 (xs_37 hL) (c6_X2_note l0 hL (by omega) (by omega) (by omega) (by omega) (fun j hj => by have := hr_53.1 j hj; omega) f_53 (fun t ht => by rw [e43_53]; have := hct t ht; omega)) (by decide) (Nat.le_refl 0) (Nat.le_refl 0) (Nat.le_of_ble_eq_true rfl) dX2_search_82 (fun I_82 J_82 h_82 => ?_)
          have kI_82 : Kp 37 46 Ia I_82 := Kp_tr kI_53 (Kp_wd h_82.1 (by decide) (by decide))
          have kJ_82 : Kp 37 46 Ja J_82 := Kp_tr kJ2 (Kp_wd h_82.2.1 (by decide) (by decide))
          have hr_82 : RI I_82 v_3 k := RI_of hr_53 (h_82.1 41 (by decide)) (h_82.1 42 (by decide))
          have f_82 : FI I_82 := h_82.2.2.1
          obtain ⟨w8, hw8, hn8, hnf8⟩ := h_82.2.2.2
          have hp8 := PK_n hn8 hw8 (by omega)
          have hnr := namN_r (k := k.toNat) (u := (I_53 42 (v_3 - 1).toNat + 1).toNat) (by omega) (by omega) (by omega)
          refine ww_aload_n hX (pc := 85) dX2_search_85 rfl ?_
          refine ww_iload hX (pc := 86) dX2_search_86 rfl ?_
          refine ww_iload_n hX (pc := 88) dX2_search_88 rfl ?_
          refine vI2 hX (pc := 89) sX2_72 (xs_37 hL) (c5_X2_turnOn l0 hL (by omega) (by omega) (by omega) (by omega) hr_82) (by decide) (Nat.le_refl 0) (Nat.le_refl 0) (Nat.le_of_ble_eq_true rfl) dX2_search_89 (fun x_89 I_89 J_89 h_89 => ?_)
          have kI_89 : Kp 37 46 Ia I_89 := Kp_tr kI_82 (Kp_wd h_89.1 (by decide) (by decide))
          have kJ_89 : Kp 37 46 Ja J_89 := Kp_tr kJ_82 (Kp_wd h_89.2.1 (by decide) (by decide))
          have f_89 : FI I_89 := FI_of f_82 (h_89.1 44 (by decide))
          have e43_89 : I_89 43 = I_82 43 := h_89.1 43 (by decide)
          have e45_89 : PK I_89 p.toNat = ((acc + namN k.toNat (gd pp (v_3.toNat - 1) + 1) * pwC (DL k.toNat r) : Nat) : Int) := by
            have h9 : PK I_89 p.toNat = PK I_82 p.toNat := by unfold PK; rw [e43_89]
            have h8 : PK I_53 p.toNat = PK I2 p.toNat := by unfold PK; rw [e43_53]
            rw [h9, hp8, h8, hac, h_79, hd0, Int.natCast_add, Int.natCast_mul]
            rw [Int.toNat_natCast, show (I_53 42 (v_3 - 1).toNat + 1).toNat = gd pp (v_3.toNat - 1) + 1 by omega]
          have hrr8 : RR I_82 v_3.toNat r pp := ⟨hrr.1, hrr.2.1, fun j hj => by rw [h_82.1 41 (by decide), h_82.1 42 (by decide), e41_53, e42_53]; exact hrr.2.2 j hj⟩
          have hss := srch_s k.toNat v_3.toNat (65536 - q - 1).toNat r pp acc
          rw [show (65536 - q - 1).toNat + 1 = (65536 - q).toNat by omega, hsr] at hss
          have hsf53 : SF I_53 v_3.toNat k.toNat p.toNat ((65536 - q - 1).toNat + 1) r pp := SF_of e43_53 e44_53 (by omega) hsf
          have hrr53 : RR I_53 v_3.toNat r pp := ⟨hrr.1, hrr.2.1, fun j hj => by rw [e41_53, e42_53]; exact hrr.2.2 j hj⟩
          have hsn := SF_n hsf53 hrr53 (by omega) hn8 hnf8 hw8 hd0 (by omega) (fun t ht => by rw [e43_53]; exact (hct t ht).1)
          have e44_89 : I_89 44 = I_82 44 := h_89.1 44 (by decide)
          have hsB : ∀ t : Nat, t < 4 → ¬ I_89 43 (4 * p.toNat + t) = 0 → FIo I_89 v_3.toNat k.toNat p.toNat t := fun t ht h7 => FIo_of e44_89 (hsn.1 t ht (by rw [← e43_89]; exact h7))
          have hsA : ¬ nxA k.toNat r pp (v_3.toNat - 1) = 0 → SF I_89 v_3.toNat k.toNat p.toNat (65536 - (q + 1)).toNat (mkL (nxR r (nxA k.toNat r pp (v_3.toNat - 1))) v_3.toNat []) (mkL (nxP r pp (nxA k.toNat r pp (v_3.toNat - 1))) v_3.toNat []) := fun h7 t ht => ⟨fun h6 => by
              obtain ⟨g1, g2⟩ := hsn.2 t ht (by rw [← e43_89]; exact h6)
              rw [srF_s, if_neg g1, if_neg h7] at g2
              rw [show (65536 - (q + 1)).toNat = (65536 - q - 1).toNat by omega]
              exact g2, fun h6 => hsB t ht h6⟩
          have hof9 : ∀ j : Nat, (j < 32 * p.toNat ∨ 32 * p.toNat + 32 ≤ j) → I_89 44 j = Ia 44 j := fun j hj => by rw [e44_89, hnf8.2 j hj, e44_53]; exact hof j hj
          have hsx : SWi6 x_89 I_89 v_3.toNat k.toNat p.toNat (q + 1) := by
            refine ⟨fun h9 => ?_, fun h9 => ?_⟩
            · have ht := h_89.2.2.2.2
              rw [h9] at ht
              have h8 := TO_1 (N := v_3.toNat) (k := k.toNat) (by omega) (by omega) (by omega) hrr8 ht
              rw [if_neg h8.1, show (65536 - q - 1).toNat = (65536 - (q + 1)).toNat by omega] at hss
              exact ⟨_, _, _, h8.2, e45_89, hss.symm, hsA h8.1⟩
            · have ht := h_89.2.2.2.2
              rw [h9] at ht
              have h8 := TO_0 (N := v_3.toNat) (k := k.toNat) (by omega) (by omega) (by omega) hrr8 ht
              rw [if_pos h8] at hss
              exact ⟨by rw [e45_89, hss], hsB⟩
          clear hss hsr
          have hct9 : ∀ t : Nat, t < 4 → 0 ≤ I_89 43 (4 * p.toNat + t) ∧ I_89 43 (4 * p.toNat + t) ≤ 24 * (q + 1) := fun t ht => by
            have h7 := hn8.1 t ht
            have h6 := hct t ht
            rw [e43_89, h7, e43_53]
            split <;> omega
          have hoj9 : ∀ j : Nat, (j < 4 * p.toNat ∨ 4 * p.toNat + 4 ≤ j) → I_89 43 j = Ia 43 j := fun j hj => by
            rw [e43_89, hn8.2 j hj, e43_53]; exact hoj j hj
          refine ww_istore hX (pc := 92) (lv' := [some (kR (some 37)), some (kI p), some (kI n), some (kI k), some (kI v_3), some (kI x_89), some (kI q)]) dX2_search_92 (by decide) rfl rfl ?_
          refine ww_iinc hX (pc := 94) (lv' := [some (kR (some 37)), some (kI p), some (kI n), some (kI k), some (kI v_3), some (kI x_89), some (kI (q + 1))]) dX2_search_94 rfl (by decide) rfl rfl ?_
          refine ww_goto hX (pc := 97) (tgt := 27) dX2_search_97 (by decide) ?_
          exact ih_27 _ (by have hm9 := Sh0_e hq_27; omega) x_89 (q + 1) I_89 J_89 rfl ⟨kI_89, kJ_89, ⟨by omega, by omega⟩, h_89.2.2.2.1, f_89, by rw [h_89.1 45 (by decide), h_82.1 45 (by decide), h_53 45 (by decide) (by decide)]; exact e45, hsx, by omega, hct9, hoj9, hof9⟩
  exact hl_27 _ 1 0 I_18 Ja rfl ⟨kI_18, (Kp_rf (a := 37) (b := 46)), ⟨by omega, by omega⟩, ⟨fun j hj => by rw [hz41 j hj, hz42 j hj]; omega, fun j h1 h2 => by rw [hz41 j (by omega), hz42 (j - 1) (by omega)]; omega⟩, FI_of hF (by rw [eI_18, upR_n _ _ (by decide), eI_10, upR_n _ _ (by decide)]), hz45, ⟨(fun _ => ⟨zrs v_3.toNat, zrs v_3.toNat, 0, ⟨(zrs_v _).1, (zrs_v _).1, fun j hj => by rw [hz41 j (by omega), hz42 j (by omega), (zrs_v _).2]; exact ⟨rfl, rfl⟩⟩, by unfold PK; rw [hz43, hz 1 (by decide), hz 2 (by decide), hz 3 (by decide)]; have := hz 0 (by decide); rw [Nat.add_zero] at this; rw [this]; rfl, rfl, (fun t ht => ⟨fun _ => rfl, fun h9 => absurd (by rw [hz43]; exact hz t ht) h9⟩)⟩), (fun h9 => absurd h9 (by decide))⟩, Or.inr rfl, (fun t ht => by rw [hz43, hz t ht]; omega), (fun j hj => by rw [hz43]), (fun j hj => by rw [hz44])⟩
end
section
/-- what was searched holds the first CODES too -/
def SRF (F : aI1) : Prop := ∀ n k : Int, 1 ≤ n → n ≤ 3 → 2 ≤ k → k ≤ 4 → F 45 ((n - 1) * 3 + k - 2).toNat = 1 → ∀ t : Nat, t < 4 → ¬ F 43 (4 * ((n - 1) * 3 + k - 2).toNat + t) = 0 → FIo F (2 ^ n.toNat) k.toNat ((n - 1) * 3 + k - 2).toNat t
theorem TBt_r6 (k N t : Nat) : 0 ≤ TBt k N t ∧ TBt k N t < 16777216 := by
  unfold TBt
  have := Nat.mod_lt (TOTc k N / 16777216 ^ t) (show 0 < 16777216 by decide)
  omega
theorem SRF_of {F G : aI1} (h : SRF F) (h1 : G 43 = F 43) (h2 : G 44 = F 44) (h3 : G 45 = F 45) : SRF G := fun n k n0 n1 k0 k1 h45 t ht hc => FIo_of h2 (h n k n0 n1 k0 k1 (by rw [← h3]; exact h45) t ht (by rw [← h1]; exact hc))
theorem SRF_s {F G : aI1} {n k : Int} (h : SRF F) (n0 : 1 ≤ n) (n1 : n ≤ 3) (k0 : 2 ≤ k) (k1 : k ≤ 4) (hf : ∀ t : Nat, t < 4 → ¬ G 43 (4 * ((n - 1) * 3 + k - 2).toNat + t) = 0 → FIo G (2 ^ n.toNat) k.toNat ((n - 1) * 3 + k - 2).toNat t) (o3 : ∀ j : Nat, (j < 4 * ((n - 1) * 3 + k - 2).toNat ∨ 4 * ((n - 1) * 3 + k - 2).toNat + 4 ≤ j) → G 43 j = F 43 j) (o4 : ∀ j : Nat, (j < 32 * ((n - 1) * 3 + k - 2).toNat ∨ 32 * ((n - 1) * 3 + k - 2).toNat + 32 ≤ j) → G 44 j = F 44 j) (e45 : G 45 = up1 (F 45) ((n - 1) * 3 + k - 2).toNat 1) : SRF G := fun n' k' a0 a1 b0 b1 h45 t ht hc => by
  by_cases e : n' = n ∧ k' = k
  · obtain ⟨rfl, rfl⟩ := e
    exact hf t ht hc
  · have hne : ((n' - 1) * 3 + k' - 2).toNat ≠ ((n - 1) * 3 + k - 2).toNat := by omega
    rw [e45, up1_n _ _ hne] at h45
    rw [o3 _ (by omega)] at hc
    have h9 := h n' k' a0 a1 b0 b1 h45 t ht hc
    have hN : 2 ^ n'.toNat ≤ 8 := by
      rcases (show n' = 1 ∨ n' = 2 ∨ n' = 3 by omega) with rfl | rfl | rfl <;> decide
    exact fun j hj => by rw [o4 _ (by omega)]; exact h9 j hj
set_option maxHeartbeats 4000000 in
set_option maxRecDepth 20000 in
theorem c6_X2_countCodes (l0 : Launch) {Ia Ja : aI1} {Ra : aR1} {Sa : aS1} (hL : LY Ra Sa) {n k t : Int} (hn0 : 1 ≤ n) (hn1 : n ≤ 3) (hk0 : 2 ≤ k) (hk1 : k ≤ 4) (ht0 : 0 ≤ t) (ht1 : t ≤ 8) (hF : FI Ia) (hS : SR Ia) (hG : SRF Ia)  : CT l0 4 0 0 mX2_countCodes [kR (some 37), kI n, kI k, kI t] Ia Ja Ra Sa (cI (fun x I' J' => Kp 37 46 Ia I' ∧ Kp 37 46 Ja J' ∧ FI I' ∧ SR I' ∧ SRF I' ∧ (3 < t → x = 0) ∧ (t ≤ 3 → I' 45 ((n - 1) * 3 + k - 2).toNat = 1) ∧ (t ≤ 3 → x = TBt k.toNat (2 ^ n.toNat) t.toNat)) Ra Sa) := by
  refine ct_in pn_X2 (Nat.le_of_ble_eq_true rfl) (fun X hX hT hIn => ?_)
  have hX : aK l0 X cX2_countCodes 5 RX2 (some .int) 4 0 0 := hX
  change WW X 0 [some (kR (some 37)), some (kI n), some (kI k), some (kI t), none] [] Ia Ja Ra Sa 0 0
  refine ww_iload_n hX (pc := 0) dX2_countCodes_0 rfl ?_
  refine ww_iconst hX (pc := 1) (x := 3) dX2_countCodes_1 rfl ?_
  refine ww_icmp_le hX (pc := 2) (tgt := 7) dX2_countCodes_2 (by decide) (fun h_2 => ?_) (fun h_2 => ?_)
  · simp only [w32_mod] at h_2
    refine ww_iload_n hX (pc := 7) dX2_countCodes_7 rfl ?_
    refine ww_iload_n hX (pc := 8) dX2_countCodes_8 rfl ?_
    refine sI2 hX (pc := 9) sX2_35 (c_X2_pairOf l0) (by decide) (Nat.le_refl 0) (Nat.le_refl 0) (Nat.le_of_ble_eq_true rfl) dX2_countCodes_9 (fun x_9 I_9 J_9 h_9 => ?_)
    obtain ⟨rfl, rfl, h_9⟩ := h_9
    refine ww_istore hX (pc := 12) (lv' := [some (kR (some 37)), some (kI n), some (kI k), some (kI t), some (kI x_9)]) dX2_countCodes_12 (by decide) rfl rfl ?_
    have e12 : x_9 = (n - 1) * 3 + k - 2 := h_9
    have hs0 := hS n k hn0 hn1 hk0 hk1
    rw [← e12] at hs0
    refine ww_aload_n hX (pc := 14) dX2_countCodes_14 rfl ?_
    refine ww_getR hX (pc := 15) fX2_31 (by decide) (xs_37 hL) (xr_37_5 hL) dX2_countCodes_15 ?_
    refine ww_iload hX (pc := 18) dX2_countCodes_18 rfl ?_
    refine ww_zald hX (pc := 20) (xs_45 hL) (by decide) (by omega) (by omega) dX2_countCodes_20 ?_
    refine ww_if_ne hX (pc := 21) (tgt := 40) dX2_countCodes_21 (by decide) (fun h_21 => ?_) (fun h_21 => ?_)
    · simp only [w32_mod] at h_21
      refine ww_aload_n hX (pc := 40) dX2_countCodes_40 rfl ?_
      refine ww_getR hX (pc := 41) fX2_25 (by decide) (xs_37 hL) (xr_37_3 hL) dX2_countCodes_41 ?_
      refine ww_iload hX (pc := 44) dX2_countCodes_44 rfl ?_
      refine ww_iconst hX (pc := 46) (x := 4) dX2_countCodes_46 rfl ?_
      refine ww_imul hX (pc := 47) dX2_countCodes_47 ?_
      refine ww_iload_n hX (pc := 48) dX2_countCodes_48 rfl ?_
      refine ww_iadd hX (pc := 49) dX2_countCodes_49 ?_
      refine ww_iald hX (pc := 50) (xs_43 hL) (by decide) (by omega) (by omega) dX2_countCodes_50 ?_
      refine rI hX (pc := 51) hT (Nat.le_refl 0) (Nat.le_refl 0) dX2_countCodes_51 ?_
      have hsr9 := hS n k hn0 hn1 hk0 hk1
      rw [← e12] at hsr9
      exact ⟨(Kp_rf (a := 37) (b := 46)), (Kp_rf (a := 37) (b := 46)), hF, hS, hG, (fun h9 => absurd h9 (by omega)), (fun h9 => by
          rw [← e12]
          rcases hsr9 with ⟨h8, -⟩ | ⟨h8, -⟩
          · omega
          · exact h8), fun h9 => by
          rw [show (x_9 * 4 + t).toNat = 4 * x_9.toNat + t.toNat by omega]
          rcases hsr9 with ⟨h8, -⟩ | ⟨-, h8⟩
          · omega
          · exact h8 t.toNat (by omega)⟩
    · simp only [w32_mod] at h_21
      have hz0 : ∀ t : Nat, t < 4 → Ia 43 (4 * x_9.toNat + t) = 0 := by
        rcases hs0 with h8 | h8
        · exact h8.2
        · omega
      refine ww_aload_n hX (pc := 24) dX2_countCodes_24 rfl ?_
      refine ww_getR hX (pc := 25) fX2_31 (by decide) (xs_37 hL) (xr_37_5 hL) dX2_countCodes_25 ?_
      refine ww_iload hX (pc := 28) dX2_countCodes_28 rfl ?_
      refine ww_iconst hX (pc := 30) (x := 1) dX2_countCodes_30 rfl ?_
      refine ww_zast hX (pc := 31) (xs_45 hL) (by decide) (by omega) (by omega) (by decide) dX2_countCodes_31 ?_
      refine ww_nmH (fun I_31 eI_31 => ?_)
      have kI_31 : Kp 37 46 Ia I_31 := by rw [eI_31]; exact Kp_up (Kp_rf (a := 37) (b := 46)) _ _ (by decide)
      have fI_31 : FI I_31 := FI_of hF (by rw [eI_31, up2_off _ _ _ (by decide)])
      have g43 : I_31 43 = Ia 43 := by rw [eI_31, up2_off _ _ _ (by decide)]
      refine ww_aload_n hX (pc := 32) dX2_countCodes_32 rfl ?_
      refine ww_iload hX (pc := 33) dX2_countCodes_33 rfl ?_
      refine ww_iload_n hX (pc := 35) dX2_countCodes_35 rfl ?_
      refine ww_iload_n hX (pc := 36) dX2_countCodes_36 rfl ?_
      refine vV3 hX (pc := 37) sX2_39 (xs_37 hL) (c6_X2_search l0 hL (by omega) (by omega) (by omega) (by omega) (by omega) (by omega) fI_31 (fun t ht => by rw [g43]; exact hz0 t ht)) (by decide) (Nat.le_refl 0) (Nat.le_refl 0) (Nat.le_of_ble_eq_true rfl) dX2_countCodes_37 (fun I_37 J_37 h_37 => ?_)
      have kI_37 : Kp 37 46 Ia I_37 := Kp_tr kI_31 (Kp_wd h_37.1 (by decide) (by decide))
      have kJ_37 : Kp 37 46 Ja J_37 := Kp_tr (Kp_rf (a := 37) (b := 46)) (Kp_wd h_37.2.1 (by decide) (by decide))
      have z45 : I_37 45 x_9.toNat = 1 := by rw [h_37.2.2.2.2.2.2.1, eI_31, up2_s]
      have f_37 : FI I_37 := h_37.2.2.1
      have sr_37 : SR I_37 := SR_s hS hn0 hn1 hk0 hk1 (by rw [← e12]; exact h_37.2.2.2.1) (by rw [← e12]; exact h_37.2.2.2.2.1) (by rw [← e12]; exact fun j hj => (h_37.2.2.2.2.2.1 j hj).trans (by rw [g43])) (by rw [h_37.2.2.2.2.2.2.1, eI_31, up2_row, e12])
      have g44 : I_31 44 = Ia 44 := by rw [eI_31, up2_off _ _ _ (by decide)]
      have sg_37 : SRF I_37 := SRF_s hG hn0 hn1 hk0 hk1 (by rw [← e12]; exact h_37.2.2.2.2.2.2.2.1) (by rw [← e12]; exact fun j hj => (h_37.2.2.2.2.2.1 j hj).trans (by rw [g43])) (by rw [← e12]; exact fun j hj => (h_37.2.2.2.2.2.2.2.2 j hj).trans (by rw [g44])) (by rw [h_37.2.2.2.2.2.2.1, eI_31, up2_row, e12])
      refine ww_aload_n hX (pc := 40) dX2_countCodes_40 rfl ?_
      refine ww_getR hX (pc := 41) fX2_25 (by decide) (xs_37 hL) (xr_37_3 hL) dX2_countCodes_41 ?_
      refine ww_iload hX (pc := 44) dX2_countCodes_44 rfl ?_
      refine ww_iconst hX (pc := 46) (x := 4) dX2_countCodes_46 rfl ?_
      refine ww_imul hX (pc := 47) dX2_countCodes_47 ?_
      refine ww_iload_n hX (pc := 48) dX2_countCodes_48 rfl ?_
      refine ww_iadd hX (pc := 49) dX2_countCodes_49 ?_
      refine ww_iald hX (pc := 50) (xs_43 hL) (by decide) (by omega) (by omega) dX2_countCodes_50 ?_
      refine rI hX (pc := 51) hT (Nat.le_refl 0) (Nat.le_refl 0) dX2_countCodes_51 ?_
      have hsr9 := sr_37 n k hn0 hn1 hk0 hk1
      rw [← e12] at hsr9
      exact ⟨kI_37, kJ_37, f_37, sr_37, sg_37, (fun h9 => absurd h9 (by omega)), (fun h9 => by
          rw [← e12]
          rcases hsr9 with ⟨h8, -⟩ | ⟨h8, -⟩
          · omega
          · exact h8), fun h9 => by
          rw [show (x_9 * 4 + t).toNat = 4 * x_9.toNat + t.toNat by omega]
          rcases hsr9 with ⟨h8, -⟩ | ⟨-, h8⟩
          · omega
          · exact h8 t.toNat (by omega)⟩
  · simp only [w32_mod] at h_2
    refine ww_iconst hX (pc := 5) (x := 0) dX2_countCodes_5 rfl ?_
    refine rI hX (pc := 6) hT (Nat.le_refl 0) (Nat.le_refl 0) dX2_countCodes_6 ?_
    exact ⟨(Kp_rf (a := 37) (b := 46)), (Kp_rf (a := 37) (b := 46)), hF, hS, hG, fun _ => rfl, (fun h9 => absurd h9 (by omega)), fun h9 => absurd h9 (by omega)⟩
set_option maxHeartbeats 4000000 in
set_option maxRecDepth 20000 in
theorem c6_X2_copyFirst (l0 : Launch) {Ia Ja : aI1} {Ra : aR1} {Sa : aS1} (hL : LY Ra Sa) {n k t : Int} (hn0 : 1 ≤ n) (hn1 : n ≤ 3) (hk0 : 2 ≤ k) (hk1 : k ≤ 4) (ht0 : 0 ≤ t) (ht1 : t ≤ 8) (hF : FI Ia) (hS : SR Ia) (hG : SRF Ia) (hI3 : ∀ j, j < 256 → -1 ≤ Ia 3 j ∧ Ia 3 j ≤ 7)  : CT l0 5 0 0 mX2_copyFirst [kR (some 37), kI n, kI k, kI t, kR (some 3)] Ia Ja Ra Sa (cV (fun I' J' => (∀ q, q ≠ 3 → (q < 37 ∨ 46 ≤ q) → I' q = Ia q) ∧ Kp 37 46 Ja J' ∧ FI I' ∧ (∀ j, j < 256 → -1 ≤ I' 3 j ∧ I' 3 j ≤ 7) ∧ SR I' ∧ SRF I' ∧ ((t ≤ 3 ∧ 0 < TBt k.toNat (2 ^ n.toNat) t.toNat) → ∀ j : Nat, I' 3 j = if j < 2 ^ n.toNat then ((gd (S0 k.toNat (2 ^ n.toNat) t.toNat) j : Nat) : Int) else Ia 3 j) ∧ (¬ (t ≤ 3 ∧ 0 < TBt k.toNat (2 ^ n.toNat) t.toNat) → I' 3 = Ia 3)) Ra Sa) := by
  refine ct_in pn_X2 (Nat.le_of_ble_eq_true rfl) (fun X hX hT hIn => ?_)
  have hX : aK l0 X cX2_copyFirst 5 RX2 none 5 0 0 := hX
  change WW X 0 [some (kR (some 37)), some (kI n), some (kI k), some (kI t), some (kR (some 3))] [] Ia Ja Ra Sa 0 0
  refine ww_aload_n hX (pc := 0) dX2_copyFirst_0 rfl ?_
  refine ww_iload_n hX (pc := 1) dX2_copyFirst_1 rfl ?_
  refine ww_iload_n hX (pc := 2) dX2_copyFirst_2 rfl ?_
  refine ww_iload_n hX (pc := 3) dX2_copyFirst_3 rfl ?_
  refine vI3 hX (pc := 4) sX2_43 (xs_37 hL) (c6_X2_countCodes l0 hL (by omega) (by omega) (by omega) (by omega) (by omega) (by omega) hF hS hG) (by decide) (Nat.le_refl 0) (Nat.le_refl 0) (Nat.le_of_ble_eq_true rfl) dX2_copyFirst_4 (fun x_4 I_4 J_4 h_4 => ?_)
  refine ww_if_le hX (pc := 7) (tgt := 35) dX2_copyFirst_7 (by decide) (fun h_7 => ?_) (fun h_7 => ?_)
  · simp only [w32_mod] at h_7
    refine rV hX (pc := 35) hT (Nat.le_refl 0) (Nat.le_refl 0) dX2_copyFirst_35 ?_
    exact ⟨fun q h1 h2 => h_4.1 q (by omega), h_4.2.1, h_4.2.2.1, by rw [h_4.1 3 (by decide)]; exact hI3, h_4.2.2.2.1, h_4.2.2.2.2.1, (fun h9 => by exfalso; have := TBt_r6 k.toNat (2 ^ n.toNat) t.toNat; have := h_4.2.2.2.2.2.1; have := h_4.2.2.2.2.2.2.2; omega), fun _ => h_4.1 3 (by decide)⟩
  · simp only [w32_mod] at h_7
    refine ww_aload_n hX (pc := 10) dX2_copyFirst_10 rfl ?_
    refine ww_getR hX (pc := 11) fX2_28 (by decide) (xs_37 hL) (xr_37_4 hL) dX2_copyFirst_11 ?_
    refine ww_iload_n hX (pc := 14) dX2_copyFirst_14 rfl ?_
    refine ww_iload_n hX (pc := 15) dX2_copyFirst_15 rfl ?_
    refine sI2 hX (pc := 16) sX2_35 (c_X2_pairOf l0) (by decide) (Nat.le_refl 0) (Nat.le_refl 0) (Nat.le_of_ble_eq_true rfl) dX2_copyFirst_16 (fun x_16 I_16 J_16 h_16 => ?_)
    obtain ⟨rfl, rfl, h_16⟩ := h_16
    refine ww_iconst hX (pc := 19) (x := 4) dX2_copyFirst_19 rfl ?_
    refine ww_imul hX (pc := 20) dX2_copyFirst_20 ?_
    refine ww_iload_n hX (pc := 21) dX2_copyFirst_21 rfl ?_
    refine ww_iadd hX (pc := 22) dX2_copyFirst_22 ?_
    refine ww_bipush hX (pc := 23) (x := 8) dX2_copyFirst_23 (by decide) ?_
    refine ww_imul hX (pc := 25) dX2_copyFirst_25 ?_
    refine ww_aload hX (pc := 26) dX2_copyFirst_26 rfl ?_
    refine ww_iconst hX (pc := 28) (x := 0) dX2_copyFirst_28 rfl ?_
    refine ww_iconst hX (pc := 29) (x := 1) dX2_copyFirst_29 rfl ?_
    refine ww_iload_n hX (pc := 30) dX2_copyFirst_30 rfl ?_
    refine ww_ishl hX (pc := 31) dX2_copyFirst_31 ?_
    refine ww_nmI (fun v_31 hv_31 => ?_)
    have hst : 2 ≤ v_31 ∧ v_31 ≤ 8 := by
      rw [hv_31, i_shl1 (by omega) (by omega)]
      rcases (show n = 1 ∨ n = 2 ∨ n = 3 by omega) with rfl | rfl | rfl <;> decide
    have ht3 : t ≤ 3 := by have := h_4.2.2.2.2.2.1; omega
    have hbt := TBt_r6 k.toNat (2 ^ n.toNat) t.toNat
    have hx4 := h_4.2.2.2.2.2.2.2 ht3
    have h45 := h_4.2.2.2.2.2.2.1 ht3
    have hsr9 := h_4.2.2.2.1 n k hn0 hn1 hk0 hk1
    have hc43 : I_4 43 (4 * ((n - 1) * 3 + k - 2).toNat + t.toNat) = x_4 := by
      rcases hsr9 with ⟨h8, -⟩ | ⟨-, h8⟩
      · omega
      · rw [hx4]; exact h8 t.toNat (by omega)
    have hfi := h_4.2.2.2.2.1 n k hn0 hn1 hk0 hk1 h45 t.toNat (by omega) (by omega)
    refine ww_copy hX (pc := 32) tb_879 tb_663 tb_662 tb_19 (xs_44 hL) (xs_3 hL) (by decide) (by decide) (by omega) (by omega) (by omega) (by omega) (by omega) (by decide) (Nat.le_of_ble_eq_true rfl) dX2_copyFirst_32 ?_
    refine ww_nmH (fun I_32 eI_32 => ?_)
    refine rV hX (pc := 35) hT (Nat.le_refl 0) (Nat.le_refl 0) dX2_copyFirst_35 ?_
    refine ⟨fun q h1 h2 => ?_, h_4.2.1, FI_of h_4.2.2.1 (by rw [eI_32, upR_n _ _ (by decide)]), fun j hj => ?_, SR_of h_4.2.2.2.1 (by rw [eI_32, upR_n _ _ (by decide)]) (by rw [eI_32, upR_n _ _ (by decide)]), SRF_of h_4.2.2.2.2.1 (by rw [eI_32, upR_n _ _ (by decide)]) (by rw [eI_32, upR_n _ _ (by decide)]) (by rw [eI_32, upR_n _ _ (by decide)]), fun _ => (fun j => by
        rw [eI_32, upR_s, hv_31]
        unfold va_cpy
        rw [← hv_31]
        have hN3 : v_31.toNat = 2 ^ n.toNat := by
          rw [hv_31, i_shl1 (by omega) (by omega)]
          rcases (show n = 1 ∨ n = 2 ∨ n = 3 by omega) with rfl | rfl | rfl <;> decide
        by_cases g : j < 2 ^ n.toNat
        · rw [if_pos g, if_pos (by omega)]
          refine Eq.trans (congrArg (I_4 44) ?_) (hfi j g)
          omega
        · rw [if_neg g, if_neg (by omega)]
          exact congrFun (h_4.1 3 (by decide)) j), fun h9 => absurd h9 (by omega)⟩
    · rw [eI_32, upR_n _ _ h1]; exact h_4.1 q (by omega)
    · rw [eI_32, upR_s]
      unfold va_cpy
      split
      · have := h_4.2.2.1 (((x_16 * 4 + t) * 8).toNat + (j - Int.toNat 0)) (by omega)
        omega
      · rw [h_4.1 3 (by decide)]; exact hI3 j hj
end
section
/-! class and reference find the same first CODE -/
theorem cN_mn {k N t : Nat} : ∀ (c d : Nat), c ≤ d → cN k N t c ≤ cN k N t d
  | c, 0, h => by
    have e : c = 0 := by omega
    rw [e]
    exact Nat.le_refl _
  | c, d + 1, h => by
    by_cases e : c = d + 1
    · rw [e]
      exact Nat.le_refl _
    · have h1 := cN_mn (k := k) (N := N) (t := t) c d (by omega)
      show _ ≤ cN k N t d + (if t ≤ DL k (dgs k N d) then 1 else 0)
      omega
theorem cN_un {k N t c d : Nat} (h1 : cN k N t c = 0) (h2 : t ≤ DL k (dgs k N d)) : c ≤ d := by
  by_cases h : c ≤ d
  · exact h
  · exfalso
    have h3 := cN_mn (k := k) (N := N) (t := t) (d + 1) c (by omega)
    have h4 : cN k N t (d + 1) = cN k N t d + (if t ≤ DL k (dgs k N d) then 1 else 0) := rfl
    rw [if_pos h2] at h4
    omega
theorem fsx_2_2 {t : Nat} (h3 : t ≤ 3) (ht : ¬ TOTc 2 2 / 16777216 ^ t % 16777216 = 0) : ∃ c0, FSc 2 2 t c0 := by
  rcases (show t = 0 ∨ t = 1 ∨ t = 2 ∨ t = 3 by omega) with rfl | rfl | rfl | rfl
  · exact ⟨_, fs_2_2_0⟩
  · exact ⟨_, fs_2_2_1⟩
  · exact absurd ((congrArg (fun z => z / 16777216 ^ 2 % 16777216) tot_2_2).trans (by decide)) ht
  · exact absurd ((congrArg (fun z => z / 16777216 ^ 3 % 16777216) tot_2_2).trans (by decide)) ht
theorem fsx_2_4 {t : Nat} (h3 : t ≤ 3) (ht : ¬ TOTc 2 4 / 16777216 ^ t % 16777216 = 0) : ∃ c0, FSc 2 4 t c0 := by
  rcases (show t = 0 ∨ t = 1 ∨ t = 2 ∨ t = 3 by omega) with rfl | rfl | rfl | rfl
  · exact ⟨_, fs_2_4_0⟩
  · exact ⟨_, fs_2_4_1⟩
  · exact ⟨_, fs_2_4_2⟩
  · exact absurd ((congrArg (fun z => z / 16777216 ^ 3 % 16777216) tot_2_4).trans (by decide)) ht
theorem fsx_2_8 {t : Nat} (h3 : t ≤ 3) (ht : ¬ TOTc 2 8 / 16777216 ^ t % 16777216 = 0) : ∃ c0, FSc 2 8 t c0 := by
  rcases (show t = 0 ∨ t = 1 ∨ t = 2 ∨ t = 3 by omega) with rfl | rfl | rfl | rfl
  · exact ⟨_, fs_2_8_0⟩
  · exact ⟨_, fs_2_8_1⟩
  · exact ⟨_, fs_2_8_2⟩
  · exact ⟨_, fs_2_8_3⟩
theorem fsx_3_2 {t : Nat} (h3 : t ≤ 3) (ht : ¬ TOTc 3 2 / 16777216 ^ t % 16777216 = 0) : ∃ c0, FSc 3 2 t c0 := by
  rcases (show t = 0 ∨ t = 1 ∨ t = 2 ∨ t = 3 by omega) with rfl | rfl | rfl | rfl
  · exact ⟨_, fs_3_2_0⟩
  · exact absurd ((congrArg (fun z => z / 16777216 ^ 1 % 16777216) tot_3_2).trans (by decide)) ht
  · exact absurd ((congrArg (fun z => z / 16777216 ^ 2 % 16777216) tot_3_2).trans (by decide)) ht
  · exact absurd ((congrArg (fun z => z / 16777216 ^ 3 % 16777216) tot_3_2).trans (by decide)) ht
theorem fsx_3_4 {t : Nat} (h3 : t ≤ 3) (ht : ¬ TOTc 3 4 / 16777216 ^ t % 16777216 = 0) : ∃ c0, FSc 3 4 t c0 := by
  rcases (show t = 0 ∨ t = 1 ∨ t = 2 ∨ t = 3 by omega) with rfl | rfl | rfl | rfl
  · exact ⟨_, fs_3_4_0⟩
  · exact ⟨_, fs_3_4_1⟩
  · exact absurd ((congrArg (fun z => z / 16777216 ^ 2 % 16777216) tot_3_4).trans (by decide)) ht
  · exact absurd ((congrArg (fun z => z / 16777216 ^ 3 % 16777216) tot_3_4).trans (by decide)) ht
theorem fsx_3_8 {t : Nat} (h3 : t ≤ 3) (ht : ¬ TOTc 3 8 / 16777216 ^ t % 16777216 = 0) : ∃ c0, FSc 3 8 t c0 := by
  rcases (show t = 0 ∨ t = 1 ∨ t = 2 ∨ t = 3 by omega) with rfl | rfl | rfl | rfl
  · exact ⟨_, fs_3_8_0⟩
  · exact ⟨_, fs_3_8_1⟩
  · exact ⟨_, fs_3_8_2⟩
  · exact absurd ((congrArg (fun z => z / 16777216 ^ 3 % 16777216) tot_3_8).trans (by decide)) ht
theorem fsx_4_2 {t : Nat} (h3 : t ≤ 3) (ht : ¬ TOTc 4 2 / 16777216 ^ t % 16777216 = 0) : ∃ c0, FSc 4 2 t c0 := by
  rcases (show t = 0 ∨ t = 1 ∨ t = 2 ∨ t = 3 by omega) with rfl | rfl | rfl | rfl
  · exact ⟨_, fs_4_2_0⟩
  · exact absurd ((congrArg (fun z => z / 16777216 ^ 1 % 16777216) tot_4_2).trans (by decide)) ht
  · exact absurd ((congrArg (fun z => z / 16777216 ^ 2 % 16777216) tot_4_2).trans (by decide)) ht
  · exact absurd ((congrArg (fun z => z / 16777216 ^ 3 % 16777216) tot_4_2).trans (by decide)) ht
theorem fsx_4_4 {t : Nat} (h3 : t ≤ 3) (ht : ¬ TOTc 4 4 / 16777216 ^ t % 16777216 = 0) : ∃ c0, FSc 4 4 t c0 := by
  rcases (show t = 0 ∨ t = 1 ∨ t = 2 ∨ t = 3 by omega) with rfl | rfl | rfl | rfl
  · exact ⟨_, fs_4_4_0⟩
  · exact ⟨_, fs_4_4_1⟩
  · exact absurd ((congrArg (fun z => z / 16777216 ^ 2 % 16777216) tot_4_4).trans (by decide)) ht
  · exact absurd ((congrArg (fun z => z / 16777216 ^ 3 % 16777216) tot_4_4).trans (by decide)) ht
theorem fsx_4_8 {t : Nat} (h3 : t ≤ 3) (ht : ¬ TOTc 4 8 / 16777216 ^ t % 16777216 = 0) : ∃ c0, FSc 4 8 t c0 := by
  rcases (show t = 0 ∨ t = 1 ∨ t = 2 ∨ t = 3 by omega) with rfl | rfl | rfl | rfl
  · exact ⟨_, fs_4_8_0⟩
  · exact ⟨_, fs_4_8_1⟩
  · exact ⟨_, fs_4_8_2⟩
  · exact absurd ((congrArg (fun z => z / 16777216 ^ 3 % 16777216) tot_4_8).trans (by decide)) ht
theorem first_eq {n k t : Int} (n0 : 1 ≤ n) (n1 : n ≤ 3) (k0 : 2 ≤ k) (k1 : k ≤ 4) (t0 : 0 ≤ t) (hT : ¬ TBX n k t = 0) {c : Nat} (h1 : cN k.toNat (2 ^ n.toNat) t.toNat c = 0) (h2 : t.toNat ≤ DL k.toNat (dgs k.toNat (2 ^ n.toNat) c)) : S0 k.toNat (2 ^ n.toNat) t.toNat = dgs k.toNat (2 ^ n.toNat) c := by
  have key : ∀ (kk N : Nat), (∃ c0, FSc kk N t.toNat c0) → cN kk N t.toNat c = 0 → t.toNat ≤ DL kk (dgs kk N c) → S0 kk N t.toNat = dgs kk N c := fun kk N hf g1 g2 => by
    obtain ⟨c0, f1, f2, f3⟩ := hf
    have e1 := cN_un (lwF_0 _ _ _ _ f2) g2
    have e2 := cN_un g1 f3
    obtain rfl : c = c0 := by omega
    exact f1
  have h3 : t ≤ 3 := by
    by_cases g : t ≤ 3
    · exact g
    · exact absurd (if_neg g) hT
  have hT2 : ¬ TBt k.toNat (2 ^ n.toNat) t.toNat = 0 := by
    unfold TBX at hT
    rw [if_pos h3] at hT
    exact hT
  have hT3 : ¬ TOTc k.toNat (2 ^ n.toNat) / 16777216 ^ t.toNat % 16777216 = 0 := fun g => hT2 (by
    unfold TBt
    rw [g]
    rfl)
  rcases (show n = 1 ∨ n = 2 ∨ n = 3 by omega) with rfl | rfl | rfl
  · rcases (show k = 2 ∨ k = 3 ∨ k = 4 by omega) with rfl | rfl | rfl
    · exact key 2 2 (fsx_2_2 (by omega) hT3) h1 h2
    · exact key 3 2 (fsx_3_2 (by omega) hT3) h1 h2
    · exact key 4 2 (fsx_4_2 (by omega) hT3) h1 h2
  · rcases (show k = 2 ∨ k = 3 ∨ k = 4 by omega) with rfl | rfl | rfl
    · exact key 2 4 (fsx_2_4 (by omega) hT3) h1 h2
    · exact key 3 4 (fsx_3_4 (by omega) hT3) h1 h2
    · exact key 4 4 (fsx_4_4 (by omega) hT3) h1 h2
  · rcases (show k = 2 ∨ k = 3 ∨ k = 4 by omega) with rfl | rfl | rfl
    · exact key 2 8 (fsx_2_8 (by omega) hT3) h1 h2
    · exact key 3 8 (fsx_3_8 (by omega) hT3) h1 h2
    · exact key 4 8 (fsx_4_8 (by omega) hT3) h1 h2
end
section
/-! folds over STATES -/
def fW {β : Type} (f : β → Nat → β) (z : β) : Nat → β
  | 0 => z
  | n + 1 => f (fW f z n) n
theorem fW_s {β : Type} (f : β → Nat → β) (z : β) {i : Int} (h : 0 ≤ i) : fW f z (i + 1).toNat = f (fW f z i.toNat) i.toNat := by
  rw [show (i + 1).toNat = i.toNat + 1 by omega]
  rfl
theorem fW_z {β : Type} {f : β → Nat → β} {z : β} {a : Nat} : ∀ (d : Nat), (∀ v t, a ≤ t → t < a + d → f v t = v) → fW f z (a + d) = fW f z a
  | 0, _ => rfl
  | d + 1, h => by
    show f (fW f z (a + d)) (a + d) = fW f z a
    rw [h _ (a + d) (by omega) (by omega)]
    exact fW_z d (fun v t h1 h2 => h v t h1 (by omega))
theorem fW_nx {β : Type} {f : β → Nat → β} {z : β} {to e : Int} (h0 : 0 ≤ to) (h1 : to < 2147483647) (h2 : 0 ≤ e) (h3 : e < 2147483648) (hs : e.toNat &&& to.toNat = e.toNat) (hf : ∀ v (t : Nat), ¬ (e.toNat &&& t = e.toNat) → f v t = v) : fW f z (i_or (to + 1) e).toNat = f (fW f z to.toNat) to.toNat := by
  have hge := (i_or_ge (a := to + 1) (b := e) (by omega) (by omega) h2 h3).1
  have e1 : (i_or (to + 1) e).toNat = (to.toNat + 1) + ((i_or (to + 1) e).toNat - (to.toNat + 1)) := by omega
  rw [e1, fW_z _ (fun v t g1 g2 => hf v t (fun g3 => by
    have := or_nx_le h0 h1 h2 h3 hs g3 (by omega)
    omega))]
  rfl
theorem fW_e {β : Type} {f : β → Nat → β} {z : β} {e : Nat} (hf : ∀ v (t : Nat), ¬ (e &&& t = e) → f v t = v) : fW f z e = z := by
  have h := fW_z (f := f) (z := z) (a := 0) e (fun v t _ h2 => hf v t (fun h3 => by
    have h4 : e &&& t ≤ t := Nat.and_le_right
    omega))
  rw [Nat.zero_add] at h
  exact h
theorem fW_N {β : Type} {f : β → Nat → β} {z : β} {N m : Nat} (hm : N ≤ m) (hf : ∀ v (t : Nat), N ≤ t → f v t = v) : fW f z m = fW f z N := by
  have h := fW_z (f := f) (z := z) (a := N) (m - N) (fun v t h1 _ => hf v t h1)
  rw [show N + (m - N) = m by omega] at h
  exact h
/-! bits -/
theorem zand_i (x : Int) : i_and 0 x = 0 := by
  have e : Int32.ofInt 0 &&& Int32.ofInt x = 0 := Int32.toBitVec_inj.1 (by
    show 0#32 &&& (Int32.ofInt x).toBitVec = 0#32
    exact BitVec.zero_and)
  unfold i_and
  rw [e]
  rfl
theorem ior_z {v : Int} (h1 : -2147483648 ≤ v) (h2 : v < 2147483648) : i_or v 0 = v := by
  have e : Int32.ofInt v ||| Int32.ofInt 0 = Int32.ofInt v := Int32.toBitVec_inj.1 (by
    show (Int32.ofInt v).toBitVec ||| 0#32 = (Int32.ofInt v).toBitVec
    exact BitVec.or_zero)
  unfold i_or
  rw [e]
  exact w32_id h1 h2
theorem ior_r (a b : Int) : -2147483648 ≤ i_or a b ∧ i_or a b < 2147483648 := by
  have h := w32_r (i_or a b)
  have e : w32 (i_or a b) = i_or a b := by
    unfold w32 i_or
    rw [n_of]
  rw [e] at h
  exact h
theorem bc_pcn {a : Int} (h0 : 0 ≤ a) (h1 : a < 256) : bc a = pcn a.toNat := by
  have h : ∀ n : Fin 256, bc ((n.val : Nat) : Int) = pcn n.val := by decide +kernel
  have := h ⟨a.toNat, by omega⟩
  rwa [show ((a.toNat : Nat) : Int) = a by omega] at this
/-- the reference's count of what is lit -/
def oN (a : Int) : Nat → Int
  | 0 => 0
  | n + 1 => oN a n + i_and (i_shr a (n : Int)) 1
theorem oN_s (a : Int) {i : Int} (h : 0 ≤ i) : oN a (i + 1).toNat = oN a i.toNat + i_and (i_shr a i) 1 := by
  rw [show (i + 1).toNat = i.toNat + 1 by omega]
  show oN a i.toNat + i_and (i_shr a ((i.toNat : Nat) : Int)) 1 = _
  rw [show ((i.toNat : Nat) : Int) = i by omega]
theorem oN_pcn {a : Int} (h0 : 0 ≤ a) (h1 : a < 256) : oN a 16 = pcn a.toNat := by
  have h : ∀ n : Fin 256, oN ((n.val : Nat) : Int) 16 = pcn n.val := by decide +kernel
  have := h ⟨a.toNat, by omega⟩
  rwa [show ((a.toNat : Nat) : Int) = a by omega] at this
/-- what is lit in s, and not in t -/
def df (s t : Nat) : Nat := s ^^^ (s &&& t)
theorem anx_N {s t : Int} (hs : 0 ≤ s) (hs1 : s < 256) (ht : 0 ≤ t) (ht1 : t < 256) : i_and s (i_xor t (-1)) = ((df s.toNat t.toNat : Nat) : Int) := by
  have e1 : Int32.ofInt s &&& (Int32.ofInt t ^^^ Int32.ofInt (-1)) = Int32.ofInt s ^^^ (Int32.ofInt s &&& Int32.ofInt t) := Int32.toBitVec_inj.1 (by
    show (Int32.ofInt s).toBitVec &&& ((Int32.ofInt t).toBitVec ^^^ (Int32.ofInt (-1)).toBitVec) = (Int32.ofInt s).toBitVec ^^^ ((Int32.ofInt s).toBitVec &&& (Int32.ofInt t).toBitVec)
    rw [m1_bv]
    apply BitVec.eq_of_getLsbD_eq
    intro i hi
    rw [BitVec.getLsbD_and, BitVec.getLsbD_xor, BitVec.getLsbD_xor, BitVec.getLsbD_and, BitVec.getLsbD_allOnes]
    cases (Int32.ofInt s).toBitVec.getLsbD i <;> cases (Int32.ofInt t).toBitVec.getLsbD i <;> simp [hi])
  have hx : s.toNat ^^^ (s.toNat &&& t.toNat) < 2 ^ 31 := Nat.xor_lt_two_pow (by omega) (by have h : s.toNat &&& t.toNat ≤ s.toNat := Nat.and_le_left; omega)
  unfold i_and i_xor df
  rw [n_of, e1]
  have e2 := o_and s.toNat t.toNat
  have e3 := o_xor s.toNat (s.toNat &&& t.toNat)
  rw [show ((s.toNat : Nat) : Int) = s by omega] at e2 e3
  rw [show ((t.toNat : Nat) : Int) = t by omega] at e2
  rw [e2, e3]
  exact w32_id (by omega) (by omega)
theorem df_lt {s t : Nat} (h : s < 256) : df s t < 256 := by
  unfold df
  have h2 : s &&& t ≤ s := Nat.and_le_left
  exact Nat.xor_lt_two_pow (n := 8) h (by omega)
theorem df_0 {s t : Nat} : df s t = 0 ↔ s &&& t = s := by
  unfold df
  constructor
  · intro h
    apply Nat.eq_of_testBit_eq
    intro i
    have h2 : (s ^^^ (s &&& t)).testBit i = (0 : Nat).testBit i := by rw [h]
    rw [Nat.testBit_xor, Nat.testBit_and, Nat.zero_testBit] at h2
    rw [Nat.testBit_and]
    revert h2
    cases s.testBit i <;> cases t.testBit i <;> decide
  · intro h
    rw [h, Nat.xor_self]
theorem df_sub {s t : Nat} (h : t &&& s = t) : df s t = s ^^^ t := by
  unfold df
  rw [Nat.and_comm, h]
theorem pcn_le {s t : Nat} (h : s &&& t = s) : pcn s ≤ pcn t := by
  have h0 := pcB_le h 0
  have h1 := pcB_le h 1
  have h2 := pcB_le h 2
  have h3 := pcB_le h 3
  have h4 := pcB_le h 4
  have h5 := pcB_le h 5
  have h6 := pcB_le h 6
  have h7 := pcB_le h 7
  unfold pcn
  omega
/-- from less that is seen in both one is farther -/
theorem df_le {a s t : Nat} (h : a &&& s = a) (h2 : a &&& t = a) : pcn (df s t) ≤ pcn (s ^^^ a) := by
  refine pcn_le ?_
  apply Nat.eq_of_testBit_eq
  intro i
  have g : (a &&& s).testBit i = a.testBit i := by rw [h]
  have g2 : (a &&& t).testBit i = a.testBit i := by rw [h2]
  unfold df
  rw [Nat.testBit_and] at g g2
  rw [Nat.testBit_and, Nat.testBit_xor, Nat.testBit_and, Nat.testBit_xor]
  revert g g2
  cases a.testBit i <;> cases s.testBit i <;> cases t.testBit i <;> decide
theorem i0_bv {x g : Int} : i_and x g = 0 ↔ (Int32.ofInt x).toBitVec &&& (Int32.ofInt g).toBitVec = 0#32 := by
  unfold i_and
  constructor
  · intro h
    have e := n_of (Int32.ofInt x &&& Int32.ofInt g)
    rw [h] at e
    have e2 := congrArg Int32.toBitVec e
    exact e2.symm
  · intro h
    have e : Int32.ofInt x &&& Int32.ofInt g = 0 := Int32.toBitVec_inj.1 h
    rw [e]
    rfl
/-- what can come from what can come -/
theorem rc_step {i t g : Int} (hi : 0 ≤ i) (hi1 : i < 256) (ht : 0 ≤ t) (ht1 : t < 256) (h1 : i_and i g = 0) (h2 : i_and (i_xor t i) g = 0) : i_and t g = 0 := by
  rw [i0_bv] at h1 h2 ⊢
  unfold i_xor at h2
  rw [n_of] at h2
  have h3 : ((Int32.ofInt t).toBitVec ^^^ (Int32.ofInt i).toBitVec) &&& (Int32.ofInt g).toBitVec = 0#32 := h2
  apply BitVec.eq_of_getLsbD_eq
  intro k hk
  have g1 : ((Int32.ofInt i).toBitVec &&& (Int32.ofInt g).toBitVec).getLsbD k = (0#32).getLsbD k := by rw [h1]
  have g2 : (((Int32.ofInt t).toBitVec ^^^ (Int32.ofInt i).toBitVec) &&& (Int32.ofInt g).toBitVec).getLsbD k = (0#32).getLsbD k := by rw [h3]
  rw [BitVec.getLsbD_and, BitVec.getLsbD_zero] at g1
  rw [BitVec.getLsbD_and, BitVec.getLsbD_xor, BitVec.getLsbD_zero] at g2
  rw [BitVec.getLsbD_and, BitVec.getLsbD_zero]
  revert g1 g2
  cases (Int32.ofInt i).toBitVec.getLsbD k <;> cases (Int32.ofInt t).toBitVec.getLsbD k <;> cases (Int32.ofInt g).toBitVec.getLsbD k <;> decide
theorem ixor_z {t : Int} (ht : 0 ≤ t) (ht1 : t < 256) : i_xor t 0 = t := by
  have h := i_xor_N (a := t.toNat) (b := 0) (by omega) (by omega)
  rw [Nat.xor_zero, show ((t.toNat : Nat) : Int) = t by omega] at h
  exact h
theorem ixor_N {s t : Int} (hs : 0 ≤ s) (hs1 : s < 256) (ht : 0 ≤ t) (ht1 : t < 256) : i_xor t s = ((t.toNat ^^^ s.toNat : Nat) : Int) := by
  have h := i_xor_N (a := t.toNat) (b := s.toNat) (by omega) (by omega)
  rw [show ((t.toNat : Nat) : Int) = t by omega, show ((s.toNat : Nat) : Int) = s by omega] at h
  exact h
/-! what is asked of the CODE -/
/-- by how many STATES above s (s too) NEWS x can be SENT from s -/
def wyF (code : Nat → Int) (g s N x : Int) (v : Int) (t : Nat) : Int := if (t : Int) < N ∧ s.toNat &&& t = s.toNat ∧ i_and (i_xor t s) g = 0 ∧ code t = x then v + 1 else v
theorem wyF_n {code : Nat → Int} {g s N x : Int} : ∀ v (t : Nat), ¬ (s.toNat &&& t = s.toNat) → wyF code g s N x v t = v := fun _ _ h => if_neg (fun h2 => h h2.2.1)
theorem wyF_N {code : Nat → Int} {g s N x : Int} : ∀ v (t : Nat), N ≤ t → wyF code g s N x v t = v := fun _ _ h => if_neg (fun h2 => by have := h2.1; omega)
/-- REACHED -/
def RC (code : Nat → Int) (g : Int) (t : Nat) : Prop := t = 0 ∨ (¬ code t = -1 ∧ i_and t g = 0)
def rcF (code : Nat → Int) (g : Int) (v : Int) (t : Nat) : Int := if t = 0 ∨ (¬ code t = -1 ∧ i_and t g = 0) then v + 1 else v
theorem rcF_1 {code : Nat → Int} {g v : Int} {t : Nat} (h : RC code g t) : rcF code g v t = v + 1 := if_pos h
theorem rcF_0 {code : Nat → Int} {g v : Int} {t : Nat} (h : ¬ RC code g t) : rcF code g v t = v := if_neg h
/-- READ and REACHED -/
def RR7 (code : Nat → Int) (g N : Int) (t : Nat) : Prop := (t : Int) < N ∧ ¬ code t = -1 ∧ i_and t g = 0
theorem RR7_RC {code : Nat → Int} {g N : Int} {t : Nat} (h : (t : Int) < N) : RR7 code g N t ↔ (¬ code t = -1 ∧ RC code g t) := by
  unfold RR7 RC
  constructor
  · intro h1
    exact ⟨h1.2.1, Or.inr h1.2⟩
  · intro h1
    refine ⟨h, h1.1, ?_⟩
    rcases h1.2 with rfl | h2
    · exact zand_i g
    · exact h2.2
def mbF (code : Nat → Int) (g s N m : Int) (v : Int) (t : Nat) : Int := if (t : Int) < N ∧ s.toNat &&& t = s.toNat ∧ ¬ code t = -1 ∧ i_and t g = 0 ∧ pcn (t ^^^ s.toNat) ≤ m then i_or v (i_shl 1 (code t)) else v
theorem mbF_n {code : Nat → Int} {g s N m : Int} : ∀ v (t : Nat), ¬ (s.toNat &&& t = s.toNat) → mbF code g s N m v t = v := fun _ _ h => if_neg (fun h2 => h h2.2.1)
theorem mbF_N {code : Nat → Int} {g s N m : Int} : ∀ v (t : Nat), N ≤ t → mbF code g s N m v t = v := fun _ _ h => if_neg (fun h2 => by have := h2.1; omega)
/-- the NEWS of a STATE as a bit -/
def nbT (code : Nat → Int) (g : Int) (t : Int) : Int := if ¬ code t.toNat = -1 ∧ i_and t g = 0 then i_shl 1 (code t.toNat) else 0
/-! SAFE -/
def UN (code : Nat → Int) (g N : Int) (s t : Nat) : Prop := RR7 code g N s ∧ RR7 code g N t ∧ ¬ code s = code t
def DD (s t : Nat) : Int := max (pcn (df s t)) (pcn (df t s))
theorem DD_c (s t : Nat) : DD s t = DD t s := by
  unfold DD
  omega
theorem UN_c {code : Nat → Int} {g N : Int} {s t : Nat} (h : UN code g N s t) : UN code g N t s := ⟨h.2.1, h.1, fun h2 => h.2.2 h2.symm⟩
def SFE (code : Nat → Int) (g N v : Int) : Prop := v ≤ 8 ∧ (∀ s t, UN code g N s t → v + 1 ≤ DD s t) ∧ (v = 8 ∨ ∃ s t, UN code g N s t ∧ DD s t ≤ v + 1)
/-! NEWS as bits -/
def BT (code : Nat → Int) (Q : Nat → Prop) (v : Int) : Prop := (0 ≤ v ∧ v < 256) ∧ ∀ x : Nat, x < 8 → (v.toNat.testBit x = true ↔ ∃ t, Q t ∧ code t = (x : Int))
theorem BT_cg {code : Nat → Int} {Q P : Nat → Prop} {v : Int} (h : BT code Q v) (h1 : ∀ t, Q t ↔ P t) : BT code P v :=
  ⟨h.1, fun x hx => ⟨fun g => let ⟨t, a, b⟩ := (h.2 x hx).mp g; ⟨t, (h1 t).mp a, b⟩, fun ⟨t, a, b⟩ => (h.2 x hx).mpr ⟨t, (h1 t).mpr a, b⟩⟩⟩
theorem BT_0 {code : Nat → Int} {Q : Nat → Prop} (h : ∀ t, ¬ Q t) : BT code Q 0 := by
  refine ⟨by omega, fun x _ => ⟨fun g => ?_, fun ⟨t, a, _⟩ => absurd a (h t)⟩⟩
  rw [show (0 : Int).toNat = 0 from rfl, Nat.zero_testBit] at g
  cases g
theorem BT_or {code : Nat → Int} {Q P : Nat → Prop} {v w : Int} (h : BT code Q v) (k : BT code P w) : BT code (fun t => Q t ∨ P t) (i_or v w) := by
  obtain ⟨⟨h0, h1⟩, h2⟩ := h
  obtain ⟨⟨k0, k1⟩, k2⟩ := k
  have e := i_or_N (a := v.toNat) (b := w.toNat) (by omega) (by omega)
  rw [show ((v.toNat : Nat) : Int) = v by omega, show ((w.toNat : Nat) : Int) = w by omega] at e
  refine ⟨i_or_256 h0 h1 k0 k1, fun x hx => ?_⟩
  rw [e, Int.toNat_natCast, Nat.testBit_or, Bool.or_eq_true, h2 x hx, k2 x hx]
  constructor
  · rintro (⟨t, a, b⟩ | ⟨t, a, b⟩)
    · exact ⟨t, Or.inl a, b⟩
    · exact ⟨t, Or.inr a, b⟩
  · rintro ⟨t, a | a, b⟩
    · exact Or.inl ⟨t, a, b⟩
    · exact Or.inr ⟨t, a, b⟩
theorem shl_tb {c : Int} (h0 : 0 ≤ c) (h1 : c < 8) : (0 ≤ i_shl 1 c ∧ i_shl 1 c < 256) ∧ ∀ x : Nat, x < 8 → ((i_shl 1 c).toNat.testBit x = true ↔ c = (x : Int)) := by
  have h : ∀ c : Fin 8, (0 ≤ i_shl 1 ((c.val : Nat) : Int) ∧ i_shl 1 ((c.val : Nat) : Int) < 256) ∧ ∀ x : Fin 8, ((i_shl 1 ((c.val : Nat) : Int)).toNat.testBit x.val = true ↔ c = x) := by decide +kernel
  have h2 := h ⟨c.toNat, by omega⟩
  rw [show (((⟨c.toNat, by omega⟩ : Fin 8).val : Nat) : Int) = c by show ((c.toNat : Nat) : Int) = c; omega] at h2
  refine ⟨h2.1, fun x hx => ?_⟩
  rw [h2.2 ⟨x, hx⟩, Fin.ext_iff]
  show c.toNat = x ↔ _
  omega
theorem BT_1 {code : Nat → Int} {u : Nat} (h0 : 0 ≤ code u) (h1 : code u < 8) : BT code (fun t => t = u) (i_shl 1 (code u)) := by
  have h := shl_tb h0 h1
  refine ⟨h.1, fun x hx => ?_⟩
  rw [h.2 x hx]
  constructor
  · intro e
    exact ⟨u, rfl, e⟩
  · rintro ⟨t, rfl, e⟩
    exact e
theorem pc_2 {v : Int} (h0 : 0 ≤ v) (h1 : v < 256) : 1 < bc v ↔ ∃ x y : Nat, x < 8 ∧ y < 8 ∧ ¬ x = y ∧ v.toNat.testBit x = true ∧ v.toNat.testBit y = true := by
  have h : ∀ n : Fin 256, (1 < bc ((n.val : Nat) : Int) ↔ ∃ x y : Fin 8, ¬ x = y ∧ n.val.testBit x.val = true ∧ n.val.testBit y.val = true) := by decide +kernel
  have h2 := h ⟨v.toNat, by omega⟩
  rw [show (((⟨v.toNat, by omega⟩ : Fin 256).val : Nat) : Int) = v by show ((v.toNat : Nat) : Int) = v; omega] at h2
  rw [h2]
  constructor
  · rintro ⟨x, y, a, b, c⟩
    exact ⟨x.val, y.val, x.isLt, y.isLt, fun e => a (Fin.ext e), b, c⟩
  · rintro ⟨x, y, hx, hy, a, b, c⟩
    exact ⟨⟨x, hx⟩, ⟨y, hy⟩, fun e => a (Fin.ext_iff.mp e), b, c⟩
/-- two NEWS among them -/
theorem BT_2 {code : Nat → Int} {Q : Nat → Prop} {v : Int} (h : BT code Q v) (hr : ∀ t, Q t → 0 ≤ code t ∧ code t < 8) : 1 < bc v ↔ ∃ s t, Q s ∧ Q t ∧ ¬ code s = code t := by
  rw [pc_2 h.1.1 h.1.2]
  constructor
  · rintro ⟨x, y, hx, hy, a, b, c⟩
    obtain ⟨s, s1, s2⟩ := (h.2 x hx).mp b
    obtain ⟨t, t1, t2⟩ := (h.2 y hy).mp c
    exact ⟨s, t, s1, t1, by omega⟩
  · rintro ⟨s, t, hs, ht, a⟩
    have hs2 := hr s hs
    have ht2 := hr t ht
    exact ⟨(code s).toNat, (code t).toNat, by omega, by omega, by omega, (h.2 _ (by omega)).mpr ⟨s, hs, by omega⟩, (h.2 _ (by omega)).mpr ⟨t, ht, by omega⟩⟩
/-- REACHED and READ with all that is seen -/
def SN (code : Nat → Int) (g a N : Int) (t : Nat) : Prop := RR7 code g N t ∧ a.toNat &&& t = a.toNat
def FDt (code : Nat → Int) (g a N v : Int) : Prop := (0 ≤ v ∧ v ≤ 9) ∧ (v ≤ 8 → ∃ s t, SN code g a N s ∧ SN code g a N t ∧ ¬ code s = code t ∧ pcn (s ^^^ a.toNat) ≤ v ∧ pcn (t ^^^ a.toNat) ≤ v) ∧ (∀ s t, SN code g a N s → SN code g a N t → ¬ code s = code t → v ≤ max (pcn (s ^^^ a.toNat)) (pcn (t ^^^ a.toNat)))
/-- SAFE by what is seen below q -/
def SFq (code : Nat → Int) (g N q v : Int) : Prop := v ≤ 8 ∧ (∀ s t, UN code g N s t → ((s &&& t : Nat) : Int) < q → v + 1 ≤ DD s t) ∧ (v = 8 ∨ ∃ s t, UN code g N s t ∧ DD s t ≤ v + 1)
theorem SFq_0 {code : Nat → Int} {g N : Int} : SFq code g N 0 8 := ⟨by omega, fun s t _ h => absurd h (by omega), Or.inl rfl⟩
theorem SFq_s {code : Nat → Int} {g N q v w : Int} (h : SFq code g N q v) (k : FDt code g q N w) (hq : 0 ≤ q) : SFq code g N (q + 1) (min v (w - 1)) := by
  obtain ⟨h1, h2, h3⟩ := h
  obtain ⟨k1, k2, k3⟩ := k
  refine ⟨by omega, fun s t hu hlt => ?_, ?_⟩
  · by_cases g1 : ((s &&& t : Nat) : Int) < q
    · have := h2 s t hu g1
      omega
    · have e : q.toNat = s &&& t := by omega
      have a1 : (s &&& t) &&& s = s &&& t := by
        rw [Nat.and_comm s t, Nat.and_assoc, Nat.and_self]
      have a2 : (s &&& t) &&& t = s &&& t := by rw [Nat.and_assoc, Nat.and_self]
      have := k3 s t ⟨hu.1, by rw [e]; exact a1⟩ ⟨hu.2.1, by rw [e]; exact a2⟩ hu.2.2
      rw [e] at this
      have e2 : DD s t = max (pcn (s ^^^ (s &&& t))) (pcn (t ^^^ (s &&& t))) := by
        unfold DD df
        rw [Nat.and_comm t s]
      omega
  · by_cases g1 : v ≤ w - 1
    · rw [show min v (w - 1) = v by omega]
      exact h3
    · right
      obtain ⟨s, t, s1, t1, n1, p1, p2⟩ := k2 (by omega)
      refine ⟨s, t, ⟨s1.1, t1.1, n1⟩, ?_⟩
      have d1 := df_le s1.2 t1.2
      have d2 := df_le t1.2 s1.2
      unfold DD
      omega
theorem SFq_e {code : Nat → Int} {g N v : Int} (h : SFq code g N N v) : SFE code g N v := by
  obtain ⟨h1, h2, h3⟩ := h
  refine ⟨h1, fun s t hu => h2 s t hu ?_, h3⟩
  have h4 : s &&& t ≤ s := Nat.and_le_left
  have h5 := hu.1.1
  omega
end
section
theorem wyF_y {code : Nat → Int} {g s N x v to : Int} (h0 : 0 ≤ to) (h1 : to < N) (h2 : s.toNat &&& to.toNat = s.toNat) (h3 : i_and (i_xor to s) g = 0) (h4 : code to.toNat = x) : wyF code g s N x v to.toNat = v + 1 :=
  if_pos ⟨by omega, h2, by rw [show ((to.toNat : Nat) : Int) = to by omega]; exact h3, h4⟩
theorem wyF_x {code : Nat → Int} {g s N x v to : Int} (h0 : 0 ≤ to) (h : ¬ (i_and (i_xor to s) g = 0 ∧ code to.toNat = x)) : wyF code g s N x v to.toNat = v :=
  if_neg (fun h2 => h ⟨by have h3 := h2.2.2.1; rw [show ((to.toNat : Nat) : Int) = to by omega] at h3; exact h3, h2.2.2.2⟩)
theorem bcx_pcn {s to : Int} (h0 : 0 ≤ to) (h1 : to < 256) (h2 : 0 ≤ s) (h3 : s < 256) : bc (i_xor to s) = pcn (to.toNat ^^^ s.toNat) := by
  have hx : to.toNat ^^^ s.toNat < 2 ^ 8 := Nat.xor_lt_two_pow (by omega) (by omega)
  rw [ixor_N h2 h3 h0 h1, bc_pcn (by omega) (by omega), Int.toNat_natCast]
theorem mbF_x {code : Nat → Int} {g s N m v to : Int} (h0 : 0 ≤ to) (h1 : to < 256) (h2 : 0 ≤ s) (h3 : s < 256) (h : ¬ bc (i_xor to s) ≤ m) : mbF code g s N m v to.toNat = v :=
  if_neg (fun h9 => h (by rw [bcx_pcn h0 h1 h2 h3]; exact h9.2.2.2.2))
theorem mbF_y {code : Nat → Int} {g s N m v to : Int} (h0 : 0 ≤ to) (h1 : to < 256) (h2 : 0 ≤ s) (h3 : s < 256) (hN : to < N) (hs : s.toNat &&& to.toNat = s.toNat) (hv0 : -2147483648 ≤ v) (hv1 : v < 2147483648) (h : bc (i_xor to s) ≤ m) : i_or v (nbT code g to) = mbF code g s N m v to.toNat := by
  have hc : ((to.toNat : Nat) : Int) = to := by omega
  rw [bcx_pcn h0 h1 h2 h3] at h
  unfold nbT mbF
  rw [hc]
  by_cases g1 : ¬ code to.toNat = -1 ∧ i_and to g = 0
  · rw [if_pos g1, if_pos ⟨hN, hs, g1.1, g1.2, h⟩]
  · rw [if_neg g1, if_neg (fun h9 => g1 ⟨h9.2.2.1, h9.2.2.2.1⟩), ior_z hv0 hv1]
theorem BT_st {code : Nat → Int} {g a N to : Int} {F : Nat → Int} (h : ∀ d : Nat, d < 9 → BT code (fun t => SN code g a N t ∧ pcn (t ^^^ a.toNat) = d ∧ (t : Int) < to) (F d)) (h0 : 0 ≤ to) (h1 : to < 256) (hN : to < N) (a0 : 0 ≤ a) (a1 : a < 256) (hs : a.toNat &&& to.toNat = a.toNat) (hc : -1 ≤ code to.toNat ∧ code to.toNat ≤ 7) : ∀ d : Nat, d < 9 → BT code (fun t => SN code g a N t ∧ pcn (t ^^^ a.toNat) = d ∧ (t : Int) < i_or (to + 1) a) (up1 F (bc (i_xor to a)).toNat (i_or (F (bc (i_xor to a)).toNat) (nbT code g to)) d) := by
  intro d hd
  have hcc : ((to.toNat : Nat) : Int) = to := by omega
  have hor := i_or_ge (a := to + 1) (b := a) (by omega) (by omega) (by omega) (by omega)
  have key : ∀ t : Nat, a.toNat &&& t = a.toNat → ((t : Int) < i_or (to + 1) a ↔ (t : Int) < to ∨ t = to.toNat) := fun t ht => by
    constructor
    · intro h2
      by_cases h3 : (t : Int) < to
      · exact Or.inl h3
      · right
        refine Decidable.byContradiction (fun h4 => ?_)
        have := or_nx_le h0 (by omega) a0 (by omega) hs ht (by omega)
        omega
    · rintro (h2 | h2) <;> omega
  have hb := bcx_pcn h0 h1 a0 a1
  by_cases e : d = (bc (i_xor to a)).toNat
  · subst e
    have hp := pcn_r (to.toNat ^^^ a.toNat)
    have he : ((bc (i_xor to a)).toNat : Int) = pcn (to.toNat ^^^ a.toNat) := by omega
    rw [up1_s]
    by_cases hn : ¬ code to.toNat = -1 ∧ i_and to g = 0
    · rw [show nbT code g to = i_shl 1 (code to.toNat) from if_pos hn]
      refine BT_cg (BT_or (h _ hd) (BT_1 (by omega) (by omega))) (fun t => ?_)
      constructor
      · rintro (⟨b1, b2, b3⟩ | rfl)
        · exact ⟨b1, b2, (key t b1.2).mpr (Or.inl b3)⟩
        · exact ⟨⟨⟨by omega, hn.1, by rw [hcc]; exact hn.2⟩, hs⟩, he.symm, (key _ hs).mpr (Or.inr rfl)⟩
      · rintro ⟨b1, b2, b3⟩
        rcases (key t b1.2).mp b3 with b4 | b4
        · exact Or.inl ⟨b1, b2, b4⟩
        · exact Or.inr b4
    · rw [show nbT code g to = 0 from if_neg hn]
      have hF := (h _ hd).1
      rw [ior_z (by omega) (by omega)]
      refine BT_cg (h _ hd) (fun t => ?_)
      constructor
      · rintro ⟨b1, b2, b3⟩
        exact ⟨b1, b2, (key t b1.2).mpr (Or.inl b3)⟩
      · rintro ⟨b1, b2, b3⟩
        rcases (key t b1.2).mp b3 with b4 | rfl
        · exact ⟨b1, b2, b4⟩
        · exfalso
          have b5 := b1.1.2.2
          rw [hcc] at b5
          exact hn ⟨b1.1.2.1, b5⟩
  · rw [up1_n _ _ e]
    refine BT_cg (h _ hd) (fun t => ?_)
    constructor
    · rintro ⟨b1, b2, b3⟩
      exact ⟨b1, b2, (key t b1.2).mpr (Or.inl b3)⟩
    · rintro ⟨b1, b2, b3⟩
      rcases (key t b1.2).mp b3 with b4 | rfl
      · exact ⟨b1, b2, b4⟩
      · exfalso
        have hp := pcn_r (to.toNat ^^^ a.toNat)
        omega

set_option maxHeartbeats 4000000 in
set_option maxRecDepth 20000 in
theorem c7_X1_canLight (l0 : Launch) {Ia Ja : aI1} {Ra : aR1} {Sa : aS1} (hL : LY Ra Sa) (hI : XI Ia) {a b : Int}  : CT l0 0 0 0 mX1_canLight [kR (some 1), kI a, kI b] Ia Ja Ra Sa (cI (fun x I' J' => Ia = I' ∧ Ja = J' ∧ (x = 0 ∨ x = 1) ∧ (x = 1 ↔ i_and (i_xor b a) (Ia 1 7) = 0)) Ra Sa) := by
  refine ct_in pn_X1 (Nat.le_of_ble_eq_true rfl) (fun X hX hT hIn => ?_)
  have hX : aK l0 X cX1_canLight 3 RX1 (some .boolean) 0 0 0 := hX
  change WW X 0 [some (kR (some 1)), some (kI a), some (kI b)] [] Ia Ja Ra Sa 0 0
  obtain ⟨hn1, hn2⟩ := hI.1
  obtain ⟨hk1, hk2⟩ := hI.2.1
  obtain ⟨hf1, hf2⟩ := hI.fu
  have har := iand_r (i_xor b a) (Ia 1 7)
  refine ww_iload_n hX (pc := 0) dX1_canLight_0 rfl ?_
  refine ww_iload_n hX (pc := 1) dX1_canLight_1 rfl ?_
  refine ww_ixor hX (pc := 2) dX1_canLight_2 ?_
  refine ww_aload_n hX (pc := 3) dX1_canLight_3 rfl ?_
  refine ww_getI hX (pc := 4) fX1_47 (by decide) (xs_1 hL) dX1_canLight_4 ?_
  refine ww_iand hX (pc := 7) dX1_canLight_7 ?_
  refine ww_if_ne hX (pc := 8) (tgt := 15) dX1_canLight_8 (by decide) (fun h_8 => ?_) (fun h_8 => ?_)
  · simp only [w32_mod] at h_8
    refine ww_iconst hX (pc := 15) (x := 0) dX1_canLight_15 rfl ?_
    refine rZ hX (pc := 16) hT (Nat.le_refl 0) (Nat.le_refl 0) dX1_canLight_16 (by decide) ?_
    exact ⟨rfl, rfl, by omega, by omega⟩
  · simp only [w32_mod] at h_8
    refine ww_iconst hX (pc := 11) (x := 1) dX1_canLight_11 rfl ?_
    refine ww_goto hX (pc := 12) (tgt := 16) dX1_canLight_12 (by decide) ?_
    refine rZ hX (pc := 16) hT (Nat.le_refl 0) (Nat.le_refl 0) dX1_canLight_16 (by decide) ?_
    exact ⟨rfl, rfl, by omega, by omega⟩
set_option maxHeartbeats 4000000 in
set_option maxRecDepth 20000 in
theorem c7_X1_isReached (l0 : Launch) {Ia Ja : aI1} {Ra : aR1} {Sa : aS1} (hL : LY Ra Sa) (hI : XI Ia) {a : Int} (ha0 : 0 ≤ a) (ha1 : a ≤ 255)  : CT l0 0 0 0 mX1_isReached [kR (some 1), kI a] Ia Ja Ra Sa (cI (fun x I' J' => Ia = I' ∧ Ja = J' ∧ (x = 0 ∨ x = 1) ∧ (x = 1 ↔ RC (Ia 3) (Ia 1 7) a.toNat)) Ra Sa) := by
  refine ct_in pn_X1 (Nat.le_of_ble_eq_true rfl) (fun X hX hT hIn => ?_)
  have hX : aK l0 X cX1_isReached 2 RX1 (some .boolean) 0 0 0 := hX
  change WW X 0 [some (kR (some 1)), some (kI a)] [] Ia Ja Ra Sa 0 0
  obtain ⟨hn1, hn2⟩ := hI.1
  obtain ⟨hk1, hk2⟩ := hI.2.1
  obtain ⟨hf1, hf2⟩ := hI.fu
  have har := iand_r a (Ia 1 7)
  have hca : ((a.toNat : Nat) : Int) = a := by omega
  have hcd := hI.2.2.2.2.2.2.2.2.2.1 a.toNat (by omega)
  refine ww_iload_n hX (pc := 0) dX1_isReached_0 rfl ?_
  refine ww_if_eq hX (pc := 1) (tgt := 23) dX1_isReached_1 (by decide) (fun h_1 => ?_) (fun h_1 => ?_)
  · simp only [w32_mod] at h_1
    have hrc : RC (Ia 3) (Ia 1 7) a.toNat := Or.inl (by omega)
    refine ww_iconst hX (pc := 23) (x := 1) dX1_isReached_23 rfl ?_
    refine ww_goto hX (pc := 24) (tgt := 28) dX1_isReached_24 (by decide) ?_
    refine rZ hX (pc := 28) hT (Nat.le_refl 0) (Nat.le_refl 0) dX1_isReached_28 (by decide) ?_
    exact ⟨rfl, rfl, by omega, fun _ => hrc, fun _ => rfl⟩
  · simp only [w32_mod] at h_1
    refine ww_aload_n hX (pc := 4) dX1_isReached_4 rfl ?_
    refine ww_getR hX (pc := 5) fX1_15 (by decide) (xs_1 hL) (xr_1_1 hL) dX1_isReached_5 ?_
    refine ww_iload_n hX (pc := 8) dX1_isReached_8 rfl ?_
    refine ww_iald hX (pc := 9) (xs_3 hL) (by decide) (by omega) (by omega) dX1_isReached_9 ?_
    refine ww_iconst hX (pc := 10) (x := (-1)) dX1_isReached_10 rfl ?_
    refine ww_icmp_eq hX (pc := 11) (tgt := 27) dX1_isReached_11 (by decide) (fun h_11 => ?_) (fun h_11 => ?_)
    · simp only [w32_mod] at h_11
      have hrc : ¬ RC (Ia 3) (Ia 1 7) a.toNat := fun h9 => by
        unfold RC at h9
        omega
      refine ww_iconst hX (pc := 27) (x := 0) dX1_isReached_27 rfl ?_
      refine rZ hX (pc := 28) hT (Nat.le_refl 0) (Nat.le_refl 0) dX1_isReached_28 (by decide) ?_
      exact ⟨rfl, rfl, by omega, fun h9 => absurd h9 (by decide), fun h9 => absurd h9 hrc⟩
    · simp only [w32_mod] at h_11
      refine ww_iload_n hX (pc := 14) dX1_isReached_14 rfl ?_
      refine ww_aload_n hX (pc := 15) dX1_isReached_15 rfl ?_
      refine ww_getI hX (pc := 16) fX1_47 (by decide) (xs_1 hL) dX1_isReached_16 ?_
      refine ww_iand hX (pc := 19) dX1_isReached_19 ?_
      refine ww_if_ne hX (pc := 20) (tgt := 27) dX1_isReached_20 (by decide) (fun h_20 => ?_) (fun h_20 => ?_)
      · simp only [w32_mod] at h_20
        have hrc : ¬ RC (Ia 3) (Ia 1 7) a.toNat := fun h9 => by
          unfold RC at h9
          rw [hca] at h9
          omega
        refine ww_iconst hX (pc := 27) (x := 0) dX1_isReached_27 rfl ?_
        refine rZ hX (pc := 28) hT (Nat.le_refl 0) (Nat.le_refl 0) dX1_isReached_28 (by decide) ?_
        exact ⟨rfl, rfl, by omega, fun h9 => absurd h9 (by decide), fun h9 => absurd h9 hrc⟩
      · simp only [w32_mod] at h_20
        have hrc : RC (Ia 3) (Ia 1 7) a.toNat := Or.inr ⟨by omega, by rw [hca]; omega⟩
        refine ww_iconst hX (pc := 23) (x := 1) dX1_isReached_23 rfl ?_
        refine ww_goto hX (pc := 24) (tgt := 28) dX1_isReached_24 (by decide) ?_
        refine rZ hX (pc := 28) hT (Nat.le_refl 0) (Nat.le_refl 0) dX1_isReached_28 (by decide) ?_
        exact ⟨rfl, rfl, by omega, fun _ => hrc, fun _ => rfl⟩
set_option maxHeartbeats 4000000 in
set_option maxRecDepth 20000 in
theorem c7_X1_newsBit (l0 : Launch) {Ia Ja : aI1} {Ra : aR1} {Sa : aS1} (hL : LY Ra Sa) (hI : XI Ia) {a : Int} (ha0 : 0 ≤ a) (ha1 : a ≤ 255)  : CT l0 1 0 0 mX1_newsBit [kR (some 1), kI a] Ia Ja Ra Sa (cI (fun x I' J' => Ia = I' ∧ Ja = J' ∧ x = nbT (Ia 3) (Ia 1 7) a) Ra Sa) := by
  refine ct_in pn_X1 (Nat.le_of_ble_eq_true rfl) (fun X hX hT hIn => ?_)
  have hX : aK l0 X cX1_newsBit 2 RX1 (some .int) 1 0 0 := hX
  change WW X 0 [some (kR (some 1)), some (kI a)] [] Ia Ja Ra Sa 0 0
  obtain ⟨hn1, hn2⟩ := hI.1
  obtain ⟨hk1, hk2⟩ := hI.2.1
  obtain ⟨hf1, hf2⟩ := hI.fu
  have hca : ((a.toNat : Nat) : Int) = a := by omega
  have hcd := hI.2.2.2.2.2.2.2.2.2.1 a.toNat (by omega)
  refine ww_aload_n hX (pc := 0) dX1_newsBit_0 rfl ?_
  refine ww_getR hX (pc := 1) fX1_15 (by decide) (xs_1 hL) (xr_1_1 hL) dX1_newsBit_1 ?_
  refine ww_iload_n hX (pc := 4) dX1_newsBit_4 rfl ?_
  refine ww_iald hX (pc := 5) (xs_3 hL) (by decide) (by omega) (by omega) dX1_newsBit_5 ?_
  refine ww_iconst hX (pc := 6) (x := (-1)) dX1_newsBit_6 rfl ?_
  refine ww_icmp_eq hX (pc := 7) (tgt := 29) dX1_newsBit_7 (by decide) (fun h_7 => ?_) (fun h_7 => ?_)
  · simp only [w32_mod] at h_7
    have hnb : ¬ (¬ Ia 3 a.toNat = -1 ∧ i_and a (Ia 1 7) = 0) := fun h9 => by have := h9.1; omega
    refine ww_iconst hX (pc := 29) (x := 0) dX1_newsBit_29 rfl ?_
    refine rI hX (pc := 30) hT (Nat.le_refl 0) (Nat.le_refl 0) dX1_newsBit_30 ?_
    exact ⟨rfl, rfl, (if_neg hnb).symm⟩
  · simp only [w32_mod] at h_7
    refine ww_aload_n hX (pc := 10) dX1_newsBit_10 rfl ?_
    refine ww_iload_n hX (pc := 11) dX1_newsBit_11 rfl ?_
    refine vI1 hX (pc := 12) sX1_50 (xs_1 hL) (c7_X1_isReached l0 hL hI (by omega) (by omega)) (by decide) (Nat.le_refl 0) (Nat.le_refl 0) (Nat.le_of_ble_eq_true rfl) dX1_newsBit_12 (fun x_12 I_12 J_12 h_12 => ?_)
    obtain ⟨rfl, rfl, h_12⟩ := h_12
    refine ww_if_eq hX (pc := 15) (tgt := 29) dX1_newsBit_15 (by decide) (fun h_15 => ?_) (fun h_15 => ?_)
    · simp only [w32_mod] at h_15
      have hnb : ¬ (¬ Ia 3 a.toNat = -1 ∧ i_and a (Ia 1 7) = 0) := fun h9 => by
        have h8 : x_12 = 1 := h_12.2.mpr (Or.inr ⟨h9.1, by rw [hca]; exact h9.2⟩)
        omega
      refine ww_iconst hX (pc := 29) (x := 0) dX1_newsBit_29 rfl ?_
      refine rI hX (pc := 30) hT (Nat.le_refl 0) (Nat.le_refl 0) dX1_newsBit_30 ?_
      exact ⟨rfl, rfl, (if_neg hnb).symm⟩
    · simp only [w32_mod] at h_15
      have hnb : (¬ Ia 3 a.toNat = -1 ∧ i_and a (Ia 1 7) = 0) := by
        refine ⟨by omega, ?_⟩
        rcases h_12.2.mp (by omega) with h9 | h9
        · rw [show a = 0 by omega]; exact zand_i _
        · rw [← hca]; exact h9.2
      refine ww_iconst hX (pc := 18) (x := 1) dX1_newsBit_18 rfl ?_
      refine ww_aload_n hX (pc := 19) dX1_newsBit_19 rfl ?_
      refine ww_getR hX (pc := 20) fX1_15 (by decide) (xs_1 hL) (xr_1_1 hL) dX1_newsBit_20 ?_
      refine ww_iload_n hX (pc := 23) dX1_newsBit_23 rfl ?_
      refine ww_iald hX (pc := 24) (xs_3 hL) (by decide) (by omega) (by omega) dX1_newsBit_24 ?_
      refine ww_ishl hX (pc := 25) dX1_newsBit_25 ?_
      refine ww_goto hX (pc := 26) (tgt := 30) dX1_newsBit_26 (by decide) ?_
      refine rI hX (pc := 30) hT (Nat.le_refl 0) (Nat.le_refl 0) dX1_newsBit_30 ?_
      exact ⟨rfl, rfl, (if_pos hnb).symm⟩
set_option maxHeartbeats 4000000 in
set_option maxRecDepth 20000 in
theorem c7_X1_countReached (l0 : Launch) {Ia Ja : aI1} {Ra : aR1} {Sa : aS1} (hL : LY Ra Sa) (hI : XI Ia)  : CT l0 1 0 0 mX1_countReached [kR (some 1)] Ia Ja Ra Sa (cI (fun x I' J' => Ia = I' ∧ Ja = J' ∧ x = fW (rcF (Ia 3) (Ia 1 7)) 0 (FU (Ia 1 5) + 1).toNat) Ra Sa) := by
  refine ct_in pn_X1 (Nat.le_of_ble_eq_true rfl) (fun X hX hT hIn => ?_)
  have hX : aK l0 X cX1_countReached 4 RX1 (some .int) 1 0 0 := hX
  change WW X 0 [some (kR (some 1)), none, none, none] [] Ia Ja Ra Sa 0 0
  obtain ⟨hn1, hn2⟩ := hI.1
  obtain ⟨hk1, hk2⟩ := hI.2.1
  obtain ⟨hf1, hf2⟩ := hI.fu
  refine ww_iconst hX (pc := 0) (x := 0) dX1_countReached_0 rfl ?_
  refine ww_istore_n hX (pc := 1) (lv' := [some (kR (some 1)), some (kI 0), none, none]) dX1_countReached_1 (by decide) rfl rfl ?_
  refine ww_aload_n hX (pc := 2) dX1_countReached_2 rfl ?_
  refine vI0 hX (pc := 3) sX1_43 (xs_1 hL) (c_X1_full l0 hL hI) (by decide) (Nat.le_refl 0) (Nat.le_refl 0) (Nat.le_of_ble_eq_true rfl) dX1_countReached_3 (fun x_3 I_3 J_3 h_3 => ?_)
  obtain ⟨rfl, rfl, h_3⟩ := h_3
  refine ww_istore_n hX (pc := 6) (lv' := [some (kR (some 1)), some (kI 0), some (kI x_3), none]) dX1_countReached_6 (by decide) rfl rfl ?_
  refine ww_iconst hX (pc := 7) (x := 0) dX1_countReached_7 rfl ?_
  refine ww_istore_n hX (pc := 8) (lv' := [some (kR (some 1)), some (kI 0), some (kI x_3), some (kI 0)]) dX1_countReached_8 (by decide) rfl rfl ?_
  have hl_9 : ∀ (n_9 : Nat) (mn : Int) (q : Int), (x_3 + 1 - q).toNat = n_9 → ((0 ≤ q ∧ q ≤ x_3 + 1) ∧ mn = fW (rcF (Ia 3) (Ia 1 7)) 0 q.toNat) → WW X 9 [some (kR (some 1)), some (kI mn), some (kI x_3), some (kI q)] [] Ia Ja Ra Sa 0 0 := by
    intro n_9
    induction n_9 using Nat.strongRecOn with
    | ind n_9 ih_9 =>
      intro mn q hm_9 hv_9
      have hq_9 := Sh0_i hm_9
      clear hm_9
      obtain ⟨⟨hq0, hq1⟩, hmn⟩ := hv_9
      refine ww_iload_n hX (pc := 9) dX1_countReached_9 rfl ?_
      refine ww_iload_n hX (pc := 10) dX1_countReached_10 rfl ?_
      refine ww_icmp_gt hX (pc := 11) (tgt := 36) dX1_countReached_11 (by decide) (fun h_11 => ?_) (fun h_11 => ?_)
      · simp only [w32_mod] at h_11
        refine ww_iload_n hX (pc := 36) dX1_countReached_36 rfl ?_
        refine rI hX (pc := 37) hT (Nat.le_refl 0) (Nat.le_refl 0) dX1_countReached_37 ?_
        exact ⟨rfl, rfl, by rw [hmn, show q = FU (Ia 1 5) + 1 by omega]⟩
      · simp only [w32_mod] at h_11
        refine ww_iload_n hX (pc := 14) dX1_countReached_14 rfl ?_
        refine ww_aload_n hX (pc := 15) dX1_countReached_15 rfl ?_
        refine ww_iload_n hX (pc := 16) dX1_countReached_16 rfl ?_
        refine vI1 hX (pc := 17) sX1_50 (xs_1 hL) (c7_X1_isReached l0 hL hI (by omega) (by omega)) (by decide) (Nat.le_refl 0) (Nat.le_refl 0) (Nat.le_of_ble_eq_true rfl) dX1_countReached_17 (fun x_17 I_17 J_17 h_17 => ?_)
        obtain ⟨rfl, rfl, h_17⟩ := h_17
        refine ww_if_eq hX (pc := 20) (tgt := 27) dX1_countReached_20 (by decide) (fun h_20 => ?_) (fun h_20 => ?_)
        · simp only [w32_mod] at h_20
          have hst : rcF (Ia 3) (Ia 1 7) mn q.toNat = mn + 0 := by
            rw [rcF_0 (fun h9 => by have := h_17.2.mpr h9; omega), Int.add_zero]
          refine ww_iconst hX (pc := 27) (x := 0) dX1_countReached_27 rfl ?_
          refine ww_iadd hX (pc := 28) dX1_countReached_28 ?_
          refine ww_nmI (fun v_29 hv_29 => ?_)
          refine ww_istore_n hX (pc := 29) (lv' := [some (kR (some 1)), some (kI v_29), some (kI x_3), some (kI q)]) dX1_countReached_29 (by decide) rfl rfl ?_
          refine ww_iinc hX (pc := 30) (lv' := [some (kR (some 1)), some (kI v_29), some (kI x_3), some (kI (q + 1))]) dX1_countReached_30 rfl (by decide) rfl rfl ?_
          refine ww_goto hX (pc := 33) (tgt := 9) dX1_countReached_33 (by decide) ?_
          exact ih_9 _ (by have hm9 := Sh0_e hq_9; omega) v_29 (q + 1) rfl ⟨⟨by omega, by omega⟩, by rw [fW_s _ _ (by omega), ← hmn, hst]; omega⟩
        · simp only [w32_mod] at h_20
          have hst : rcF (Ia 3) (Ia 1 7) mn q.toNat = mn + 1 := rcF_1 (h_17.2.mp (by omega))
          refine ww_iconst hX (pc := 23) (x := 1) dX1_countReached_23 rfl ?_
          refine ww_goto hX (pc := 24) (tgt := 28) dX1_countReached_24 (by decide) ?_
          refine ww_iadd hX (pc := 28) dX1_countReached_28 ?_
          refine ww_nmI (fun v_29 hv_29 => ?_)
          refine ww_istore_n hX (pc := 29) (lv' := [some (kR (some 1)), some (kI v_29), some (kI x_3), some (kI q)]) dX1_countReached_29 (by decide) rfl rfl ?_
          refine ww_iinc hX (pc := 30) (lv' := [some (kR (some 1)), some (kI v_29), some (kI x_3), some (kI (q + 1))]) dX1_countReached_30 rfl (by decide) rfl rfl ?_
          refine ww_goto hX (pc := 33) (tgt := 9) dX1_countReached_33 (by decide) ?_
          exact ih_9 _ (by have hm9 := Sh0_e hq_9; omega) v_29 (q + 1) rfl ⟨⟨by omega, by omega⟩, by rw [fW_s _ _ (by omega), ← hmn, hst]; omega⟩
  exact hl_9 _ 0 0 rfl ⟨⟨by omega, by omega⟩, rfl⟩
set_option maxHeartbeats 4000000 in
set_option maxRecDepth 20000 in
theorem c7_X1_countWays (l0 : Launch) {Ia Ja : aI1} {Ra : aR1} {Sa : aS1} (hL : LY Ra Sa) (hI : XI Ia) {a b : Int} (ha0 : 0 ≤ a) (ha1 : a ≤ FU (Ia 1 5)) (hb0 : 0 ≤ b) (hb1 : b ≤ 7)  : CT l0 1 0 0 mX1_countWays [kR (some 1), kI a, kI b] Ia Ja Ra Sa (cI (fun x I' J' => Ia = I' ∧ Ja = J' ∧ x = fW (wyF (Ia 3) (Ia 1 7) a (FU (Ia 1 5) + 1) b) 0 (FU (Ia 1 5) + 1).toNat) Ra Sa) := by
  refine ct_in pn_X1 (Nat.le_of_ble_eq_true rfl) (fun X hX hT hIn => ?_)
  have hX : aK l0 X cX1_countWays 6 RX1 (some .int) 1 0 0 := hX
  change WW X 0 [some (kR (some 1)), some (kI a), some (kI b), none, none, none] [] Ia Ja Ra Sa 0 0
  obtain ⟨hn1, hn2⟩ := hI.1
  obtain ⟨hk1, hk2⟩ := hI.2.1
  obtain ⟨hf1, hf2⟩ := hI.fu
  refine ww_iconst hX (pc := 0) (x := 0) dX1_countWays_0 rfl ?_
  refine ww_istore_n hX (pc := 1) (lv' := [some (kR (some 1)), some (kI a), some (kI b), some (kI 0), none, none]) dX1_countWays_1 (by decide) rfl rfl ?_
  refine ww_aload_n hX (pc := 2) dX1_countWays_2 rfl ?_
  refine vI0 hX (pc := 3) sX1_43 (xs_1 hL) (c_X1_full l0 hL hI) (by decide) (Nat.le_refl 0) (Nat.le_refl 0) (Nat.le_of_ble_eq_true rfl) dX1_countWays_3 (fun x_3 I_3 J_3 h_3 => ?_)
  obtain ⟨rfl, rfl, h_3⟩ := h_3
  refine ww_istore hX (pc := 6) (lv' := [some (kR (some 1)), some (kI a), some (kI b), some (kI 0), some (kI x_3), none]) dX1_countWays_6 (by decide) rfl rfl ?_
  refine ww_iload_n hX (pc := 8) dX1_countWays_8 rfl ?_
  refine ww_istore hX (pc := 9) (lv' := [some (kR (some 1)), some (kI a), some (kI b), some (kI 0), some (kI x_3), some (kI a)]) dX1_countWays_9 (by decide) rfl rfl ?_
  have hl_11 : ∀ (n_11 : Nat) (mn : Int) (to : Int), (x_3 + 1 - to).toNat = n_11 → ((0 ≤ to ∧ to < 2147483648) ∧ a.toNat &&& to.toNat = a.toNat ∧ mn = fW (wyF (Ia 3) (Ia 1 7) a (FU (Ia 1 5) + 1) b) 0 to.toNat) → WW X 11 [some (kR (some 1)), some (kI a), some (kI b), some (kI mn), some (kI x_3), some (kI to)] [] Ia Ja Ra Sa 0 0 := by
    intro n_11
    induction n_11 using Nat.strongRecOn with
    | ind n_11 ih_11 =>
      intro mn to hm_11 hv_11
      have hq_11 := Sh0_i hm_11
      clear hm_11
      obtain ⟨⟨hto0, hto1⟩, hsu, hmn⟩ := hv_11
      refine ww_iload hX (pc := 11) dX1_countWays_11 rfl ?_
      refine ww_iload hX (pc := 13) dX1_countWays_13 rfl ?_
      refine ww_icmp_gt hX (pc := 15) (tgt := 58) dX1_countWays_15 (by decide) (fun h_15 => ?_) (fun h_15 => ?_)
      · simp only [w32_mod] at h_15
        refine ww_iload_n hX (pc := 58) dX1_countWays_58 rfl ?_
        refine rI hX (pc := 59) hT (Nat.le_refl 0) (Nat.le_refl 0) dX1_countWays_59 ?_
        exact ⟨rfl, rfl, by rw [hmn]; exact fW_N (by omega) (fun v t h => wyF_N v t (by omega))⟩
      · simp only [w32_mod] at h_15
        refine ww_iload_n hX (pc := 18) dX1_countWays_18 rfl ?_
        refine ww_aload_n hX (pc := 19) dX1_countWays_19 rfl ?_
        refine ww_getR hX (pc := 20) fX1_15 (by decide) (xs_1 hL) (xr_1_1 hL) dX1_countWays_20 ?_
        refine ww_iload hX (pc := 23) dX1_countWays_23 rfl ?_
        have hcd := hI.2.2.2.2.2.2.2.2.2.1 to.toNat (by omega)
        have hnx := fW_nx (f := wyF (Ia 3) (Ia 1 7) a (FU (Ia 1 5) + 1) b) (z := 0) (to := to) (e := a) (by omega) (by omega) (by omega) (by omega) hsu wyF_n
        refine ww_iald hX (pc := 25) (xs_3 hL) (by decide) (by omega) (by omega) dX1_countWays_25 ?_
        refine ww_iload_n hX (pc := 26) dX1_countWays_26 rfl ?_
        refine ww_icmp_ne hX (pc := 27) (tgt := 44) dX1_countWays_27 (by decide) (fun h_27 => ?_) (fun h_27 => ?_)
        · simp only [w32_mod] at h_27
          have hst : wyF (Ia 3) (Ia 1 7) a (FU (Ia 1 5) + 1) b mn to.toNat = mn + 0 := by
            rw [wyF_x (by omega) (fun h9 => by have := h9.2; omega), Int.add_zero]
          refine ww_iconst hX (pc := 44) (x := 0) dX1_countWays_44 rfl ?_
          refine ww_iadd hX (pc := 45) dX1_countWays_45 ?_
          refine ww_nmI (fun v_46 hv_46 => ?_)
          refine ww_istore_n hX (pc := 46) (lv' := [some (kR (some 1)), some (kI a), some (kI b), some (kI v_46), some (kI x_3), some (kI to)]) dX1_countWays_46 (by decide) rfl rfl ?_
          refine ww_iload hX (pc := 47) dX1_countWays_47 rfl ?_
          refine ww_iconst hX (pc := 49) (x := 1) dX1_countWays_49 rfl ?_
          refine ww_iadd hX (pc := 50) dX1_countWays_50 ?_
          refine ww_iload_n hX (pc := 51) dX1_countWays_51 rfl ?_
          refine ww_ior hX (pc := 52) dX1_countWays_52 ?_
          refine ww_nmI (fun v_53 hv_53 => ?_)
          refine ww_istore hX (pc := 53) (lv' := [some (kR (some 1)), some (kI a), some (kI b), some (kI v_46), some (kI x_3), some (kI v_53)]) dX1_countWays_53 (by decide) rfl rfl ?_
          refine ww_goto hX (pc := 55) (tgt := 11) dX1_countWays_55 (by decide) ?_
          have hor := i_or_ge (a := to + 1) (b := a) (by omega) (by omega) (by omega) (by omega)
          exact ih_11 _ (by have hm9 := Sh0_e hq_11; omega) v_46 v_53 rfl ⟨⟨by omega, by omega⟩, by rw [hv_53]; exact or_nx_sub (by omega) (by omega) (by omega) (by omega), by rw [hv_53, hnx, ← hmn, hst]; omega⟩
        · simp only [w32_mod] at h_27
          refine ww_aload_n hX (pc := 30) dX1_countWays_30 rfl ?_
          refine ww_iload_n hX (pc := 31) dX1_countWays_31 rfl ?_
          refine ww_iload hX (pc := 32) dX1_countWays_32 rfl ?_
          refine vI2 hX (pc := 34) sX1_54 (xs_1 hL) (c7_X1_canLight l0 hL hI) (by decide) (Nat.le_refl 0) (Nat.le_refl 0) (Nat.le_of_ble_eq_true rfl) dX1_countWays_34 (fun x_34 I_34 J_34 h_34 => ?_)
          obtain ⟨rfl, rfl, h_34⟩ := h_34
          refine ww_if_eq hX (pc := 37) (tgt := 44) dX1_countWays_37 (by decide) (fun h_37 => ?_) (fun h_37 => ?_)
          · simp only [w32_mod] at h_37
            have hst : wyF (Ia 3) (Ia 1 7) a (FU (Ia 1 5) + 1) b mn to.toNat = mn + 0 := by
              rw [wyF_x (by omega) (fun h9 => by have := h_34.2.mpr h9.1; omega), Int.add_zero]
            refine ww_iconst hX (pc := 44) (x := 0) dX1_countWays_44 rfl ?_
            refine ww_iadd hX (pc := 45) dX1_countWays_45 ?_
            refine ww_nmI (fun v_46 hv_46 => ?_)
            refine ww_istore_n hX (pc := 46) (lv' := [some (kR (some 1)), some (kI a), some (kI b), some (kI v_46), some (kI x_3), some (kI to)]) dX1_countWays_46 (by decide) rfl rfl ?_
            refine ww_iload hX (pc := 47) dX1_countWays_47 rfl ?_
            refine ww_iconst hX (pc := 49) (x := 1) dX1_countWays_49 rfl ?_
            refine ww_iadd hX (pc := 50) dX1_countWays_50 ?_
            refine ww_iload_n hX (pc := 51) dX1_countWays_51 rfl ?_
            refine ww_ior hX (pc := 52) dX1_countWays_52 ?_
            refine ww_nmI (fun v_53 hv_53 => ?_)
            refine ww_istore hX (pc := 53) (lv' := [some (kR (some 1)), some (kI a), some (kI b), some (kI v_46), some (kI x_3), some (kI v_53)]) dX1_countWays_53 (by decide) rfl rfl ?_
            refine ww_goto hX (pc := 55) (tgt := 11) dX1_countWays_55 (by decide) ?_
            have hor := i_or_ge (a := to + 1) (b := a) (by omega) (by omega) (by omega) (by omega)
            exact ih_11 _ (by have hm9 := Sh0_e hq_11; omega) v_46 v_53 rfl ⟨⟨by omega, by omega⟩, by rw [hv_53]; exact or_nx_sub (by omega) (by omega) (by omega) (by omega), by rw [hv_53, hnx, ← hmn, hst]; omega⟩
          · simp only [w32_mod] at h_37
            have hst : wyF (Ia 3) (Ia 1 7) a (FU (Ia 1 5) + 1) b mn to.toNat = mn + 1 := wyF_y (by omega) (by omega) hsu (h_34.2.mp (by omega)) (by omega)
            refine ww_iconst hX (pc := 40) (x := 1) dX1_countWays_40 rfl ?_
            refine ww_goto hX (pc := 41) (tgt := 45) dX1_countWays_41 (by decide) ?_
            refine ww_iadd hX (pc := 45) dX1_countWays_45 ?_
            refine ww_nmI (fun v_46 hv_46 => ?_)
            refine ww_istore_n hX (pc := 46) (lv' := [some (kR (some 1)), some (kI a), some (kI b), some (kI v_46), some (kI x_3), some (kI to)]) dX1_countWays_46 (by decide) rfl rfl ?_
            refine ww_iload hX (pc := 47) dX1_countWays_47 rfl ?_
            refine ww_iconst hX (pc := 49) (x := 1) dX1_countWays_49 rfl ?_
            refine ww_iadd hX (pc := 50) dX1_countWays_50 ?_
            refine ww_iload_n hX (pc := 51) dX1_countWays_51 rfl ?_
            refine ww_ior hX (pc := 52) dX1_countWays_52 ?_
            refine ww_nmI (fun v_53 hv_53 => ?_)
            refine ww_istore hX (pc := 53) (lv' := [some (kR (some 1)), some (kI a), some (kI b), some (kI v_46), some (kI x_3), some (kI v_53)]) dX1_countWays_53 (by decide) rfl rfl ?_
            refine ww_goto hX (pc := 55) (tgt := 11) dX1_countWays_55 (by decide) ?_
            have hor := i_or_ge (a := to + 1) (b := a) (by omega) (by omega) (by omega) (by omega)
            exact ih_11 _ (by have hm9 := Sh0_e hq_11; omega) v_46 v_53 rfl ⟨⟨by omega, by omega⟩, by rw [hv_53]; exact or_nx_sub (by omega) (by omega) (by omega) (by omega), by rw [hv_53, hnx, ← hmn, hst]; omega⟩
  exact hl_11 _ 0 a rfl ⟨⟨by omega, by omega⟩, Nat.and_self _, (fW_e wyF_n).symm⟩
end
section
def RA (code : Nat → Int) (g N i : Int) (C : Nat → Int) : Prop := (∀ t : Nat, (t : Int) < N → C t = 0 ∨ C t = 1) ∧ (∀ t : Nat, (t : Int) < N → C t = 1 → RC code g t) ∧ C 0 = 1 ∧ (1 ≤ i → ∀ t : Nat, (t : Int) < N → RC code g t → C t = 1)
def RB (code : Nat → Int) (g N i t : Int) (C : Nat → Int) : Prop := RA code g N i C ∧ (i = 0 → ∀ u : Nat, (u : Int) < N → (u : Int) < t → RC code g u → C u = 1)
theorem RA_0 {code C : Nat → Int} {g N : Int} (h0 : 0 < N) (h : ∀ t : Nat, (t : Int) < N → C t = if t = 0 then 1 else 0) : RA code g N 0 C := by
  refine ⟨fun t ht => ?_, fun t ht h1 => ?_, ?_, fun h9 => absurd h9 (by omega)⟩
  · rw [h t ht]
    split
    · exact Or.inr rfl
    · exact Or.inl rfl
  · rw [h t ht] at h1
    by_cases e : t = 0
    · exact Or.inl e
    · rw [if_neg e] at h1
      omega
  · rw [h 0 (by omega)]
    rfl
theorem RB_0 {code C : Nat → Int} {g N i t : Int} (h : RA code g N i C) (ht : t = i + 1) : RB code g N i t C := ⟨h, fun hi u hu hut hr => by
  rw [show u = 0 by omega]
  exact h.2.2.1⟩
theorem RB_n {code C : Nat → Int} {g N i t : Int} (h : RB code g N i t C) (hi : 0 ≤ i) (ht : i + 1 ≤ t) (htN : t < N) (hN : N ≤ 256) (hn : ¬ (¬ code t.toNat = -1 ∧ canC i t g)) : RB code g N i (t + 1) C := ⟨h.1, fun hi0 u hu hut hr => by
  by_cases e : (u : Int) < t
  · exact h.2 hi0 u hu e hr
  · exfalso
    rcases hr with h2 | ⟨h2, h3⟩
    · omega
    · refine hn ⟨by rw [show t.toNat = u by omega]; exact h2, (canC_iff (by omega) (by omega) (by omega) (by omega)).mpr ⟨?_, ?_⟩⟩
      · rw [hi0]
        exact Nat.zero_and _
      · rw [hi0, ixor_z (by omega) (by omega), show t = u by omega]
        exact h3⟩
theorem RB_s {code C : Nat → Int} {g N i t : Int} (h : RB code g N i t C) (hi : 0 ≤ i) (ht : i + 1 ≤ t) (htN : t < N) (hN : N ≤ 256) (hc : C i.toNat = 1) (h1 : ¬ code t.toNat = -1) (h2 : canC i t g) : RB code g N i (t + 1) (up1 C t.toNat 1) := by
  obtain ⟨⟨a1, a2, a3, a4⟩, a5⟩ := h
  have hrt : RC code g t.toNat := by
    refine Or.inr ⟨h1, ?_⟩
    rw [show ((t.toNat : Nat) : Int) = t by omega]
    have h3 := ((canC_iff (by omega) (by omega) (by omega) (by omega)).mp h2).2
    refine rc_step hi (by omega) (by omega) (by omega) ?_ h3
    rcases a2 i.toNat (by omega) hc with h4 | h4
    · rw [show i = 0 by omega]
      exact zand_i g
    · have h5 := h4.2
      rw [show ((i.toNat : Nat) : Int) = i by omega] at h5
      exact h5
  have hup : ∀ u : Nat, C u = 1 → up1 C t.toNat 1 u = 1 := fun u hu => by
    by_cases e : u = t.toNat
    · rw [e, up1_s]
    · rw [up1_n _ _ e]; exact hu
  refine ⟨⟨fun u hu => ?_, fun u hu h9 => ?_, hup 0 a3, fun h9 u hu hr => hup u (a4 h9 u hu hr)⟩, fun hi0 u hu hut hr => ?_⟩
  · by_cases e : u = t.toNat
    · rw [e, up1_s]; exact Or.inr rfl
    · rw [up1_n _ _ e]; exact a1 u hu
  · by_cases e : u = t.toNat
    · rw [e]; exact hrt
    · rw [up1_n _ _ e] at h9; exact a2 u hu h9
  · by_cases e : u = t.toNat
    · rw [e, up1_s]
    · exact hup u (a5 hi0 u hu (by omega) hr)
theorem RA_e1 {code C : Nat → Int} {g N i t : Int} (h : RB code g N i t C) (hi : 0 ≤ i) (ht : N ≤ t) : RA code g N (i + 1) C := ⟨h.1.1, h.1.2.1, h.1.2.2.1, fun _ u hu hr => by
  by_cases e : i = 0
  · exact h.2 e u hu (by omega) hr
  · exact h.1.2.2.2 (by omega) u hu hr⟩
theorem RA_e2 {code C : Nat → Int} {g N i t : Int} (h : RB code g N i t C) (hi : 0 ≤ i) (hc : C i.toNat = 0) : RA code g N (i + 1) C := ⟨h.1.1, h.1.2.1, h.1.2.2.1, fun _ u hu hr => by
  by_cases e : i = 0
  · have h2 := h.1.2.2.1
    rw [e] at hc
    have h3 : C 0 = 0 := hc
    omega
  · exact h.1.2.2.2 (by omega) u hu hr⟩
theorem RA_e {code C : Nat → Int} {g N i : Int} (h : RA code g N i C) (hi : 1 ≤ i) : ∀ t : Nat, (t : Int) < N → (C t = 0 ∨ C t = 1) ∧ (C t = 1 ↔ RC code g t) := fun t ht => ⟨h.1 t ht, h.2.1 t ht, h.2.2.2 hi t ht⟩
def SGz (code : Nat → Int) (g N i t v : Int) : Prop := v ≤ 9 ∧ (∀ s u : Nat, UN code g N s u → (u : Int) < s → ((s : Int) < i ∨ ((s : Int) = i ∧ (u : Int) < t)) → v ≤ DD s u) ∧ (v = 9 ∨ ∃ s u, UN code g N s u ∧ DD s u ≤ v)
theorem SGz_0 {code : Nat → Int} {g N : Int} : SGz code g N 0 0 9 := ⟨by omega, fun s u _ _ h => by omega, Or.inl rfl⟩
theorem SGz_n {code : Nat → Int} {g N i t v : Int} (h : SGz code g N i t v) (hi : 0 ≤ i) (ht : 0 ≤ t) (hn : ¬ UN code g N i.toNat t.toNat) : SGz code g N i (t + 1) v := ⟨h.1, fun s u hu hl hq => by
  by_cases e : (s : Int) = i ∧ (u : Int) = t
  · exfalso
    rw [show i.toNat = s by omega, show t.toNat = u by omega] at hn
    exact hn hu
  · exact h.2.1 s u hu hl (by omega), h.2.2⟩
theorem SGz_k {code : Nat → Int} {g N i t v : Int} (h : SGz code g N i t v) (hi : 0 ≤ i) (ht : 0 ≤ t) (hn : v ≤ DD i.toNat t.toNat) : SGz code g N i (t + 1) v := ⟨h.1, fun s u hu hl hq => by
  by_cases e : (s : Int) = i ∧ (u : Int) = t
  · rw [show i.toNat = s by omega, show t.toNat = u by omega] at hn
    exact hn
  · exact h.2.1 s u hu hl (by omega), h.2.2⟩
theorem SGz_s {code : Nat → Int} {g N i t v : Int} (h : SGz code g N i t v) (hi : 0 ≤ i) (ht : 0 ≤ t) (hu : UN code g N i.toNat t.toNat) (hn : DD i.toNat t.toNat < v) : SGz code g N i (t + 1) (DD i.toNat t.toNat) := ⟨by have := h.1; omega, fun s u hu hl hq => by
  by_cases e : (s : Int) = i ∧ (u : Int) = t
  · rw [show i.toNat = s by omega, show t.toNat = u by omega]
    exact Int.le_refl _
  · have := h.2.1 s u hu hl (by omega)
    omega, Or.inr ⟨_, _, hu, Int.le_refl _⟩⟩
theorem SGz_r {code : Nat → Int} {g N i t v : Int} (h : SGz code g N i t v) (ht : i ≤ t) : SGz code g N (i + 1) 0 v := ⟨h.1, fun s u hu hl hq => h.2.1 s u hu hl (by omega), h.2.2⟩
theorem SGz_e {code : Nat → Int} {g N v : Int} (h : SGz code g N N 0 v) : SFE code g N (v - 1) := by
  obtain ⟨h1, h2, h3⟩ := h
  refine ⟨by omega, fun s t hu => ?_, h3.elim (fun h9 => Or.inl (by omega)) (fun ⟨s, u, a, b⟩ => Or.inr ⟨s, u, a, by omega⟩)⟩
  have hs := hu.1.1
  have ht := hu.2.1.1
  by_cases e : t < s
  · have := h2 s t hu (by omega) (Or.inl hs)
    omega
  · by_cases e2 : s < t
    · have := h2 t s (UN_c hu) (by omega) (Or.inl ht)
      rw [DD_c s t]
      omega
    · exfalso
      exact hu.2.2 (by rw [show s = t by omega])

set_option maxHeartbeats 4000000 in
set_option maxRecDepth 20000 in
theorem c7_X11_ones (l0 : Launch) {Ia Ja : aI1} {Ra : aR1} {Sa : aS1} {a : Int} (ha0 : 0 ≤ a) (ha1 : a < 256)  : CT l0 0 0 0 mX11_ones [kI a] Ia Ja Ra Sa (cI (fun x I' J' => Ia = I' ∧ Ja = J' ∧ x = pcn a.toNat) Ra Sa) := by
  refine ct_in pn_X11 (Nat.le_of_ble_eq_true rfl) (fun X hX hT hIn => ?_)
  have hX : aK l0 X cX11_ones 3 RX11 (some .int) 0 0 0 := hX
  change WW X 0 [some (kI a), none, none] [] Ia Ja Ra Sa 0 0
  refine ww_iconst hX (pc := 0) (x := 0) dX11_ones_0 rfl ?_
  refine ww_istore_n hX (pc := 1) (lv' := [some (kI a), some (kI 0), none]) dX11_ones_1 (by decide) rfl rfl ?_
  refine ww_iconst hX (pc := 2) (x := 0) dX11_ones_2 rfl ?_
  refine ww_istore_n hX (pc := 3) (lv' := [some (kI a), some (kI 0), some (kI 0)]) dX11_ones_3 (by decide) rfl rfl ?_
  have hl_4 : ∀ (n_4 : Nat) (n : Int) (i : Int), (16 - i).toNat = n_4 → ((0 ≤ i ∧ i ≤ 16) ∧ n = oN a i.toNat) → WW X 4 [some (kI a), some (kI n), some (kI i)] [] Ia Ja Ra Sa 0 0 := by
    intro n_4
    induction n_4 using Nat.strongRecOn with
    | ind n_4 ih_4 =>
      intro n i hm_4 hv_4
      have hq_4 := Sh0_i hm_4
      clear hm_4
      obtain ⟨hv, hn⟩ := hv_4
      refine ww_iload_n hX (pc := 4) dX11_ones_4 rfl ?_
      refine ww_bipush hX (pc := 5) (x := 16) dX11_ones_5 (by decide) ?_
      refine ww_icmp_ge hX (pc := 7) (tgt := 24) dX11_ones_7 (by decide) (fun h_7 => ?_) (fun h_7 => ?_)
      · simp only [w32_mod] at h_7
        refine ww_iload_n hX (pc := 24) dX11_ones_24 rfl ?_
        refine rI hX (pc := 25) hT (Nat.le_refl 0) (Nat.le_refl 0) dX11_ones_25 ?_
        exact ⟨rfl, rfl, (by rw [hn, show i = 16 by omega]; exact oN_pcn ha0 ha1)⟩
      · simp only [w32_mod] at h_7
        refine ww_iload_n hX (pc := 10) dX11_ones_10 rfl ?_
        refine ww_iload_n hX (pc := 11) dX11_ones_11 rfl ?_
        refine ww_iload_n hX (pc := 12) dX11_ones_12 rfl ?_
        refine ww_ishr hX (pc := 13) dX11_ones_13 ?_
        refine ww_iconst hX (pc := 14) (x := 1) dX11_ones_14 rfl ?_
        refine ww_iand hX (pc := 15) dX11_ones_15 ?_
        refine ww_iadd hX (pc := 16) dX11_ones_16 ?_
        refine ww_nmI (fun v_17 hv_17 => ?_)
        refine ww_istore_n hX (pc := 17) (lv' := [some (kI a), some (kI v_17), some (kI i)]) dX11_ones_17 (by decide) rfl rfl ?_
        refine ww_iinc hX (pc := 18) (lv' := [some (kI a), some (kI v_17), some (kI (i + 1))]) dX11_ones_18 rfl (by decide) rfl rfl ?_
        refine ww_goto hX (pc := 21) (tgt := 4) dX11_ones_21 (by decide) ?_
        exact ih_4 _ (by have hm9 := Sh0_e hq_4; omega) v_17 (i + 1) rfl ⟨⟨by omega, by omega⟩, (by rw [oN_s _ (by omega), ← hn]; exact hv_17)⟩
  exact hl_4 _ 0 0 rfl ⟨⟨by omega, by omega⟩, rfl⟩
set_option maxHeartbeats 4000000 in
set_option maxRecDepth 20000 in
theorem c7_X11_of (l0 : Launch) {Ia Ja : aI1} {Ra : aR1} {Sa : aS1} (hL : LY Ra Sa) (hQ : RX Ia) {a : Int} (ha0 : -2147483648 ≤ a) (ha1 : a < 2147483648)  : CT l0 2 0 0 mX11_of [kR (some 49), kI a] Ia Ja Ra Sa (cI (fun x I' J' => Ia = I' ∧ Ja = J' ∧ ((0 ≤ a ∧ a ≤ FU (Ia 51 304)) → x = Ia 51 a.toNat) ∧ (¬ (0 ≤ a ∧ a ≤ FU (Ia 51 304)) → x = -1)) Ra Sa) := by
  refine ct_in pn_X11 (Nat.le_of_ble_eq_true rfl) (fun X hX hT hIn => ?_)
  have hX : aK l0 X cX11_of 2 RX11 (some .int) 2 0 0 := hX
  change WW X 0 [some (kR (some 49)), some (kI a)] [] Ia Ja Ra Sa 0 0
  have qIa := RX_o hQ
  refine ww_aload_n hX (pc := 0) dX11_of_0 rfl ?_
  refine ww_iload_n hX (pc := 1) dX11_of_1 rfl ?_
  refine vI1 hX (pc := 2) sX11_120 (xs_49 hL) (c_X11_isState l0 hL hQ (by omega) (by omega)) (by decide) (Nat.le_refl 0) (Nat.le_refl 0) (Nat.le_of_ble_eq_true rfl) dX11_of_2 (fun x_2 I_2 J_2 h_2 => ?_)
  obtain ⟨rfl, rfl, h_2⟩ := h_2
  refine ww_if_eq hX (pc := 5) (tgt := 16) dX11_of_5 (by decide) (fun h_5 => ?_) (fun h_5 => ?_)
  · simp only [w32_mod] at h_5
    refine ww_iconst hX (pc := 16) (x := (-1)) dX11_of_16 rfl ?_
    refine rI hX (pc := 17) hT (Nat.le_refl 0) (Nat.le_refl 0) dX11_of_17 ?_
    exact ⟨rfl, rfl, by omega, by omega⟩
  · simp only [w32_mod] at h_5
    have k_2 := h_2.2.mp (by omega)
    clear h_2
    refine ww_aload_n hX (pc := 8) dX11_of_8 rfl ?_
    refine ww_iload_n hX (pc := 9) dX11_of_9 rfl ?_
    refine vI1 hX (pc := 10) sX11_126 (xs_49 hL) (c_X11_readOf l0 hL hQ (by omega) (by omega)) (by decide) (Nat.le_refl 0) (Nat.le_refl 0) (Nat.le_of_ble_eq_true rfl) dX11_of_10 (fun x_10 I_10 J_10 h_10 => ?_)
    obtain ⟨rfl, rfl, h_10⟩ := h_10
    refine ww_goto hX (pc := 13) (tgt := 17) dX11_of_13 (by decide) ?_
    refine rI hX (pc := 17) hT (Nat.le_refl 0) (Nat.le_refl 0) dX11_of_17 ?_
    exact ⟨rfl, rfl, by omega, by omega⟩
set_option maxHeartbeats 4000000 in
set_option maxRecDepth 20000 in
theorem c7_X11_ways (l0 : Launch) {Ia Ja : aI1} {Ra : aR1} {Sa : aS1} (hL : LY Ra Sa) (hQ : RX Ia) {a b : Int} (ha0 : -2147483648 ≤ a) (ha1 : a < 2147483648) (hb0 : -2147483648 ≤ b) (hb1 : b < 2147483648) (hcr : ∀ t : Nat, (t : Int) ≤ FU (Ia 51 304) → -1 ≤ Ia 51 t ∧ Ia 51 t ≤ 7)  : CT l0 2 0 0 mX11_ways [kR (some 49), kI a, kI b] Ia Ja Ra Sa (cI (fun x I' J' => Ia = I' ∧ Ja = J' ∧ ((0 ≤ a ∧ a ≤ FU (Ia 51 304) ∧ 0 ≤ b ∧ b < Ia 51 305) → x = fW (wyF (Ia 51) (Ia 51 306) a (FU (Ia 51 304) + 1) b) 0 (FU (Ia 51 304) + 1).toNat) ∧ (¬ (0 ≤ a ∧ a ≤ FU (Ia 51 304) ∧ 0 ≤ b ∧ b < Ia 51 305) → x = -1)) Ra Sa) := by
  refine ct_in pn_X11 (Nat.le_of_ble_eq_true rfl) (fun X hX hT hIn => ?_)
  have hX : aK l0 X cX11_ways 5 RX11 (some .int) 2 0 0 := hX
  change WW X 0 [some (kR (some 49)), some (kI a), some (kI b), none, none] [] Ia Ja Ra Sa 0 0
  have qIa := RX_o hQ
  refine ww_aload_n hX (pc := 0) dX11_ways_0 rfl ?_
  refine ww_iload_n hX (pc := 1) dX11_ways_1 rfl ?_
  refine vI1 hX (pc := 2) sX11_120 (xs_49 hL) (c_X11_isState l0 hL hQ (by omega) (by omega)) (by decide) (Nat.le_refl 0) (Nat.le_refl 0) (Nat.le_of_ble_eq_true rfl) dX11_ways_2 (fun x_2 I_2 J_2 h_2 => ?_)
  obtain ⟨rfl, rfl, h_2⟩ := h_2
  refine ww_if_eq hX (pc := 5) (tgt := 16) dX11_ways_5 (by decide) (fun h_5 => ?_) (fun h_5 => ?_)
  · simp only [w32_mod] at h_5
    refine ww_iconst hX (pc := 16) (x := (-1)) dX11_ways_16 rfl ?_
    refine rI hX (pc := 17) hT (Nat.le_refl 0) (Nat.le_refl 0) dX11_ways_17 ?_
    exact ⟨rfl, rfl, (fun h9 => absurd h9 (by omega)), (fun _ => rfl)⟩
  · simp only [w32_mod] at h_5
    have k_2 := h_2.2.mp (by omega)
    clear h_2
    refine ww_aload_n hX (pc := 8) dX11_ways_8 rfl ?_
    refine ww_iload_n hX (pc := 9) dX11_ways_9 rfl ?_
    refine vI1 hX (pc := 10) sX11_123 (xs_49 hL) (c_X11_isNews l0 hL hQ (by omega) (by omega)) (by decide) (Nat.le_refl 0) (Nat.le_refl 0) (Nat.le_of_ble_eq_true rfl) dX11_ways_10 (fun x_10 I_10 J_10 h_10 => ?_)
    obtain ⟨rfl, rfl, h_10⟩ := h_10
    refine ww_if_ne hX (pc := 13) (tgt := 18) dX11_ways_13 (by decide) (fun h_13 => ?_) (fun h_13 => ?_)
    · simp only [w32_mod] at h_13
      have k_10 := h_10.2.mp (by omega)
      clear h_10
      refine ww_iconst hX (pc := 18) (x := 0) dX11_ways_18 rfl ?_
      refine ww_istore_n hX (pc := 19) (lv' := [some (kR (some 49)), some (kI a), some (kI b), some (kI 0), none]) dX11_ways_19 (by decide) rfl rfl ?_
      refine ww_iload_n hX (pc := 20) dX11_ways_20 rfl ?_
      refine ww_istore hX (pc := 21) (lv' := [some (kR (some 49)), some (kI a), some (kI b), some (kI 0), some (kI a)]) dX11_ways_21 (by decide) rfl rfl ?_
      have hl_23 : ∀ (n_23 : Nat) (n : Int) (t : Int), (256 - t).toNat = n_23 → ((a ≤ t ∧ t ≤ (FU (Ia 51 304) + 1)) ∧ n = fW (wyF (Ia 51) (Ia 51 306) a (FU (Ia 51 304) + 1) b) 0 t.toNat) → WW X 23 [some (kR (some 49)), some (kI a), some (kI b), some (kI n), some (kI t)] [] Ia Ja Ra Sa 0 0 := by
        intro n_23
        induction n_23 using Nat.strongRecOn with
        | ind n_23 ih_23 =>
          intro n t hm_23 hv_23
          have hq_23 := Sh0_i hm_23
          clear hm_23
          obtain ⟨hv, hn⟩ := hv_23
          refine ww_iload hX (pc := 23) dX11_ways_23 rfl ?_
          refine ww_aload_n hX (pc := 25) dX11_ways_25 rfl ?_
          refine vI0 hX (pc := 26) sX11_112 (xs_49 hL) (c_X11_states l0 hL hQ ) (by decide) (Nat.le_refl 0) (Nat.le_refl 0) (Nat.le_of_ble_eq_true rfl) dX11_ways_26 (fun x_26 I_26 J_26 h_26 => ?_)
          obtain ⟨rfl, rfl, h_26⟩ := h_26
          refine ww_icmp_ge hX (pc := 29) (tgt := 74) dX11_ways_29 (by decide) (fun h_29 => ?_) (fun h_29 => ?_)
          · simp only [w32_mod] at h_29
            refine ww_iload_n hX (pc := 74) dX11_ways_74 rfl ?_
            refine rI hX (pc := 75) hT (Nat.le_refl 0) (Nat.le_refl 0) dX11_ways_75 ?_
            exact ⟨rfl, rfl, (fun _ => by rw [hn, show t = FU (Ia 51 304) + 1 by omega]), (fun h9 => absurd (by omega) h9)⟩
          · simp only [w32_mod] at h_29
            have hcd := hcr t.toNat (by omega)
            have hct : ((t.toNat : Nat) : Int) = t := by omega
            refine ww_iload_n hX (pc := 32) dX11_ways_32 rfl ?_
            refine ww_aload_n hX (pc := 33) dX11_ways_33 rfl ?_
            refine ww_iload hX (pc := 34) dX11_ways_34 rfl ?_
            refine vI1 hX (pc := 36) sX11_126 (xs_49 hL) (c_X11_readOf l0 hL hQ (by omega) (by omega)) (by decide) (Nat.le_refl 0) (Nat.le_refl 0) (Nat.le_of_ble_eq_true rfl) dX11_ways_36 (fun x_36 I_36 J_36 h_36 => ?_)
            obtain ⟨rfl, rfl, h_36⟩ := h_36
            refine ww_iload_n hX (pc := 39) dX11_ways_39 rfl ?_
            refine ww_icmp_ne hX (pc := 40) (tgt := 65) dX11_ways_40 (by decide) (fun h_40 => ?_) (fun h_40 => ?_)
            · simp only [w32_mod] at h_40
              have hst : wyF (Ia 51) (Ia 51 306) a (FU (Ia 51 304) + 1) b n t.toNat = n + 0 := by
                rw [wyF_x (by omega) (fun h9 => by have := h9.2; omega), Int.add_zero]
              refine ww_iconst hX (pc := 65) (x := 0) dX11_ways_65 rfl ?_
              refine ww_iadd hX (pc := 66) dX11_ways_66 ?_
              refine ww_nmI (fun v_67 hv_67 => ?_)
              refine ww_istore_n hX (pc := 67) (lv' := [some (kR (some 49)), some (kI a), some (kI b), some (kI v_67), some (kI t)]) dX11_ways_67 (by decide) rfl rfl ?_
              refine ww_iinc hX (pc := 68) (lv' := [some (kR (some 49)), some (kI a), some (kI b), some (kI v_67), some (kI (t + 1))]) dX11_ways_68 rfl (by decide) rfl rfl ?_
              refine ww_goto hX (pc := 71) (tgt := 23) dX11_ways_71 (by decide) ?_
              exact ih_23 _ (by have hm9 := Sh0_e hq_23; omega) v_67 (t + 1) rfl ⟨⟨by omega, by omega⟩, (by rw [fW_s _ _ (by omega), ← hn, hst]; omega)⟩
            · simp only [w32_mod] at h_40
              refine ww_aload_n hX (pc := 43) dX11_ways_43 rfl ?_
              refine ww_iload_n hX (pc := 44) dX11_ways_44 rfl ?_
              refine ww_iload hX (pc := 45) dX11_ways_45 rfl ?_
              refine ww_aload_n hX (pc := 47) dX11_ways_47 rfl ?_
              refine ww_getR hX (pc := 48) fX11_20 (by decide) (xs_49 hL) (xr_49_3 hL) dX11_ways_48 ?_
              refine ww_sipush hX (pc := 51) (x := 306) dX11_ways_51 (by decide) ?_
              refine ww_iald hX (pc := 54) (xs_51 hL) (by decide) (by omega) (by omega) dX11_ways_54 ?_
              refine ww_toI (b := Ia 51 306) rfl ?_
              refine vI3 hX (pc := 55) sX11_271 (xs_49 hL) (c_X11_canCome l0 hL hQ ) (by decide) (Nat.le_refl 0) (Nat.le_refl 0) (Nat.le_of_ble_eq_true rfl) dX11_ways_55 (fun x_55 I_55 J_55 h_55 => ?_)
              obtain ⟨rfl, rfl, h_55⟩ := h_55
              refine ww_if_eq hX (pc := 58) (tgt := 65) dX11_ways_58 (by decide) (fun h_58 => ?_) (fun h_58 => ?_)
              · simp only [w32_mod] at h_58
                have hst : wyF (Ia 51) (Ia 51 306) a (FU (Ia 51 304) + 1) b n t.toNat = n + 0 := by
                  refine (if_neg (fun h9 => ?_)).trans (Int.add_zero _).symm
                  have h7 := h9.2.2.1
                  rw [hct] at h7
                  have h8 := h_55.2.mpr ((canC_iff (by omega) (by omega) (by omega) (by omega)).mpr ⟨h9.2.1, h7⟩)
                  omega
                refine ww_iconst hX (pc := 65) (x := 0) dX11_ways_65 rfl ?_
                refine ww_iadd hX (pc := 66) dX11_ways_66 ?_
                refine ww_nmI (fun v_67 hv_67 => ?_)
                refine ww_istore_n hX (pc := 67) (lv' := [some (kR (some 49)), some (kI a), some (kI b), some (kI v_67), some (kI t)]) dX11_ways_67 (by decide) rfl rfl ?_
                refine ww_iinc hX (pc := 68) (lv' := [some (kR (some 49)), some (kI a), some (kI b), some (kI v_67), some (kI (t + 1))]) dX11_ways_68 rfl (by decide) rfl rfl ?_
                refine ww_goto hX (pc := 71) (tgt := 23) dX11_ways_71 (by decide) ?_
                exact ih_23 _ (by have hm9 := Sh0_e hq_23; omega) v_67 (t + 1) rfl ⟨⟨by omega, by omega⟩, (by rw [fW_s _ _ (by omega), ← hn, hst]; omega)⟩
              · simp only [w32_mod] at h_58
                have hcc := (canC_iff (by omega) (by omega) (by omega) (by omega)).mp (h_55.2.mp (by omega))
                have hst : wyF (Ia 51) (Ia 51 306) a (FU (Ia 51 304) + 1) b n t.toNat = n + 1 := wyF_y (by omega) (by omega) hcc.1 hcc.2 (by omega)
                refine ww_iconst hX (pc := 61) (x := 1) dX11_ways_61 rfl ?_
                refine ww_goto hX (pc := 62) (tgt := 66) dX11_ways_62 (by decide) ?_
                refine ww_iadd hX (pc := 66) dX11_ways_66 ?_
                refine ww_nmI (fun v_67 hv_67 => ?_)
                refine ww_istore_n hX (pc := 67) (lv' := [some (kR (some 49)), some (kI a), some (kI b), some (kI v_67), some (kI t)]) dX11_ways_67 (by decide) rfl rfl ?_
                refine ww_iinc hX (pc := 68) (lv' := [some (kR (some 49)), some (kI a), some (kI b), some (kI v_67), some (kI (t + 1))]) dX11_ways_68 rfl (by decide) rfl rfl ?_
                refine ww_goto hX (pc := 71) (tgt := 23) dX11_ways_71 (by decide) ?_
                exact ih_23 _ (by have hm9 := Sh0_e hq_23; omega) v_67 (t + 1) rfl ⟨⟨by omega, by omega⟩, (by rw [fW_s _ _ (by omega), ← hn, hst]; omega)⟩
      exact hl_23 _ 0 a rfl ⟨⟨by omega, by omega⟩, (fW_e wyF_n).symm⟩
    · simp only [w32_mod] at h_13
      refine ww_iconst hX (pc := 16) (x := (-1)) dX11_ways_16 rfl ?_
      refine rI hX (pc := 17) hT (Nat.le_refl 0) (Nat.le_refl 0) dX11_ways_17 ?_
      exact ⟨rfl, rfl, (fun h9 => absurd h9 (by omega)), (fun _ => rfl)⟩
end
