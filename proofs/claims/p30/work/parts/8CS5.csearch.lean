noncomputable def S0 (k N t : Nat) : List Nat := srF k N t 65536 (zrs N) (zrs N)
/-- row 44 holds the first of a pair's CODES that are LASTING t -/
def FIo (F : aI1) (N k p t : Nat) : Prop := ∀ j : Nat, j < N → F 44 (8 * (4 * p + t) + j) = ((gd (S0 k N t) j : Nat) : Int)
def SF (F : aI1) (N k p f : Nat) (r pp : List Nat) : Prop := ∀ t : Nat, t < 4 → (F 43 (4 * p + t) = 0 → srF k N t f r pp = S0 k N t) ∧ (¬ F 43 (4 * p + t) = 0 → FIo F N k p t)
def SWx6 (F : aI1) (N k p : Nat) (q : Int) : Prop := ∃ (r pp : List Nat) (acc : Nat), RR F N r pp ∧ PK F p = (acc : Int) ∧ srch k N (65536 - q).toNat r pp acc = TOTc k N ∧ SF F N k p (65536 - q).toNat r pp
def SWi6 (mo : Int) (F : aI1) (N k p : Nat) (q : Int) : Prop := (mo = 1 → SWx6 F N k p q) ∧ (mo = 0 → PK F p = ((TOTc k N : Nat) : Int) ∧ ∀ t : Nat, t < 4 → ¬ F 43 (4 * p + t) = 0 → FIo F N k p t)
theorem FIo_of {F G : aI1} {N k p t : Nat} (e : G 44 = F 44) (h : FIo F N k p t) : FIo G N k p t := fun j hj => by rw [e]; exact h j hj
theorem SF_of {F G : aI1} {N k p f g : Nat} {r pp : List Nat} (e3 : G 43 = F 43) (e4 : G 44 = F 44) (ef : g = f) (h : SF F N k p f r pp) : SF G N k p g r pp := fun t ht => by
  rw [e3, ef]
  exact ⟨(h t ht).1, fun h9 => FIo_of e4 ((h t ht).2 h9)⟩
theorem SF_n {F G : aI1} {N k f : Nat} {r pp : List Nat} {a w c b : Int} (h : SF F N k a.toNat (f + 1) r pp) (hrr : RR F N r pp) (hN : N ≤ 8) (hni : NI F G a w c) (hnf : NF F G a w) (hw : w = b + 1 ∨ (w = 4 ∧ 3 ≤ b)) (hb : b = ((DL k r : Nat) : Int)) (hc : 1 ≤ c) (hcb : ∀ t : Nat, t < 4 → 0 ≤ F 43 (4 * a.toNat + t)) : (∀ t : Nat, t < 4 → ¬ G 43 (4 * a.toNat + t) = 0 → FIo G N k a.toNat t) ∧ (∀ t : Nat, t < 4 → G 43 (4 * a.toNat + t) = 0 → ¬ t ≤ DL k r ∧ srF k N t (f + 1) r pp = S0 k N t) := by
  refine ⟨fun t ht h1 j hj => ?_, fun t ht h1 => ?_⟩
  · rw [hnf.1 t ht j (by omega)]
    by_cases g : (t : Int) < w ∧ F 43 (4 * a.toNat + t) = 0
    · rw [if_pos g]
      have h2 := (h t ht).1 g.2
      rw [srF_s, if_pos (by omega)] at h2
      rw [← h2]
      exact (hrr.2.2 j hj).1
    · rw [if_neg g]
      refine (h t ht).2 (fun h2 => ?_) j hj
      have h3 := hni.1 t ht
      by_cases g2 : (t : Int) < w
      · exact g ⟨g2, h2⟩
      · rw [if_neg g2] at h3
        omega
  · have h3 := hni.1 t ht
    have h4 := hcb t ht
    by_cases g2 : (t : Int) < w
    · rw [if_pos g2] at h3
      omega
    · rw [if_neg g2] at h3
      exact ⟨by omega, (h t ht).1 (by omega)⟩
set_option maxHeartbeats 4000000 in
set_option maxRecDepth 20000 in
theorem c6_X2_search (l0 : Launch) {Ia Ja : aI1} {Ra : aR1} {Sa : aS1} (hL : LY Ra Sa) {p n k : Int} (hp0 : 0 ≤ p) (hp1 : p ≤ 8) (hn0 : 1 ≤ n) (hn1 : n ≤ 3) (hk0 : 2 ≤ k) (hk1 : k ≤ 4) (hF : FI Ia) (hz : ∀ t : Nat, t < 4 → Ia 43 (4 * p.toNat + t) = 0)  : CT l0 3 0 0 mX2_search [kR (some 37), kI p, kI n, kI k] Ia Ja Ra Sa (cV (fun I' J' => Kp 37 46 Ia I' ∧ Kp 37 46 Ja J' ∧ FI I' ∧ PK I' p.toNat = ((TOTc k.toNat (2 ^ n.toNat) : Nat) : Int) ∧ (∀ t : Nat, t < 4 → 0 ≤ I' 43 (4 * p.toNat + t) ∧ I' 43 (4 * p.toNat + t) < 16777216) ∧ (∀ j : Nat, (j < 4 * p.toNat ∨ 4 * p.toNat + 4 ≤ j) → I' 43 j = Ia 43 j) ∧ I' 45 = Ia 45 ∧ (∀ t : Nat, t < 4 → ¬ I' 43 (4 * p.toNat + t) = 0 → FIo I' (2 ^ n.toNat) k.toNat p.toNat t) ∧ (∀ j : Nat, (j < 32 * p.toNat ∨ 32 * p.toNat + 32 ≤ j) → I' 44 j = Ia 44 j)) Ra Sa) := by
  refine ct_in pn_X2 (Nat.le_of_ble_eq_true rfl) (fun X hX hT hIn => ?_)
  have hX : aK l0 X cX2_search 7 RX2 none 3 0 0 := hX
  change WW X 0 [some (kR (some 37)), some (kI p), some (kI n), some (kI k), none, none, none] [] Ia Ja Ra Sa 0 0
  refine ww_iconst hX (pc := 0) (x := 1) dX2_search_0 rfl ?_
  refine ww_iload_n hX (pc := 1) dX2_search_1 rfl ?_
  refine ww_ishl hX (pc := 2) dX2_search_2 ?_
  refine ww_nmI (fun v_3 hv_3 => ?_)
  refine ww_istore hX (pc := 3) (lv' := [some (kR (some 37)), some (kI p), some (kI n), some (kI k), some (kI v_3), none, none]) dX2_search_3 (by decide) rfl rfl ?_
  have hst : 2 ≤ v_3 ∧ v_3 ≤ 8 := by
    rw [hv_3, i_shl1 (by omega) (by omega)]
    rcases (show n = 1 ∨ n = 2 ∨ n = 3 by omega) with rfl | rfl | rfl <;> decide
  have hN3 : v_3.toNat = 2 ^ n.toNat := by
    rw [hv_3, i_shl1 (by omega) (by omega)]
    rcases (show n = 1 ∨ n = 2 ∨ n = 3 by omega) with rfl | rfl | rfl <;> decide
  refine ww_aload_n hX (pc := 5) dX2_search_5 rfl ?_
  refine ww_getR hX (pc := 6) fX2_18 (by decide) (xs_37 hL) (xr_37_1 hL) dX2_search_6 ?_
  refine ww_iconst hX (pc := 9) (x := 0) dX2_search_9 rfl ?_
  refine sV2 hX (pc := 10) sX2_53 (c_J7_fill_53178 l0 (xs_41 hL) (by decide)) (by decide) (Nat.le_refl 0) (Nat.le_refl 0) (Nat.le_of_ble_eq_true rfl) dX2_search_10 (fun I_10 J_10 h_10 => ?_)
  obtain ⟨rfl, eI_10⟩ := h_10
  have kI_10 : Kp 37 46 Ia I_10 := by rw [eI_10]; exact Kp_upR (Kp_rf (a := 37) (b := 46)) _ (by decide)
  refine ww_aload_n hX (pc := 13) dX2_search_13 rfl ?_
  refine ww_getR hX (pc := 14) fX2_22 (by decide) (xs_37 hL) (xr_37_2 hL) dX2_search_14 ?_
  refine ww_iconst hX (pc := 17) (x := 0) dX2_search_17 rfl ?_
  refine sV2 hX (pc := 18) sX2_53 (c_J7_fill_53178 l0 (xs_42 hL) (by decide)) (by decide) (Nat.le_refl 0) (Nat.le_refl 0) (Nat.le_of_ble_eq_true rfl) dX2_search_18 (fun I_18 J_18 h_18 => ?_)
  obtain ⟨rfl, eI_18⟩ := h_18
  have kI_18 : Kp 37 46 Ia I_18 := by rw [eI_18]; exact Kp_upR kI_10 _ (by decide)
  have hz41 : ∀ j, j < 8 → I_18 41 j = 0 := fun j hj => by rw [eI_18, upR_n _ _ (by decide), eI_10, upR_s, if_pos hj]
  have hz42 : ∀ j, j < 8 → I_18 42 j = 0 := fun j hj => by rw [eI_18, upR_s, if_pos hj]
  have hz43 : I_18 43 = Ia 43 := by rw [eI_18, upR_n _ _ (by decide), eI_10, upR_n _ _ (by decide)]
  have hz44 : I_18 44 = Ia 44 := by rw [eI_18, upR_n _ _ (by decide), eI_10, upR_n _ _ (by decide)]
  have hz45 : I_18 45 = Ia 45 := by rw [eI_18, upR_n _ _ (by decide), eI_10, upR_n _ _ (by decide)]
  refine ww_iconst hX (pc := 21) (x := 1) dX2_search_21 rfl ?_
  refine ww_istore hX (pc := 22) (lv' := [some (kR (some 37)), some (kI p), some (kI n), some (kI k), some (kI v_3), some (kI 1), none]) dX2_search_22 (by decide) rfl rfl ?_
  refine ww_iconst hX (pc := 24) (x := 0) dX2_search_24 rfl ?_
  refine ww_istore hX (pc := 25) (lv' := [some (kR (some 37)), some (kI p), some (kI n), some (kI k), some (kI v_3), some (kI 1), some (kI 0)]) dX2_search_25 (by decide) rfl rfl ?_
  have hl_27 : ∀ (n_27 : Nat) (mo : Int) (q : Int) (I2 : aI1) (J2 : aI1), (65536 - q).toNat = n_27 → (Kp 37 46 Ia I2 ∧ Kp 37 46 Ja J2 ∧ (0 ≤ q ∧ q ≤ 65536) ∧ RI I2 v_3 k ∧ FI I2 ∧ I2 45 = Ia 45 ∧ SWi6 mo I2 v_3.toNat k.toNat p.toNat q ∧ (mo = 0 ∨ mo = 1) ∧ (∀ t : Nat, t < 4 → 0 ≤ I2 43 (4 * p.toNat + t) ∧ I2 43 (4 * p.toNat + t) ≤ 24 * q) ∧ (∀ j : Nat, (j < 4 * p.toNat ∨ 4 * p.toNat + 4 ≤ j) → I2 43 j = Ia 43 j) ∧ (∀ j : Nat, (j < 32 * p.toNat ∨ 32 * p.toNat + 32 ≤ j) → I2 44 j = Ia 44 j)) → WW X 27 [some (kR (some 37)), some (kI p), some (kI n), some (kI k), some (kI v_3), some (kI mo), some (kI q)] [] I2 J2 Ra Sa 0 0 := by
    intro n_27
    induction n_27 using Nat.strongRecOn with
    | ind n_27 ih_27 =>
      intro mo q I2 J2 hm_27 hv_27
      have hq_27 := Sh0_i hm_27
      clear hm_27
      obtain ⟨kI2, kJ2, hq, hr2, fI2, e45, hsw, hmb, hct, hoj, hof⟩ := hv_27
      refine ww_iload hX (pc := 27) dX2_search_27 rfl ?_
      refine ww_ldc hX (pc := 29) (x := 65536) dX2_search_29 tb_870 ?_
      refine ww_icmp_ge hX (pc := 31) (tgt := 100) dX2_search_31 (by decide) (fun h_31 => ?_) (fun h_31 => ?_)
      · simp only [w32_mod] at h_31
        refine rV hX (pc := 100) hT (Nat.le_refl 0) (Nat.le_refl 0) dX2_search_100 ?_
        have hpt : PK I2 p.toNat = ((TOTc k.toNat v_3.toNat : Nat) : Int) := by
          rcases hmb with h9 | h9
          · exact (hsw.2 h9).1
          · obtain ⟨r, pp, acc, -, h7, h6, -⟩ := hsw.1 h9
            rw [show (65536 - q).toNat = 0 by omega] at h6
            have h5 : acc = TOTc k.toNat v_3.toNat := h6
            rw [h7, h5]
        exact ⟨kI2, kJ2, fI2, by rw [← hN3]; exact hpt, fun t ht => by have := hct t ht; omega, hoj, e45, (fun t ht h8 => by
            rw [← hN3]
            rcases hmb with h9 | h9
            · exact (hsw.2 h9).2 t ht h8
            · obtain ⟨r, pp, acc, -, -, -, h6⟩ := hsw.1 h9
              exact (h6 t ht).2 h8), hof⟩
      · simp only [w32_mod] at h_31
        refine ww_iload hX (pc := 34) dX2_search_34 rfl ?_
        refine ww_if_eq hX (pc := 36) (tgt := 100) dX2_search_36 (by decide) (fun h_36 => ?_) (fun h_36 => ?_)
        · simp only [w32_mod] at h_36
          refine rV hX (pc := 100) hT (Nat.le_refl 0) (Nat.le_refl 0) dX2_search_100 ?_
          have hpt : PK I2 p.toNat = ((TOTc k.toNat v_3.toNat : Nat) : Int) := by
            rcases hmb with h9 | h9
            · exact (hsw.2 h9).1
            · obtain ⟨r, pp, acc, -, h7, h6, -⟩ := hsw.1 h9
              rw [show (65536 - q).toNat = 0 by omega] at h6
              have h5 : acc = TOTc k.toNat v_3.toNat := h6
              rw [h7, h5]
          exact ⟨kI2, kJ2, fI2, by rw [← hN3]; exact hpt, fun t ht => by have := hct t ht; omega, hoj, e45, (fun t ht h8 => by
              rw [← hN3]
              rcases hmb with h9 | h9
              · exact (hsw.2 h9).2 t ht h8
              · obtain ⟨r, pp, acc, -, -, -, h6⟩ := hsw.1 h9
                exact (h6 t ht).2 h8), hof⟩
        · simp only [w32_mod] at h_36
          refine ww_aload_n hX (pc := 39) dX2_search_39 rfl ?_
          refine ww_getR hX (pc := 40) fX2_14 (by decide) (xs_37 hL) (xr_37_0 hL) dX2_search_40 ?_
          refine ww_aload_n hX (pc := 43) dX2_search_43 rfl ?_
          refine ww_getR hX (pc := 44) fX2_18 (by decide) (xs_37 hL) (xr_37_1 hL) dX2_search_44 ?_
          refine ww_iload hX (pc := 47) dX2_search_47 rfl ?_
          refine ww_iconst hX (pc := 49) (x := 1) dX2_search_49 rfl ?_
          refine ww_isub hX (pc := 50) dX2_search_50 ?_
          refine ww_iconst hX (pc := 51) (x := 0) dX2_search_51 rfl ?_
          refine ww_iload_n hX (pc := 52) dX2_search_52 rfl ?_
          refine vV4 hX (pc := 53) sX2_60 (xs_38 hL) (c5_X5_fill l0 (Ia := I2) (xs_38 hL) (xr_38_0 hL) (xr_38_1 hL) (xs_40 hL) (xs_39 hL) (xs_41 hL) (by decide) (by decide) (by decide) (by decide) (fun j hj => by have := hr2.1 j hj; omega) (by decide) (by omega) (by omega) (by omega) (by decide) (by omega) (by omega)) (by decide) (Nat.le_refl 0) (Nat.le_refl 0) (Nat.le_of_ble_eq_true rfl) dX2_search_53 (fun I_53 J_53 h_53 => ?_)
          obtain ⟨rfl, h_53, lv_53⟩ := h_53
          have kI_53 : Kp 37 46 Ia I_53 := Kp_tr kI2 (Kq_kp h_53 (by decide) (by decide))
          have e41_53 := h_53 41 (by decide) (by decide)
          have e42_53 := h_53 42 (by decide) (by decide)
          have e43_53 := h_53 43 (by decide) (by decide)
          have e44_53 := h_53 44 (by decide) (by decide)
          have hr_53 : RI I_53 v_3 k := RI_of hr2 e41_53 e42_53
          have f_53 : FI I_53 := FI_of fI2 (h_53 44 (by decide) (by decide))
          obtain ⟨r, pp, acc, hrr, hac, hsr, hsf⟩ := hsw.1 (by omega)
          have hd0 : I_53 40 (Int.toNat 0) = ((DL k.toNat r : Nat) : Int) := DL_v (N := v_3.toNat) (q := k.toNat) hrr.1 (by omega) (by omega) (by omega) (by omega) (by rw [show ((v_3.toNat : Nat) : Int) = v_3 - 1 + 1 by omega, show ((k.toNat : Nat) : Int) = k by omega]; exact lv_53) (fun s hs => (hrr.2.2 s hs).1)
          have hdb : 0 ≤ I_53 40 (Int.toNat 0) ∧ I_53 40 (Int.toNat 0) ≤ 8 := by
            have h9 : 0 ≤ I_53 40 (Int.toNat 0) ∧ I_53 40 (Int.toNat 0) ≤ 8 - pcn 0 := (lv_53 0 (by omega) (by omega)).2
            have h8 := pcn_r 0
            omega
          have hpk : I_53 42 (v_3 - 1).toNat = ((gd pp (v_3.toNat - 1) : Nat) : Int) := by rw [e42_53, show (v_3 - 1).toNat = v_3.toNat - 1 by omega]; exact (hrr.2.2 _ (by omega)).2
          have hpk2 := (hr_53.1 (v_3 - 1).toNat (by omega)).2
          refine ww_aload_n hX (pc := 56) dX2_search_56 rfl ?_
          refine ww_iload_n hX (pc := 57) dX2_search_57 rfl ?_
          refine ww_aload_n hX (pc := 58) dX2_search_58 rfl ?_
          refine ww_getR hX (pc := 59) fX2_14 (by decide) (xs_37 hL) (xr_37_0 hL) dX2_search_59 ?_
          refine ww_getR hX (pc := 62) fX2_63 (by decide) (xs_38 hL) (xr_38_0 hL) dX2_search_62 ?_
          refine ww_iconst hX (pc := 65) (x := 0) dX2_search_65 rfl ?_
          refine ww_iald hX (pc := 66) (xs_40 hL) (by decide) (by omega) (by omega) dX2_search_66 ?_
          refine ww_iload_n hX (pc := 67) dX2_search_67 rfl ?_
          refine ww_aload_n hX (pc := 68) dX2_search_68 rfl ?_
          refine ww_getR hX (pc := 69) fX2_22 (by decide) (xs_37 hL) (xr_37_2 hL) dX2_search_69 ?_
          refine ww_iload hX (pc := 72) dX2_search_72 rfl ?_
          refine ww_iconst hX (pc := 74) (x := 1) dX2_search_74 rfl ?_
          refine ww_isub hX (pc := 75) dX2_search_75 ?_
          refine ww_iald hX (pc := 76) (xs_42 hL) (by decide) (by omega) (by omega) dX2_search_76 ?_
          refine ww_iconst hX (pc := 77) (x := 1) dX2_search_77 rfl ?_
          refine ww_iadd hX (pc := 78) dX2_search_78 ?_
          refine sI2 hX (pc := 79) sX2_66 (c5_X2_namings l0 (by omega) (by omega) (by omega) (by omega)) (by decide) (Nat.le_refl 0) (Nat.le_refl 0) (Nat.le_of_ble_eq_true rfl) dX2_search_79 (fun x_79 I_79 J_79 h_79 => ?_)
          obtain ⟨rfl, rfl, h_79⟩ := h_79
          refine vV3 hX (pc := 82) sX2_69 (xs_37 hL) (c6_X2_note l0 hL (by omega) (by omega) (by omega) (by omega) (fun j hj => by have := hr_53.1 j hj; omega) f_53 (fun t ht => by rw [e43_53]; have := hct t ht; omega)) (by decide) (Nat.le_refl 0) (Nat.le_refl 0) (Nat.le_of_ble_eq_true rfl) dX2_search_82 (fun I_82 J_82 h_82 => ?_)
          have kI_82 : Kp 37 46 Ia I_82 := Kp_tr kI_53 (Kp_wd h_82.1 (by decide) (by decide))
          have kJ_82 : Kp 37 46 Ja J_82 := Kp_tr kJ2 (Kp_wd h_82.2.1 (by decide) (by decide))
          have hr_82 : RI I_82 v_3 k := RI_of hr_53 (h_82.1 41 (by decide)) (h_82.1 42 (by decide))
          have f_82 : FI I_82 := h_82.2.2.1
          obtain ⟨w8, hw8, hn8, hnf8⟩ := h_82.2.2.2
          have hp8 := PK_n hn8 hw8 (by omega)
          have hnr := namN_r (k := k.toNat) (u := (I_53 42 (v_3 - 1).toNat + 1).toNat) (by omega) (by omega) (by omega)
          refine ww_aload_n hX (pc := 85) dX2_search_85 rfl ?_
          refine ww_iload hX (pc := 86) dX2_search_86 rfl ?_
          refine ww_iload_n hX (pc := 88) dX2_search_88 rfl ?_
          refine vI2 hX (pc := 89) sX2_72 (xs_37 hL) (c5_X2_turnOn l0 hL (by omega) (by omega) (by omega) (by omega) hr_82) (by decide) (Nat.le_refl 0) (Nat.le_refl 0) (Nat.le_of_ble_eq_true rfl) dX2_search_89 (fun x_89 I_89 J_89 h_89 => ?_)
          have kI_89 : Kp 37 46 Ia I_89 := Kp_tr kI_82 (Kp_wd h_89.1 (by decide) (by decide))
          have kJ_89 : Kp 37 46 Ja J_89 := Kp_tr kJ_82 (Kp_wd h_89.2.1 (by decide) (by decide))
          have f_89 : FI I_89 := FI_of f_82 (h_89.1 44 (by decide))
          have e43_89 : I_89 43 = I_82 43 := h_89.1 43 (by decide)
          have e45_89 : PK I_89 p.toNat = ((acc + namN k.toNat (gd pp (v_3.toNat - 1) + 1) * pwC (DL k.toNat r) : Nat) : Int) := by
            have h9 : PK I_89 p.toNat = PK I_82 p.toNat := by unfold PK; rw [e43_89]
            have h8 : PK I_53 p.toNat = PK I2 p.toNat := by unfold PK; rw [e43_53]
            rw [h9, hp8, h8, hac, h_79, hd0, Int.natCast_add, Int.natCast_mul]
            rw [Int.toNat_natCast, show (I_53 42 (v_3 - 1).toNat + 1).toNat = gd pp (v_3.toNat - 1) + 1 by omega]
          have hrr8 : RR I_82 v_3.toNat r pp := ⟨hrr.1, hrr.2.1, fun j hj => by rw [h_82.1 41 (by decide), h_82.1 42 (by decide), e41_53, e42_53]; exact hrr.2.2 j hj⟩
          have hss := srch_s k.toNat v_3.toNat (65536 - q - 1).toNat r pp acc
          rw [show (65536 - q - 1).toNat + 1 = (65536 - q).toNat by omega, hsr] at hss
          have hsf53 : SF I_53 v_3.toNat k.toNat p.toNat ((65536 - q - 1).toNat + 1) r pp := SF_of e43_53 e44_53 (by omega) hsf
          have hrr53 : RR I_53 v_3.toNat r pp := ⟨hrr.1, hrr.2.1, fun j hj => by rw [e41_53, e42_53]; exact hrr.2.2 j hj⟩
          have hsn := SF_n hsf53 hrr53 (by omega) hn8 hnf8 hw8 hd0 (by omega) (fun t ht => by rw [e43_53]; exact (hct t ht).1)
          have e44_89 : I_89 44 = I_82 44 := h_89.1 44 (by decide)
          have hsB : ∀ t : Nat, t < 4 → ¬ I_89 43 (4 * p.toNat + t) = 0 → FIo I_89 v_3.toNat k.toNat p.toNat t := fun t ht h7 => FIo_of e44_89 (hsn.1 t ht (by rw [← e43_89]; exact h7))
          have hsA : ¬ nxA k.toNat r pp (v_3.toNat - 1) = 0 → SF I_89 v_3.toNat k.toNat p.toNat (65536 - (q + 1)).toNat (mkL (nxR r (nxA k.toNat r pp (v_3.toNat - 1))) v_3.toNat []) (mkL (nxP r pp (nxA k.toNat r pp (v_3.toNat - 1))) v_3.toNat []) := fun h7 t ht => ⟨fun h6 => by
              obtain ⟨g1, g2⟩ := hsn.2 t ht (by rw [← e43_89]; exact h6)
              rw [srF_s, if_neg g1, if_neg h7] at g2
              rw [show (65536 - (q + 1)).toNat = (65536 - q - 1).toNat by omega]
              exact g2, fun h6 => hsB t ht h6⟩
          have hof9 : ∀ j : Nat, (j < 32 * p.toNat ∨ 32 * p.toNat + 32 ≤ j) → I_89 44 j = Ia 44 j := fun j hj => by rw [e44_89, hnf8.2 j hj, e44_53]; exact hof j hj
          have hsx : SWi6 x_89 I_89 v_3.toNat k.toNat p.toNat (q + 1) := by
            refine ⟨fun h9 => ?_, fun h9 => ?_⟩
            · have ht := h_89.2.2.2.2
              rw [h9] at ht
              have h8 := TO_1 (N := v_3.toNat) (k := k.toNat) (by omega) (by omega) (by omega) hrr8 ht
              rw [if_neg h8.1, show (65536 - q - 1).toNat = (65536 - (q + 1)).toNat by omega] at hss
              exact ⟨_, _, _, h8.2, e45_89, hss.symm, hsA h8.1⟩
            · have ht := h_89.2.2.2.2
              rw [h9] at ht
              have h8 := TO_0 (N := v_3.toNat) (k := k.toNat) (by omega) (by omega) (by omega) hrr8 ht
              rw [if_pos h8] at hss
              exact ⟨by rw [e45_89, hss], hsB⟩
          clear hss hsr
          have hct9 : ∀ t : Nat, t < 4 → 0 ≤ I_89 43 (4 * p.toNat + t) ∧ I_89 43 (4 * p.toNat + t) ≤ 24 * (q + 1) := fun t ht => by
            have h7 := hn8.1 t ht
            have h6 := hct t ht
            rw [e43_89, h7, e43_53]
            split <;> omega
          have hoj9 : ∀ j : Nat, (j < 4 * p.toNat ∨ 4 * p.toNat + 4 ≤ j) → I_89 43 j = Ia 43 j := fun j hj => by
            rw [e43_89, hn8.2 j hj, e43_53]; exact hoj j hj
          refine ww_istore hX (pc := 92) (lv' := [some (kR (some 37)), some (kI p), some (kI n), some (kI k), some (kI v_3), some (kI x_89), some (kI q)]) dX2_search_92 (by decide) rfl rfl ?_
          refine ww_iinc hX (pc := 94) (lv' := [some (kR (some 37)), some (kI p), some (kI n), some (kI k), some (kI v_3), some (kI x_89), some (kI (q + 1))]) dX2_search_94 rfl (by decide) rfl rfl ?_
          refine ww_goto hX (pc := 97) (tgt := 27) dX2_search_97 (by decide) ?_
          exact ih_27 _ (by have hm9 := Sh0_e hq_27; omega) x_89 (q + 1) I_89 J_89 rfl ⟨kI_89, kJ_89, ⟨by omega, by omega⟩, h_89.2.2.2.1, f_89, by rw [h_89.1 45 (by decide), h_82.1 45 (by decide), h_53 45 (by decide) (by decide)]; exact e45, hsx, by omega, hct9, hoj9, hof9⟩
  exact hl_27 _ 1 0 I_18 Ja rfl ⟨kI_18, (Kp_rf (a := 37) (b := 46)), ⟨by omega, by omega⟩, ⟨fun j hj => by rw [hz41 j hj, hz42 j hj]; omega, fun j h1 h2 => by rw [hz41 j (by omega), hz42 (j - 1) (by omega)]; omega⟩, FI_of hF (by rw [eI_18, upR_n _ _ (by decide), eI_10, upR_n _ _ (by decide)]), hz45, ⟨(fun _ => ⟨zrs v_3.toNat, zrs v_3.toNat, 0, ⟨(zrs_v _).1, (zrs_v _).1, fun j hj => by rw [hz41 j (by omega), hz42 j (by omega), (zrs_v _).2]; exact ⟨rfl, rfl⟩⟩, by unfold PK; rw [hz43, hz 1 (by decide), hz 2 (by decide), hz 3 (by decide)]; have := hz 0 (by decide); rw [Nat.add_zero] at this; rw [this]; rfl, rfl, (fun t ht => ⟨fun _ => rfl, fun h9 => absurd (by rw [hz43]; exact hz t ht) h9⟩)⟩), (fun h9 => absurd h9 (by decide))⟩, Or.inr rfl, (fun t ht => by rw [hz43, hz t ht]; omega), (fun j hj => by rw [hz43]), (fun j hj => by rw [hz44])⟩
