/-- a NIGHT that is being DRAWN -/
def NGi (nx : Int → Int → Int) (a K b i sn rr : Int) (F : Nat → Int) (n u : Int) : Prop := (u = -1 → n = i ∧ sn = dN nx a K i.toNat ∧ rr = dS a i.toNat ∧ ∀ j : Nat, (j : Int) < i → F j = dN nx a K (j + 1) ∧ 0 ≤ dN nx a K (j + 1)) ∧ (¬ u = -1 → NGc nx a K b F n u)
theorem NGi_0 {nx : Int → Int → Int} {a K b : Int} {F : Nat → Int} {n u : Int} (hn : n = 0) (hu : u = -1) : NGi nx a K b 0 0 a F n u :=
  ⟨fun _ => ⟨hn, rfl, rfl, fun j hj => absurd hj (by omega)⟩, fun h => absurd hu h⟩
theorem NGi_end {nx : Int → Int → Int} {a K b i sn rr : Int} {F : Nat → Int} {n u : Int} (h : NGi nx a K b i sn rr F n u) (hi : 0 ≤ i ∧ i ≤ b) (he : b ≤ i ∨ ¬ u = -1) : NGc nx a K b F n u := by
  by_cases e : u = -1
  · obtain ⟨h1, -, -, h4⟩ := h.1 e
    have hb : b ≤ i := by
      rcases he with he | he
      · exact he
      · exact absurd e he
    exact ⟨by omega, fun j hj => h4 j (by omega), Or.inl ⟨by omega, e⟩⟩
  · exact h.2 e
theorem NGi_un {nx : Int → Int → Int} {a K b i sn rr r t : Int} {F F' : Nat → Int} {n n' u u' : Int} (h : NGi nx a K b i sn rr F n u) (hu : u = -1) (hi : 0 ≤ i) (hb : i < b) (hK : 0 < K) (hr : r = (rr * 1103 + 12345) % 1000003) (ht : t = r % K) (hx : nx sn t = -1) (hF : F' = F) (hn : n' = n) (hu' : u' = t) : NGi nx a K b (i + 1) sn r F' n' u' := by
  obtain ⟨h1, h2, h3, h4⟩ := h.1 hu
  have e1 : dS a (i.toNat + 1) = r := by
    rw [hr, h3]
    rfl
  have t0 : 0 ≤ t := by
    rw [ht]
    exact Int.emod_nonneg _ (by omega)
  refine ⟨fun h9 => absurd h9 (by omega), fun _ => ?_⟩
  subst hF hn hu'
  refine ⟨by omega, fun j hj => h4 j (by omega), Or.inr ⟨by omega, ?_, ?_⟩⟩
  · rw [h1]
    show nx (dN nx a K i.toNat) (dS a (i.toNat + 1) % K) = -1
    rw [e1, ← ht, ← h2]
    exact hx
  · rw [h1, e1, ht]
theorem NGi_go {nx : Int → Int → Int} {a K b i sn rr r t z : Int} {F F' : Nat → Int} {n n' u u' : Int} (h : NGi nx a K b i sn rr F n u) (hu : u = -1) (hi : 0 ≤ i) (hr : r = (rr * 1103 + 12345) % 1000003) (ht : t = r % K) (hx : nx sn t = z) (hz : 0 ≤ z) (hF : F' = up1 F i.toNat z) (hn : n' = i + 1) (hu' : u' = -1) : NGi nx a K b (i + 1) z r F' n' u' := by
  obtain ⟨h1, h2, h3, h4⟩ := h.1 hu
  have e1 : dS a (i.toNat + 1) = r := by
    rw [hr, h3]
    rfl
  have e2 : dN nx a K (i.toNat + 1) = z := by
    show nx (dN nx a K i.toNat) (dS a (i.toNat + 1) % K) = z
    rw [e1, ← ht, ← h2]
    exact hx
  have e3 : (i + 1).toNat = i.toNat + 1 := by omega
  refine ⟨fun _ => ⟨hn, by rw [e3, e2], by rw [e3, e1], fun j hj => ?_⟩, fun h9 => absurd hu' h9⟩
  rw [hF]
  by_cases e : j = i.toNat
  · rw [e, up1_s, e2]
    exact ⟨rfl, hz⟩
  · rw [up1_n _ _ e]
    exact h4 j (by omega)

set_option maxHeartbeats 4000000 in
set_option maxRecDepth 20000 in
theorem c8_X10_drawNight (l0 : Launch) {Ia Ja : aI1} {Ra : aR1} {Sa : aS1} (hL : LY Ra Sa) (hC : CX Ia) (hF : FRk Ia Ja) {a b c : Int} (ha0 : 0 ≤ a) (ha1 : a ≤ 2147483647) (hb0 : 0 ≤ b) (hb1 : b ≤ 24) (hc0 : 0 ≤ c) (hc1 : c ≤ 3) (hO : ∀ j, j < 8 → 0 ≤ Ia 2 j ∧ Ia 2 j ≤ 99) (hK : ∀ s : Nat, (s : Int) ≤ FU (Ia 1 5) → Ia 3 s < Ia 1 6)  : CT l0 10 0 0 mX10_drawNight [kR (some 0), kI a, kI b, kI c] Ia Ja Ra Sa (cV (fun I' J' => (Kp 0 49 Ia I' ∧ Kp 0 49 Ja J' ∧ CX I' ∧ Fw [18, 19, 20, 21, 22, 23, 24, 25, 26, 27, 28, 29, 30, 47] [(0, 13), (0, 14)] Ia I' ∧ ∃ o L T, KT c Ia o L T ∧ NGc (fun s x => NX (bC c o L T) (Ia 3) (Ia 1 7) s (FU (Ia 1 5) + 1) x) a (Ia 1 6) b (I' 47) (I' 0 13) (I' 0 14)) ∧ FRk I' J') Ra Sa) := by
  refine ct_in pn_X10 (Nat.le_of_ble_eq_true rfl) (fun X hX hT hIn => ?_)
  have hX : aK l0 X cX10_drawNight 10 RX10 none 10 0 0 := hX
  change WW X 0 [some (kR (some 0)), some (kI a), some (kI b), some (kI c), none, none, none, none, none, none] [] Ia Ja Ra Sa 0 0
  have hI := hC.1
  have hq := XI_o hI
  refine ww_aload_n hX (pc := 0) dX10_drawNight_0 rfl ?_
  refine ww_getR hX (pc := 1) fX10_48 (by decide) (xs_0 hL) (xr_0_5 hL) dX10_drawNight_1 ?_
  refine ww_iload_n hX (pc := 4) dX10_drawNight_4 rfl ?_
  refine vV1 hX (pc := 5) sX10_191 (xs_18 hL) (c8_X4_prepare l0 hL hC.1 hF hK (by omega) (by omega)) (by decide) (Nat.le_refl 0) (Nat.le_refl 0) (Nat.le_of_ble_eq_true rfl) dX10_drawNight_5 (fun I_5 J_5 h_5 => ?_)
  have kI_5 : Kp 0 49 Ia I_5 := Kp_tr (Kp_rf (a := 0) (b := 49)) (Kp_wd h_5.1 (by decide) (by decide))
  have kJ_5 : Kp 0 49 Ja J_5 := Kp_tr (Kp_rf (a := 0) (b := 49)) (Kp_wd h_5.2.1 (by decide) (by decide))
  have cI_5 : CX I_5 := CX_kp hC h_5.1 (by decide) (by decide)
  have qI_5 := XI_o cI_5.1
  have r5_I_5 : I_5 1 5 = Ia 1 5 := by rw [h_5.1 1 (by decide)]
  have r6_I_5 : I_5 1 6 = Ia 1 6 := by rw [h_5.1 1 (by decide)]
  have r8_I_5 : I_5 1 8 = Ia 1 8 := by rw [h_5.1 1 (by decide)]
  have r9_I_5 : I_5 1 9 = Ia 1 9 := by rw [h_5.1 1 (by decide)]
  have r10_I_5 : I_5 1 10 = Ia 1 10 := by rw [h_5.1 1 (by decide)]
  have r11_I_5 : I_5 1 11 = Ia 1 11 := by rw [h_5.1 1 (by decide)]
  have rf_I_5 : FU (I_5 1 5) = FU (Ia 1 5) := by rw [r5_I_5]
  have wI_5 : Fw [18, 19, 20, 21, 22, 23, 24, 25, 26, 27, 28, 29, 30, 47] [(0, 13), (0, 14)] Ia I_5 := Fw_kp Fw_rf h_5.1 (by decide)
  have r7_I_5 : I_5 1 7 = Ia 1 7 := by rw [h_5.1 1 (by decide)]
  have frI_5 : FRk I_5 J_5 := h_5.2.2.1
  have e1_5 : I_5 1 = Ia 1 := h_5.1 1 (by decide)
  have e2_5 : I_5 2 = Ia 2 := h_5.1 2 (by decide)
  have e3_5 : I_5 3 = Ia 3 := h_5.1 3 (by decide)
  have htrp : ∀ t : Nat, (t : Int) ≤ FU (I_5 1 5) → TR c I_5 J_5 t := TR_p cI_5.1 (by rw [e2_5]; exact hO) h_5.2.2.2.1 h_5.2.2.2.2.1 h_5.2.2.2.2.2
  have hkt : KT c Ia (I_5 19) (I_5 24) (J_5 28) := KT_p h_5.2.2.2.1 h_5.2.2.2.2.1 h_5.2.2.2.2.2 e1_5 e2_5 e3_5
  refine ww_iload_n hX (pc := 8) dX10_drawNight_8 rfl ?_
  refine ww_i2l hX (pc := 9) dX10_drawNight_9 ?_
  refine ww_toL (b := a) (w32_id (by omega) (by omega)) ?_
  refine ww_nmL (fun v_10 hv_10 => ?_)
  refine ww_lstore hX (pc := 10) (lv' := [some (kR (some 0)), some (kI a), some (kI b), some (kI c), some (kL v_10), none, none, none, none, none]) dX10_drawNight_10 (by decide) rfl rfl ?_
  refine ww_iconst hX (pc := 12) (x := 0) dX10_drawNight_12 rfl ?_
  refine ww_istore hX (pc := 13) (lv' := [some (kR (some 0)), some (kI a), some (kI b), some (kI c), some (kL v_10), none, some (kI 0), none, none, none]) dX10_drawNight_13 (by decide) rfl rfl ?_
  refine ww_aload_n hX (pc := 15) dX10_drawNight_15 rfl ?_
  refine ww_iconst hX (pc := 16) (x := 0) dX10_drawNight_16 rfl ?_
  refine ww_putI hX (pc := 17) (fun h9 => absurd h9 (by decide)) gX10_298 rfl (xs_0 hL) dX10_drawNight_17 ?_
  refine ww_nmH (fun I_17 eI_17 => ?_)
  have kI_17 : Kp 0 49 Ia I_17 := by rw [eI_17]; exact Kp_up kI_5 _ _ (by decide)
  have cI_17 : CX I_17 := by rw [eI_17]; exact CX_x cI_5 (XI_0_13 cI_5.1 (by omega) (by omega)) (by decide)
  have qI_17 := XI_o cI_17.1
  have r5_I_17 : I_17 1 5 = I_5 1 5 := by rw [eI_17, up2_off _ _ _ (by decide)]
  have r6_I_17 : I_17 1 6 = I_5 1 6 := by rw [eI_17, up2_off _ _ _ (by decide)]
  have r8_I_17 : I_17 1 8 = I_5 1 8 := by rw [eI_17, up2_off _ _ _ (by decide)]
  have r9_I_17 : I_17 1 9 = I_5 1 9 := by rw [eI_17, up2_off _ _ _ (by decide)]
  have r10_I_17 : I_17 1 10 = I_5 1 10 := by rw [eI_17, up2_off _ _ _ (by decide)]
  have r11_I_17 : I_17 1 11 = I_5 1 11 := by rw [eI_17, up2_off _ _ _ (by decide)]
  have rf_I_17 : FU (I_17 1 5) = FU (I_5 1 5) := by rw [r5_I_17]
  have wI_17 : Fw [18, 19, 20, 21, 22, 23, 24, 25, 26, 27, 28, 29, 30, 47] [(0, 13), (0, 14)] Ia I_17 := by rw [eI_17]; exact Fw_up wI_5 (Or.inr (by decide))
  have r7_I_17 : I_17 1 7 = I_5 1 7 := by rw [eI_17, up2_n _ _ (Or.inl (by decide))]
  have frI_17 : FRk I_17 J_5 := by rw [eI_17]; exact FRk_up frI_5 (by decide)
  refine ww_aload_n hX (pc := 20) dX10_drawNight_20 rfl ?_
  refine ww_iconst hX (pc := 21) (x := (-1)) dX10_drawNight_21 rfl ?_
  refine ww_putI hX (pc := 22) (fun h9 => absurd h9 (by decide)) gX10_85 rfl (xs_0 hL) dX10_drawNight_22 ?_
  refine ww_nmH (fun I_22 eI_22 => ?_)
  have kI_22 : Kp 0 49 Ia I_22 := by rw [eI_22]; exact Kp_up kI_17 _ _ (by decide)
  have cI_22 : CX I_22 := by rw [eI_22]; exact CX_x cI_17 (XI_0 cI_17.1 (by decide)) (by decide)
  have qI_22 := XI_o cI_22.1
  have r5_I_22 : I_22 1 5 = I_17 1 5 := by rw [eI_22, up2_off _ _ _ (by decide)]
  have r6_I_22 : I_22 1 6 = I_17 1 6 := by rw [eI_22, up2_off _ _ _ (by decide)]
  have r8_I_22 : I_22 1 8 = I_17 1 8 := by rw [eI_22, up2_off _ _ _ (by decide)]
  have r9_I_22 : I_22 1 9 = I_17 1 9 := by rw [eI_22, up2_off _ _ _ (by decide)]
  have r10_I_22 : I_22 1 10 = I_17 1 10 := by rw [eI_22, up2_off _ _ _ (by decide)]
  have r11_I_22 : I_22 1 11 = I_17 1 11 := by rw [eI_22, up2_off _ _ _ (by decide)]
  have rf_I_22 : FU (I_22 1 5) = FU (I_17 1 5) := by rw [r5_I_22]
  have wI_22 : Fw [18, 19, 20, 21, 22, 23, 24, 25, 26, 27, 28, 29, 30, 47] [(0, 13), (0, 14)] Ia I_22 := by rw [eI_22]; exact Fw_up wI_17 (Or.inr (by decide))
  have r7_I_22 : I_22 1 7 = I_17 1 7 := by rw [eI_22, up2_n _ _ (Or.inl (by decide))]
  have t19_22 : I_22 19 = I_5 19 := by rw [eI_22, up2_off _ _ _ (by decide), eI_17, up2_off _ _ _ (by decide)]
  have t24_22 : I_22 24 = I_5 24 := by rw [eI_22, up2_off _ _ _ (by decide), eI_17, up2_off _ _ _ (by decide)]
  have z13_22 : I_22 0 13 = 0 := by rw [eI_22, up2_n _ _ (Or.inr (by decide)), eI_17, up2_s]
  have z14_22 : I_22 0 14 = -1 := by rw [eI_22, up2_s]
  have frI_22 : FRk I_22 J_5 := by rw [eI_22]; exact FRk_up frI_17 (by decide)
  refine ww_iconst hX (pc := 25) (x := 0) dX10_drawNight_25 rfl ?_
  refine ww_istore hX (pc := 26) (lv' := [some (kR (some 0)), some (kI a), some (kI b), some (kI c), some (kL v_10), none, some (kI 0), some (kI 0), none, none]) dX10_drawNight_26 (by decide) rfl rfl ?_
  have hl_28 : ∀ (n_28 : Nat) (rr : Int) (sn : Int) (i : Int) (I2 : aI1) (J2 : aI1), (b - i).toNat = n_28 → (Kp 0 49 Ia I2 ∧ Kp 0 49 Ja J2 ∧ CX I2 ∧ FRk I2 J2 ∧ Fw [18, 19, 20, 21, 22, 23, 24, 25, 26, 27, 28, 29, 30, 47] [(0, 13), (0, 14)] Ia I2 ∧ (I2 1 5 = I_22 1 5 ∧ I2 1 6 = I_22 1 6) ∧ (((0 ≤ i ∧ i ≤ b) ∧ (0 ≤ sn ∧ sn ≤ FU (I2 1 5)) ∧ (0 ≤ rr ∧ rr ≤ 2147483647)) ∧ (I2 19 = I_5 19 ∧ I2 24 = I_5 24 ∧ J2 28 = J_5 28) ∧ (-1 ≤ I2 0 14 ∧ I2 0 14 ≤ 8) ∧ NGi (fun s x => NX (bC c (I_5 19) (I_5 24) (J_5 28)) (Ia 3) (Ia 1 7) s (FU (Ia 1 5) + 1) x) a (Ia 1 6) b i sn rr (I2 47) (I2 0 13) (I2 0 14))) → WW X 28 [some (kR (some 0)), some (kI a), some (kI b), some (kI c), some (kL rr), none, some (kI sn), some (kI i), none, none] [] I2 J2 Ra Sa 0 0 := by
    intro n_28
    induction n_28 using Nat.strongRecOn with
    | ind n_28 ih_28 =>
      intro rr sn i I2 J2 hm_28 hv_28
      have hq_28 := Sh0_i hm_28
      clear hm_28
      obtain ⟨kI2, kJ2, cI2, frI2, wI2, hI20, hdn⟩ := hv_28
      have qI2 := XI_o cI2.1
      have rfI2 := congrArg FU hI20.1
      obtain ⟨⟨hi, hsn, hrr⟩, ⟨t19_I2, t24_I2, t28_I2⟩, hu2, hng⟩ := hdn
      have t3_I2 : I2 3 = Ia 3 := Fw_row wI2 3 (by decide) (by decide) (by decide)
      have t1_I2 : I2 1 = Ia 1 := Fw_row wI2 1 (by decide) (by decide) (by decide)
      refine ww_iload hX (pc := 28) dX10_drawNight_28 rfl ?_
      refine ww_iload_n hX (pc := 30) dX10_drawNight_30 rfl ?_
      refine ww_icmp_ge hX (pc := 31) (tgt := 132) dX10_drawNight_31 (by decide) (fun h_31 => ?_) (fun h_31 => ?_)
      · simp only [w32_mod] at h_31
        refine rV hX (pc := 132) hT (Nat.le_refl 0) (Nat.le_refl 0) dX10_drawNight_132 ?_
        exact ⟨⟨kI2, kJ2, cI2, (Fw_wd wI2 (by decide) (by decide)), ⟨_, _, _, hkt, NGi_end hng hi (by first | exact Or.inl (by omega) | exact Or.inr (by omega))⟩⟩, frI2⟩
      · simp only [w32_mod] at h_31
        refine ww_aload_n hX (pc := 34) dX10_drawNight_34 rfl ?_
        refine ww_getI hX (pc := 35) fX10_85 (by decide) (xs_0 hL) dX10_drawNight_35 ?_
        refine ww_iconst hX (pc := 38) (x := (-1)) dX10_drawNight_38 rfl ?_
        refine ww_icmp_ne hX (pc := 39) (tgt := 132) dX10_drawNight_39 (by decide) (fun h_39 => ?_) (fun h_39 => ?_)
        · simp only [w32_mod] at h_39
          refine rV hX (pc := 132) hT (Nat.le_refl 0) (Nat.le_refl 0) dX10_drawNight_132 ?_
          exact ⟨⟨kI2, kJ2, cI2, (Fw_wd wI2 (by decide) (by decide)), ⟨_, _, _, hkt, NGi_end hng hi (by first | exact Or.inl (by omega) | exact Or.inr (by omega))⟩⟩, frI2⟩
        · simp only [w32_mod] at h_39
          refine ww_lload hX (pc := 42) dX10_drawNight_42 rfl ?_
          refine ww_ldc2 hX (pc := 44) (x := 1103) dX10_drawNight_44 tb_1054 ?_
          refine ww_lmul hX (pc := 47) dX10_drawNight_47 ?_
          refine ww_ldc2 hX (pc := 48) (x := 12345) dX10_drawNight_48 tb_1055 ?_
          refine ww_ladd hX (pc := 51) dX10_drawNight_51 ?_
          refine ww_ldc2 hX (pc := 52) (x := 1000003) dX10_drawNight_52 tb_1056 ?_
          refine ww_lrem hX (pc := 55) dX10_drawNight_55 (by decide) ?_
          refine ww_toL (b := (rr * 1103 + 12345) % 1000003) (l_rem_v (by omega) (by omega) (by decide) (by decide)) ?_
          refine ww_nmL (fun v_56 hv_56 => ?_)
          refine ww_lstore hX (pc := 56) (lv' := [some (kR (some 0)), some (kI a), some (kI b), some (kI c), some (kL v_56), none, some (kI sn), some (kI i), none, none]) dX10_drawNight_56 (by decide) rfl rfl ?_
          refine ww_lload hX (pc := 58) dX10_drawNight_58 rfl ?_
          refine ww_iconst hX (pc := 60) (x := 1) dX10_drawNight_60 rfl ?_
          refine ww_aload_n hX (pc := 61) dX10_drawNight_61 rfl ?_
          refine ww_getR hX (pc := 62) fX10_10 (by decide) (xs_0 hL) (xr_0_0 hL) dX10_drawNight_62 ?_
          refine ww_getI hX (pc := 65) fX10_117 (by decide) (xs_1 hL) dX10_drawNight_65 ?_
          refine ww_mmax hX (pc := 68) tb_459 tb_460 tb_13 tb_461 (by decide) (Nat.le_refl 0) (Nat.le_refl 0) (Nat.le_of_ble_eq_true rfl) dX10_drawNight_68 ?_
          refine ww_toI (b := max 1 (I2 1 6)) (by rw [i_max_r (by decide) (by decide) (by omega) (by omega)]) ?_
          refine ww_i2l hX (pc := 71) dX10_drawNight_71 ?_
          refine ww_lrem hX (pc := 72) dX10_drawNight_72 (by rw [w32_id (by omega) (by omega)]; unfold w64; rw [Int64.toInt_ofInt_of_le (by omega) (by omega)]; omega) ?_
          refine ww_toL (b := v_56 % max 1 (I2 1 6)) (by rw [w32_id (by omega) (by omega)]; exact l_rem_v (by omega) (by omega) (by omega) (by omega)) ?_
          have htl0 := Int.emod_nonneg v_56 (show max 1 (I2 1 6) ≠ 0 by omega)
          have htl1 := Int.emod_lt_of_pos v_56 (show 0 < max 1 (I2 1 6) by omega)
          refine ww_l2i hX (pc := 73) dX10_drawNight_73 ?_
          refine ww_nmI (fun v_74 hv_74 => ?_)
          refine ww_istore hX (pc := 74) (lv' := [some (kR (some 0)), some (kI a), some (kI b), some (kI c), some (kL v_56), none, some (kI sn), some (kI i), some (kI v_74), none]) dX10_drawNight_74 (by decide) rfl rfl ?_
          refine ww_aload_n hX (pc := 76) dX10_drawNight_76 rfl ?_
          refine ww_getR hX (pc := 77) fX10_48 (by decide) (xs_0 hL) (xr_0_5 hL) dX10_drawNight_77 ?_
          refine ww_iload hX (pc := 80) dX10_drawNight_80 rfl ?_
          refine ww_iload hX (pc := 82) dX10_drawNight_82 rfl ?_
          refine ww_iload_n hX (pc := 84) dX10_drawNight_84 rfl ?_
          refine vI3 hX (pc := 85) sX10_194 (xs_18 hL) (n8_X4_choose l0 hL cI2.1 frI2 (by omega) (by omega) (by omega) (by omega) (by omega) (by omega) (fun t ht => TR_o2 (htrp t (by rw [e1_5]; rw [t1_I2] at ht; exact ht)) t19_I2 t24_I2 t28_I2)) (by decide) (Nat.le_refl 0) (Nat.le_refl 0) (Nat.le_of_ble_eq_true rfl) dX10_drawNight_85 (fun x_85 I_85 J_85 h_85 => ?_)
          have kI_85 : Kp 0 49 Ia I_85 := Kp_tr kI2 (Kp_wd h_85.1 (by decide) (by decide))
          have kJ_85 : Kp 0 49 Ja J_85 := Kp_tr kJ2 (Kp_wd h_85.2.1 (by decide) (by decide))
          have cI_85 : CX I_85 := CX_kp cI2 h_85.1 (by decide) (by decide)
          have qI_85 := XI_o cI_85.1
          have r5_I_85 : I_85 1 5 = I2 1 5 := by rw [h_85.1 1 (by decide)]
          have r6_I_85 : I_85 1 6 = I2 1 6 := by rw [h_85.1 1 (by decide)]
          have r8_I_85 : I_85 1 8 = I2 1 8 := by rw [h_85.1 1 (by decide)]
          have r9_I_85 : I_85 1 9 = I2 1 9 := by rw [h_85.1 1 (by decide)]
          have r10_I_85 : I_85 1 10 = I2 1 10 := by rw [h_85.1 1 (by decide)]
          have r11_I_85 : I_85 1 11 = I2 1 11 := by rw [h_85.1 1 (by decide)]
          have rf_I_85 : FU (I_85 1 5) = FU (I2 1 5) := by rw [r5_I_85]
          have wI_85 : Fw [18, 19, 20, 21, 22, 23, 24, 25, 26, 27, 28, 29, 30, 47] [(0, 13), (0, 14)] Ia I_85 := Fw_kp wI2 h_85.1 (by decide)
          have r7_I_85 : I_85 1 7 = I2 1 7 := by rw [h_85.1 1 (by decide)]
          have frI_85 : FRk I_85 J_85 := h_85.2.2.1
          have hk2 : Ia 1 6 = max 1 (I2 1 6) := by
            have h9 : I2 1 6 = Ia 1 6 := congrFun t1_I2 6
            omega
          have hv74 : v_74 = v_56 % Ia 1 6 := by rw [hk2]; exact hv_74
          have hxn : (fun s x => NX (bC c (I_5 19) (I_5 24) (J_5 28)) (Ia 3) (Ia 1 7) s (FU (Ia 1 5) + 1) x) sn v_74 = x_85 := by
            have h9 := h_85.2.2.2.1
            rw [t3_I2, t1_I2, t19_I2, t24_I2, t28_I2] at h9
            exact h9.symm
          have hnr := NX_r (bt := bC c (I_5 19) (I_5 24) (J_5 28)) (code := Ia 3) (g := Ia 1 7) (s := sn) (N := (FU (Ia 1 5) + 1)) (x := v_74) (by omega)
          have hnr2 : -1 ≤ x_85 ∧ x_85 ≤ FU (Ia 1 5) := by
            have h8 : NX (bC c (I_5 19) (I_5 24) (J_5 28)) (Ia 3) (Ia 1 7) sn (FU (Ia 1 5) + 1) v_74 = x_85 := hxn
            rw [h8] at hnr
            rcases hnr with h9 | h9
            · omega
            · omega
          clear hnr
          have t1b : I_85 1 = Ia 1 := (h_85.1 1 (by decide)).trans t1_I2
          have t19b : I_85 19 = I_5 19 := (h_85.2.2.2.2.1 19 (by decide)).trans t19_I2
          have t24b : I_85 24 = I_5 24 := (h_85.2.2.2.2.1 24 (by decide)).trans t24_I2
          have t28b : J_85 28 = J_5 28 := by rw [← h_85.2.2.2.2.2]; exact t28_I2
          have t47b : I_85 47 = I2 47 := h_85.1 47 (by decide)
          have t13b : I_85 0 13 = I2 0 13 := congrFun (h_85.1 0 (by decide)) 13
          have t14b : I_85 0 14 = I2 0 14 := congrFun (h_85.1 0 (by decide)) 14
          have u14_I2 : I2 0 14 = -1 := by omega
          have hk6 : 0 < Ia 1 6 := by omega
          clear h_85
          refine ww_istore hX (pc := 88) (lv' := [some (kR (some 0)), some (kI a), some (kI b), some (kI c), some (kL v_56), none, some (kI sn), some (kI i), some (kI v_74), some (kI x_85)]) dX10_drawNight_88 (by decide) rfl rfl ?_
          refine ww_iload hX (pc := 90) dX10_drawNight_90 rfl ?_
          refine ww_iconst hX (pc := 92) (x := (-1)) dX10_drawNight_92 rfl ?_
          refine ww_icmp_ne hX (pc := 93) (tgt := 105) dX10_drawNight_93 (by decide) (fun h_93 => ?_) (fun h_93 => ?_)
          · simp only [w32_mod] at h_93
            refine ww_aload_n hX (pc := 105) dX10_drawNight_105 rfl ?_
            refine ww_getR hX (pc := 106) fX10_79 (by decide) (xs_0 hL) (xr_0_10 hL) dX10_drawNight_106 ?_
            refine ww_iload hX (pc := 109) dX10_drawNight_109 rfl ?_
            refine ww_iload hX (pc := 111) dX10_drawNight_111 rfl ?_
            refine ww_iast hX (pc := 113) (xs_47 hL) (by decide) (by omega) (by omega) dX10_drawNight_113 ?_
            refine ww_nmH (fun I_113 eI_113 => ?_)
            have kI_113 : Kp 0 49 Ia I_113 := by rw [eI_113]; exact Kp_up kI_85 _ _ (by decide)
            have cI_113 : CX I_113 := by rw [eI_113]; exact CX_up cI_85 (by decide)
            have qI_113 := XI_o cI_113.1
            have r5_I_113 : I_113 1 5 = I_85 1 5 := by rw [eI_113, up2_off _ _ _ (by decide)]
            have r6_I_113 : I_113 1 6 = I_85 1 6 := by rw [eI_113, up2_off _ _ _ (by decide)]
            have r8_I_113 : I_113 1 8 = I_85 1 8 := by rw [eI_113, up2_off _ _ _ (by decide)]
            have r9_I_113 : I_113 1 9 = I_85 1 9 := by rw [eI_113, up2_off _ _ _ (by decide)]
            have r10_I_113 : I_113 1 10 = I_85 1 10 := by rw [eI_113, up2_off _ _ _ (by decide)]
            have r11_I_113 : I_113 1 11 = I_85 1 11 := by rw [eI_113, up2_off _ _ _ (by decide)]
            have rf_I_113 : FU (I_113 1 5) = FU (I_85 1 5) := by rw [r5_I_113]
            have wI_113 : Fw [18, 19, 20, 21, 22, 23, 24, 25, 26, 27, 28, 29, 30, 47] [(0, 13), (0, 14)] Ia I_113 := by rw [eI_113]; exact Fw_up wI_85 (Or.inl (by decide))
            have r7_I_113 : I_113 1 7 = I_85 1 7 := by rw [eI_113, up2_n _ _ (Or.inl (by decide))]
            have frI_113 : FRk I_113 J_85 := by rw [eI_113]; exact FRk_up frI_85 (by decide)
            refine ww_aload_n hX (pc := 114) dX10_drawNight_114 rfl ?_
            refine ww_iload hX (pc := 115) dX10_drawNight_115 rfl ?_
            refine ww_iconst hX (pc := 117) (x := 1) dX10_drawNight_117 rfl ?_
            refine ww_iadd hX (pc := 118) dX10_drawNight_118 ?_
            refine ww_putI hX (pc := 119) (fun h9 => absurd h9 (by decide)) gX10_298 rfl (xs_0 hL) dX10_drawNight_119 ?_
            refine ww_nmH (fun I_119 eI_119 => ?_)
            have kI_119 : Kp 0 49 Ia I_119 := by rw [eI_119]; exact Kp_up kI_113 _ _ (by decide)
            have cI_119 : CX I_119 := by rw [eI_119]; exact CX_x cI_113 (XI_0_13 cI_113.1 (by omega) (by omega)) (by decide)
            have qI_119 := XI_o cI_119.1
            have r5_I_119 : I_119 1 5 = I_113 1 5 := by rw [eI_119, up2_off _ _ _ (by decide)]
            have r6_I_119 : I_119 1 6 = I_113 1 6 := by rw [eI_119, up2_off _ _ _ (by decide)]
            have r8_I_119 : I_119 1 8 = I_113 1 8 := by rw [eI_119, up2_off _ _ _ (by decide)]
            have r9_I_119 : I_119 1 9 = I_113 1 9 := by rw [eI_119, up2_off _ _ _ (by decide)]
            have r10_I_119 : I_119 1 10 = I_113 1 10 := by rw [eI_119, up2_off _ _ _ (by decide)]
            have r11_I_119 : I_119 1 11 = I_113 1 11 := by rw [eI_119, up2_off _ _ _ (by decide)]
            have rf_I_119 : FU (I_119 1 5) = FU (I_113 1 5) := by rw [r5_I_119]
            have wI_119 : Fw [18, 19, 20, 21, 22, 23, 24, 25, 26, 27, 28, 29, 30, 47] [(0, 13), (0, 14)] Ia I_119 := by rw [eI_119]; exact Fw_up wI_113 (Or.inr (by decide))
            have r7_I_119 : I_119 1 7 = I_113 1 7 := by rw [eI_119, up2_n _ _ (Or.inl (by decide))]
            have t19c : I_119 19 = I_5 19 := by rw [eI_119, up2_off _ _ _ (by decide), eI_113, up2_off _ _ _ (by decide), t19b]
            have t24c : I_119 24 = I_5 24 := by rw [eI_119, up2_off _ _ _ (by decide), eI_113, up2_off _ _ _ (by decide), t24b]
            have hnc : NGi (fun s x => NX (bC c (I_5 19) (I_5 24) (J_5 28)) (Ia 3) (Ia 1 7) s (FU (Ia 1 5) + 1) x) a (Ia 1 6) b (i + 1) x_85 v_56 (I_119 47) (I_119 0 13) (I_119 0 14) := NGi_go hng u14_I2 hi.1 hv_56 hv74 hxn (by omega) (by rw [eI_119, up2_off _ _ _ (by decide), eI_113, up2_row, t47b]) (by rw [eI_119, up2_s]) (by rw [eI_119, up2_n _ _ (Or.inr (by decide)), eI_113, up2_off _ _ _ (by decide), t14b]; exact u14_I2)
            have z14c : -1 ≤ I_119 0 14 ∧ I_119 0 14 ≤ 8 := by
              have h9 : I_119 0 14 = -1 := by rw [eI_119, up2_n _ _ (Or.inr (by decide)), eI_113, up2_off _ _ _ (by decide), t14b]; exact u14_I2
              omega
            have frI_119 : FRk I_119 J_85 := by rw [eI_119]; exact FRk_up frI_113 (by decide)
            refine ww_iload hX (pc := 122) dX10_drawNight_122 rfl ?_
            refine ww_istore hX (pc := 124) (lv' := [some (kR (some 0)), some (kI a), some (kI b), some (kI c), some (kL v_56), none, some (kI x_85), some (kI i), some (kI v_74), some (kI x_85)]) dX10_drawNight_124 (by decide) rfl rfl ?_
            refine ww_iinc hX (pc := 126) (lv' := [some (kR (some 0)), some (kI a), some (kI b), some (kI c), some (kL v_56), none, some (kI x_85), some (kI (i + 1)), some (kI v_74), some (kI x_85)]) dX10_drawNight_126 rfl (by decide) rfl rfl ?_
            refine ww_goto hX (pc := 129) (tgt := 28) dX10_drawNight_129 (by decide) ?_
            refine ww_sub [some (kR (some 0)), some (kI a), some (kI b), some (kI c), some (kL v_56), none, some (kI x_85), some (kI (i + 1)), none, none] (aLe_s (aLe_s (aLe_s (aLe_s (aLe_s (aLe_n (aLe_s (aLe_s (aLe_n (aLe_n aLe_0)))))))))) ?_
            exact ih_28 _ (by have hm9 := Sh0_e hq_28; omega) v_56 x_85 (i + 1) I_119 J_85 rfl ⟨kI_119, kJ_85, cI_119, frI_119, wI_119, ⟨by omega, by omega⟩, ⟨⟨by omega, by omega⟩, ⟨by omega, by omega⟩, ⟨by omega, by omega⟩⟩, ⟨t19c, t24c, t28b⟩, z14c, hnc⟩
          · simp only [w32_mod] at h_93
            refine ww_aload_n hX (pc := 96) dX10_drawNight_96 rfl ?_
            refine ww_iload hX (pc := 97) dX10_drawNight_97 rfl ?_
            refine ww_putI hX (pc := 99) (fun h9 => absurd h9 (by decide)) gX10_85 rfl (xs_0 hL) dX10_drawNight_99 ?_
            refine ww_nmH (fun I_99 eI_99 => ?_)
            have kI_99 : Kp 0 49 Ia I_99 := by rw [eI_99]; exact Kp_up kI_85 _ _ (by decide)
            have cI_99 : CX I_99 := by rw [eI_99]; exact CX_x cI_85 (XI_0 cI_85.1 (by decide)) (by decide)
            have qI_99 := XI_o cI_99.1
            have r5_I_99 : I_99 1 5 = I_85 1 5 := by rw [eI_99, up2_off _ _ _ (by decide)]
            have r6_I_99 : I_99 1 6 = I_85 1 6 := by rw [eI_99, up2_off _ _ _ (by decide)]
            have r8_I_99 : I_99 1 8 = I_85 1 8 := by rw [eI_99, up2_off _ _ _ (by decide)]
            have r9_I_99 : I_99 1 9 = I_85 1 9 := by rw [eI_99, up2_off _ _ _ (by decide)]
            have r10_I_99 : I_99 1 10 = I_85 1 10 := by rw [eI_99, up2_off _ _ _ (by decide)]
            have r11_I_99 : I_99 1 11 = I_85 1 11 := by rw [eI_99, up2_off _ _ _ (by decide)]
            have rf_I_99 : FU (I_99 1 5) = FU (I_85 1 5) := by rw [r5_I_99]
            have wI_99 : Fw [18, 19, 20, 21, 22, 23, 24, 25, 26, 27, 28, 29, 30, 47] [(0, 13), (0, 14)] Ia I_99 := by rw [eI_99]; exact Fw_up wI_85 (Or.inr (by decide))
            have r7_I_99 : I_99 1 7 = I_85 1 7 := by rw [eI_99, up2_n _ _ (Or.inl (by decide))]
            have t19c : I_99 19 = I_5 19 := by rw [eI_99, up2_off _ _ _ (by decide), t19b]
            have t24c : I_99 24 = I_5 24 := by rw [eI_99, up2_off _ _ _ (by decide), t24b]
            have hnc : NGi (fun s x => NX (bC c (I_5 19) (I_5 24) (J_5 28)) (Ia 3) (Ia 1 7) s (FU (Ia 1 5) + 1) x) a (Ia 1 6) b (i + 1) sn v_56 (I_99 47) (I_99 0 13) (I_99 0 14) := NGi_un hng u14_I2 hi.1 (by omega) hk6 hv_56 hv74 (hxn.trans (by omega)) (by rw [eI_99, up2_off _ _ _ (by decide), t47b]) (by rw [eI_99, up2_n _ _ (Or.inr (by decide)), t13b]) (by rw [eI_99, up2_s])
            have z14c : -1 ≤ I_99 0 14 ∧ I_99 0 14 ≤ 8 := by
              have h9 : I_99 0 14 = v_74 := by rw [eI_99, up2_s]
              omega
            have frI_99 : FRk I_99 J_85 := by rw [eI_99]; exact FRk_up frI_85 (by decide)
            refine ww_goto hX (pc := 102) (tgt := 126) dX10_drawNight_102 (by decide) ?_
            refine ww_iinc hX (pc := 126) (lv' := [some (kR (some 0)), some (kI a), some (kI b), some (kI c), some (kL v_56), none, some (kI sn), some (kI (i + 1)), some (kI v_74), some (kI x_85)]) dX10_drawNight_126 rfl (by decide) rfl rfl ?_
            refine ww_goto hX (pc := 129) (tgt := 28) dX10_drawNight_129 (by decide) ?_
            refine ww_sub [some (kR (some 0)), some (kI a), some (kI b), some (kI c), some (kL v_56), none, some (kI sn), some (kI (i + 1)), none, none] (aLe_s (aLe_s (aLe_s (aLe_s (aLe_s (aLe_n (aLe_s (aLe_s (aLe_n (aLe_n aLe_0)))))))))) ?_
            exact ih_28 _ (by have hm9 := Sh0_e hq_28; omega) v_56 sn (i + 1) I_99 J_85 rfl ⟨kI_99, kJ_85, cI_99, frI_99, wI_99, ⟨by omega, by omega⟩, ⟨⟨by omega, by omega⟩, ⟨by omega, by omega⟩, ⟨by omega, by omega⟩⟩, ⟨t19c, t24c, t28b⟩, z14c, hnc⟩
  exact hl_28 _ v_10 0 0 I_22 J_5 rfl ⟨kI_22, kJ_5, cI_22, frI_22, wI_22, ⟨by omega, by omega⟩, ⟨⟨by omega, by omega⟩, ⟨by omega, by omega⟩, ⟨by omega, by omega⟩⟩, ⟨t19_22, t24_22, rfl⟩, ⟨by omega, by omega⟩, (by rw [hv_10]; exact NGi_0 z13_22 z14_22)⟩
set_option maxHeartbeats 4000000 in
set_option maxRecDepth 20000 in
theorem c8_X10_night (l0 : Launch) {Ia Ja : aI1} {Ra : aR1} {Sa : aS1} (hL : LY Ra Sa) (hC : CX Ia) (hF : FRk Ia Ja) {a b c : Int} (ha0 : -2147483648 ≤ a) (ha1 : a < 2147483648) (hb0 : -2147483648 ≤ b) (hb1 : b < 2147483648) (hc0 : -2147483648 ≤ c) (hc1 : c < 2147483648) (hO : ∀ j, j < 8 → 0 ≤ Ia 2 j ∧ Ia 2 j ≤ 99) (hK : ∀ s : Nat, (s : Int) ≤ FU (Ia 1 5) → Ia 3 s < Ia 1 6)  : CT l0 12 0 0 mX10_night [kR (some 0), kI a, kI b, kI c] Ia Ja Ra Sa (cI (fun x I' J' => (Kp 0 49 Ia I' ∧ Kp 0 49 Ja J' ∧ CX I' ∧ Fw [18, 19, 20, 21, 22, 23, 24, 25, 26, 27, 28, 29, 30, 47, 48] [(0, 13), (0, 14), (0, 16)] Ia I' ∧ (¬ (0 ≤ a ∧ a ≤ 1000000 ∧ 0 ≤ b ∧ b ≤ 24 ∧ 0 ≤ c ∧ c ≤ 3) → x = -1 ∧ RFc Ia I' (-1)) ∧ ((0 ≤ a ∧ a ≤ 1000000 ∧ 0 ≤ b ∧ b ≤ 24 ∧ 0 ≤ c ∧ c ≤ 3) → x = I' 0 13 ∧ I' 48 = Ia 48 ∧ I' 0 16 = 0 ∧ ∃ o L T, KT c Ia o L T ∧ NGc (fun s x => NX (bC c o L T) (Ia 3) (Ia 1 7) s (FU (Ia 1 5) + 1) x) a (Ia 1 6) b (I' 47) (I' 0 13) (I' 0 14))) ∧ FRk I' J') Ra Sa) := by
  refine ct_in pn_X10 (Nat.le_of_ble_eq_true rfl) (fun X hX hT hIn => ?_)
  have hX : aK l0 X cX10_night 4 RX10 (some .int) 12 0 0 := hX
  change WW X 0 [some (kR (some 0)), some (kI a), some (kI b), some (kI c)] [] Ia Ja Ra Sa 0 0
  have hI := hC.1
  have hq := XI_o hI
  refine ww_iload_n hX (pc := 0) dX10_night_0 rfl ?_
  refine ww_if_lt hX (pc := 1) (tgt := 28) dX10_night_1 (by decide) (fun h_1 => ?_) (fun h_1 => ?_)
  · simp only [w32_mod] at h_1
    refine ww_aload_n hX (pc := 28) dX10_night_28 rfl ?_
    refine ww_iconst hX (pc := 29) (x := (-1)) dX10_night_29 rfl ?_
    refine vI1 hX (pc := 30) sX10_89 (xs_0 hL) (c8_X10_refuse l0 hL hC hF (by omega) (by omega)) (by decide) (Nat.le_refl 0) (Nat.le_refl 0) (Nat.le_of_ble_eq_true rfl) dX10_night_30 (fun x_30 I_30 J_30 h_30 => ?_)
    obtain ⟨h_30, frI_30⟩ := h_30
    have kI_30 : Kp 0 49 Ia I_30 := Kp_tr (Kp_rf (a := 0) (b := 49)) (Kp_wd h_30.1 (by decide) (by decide))
    have kJ_30 : Kp 0 49 Ja J_30 := Kp_tr (Kp_rf (a := 0) (b := 49)) (Kp_wd h_30.2.1 (by decide) (by decide))
    have cI_30 : CX I_30 := h_30.2.2.1
    have qI_30 := XI_o cI_30.1
    have wI_30 : Fw [18, 19, 20, 21, 22, 23, 24, 25, 26, 27, 28, 29, 30, 47, 48] [(0, 13), (0, 14), (0, 16)] Ia I_30 := Fw_tr Fw_rf (Fw_wd h_30.2.2.2.1 (by decide) (by decide))
    have r5_I_30 : I_30 1 5 = Ia 1 5 := h_30.2.2.2.1 1 5 (by decide) (by decide) (by decide)
    have r6_I_30 : I_30 1 6 = Ia 1 6 := h_30.2.2.2.1 1 6 (by decide) (by decide) (by decide)
    have r7_I_30 : I_30 1 7 = Ia 1 7 := h_30.2.2.2.1 1 7 (by decide) (by decide) (by decide)
    have r8_I_30 : I_30 1 8 = Ia 1 8 := h_30.2.2.2.1 1 8 (by decide) (by decide) (by decide)
    have r9_I_30 : I_30 1 9 = Ia 1 9 := h_30.2.2.2.1 1 9 (by decide) (by decide) (by decide)
    have r10_I_30 : I_30 1 10 = Ia 1 10 := h_30.2.2.2.1 1 10 (by decide) (by decide) (by decide)
    have r11_I_30 : I_30 1 11 = Ia 1 11 := h_30.2.2.2.1 1 11 (by decide) (by decide) (by decide)
    have r81_I_30 : I_30 8 1 = Ia 8 1 := h_30.2.2.2.1 8 1 (by decide) (by decide) (by decide)
    have rf_I_30 : FU (I_30 1 5) = FU (Ia 1 5) := by rw [r5_I_30]
    have xv_I_30 := h_30.2.2.2.2
    refine rI hX (pc := 33) hT (Nat.le_refl 0) (Nat.le_refl 0) dX10_night_33 ?_
    exact ⟨⟨kI_30, kJ_30, cI_30, (Fw_wd wI_30 (by decide) (by decide)), (fun _ => ⟨xv_I_30.1, h_30.2.2.2.1, xv_I_30.2⟩), (fun h9 => absurd h9 (by omega))⟩, frI_30⟩
  · simp only [w32_mod] at h_1
    refine ww_iload_n hX (pc := 4) dX10_night_4 rfl ?_
    refine ww_ldcw hX (pc := 5) (x := 1000000) dX10_night_5 tb_1049 ?_
    refine ww_icmp_gt hX (pc := 8) (tgt := 28) dX10_night_8 (by decide) (fun h_8 => ?_) (fun h_8 => ?_)
    · simp only [w32_mod] at h_8
      refine ww_aload_n hX (pc := 28) dX10_night_28 rfl ?_
      refine ww_iconst hX (pc := 29) (x := (-1)) dX10_night_29 rfl ?_
      refine vI1 hX (pc := 30) sX10_89 (xs_0 hL) (c8_X10_refuse l0 hL hC hF (by omega) (by omega)) (by decide) (Nat.le_refl 0) (Nat.le_refl 0) (Nat.le_of_ble_eq_true rfl) dX10_night_30 (fun x_30 I_30 J_30 h_30 => ?_)
      obtain ⟨h_30, frI_30⟩ := h_30
      have kI_30 : Kp 0 49 Ia I_30 := Kp_tr (Kp_rf (a := 0) (b := 49)) (Kp_wd h_30.1 (by decide) (by decide))
      have kJ_30 : Kp 0 49 Ja J_30 := Kp_tr (Kp_rf (a := 0) (b := 49)) (Kp_wd h_30.2.1 (by decide) (by decide))
      have cI_30 : CX I_30 := h_30.2.2.1
      have qI_30 := XI_o cI_30.1
      have wI_30 : Fw [18, 19, 20, 21, 22, 23, 24, 25, 26, 27, 28, 29, 30, 47, 48] [(0, 13), (0, 14), (0, 16)] Ia I_30 := Fw_tr Fw_rf (Fw_wd h_30.2.2.2.1 (by decide) (by decide))
      have r5_I_30 : I_30 1 5 = Ia 1 5 := h_30.2.2.2.1 1 5 (by decide) (by decide) (by decide)
      have r6_I_30 : I_30 1 6 = Ia 1 6 := h_30.2.2.2.1 1 6 (by decide) (by decide) (by decide)
      have r7_I_30 : I_30 1 7 = Ia 1 7 := h_30.2.2.2.1 1 7 (by decide) (by decide) (by decide)
      have r8_I_30 : I_30 1 8 = Ia 1 8 := h_30.2.2.2.1 1 8 (by decide) (by decide) (by decide)
      have r9_I_30 : I_30 1 9 = Ia 1 9 := h_30.2.2.2.1 1 9 (by decide) (by decide) (by decide)
      have r10_I_30 : I_30 1 10 = Ia 1 10 := h_30.2.2.2.1 1 10 (by decide) (by decide) (by decide)
      have r11_I_30 : I_30 1 11 = Ia 1 11 := h_30.2.2.2.1 1 11 (by decide) (by decide) (by decide)
      have r81_I_30 : I_30 8 1 = Ia 8 1 := h_30.2.2.2.1 8 1 (by decide) (by decide) (by decide)
      have rf_I_30 : FU (I_30 1 5) = FU (Ia 1 5) := by rw [r5_I_30]
      have xv_I_30 := h_30.2.2.2.2
      refine rI hX (pc := 33) hT (Nat.le_refl 0) (Nat.le_refl 0) dX10_night_33 ?_
      exact ⟨⟨kI_30, kJ_30, cI_30, (Fw_wd wI_30 (by decide) (by decide)), (fun _ => ⟨xv_I_30.1, h_30.2.2.2.1, xv_I_30.2⟩), (fun h9 => absurd h9 (by omega))⟩, frI_30⟩
    · simp only [w32_mod] at h_8
      refine ww_iload_n hX (pc := 11) dX10_night_11 rfl ?_
      refine ww_if_lt hX (pc := 12) (tgt := 28) dX10_night_12 (by decide) (fun h_12 => ?_) (fun h_12 => ?_)
      · simp only [w32_mod] at h_12
        refine ww_aload_n hX (pc := 28) dX10_night_28 rfl ?_
        refine ww_iconst hX (pc := 29) (x := (-1)) dX10_night_29 rfl ?_
        refine vI1 hX (pc := 30) sX10_89 (xs_0 hL) (c8_X10_refuse l0 hL hC hF (by omega) (by omega)) (by decide) (Nat.le_refl 0) (Nat.le_refl 0) (Nat.le_of_ble_eq_true rfl) dX10_night_30 (fun x_30 I_30 J_30 h_30 => ?_)
        obtain ⟨h_30, frI_30⟩ := h_30
        have kI_30 : Kp 0 49 Ia I_30 := Kp_tr (Kp_rf (a := 0) (b := 49)) (Kp_wd h_30.1 (by decide) (by decide))
        have kJ_30 : Kp 0 49 Ja J_30 := Kp_tr (Kp_rf (a := 0) (b := 49)) (Kp_wd h_30.2.1 (by decide) (by decide))
        have cI_30 : CX I_30 := h_30.2.2.1
        have qI_30 := XI_o cI_30.1
        have wI_30 : Fw [18, 19, 20, 21, 22, 23, 24, 25, 26, 27, 28, 29, 30, 47, 48] [(0, 13), (0, 14), (0, 16)] Ia I_30 := Fw_tr Fw_rf (Fw_wd h_30.2.2.2.1 (by decide) (by decide))
        have r5_I_30 : I_30 1 5 = Ia 1 5 := h_30.2.2.2.1 1 5 (by decide) (by decide) (by decide)
        have r6_I_30 : I_30 1 6 = Ia 1 6 := h_30.2.2.2.1 1 6 (by decide) (by decide) (by decide)
        have r7_I_30 : I_30 1 7 = Ia 1 7 := h_30.2.2.2.1 1 7 (by decide) (by decide) (by decide)
        have r8_I_30 : I_30 1 8 = Ia 1 8 := h_30.2.2.2.1 1 8 (by decide) (by decide) (by decide)
        have r9_I_30 : I_30 1 9 = Ia 1 9 := h_30.2.2.2.1 1 9 (by decide) (by decide) (by decide)
        have r10_I_30 : I_30 1 10 = Ia 1 10 := h_30.2.2.2.1 1 10 (by decide) (by decide) (by decide)
        have r11_I_30 : I_30 1 11 = Ia 1 11 := h_30.2.2.2.1 1 11 (by decide) (by decide) (by decide)
        have r81_I_30 : I_30 8 1 = Ia 8 1 := h_30.2.2.2.1 8 1 (by decide) (by decide) (by decide)
        have rf_I_30 : FU (I_30 1 5) = FU (Ia 1 5) := by rw [r5_I_30]
        have xv_I_30 := h_30.2.2.2.2
        refine rI hX (pc := 33) hT (Nat.le_refl 0) (Nat.le_refl 0) dX10_night_33 ?_
        exact ⟨⟨kI_30, kJ_30, cI_30, (Fw_wd wI_30 (by decide) (by decide)), (fun _ => ⟨xv_I_30.1, h_30.2.2.2.1, xv_I_30.2⟩), (fun h9 => absurd h9 (by omega))⟩, frI_30⟩
      · simp only [w32_mod] at h_12
        refine ww_iload_n hX (pc := 15) dX10_night_15 rfl ?_
        refine ww_bipush hX (pc := 16) (x := 24) dX10_night_16 (by decide) ?_
        refine ww_icmp_gt hX (pc := 18) (tgt := 28) dX10_night_18 (by decide) (fun h_18 => ?_) (fun h_18 => ?_)
        · simp only [w32_mod] at h_18
          refine ww_aload_n hX (pc := 28) dX10_night_28 rfl ?_
          refine ww_iconst hX (pc := 29) (x := (-1)) dX10_night_29 rfl ?_
          refine vI1 hX (pc := 30) sX10_89 (xs_0 hL) (c8_X10_refuse l0 hL hC hF (by omega) (by omega)) (by decide) (Nat.le_refl 0) (Nat.le_refl 0) (Nat.le_of_ble_eq_true rfl) dX10_night_30 (fun x_30 I_30 J_30 h_30 => ?_)
          obtain ⟨h_30, frI_30⟩ := h_30
          have kI_30 : Kp 0 49 Ia I_30 := Kp_tr (Kp_rf (a := 0) (b := 49)) (Kp_wd h_30.1 (by decide) (by decide))
          have kJ_30 : Kp 0 49 Ja J_30 := Kp_tr (Kp_rf (a := 0) (b := 49)) (Kp_wd h_30.2.1 (by decide) (by decide))
          have cI_30 : CX I_30 := h_30.2.2.1
          have qI_30 := XI_o cI_30.1
          have wI_30 : Fw [18, 19, 20, 21, 22, 23, 24, 25, 26, 27, 28, 29, 30, 47, 48] [(0, 13), (0, 14), (0, 16)] Ia I_30 := Fw_tr Fw_rf (Fw_wd h_30.2.2.2.1 (by decide) (by decide))
          have r5_I_30 : I_30 1 5 = Ia 1 5 := h_30.2.2.2.1 1 5 (by decide) (by decide) (by decide)
          have r6_I_30 : I_30 1 6 = Ia 1 6 := h_30.2.2.2.1 1 6 (by decide) (by decide) (by decide)
          have r7_I_30 : I_30 1 7 = Ia 1 7 := h_30.2.2.2.1 1 7 (by decide) (by decide) (by decide)
          have r8_I_30 : I_30 1 8 = Ia 1 8 := h_30.2.2.2.1 1 8 (by decide) (by decide) (by decide)
          have r9_I_30 : I_30 1 9 = Ia 1 9 := h_30.2.2.2.1 1 9 (by decide) (by decide) (by decide)
          have r10_I_30 : I_30 1 10 = Ia 1 10 := h_30.2.2.2.1 1 10 (by decide) (by decide) (by decide)
          have r11_I_30 : I_30 1 11 = Ia 1 11 := h_30.2.2.2.1 1 11 (by decide) (by decide) (by decide)
          have r81_I_30 : I_30 8 1 = Ia 8 1 := h_30.2.2.2.1 8 1 (by decide) (by decide) (by decide)
          have rf_I_30 : FU (I_30 1 5) = FU (Ia 1 5) := by rw [r5_I_30]
          have xv_I_30 := h_30.2.2.2.2
          refine rI hX (pc := 33) hT (Nat.le_refl 0) (Nat.le_refl 0) dX10_night_33 ?_
          exact ⟨⟨kI_30, kJ_30, cI_30, (Fw_wd wI_30 (by decide) (by decide)), (fun _ => ⟨xv_I_30.1, h_30.2.2.2.1, xv_I_30.2⟩), (fun h9 => absurd h9 (by omega))⟩, frI_30⟩
        · simp only [w32_mod] at h_18
          refine ww_iload_n hX (pc := 21) dX10_night_21 rfl ?_
          refine sI1 hX (pc := 22) sX10_188 (c_X10_isManner l0 (by omega) (by omega)) (by decide) (Nat.le_refl 0) (Nat.le_refl 0) (Nat.le_of_ble_eq_true rfl) dX10_night_22 (fun x_22 I_22 J_22 h_22 => ?_)
          obtain ⟨rfl, rfl, h_22⟩ := h_22
          refine ww_if_ne hX (pc := 25) (tgt := 34) dX10_night_25 (by decide) (fun h_25 => ?_) (fun h_25 => ?_)
          · simp only [w32_mod] at h_25
            have k_22 := h_22.2.mp (by omega)
            clear h_22
            refine ww_aload_n hX (pc := 34) dX10_night_34 rfl ?_
            refine ww_iload_n hX (pc := 35) dX10_night_35 rfl ?_
            refine ww_iload_n hX (pc := 36) dX10_night_36 rfl ?_
            refine ww_iload_n hX (pc := 37) dX10_night_37 rfl ?_
            refine vV3 hX (pc := 38) sX10_294 (xs_0 hL) (c8_X10_drawNight l0 hL hC hF (by omega) (by omega) (by omega) (by omega) (by omega) (by omega) hO hK) (by decide) (Nat.le_refl 0) (Nat.le_refl 0) (Nat.le_of_ble_eq_true rfl) dX10_night_38 (fun I_38 J_38 h_38 => ?_)
            obtain ⟨h_38, frI_38⟩ := h_38
            have kI_38 : Kp 0 49 Ia I_38 := Kp_tr (Kp_rf (a := 0) (b := 49)) (Kp_wd h_38.1 (by decide) (by decide))
            have kJ_38 : Kp 0 49 Ja J_38 := Kp_tr (Kp_rf (a := 0) (b := 49)) (Kp_wd h_38.2.1 (by decide) (by decide))
            have cI_38 : CX I_38 := h_38.2.2.1
            have qI_38 := XI_o cI_38.1
            have wI_38 : Fw [18, 19, 20, 21, 22, 23, 24, 25, 26, 27, 28, 29, 30, 47] [(0, 13), (0, 14), (0, 16)] Ia I_38 := Fw_tr Fw_rf (Fw_wd h_38.2.2.2.1 (by decide) (by decide))
            have r5_I_38 : I_38 1 5 = Ia 1 5 := h_38.2.2.2.1 1 5 (by decide) (by decide) (by decide)
            have r6_I_38 : I_38 1 6 = Ia 1 6 := h_38.2.2.2.1 1 6 (by decide) (by decide) (by decide)
            have r7_I_38 : I_38 1 7 = Ia 1 7 := h_38.2.2.2.1 1 7 (by decide) (by decide) (by decide)
            have r8_I_38 : I_38 1 8 = Ia 1 8 := h_38.2.2.2.1 1 8 (by decide) (by decide) (by decide)
            have r9_I_38 : I_38 1 9 = Ia 1 9 := h_38.2.2.2.1 1 9 (by decide) (by decide) (by decide)
            have r10_I_38 : I_38 1 10 = Ia 1 10 := h_38.2.2.2.1 1 10 (by decide) (by decide) (by decide)
            have r11_I_38 : I_38 1 11 = Ia 1 11 := h_38.2.2.2.1 1 11 (by decide) (by decide) (by decide)
            have r81_I_38 : I_38 8 1 = Ia 8 1 := h_38.2.2.2.1 8 1 (by decide) (by decide) (by decide)
            have rf_I_38 : FU (I_38 1 5) = FU (Ia 1 5) := by rw [r5_I_38]
            have xv_I_38 := h_38.2.2.2.2
            obtain ⟨o7, L7, T7, g1_38, g2_38⟩ := xv_I_38
            have f9_38 := h_38.2.2.2.1
            clear h_38
            refine ww_aload_n hX (pc := 41) dX10_night_41 rfl ?_
            refine ww_aload_n hX (pc := 42) dX10_night_42 rfl ?_
            refine ww_getI hX (pc := 43) fX10_298 (by decide) (xs_0 hL) dX10_night_43 ?_
            refine vI1 hX (pc := 46) sX10_114 (xs_0 hL) (c8_X10_accept l0 hL cI_38 frI_38) (by decide) (Nat.le_refl 0) (Nat.le_refl 0) (Nat.le_of_ble_eq_true rfl) dX10_night_46 (fun x_46 I_46 J_46 h_46 => ?_)
            obtain ⟨h_46, frI_46⟩ := h_46
            have kI_46 : Kp 0 49 Ia I_46 := Kp_tr kI_38 (Kp_wd h_46.1 (by decide) (by decide))
            have kJ_46 : Kp 0 49 Ja J_46 := Kp_tr kJ_38 (Kp_wd h_46.2.1 (by decide) (by decide))
            have cI_46 : CX I_46 := h_46.2.2.1
            have qI_46 := XI_o cI_46.1
            have wI_46 : Fw [18, 19, 20, 21, 22, 23, 24, 25, 26, 27, 28, 29, 30, 47] [(0, 13), (0, 14), (0, 16)] Ia I_46 := Fw_tr wI_38 (Fw_wd h_46.2.2.2.1 (by decide) (by decide))
            have r5_I_46 : I_46 1 5 = I_38 1 5 := h_46.2.2.2.1 1 5 (by decide) (by decide) (by decide)
            have r6_I_46 : I_46 1 6 = I_38 1 6 := h_46.2.2.2.1 1 6 (by decide) (by decide) (by decide)
            have r7_I_46 : I_46 1 7 = I_38 1 7 := h_46.2.2.2.1 1 7 (by decide) (by decide) (by decide)
            have r8_I_46 : I_46 1 8 = I_38 1 8 := h_46.2.2.2.1 1 8 (by decide) (by decide) (by decide)
            have r9_I_46 : I_46 1 9 = I_38 1 9 := h_46.2.2.2.1 1 9 (by decide) (by decide) (by decide)
            have r10_I_46 : I_46 1 10 = I_38 1 10 := h_46.2.2.2.1 1 10 (by decide) (by decide) (by decide)
            have r11_I_46 : I_46 1 11 = I_38 1 11 := h_46.2.2.2.1 1 11 (by decide) (by decide) (by decide)
            have r81_I_46 : I_46 8 1 = I_38 8 1 := h_46.2.2.2.1 8 1 (by decide) (by decide) (by decide)
            have rf_I_46 : FU (I_46 1 5) = FU (I_38 1 5) := by rw [r5_I_46]
            have xv_I_46 := h_46.2.2.2.2
            refine rI hX (pc := 49) hT (Nat.le_refl 0) (Nat.le_refl 0) dX10_night_49 ?_
            exact ⟨⟨kI_46, kJ_46, cI_46, (Fw_wd wI_46 (by decide) (by decide)), (fun h9 => absurd (by omega) h9), (fun _ => ⟨xv_I_46.1.trans (h_46.2.2.2.1 0 13 (by decide) (by decide) (by decide)).symm, (Fw_row h_46.2.2.2.1 48 (by decide) (by decide) (by decide)).trans (Fw_row f9_38 48 (by decide) (by decide) (by decide)), xv_I_46.2, o7, L7, T7, g1_38, by
                  rw [Fw_row h_46.2.2.2.1 47 (by decide) (by decide) (by decide), h_46.2.2.2.1 0 13 (by decide) (by decide) (by decide), h_46.2.2.2.1 0 14 (by decide) (by decide) (by decide)]
                  exact g2_38⟩)⟩, frI_46⟩
          · simp only [w32_mod] at h_25
            refine ww_aload_n hX (pc := 28) dX10_night_28 rfl ?_
            refine ww_iconst hX (pc := 29) (x := (-1)) dX10_night_29 rfl ?_
            refine vI1 hX (pc := 30) sX10_89 (xs_0 hL) (c8_X10_refuse l0 hL hC hF (by omega) (by omega)) (by decide) (Nat.le_refl 0) (Nat.le_refl 0) (Nat.le_of_ble_eq_true rfl) dX10_night_30 (fun x_30 I_30 J_30 h_30 => ?_)
            obtain ⟨h_30, frI_30⟩ := h_30
            have kI_30 : Kp 0 49 Ia I_30 := Kp_tr (Kp_rf (a := 0) (b := 49)) (Kp_wd h_30.1 (by decide) (by decide))
            have kJ_30 : Kp 0 49 Ja J_30 := Kp_tr (Kp_rf (a := 0) (b := 49)) (Kp_wd h_30.2.1 (by decide) (by decide))
            have cI_30 : CX I_30 := h_30.2.2.1
            have qI_30 := XI_o cI_30.1
            have wI_30 : Fw [18, 19, 20, 21, 22, 23, 24, 25, 26, 27, 28, 29, 30, 47, 48] [(0, 13), (0, 14), (0, 16)] Ia I_30 := Fw_tr Fw_rf (Fw_wd h_30.2.2.2.1 (by decide) (by decide))
            have r5_I_30 : I_30 1 5 = Ia 1 5 := h_30.2.2.2.1 1 5 (by decide) (by decide) (by decide)
            have r6_I_30 : I_30 1 6 = Ia 1 6 := h_30.2.2.2.1 1 6 (by decide) (by decide) (by decide)
            have r7_I_30 : I_30 1 7 = Ia 1 7 := h_30.2.2.2.1 1 7 (by decide) (by decide) (by decide)
            have r8_I_30 : I_30 1 8 = Ia 1 8 := h_30.2.2.2.1 1 8 (by decide) (by decide) (by decide)
            have r9_I_30 : I_30 1 9 = Ia 1 9 := h_30.2.2.2.1 1 9 (by decide) (by decide) (by decide)
            have r10_I_30 : I_30 1 10 = Ia 1 10 := h_30.2.2.2.1 1 10 (by decide) (by decide) (by decide)
            have r11_I_30 : I_30 1 11 = Ia 1 11 := h_30.2.2.2.1 1 11 (by decide) (by decide) (by decide)
            have r81_I_30 : I_30 8 1 = Ia 8 1 := h_30.2.2.2.1 8 1 (by decide) (by decide) (by decide)
            have rf_I_30 : FU (I_30 1 5) = FU (Ia 1 5) := by rw [r5_I_30]
            have xv_I_30 := h_30.2.2.2.2
            refine rI hX (pc := 33) hT (Nat.le_refl 0) (Nat.le_refl 0) dX10_night_33 ?_
            exact ⟨⟨kI_30, kJ_30, cI_30, (Fw_wd wI_30 (by decide) (by decide)), (fun _ => ⟨xv_I_30.1, h_30.2.2.2.1, xv_I_30.2⟩), (fun h9 => absurd h9 (by omega))⟩, frI_30⟩
