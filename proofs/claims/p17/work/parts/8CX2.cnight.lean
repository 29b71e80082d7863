section
/-- a NIGHT that is being DRAWN -/
def NGi (nx : Int → Int → Int) (a K b i sn rr : Int) (F : Nat → Int) (n u : Int) : Prop := (u = -1 → n = i ∧ sn = dN nx a K i.toNat ∧ rr = dS a i.toNat ∧ ∀ j : Nat, (j : Int) < i → F j = dN nx a K (j + 1) ∧ 0 ≤ dN nx a K (j + 1)) ∧ (¬ u = -1 → NGc nx a K b F n u)
theorem NGi_0 {nx : Int → Int → Int} {a K b : Int} {F : Nat → Int} {n u : Int} (hn : n = 0) (hu : u = -1) : NGi nx a K b 0 0 a F n u :=
  ⟨fun _ => ⟨hn, rfl, rfl, fun j hj => absurd hj (by omega)⟩, fun h => absurd hu h⟩
theorem NGi_end {nx : Int → Int → Int} {a K b i sn rr : Int} {F : Nat → Int} {n u : Int} (h : NGi nx a K b i sn rr F n u) (hi : 0 ≤ i ∧ i ≤ b) (he : b ≤ i ∨ ¬ u = -1) : NGc nx a K b F n u := by
  by_cases e : u = -1
  · obtain ⟨h1, -, -, h4⟩ := h.1 e
    have hb : b ≤ i := by
      rcases he with he | he
      · exact he
      · exact absurd e he
    exact ⟨by omega, fun j hj => h4 j (by omega), Or.inl ⟨by omega, e⟩⟩
  · exact h.2 e
theorem NGi_un {nx : Int → Int → Int} {a K b i sn rr r t : Int} {F F' : Nat → Int} {n n' u u' : Int} (h : NGi nx a K b i sn rr F n u) (hu : u = -1) (hi : 0 ≤ i) (hb : i < b) (hK : 0 < K) (hr : r = (rr * 1103 + 12345) % 1000003) (ht : t = r % K) (hx : nx sn t = -1) (hF : F' = F) (hn : n' = n) (hu' : u' = t) : NGi nx a K b (i + 1) sn r F' n' u' := by
  obtain ⟨h1, h2, h3, h4⟩ := h.1 hu
  have e1 : dS a (i.toNat + 1) = r := by
    rw [hr, h3]
    rfl
  have t0 : 0 ≤ t := by
    rw [ht]
    exact Int.emod_nonneg _ (by omega)
  refine ⟨fun h9 => absurd h9 (by omega), fun _ => ?_⟩
  subst hF hn hu'
  refine ⟨by omega, fun j hj => h4 j (by omega), Or.inr ⟨by omega, ?_, ?_⟩⟩
  · rw [h1]
    show nx (dN nx a K i.toNat) (dS a (i.toNat + 1) % K) = -1
    rw [e1, ← ht, ← h2]
    exact hx
  · rw [h1, e1, ht]
theorem NGi_go {nx : Int → Int → Int} {a K b i sn rr r t z : Int} {F F' : Nat → Int} {n n' u u' : Int} (h : NGi nx a K b i sn rr F n u) (hu : u = -1) (hi : 0 ≤ i) (hr : r = (rr * 1103 + 12345) % 1000003) (ht : t = r % K) (hx : nx sn t = z) (hz : 0 ≤ z) (hF : F' = up1 F i.toNat z) (hn : n' = i + 1) (hu' : u' = -1) : NGi nx a K b (i + 1) z r F' n' u' := by
  obtain ⟨h1, h2, h3, h4⟩ := h.1 hu
  have e1 : dS a (i.toNat + 1) = r := by
    rw [hr, h3]
    rfl
  have e2 : dN nx a K (i.toNat + 1) = z := by
    show nx (dN nx a K i.toNat) (dS a (i.toNat + 1) % K) = z
    rw [e1, ← ht, ← h2]
    exact hx
  have e3 : (i + 1).toNat = i.toNat + 1 := by omega
  refine ⟨fun _ => ⟨hn, by rw [e3, e2], by rw [e3, e1], fun j hj => ?_⟩, fun h9 => absurd hu' h9⟩
  rw [hF]
  by_cases e : j = i.toNat
  · rw [e, up1_s, e2]
    exact ⟨rfl, hz⟩
  · rw [up1_n _ _ e]
    exact h4 j (by omega)

set_option maxHeartbeats 4000000 in
set_option maxRecDepth 20000 in
theorem c8_X10_drawNight (l0 : Launch) {Ia Ja : aI1} {Ra : aR1} {Sa : aS1} (hL : LY Ra Sa) (hC : CX Ia) (hF : FRk Ia Ja) {a b c : Int} (ha0 : 0 ≤ a) (ha1 : a ≤ 2147483647) (hb0 : 0 ≤ b) (hb1 : b ≤ 24) (hc0 : 0 ≤ c) (hc1 : c ≤ 3) (hO : ∀ j, j < 8 → 0 ≤ Ia 2 j ∧ Ia 2 j ≤ 99) (hK : ∀ s : Nat, (s : Int) ≤ FU (Ia 1 5) → Ia 3 s < Ia 1 6)  : CT l0 10 0 0 mX10_drawNight [kR (some 0), kI a, kI b, kI c] Ia Ja Ra Sa (cV (fun I' J' => (Kp 0 49 Ia I' ∧ Kp 0 49 Ja J' ∧ CX I' ∧ Fw [18, 19, 20, 21, 22, 23, 24, 25, 26, 27, 28, 29, 30, 47] [(0, 13), (0, 14)] Ia I' ∧ ∃ o L T, KT c Ia o L T ∧ NGc (fun s x => NX (bC c o L T) (Ia 3) (Ia 1 7) s (FU (Ia 1 5) + 1) x) a (Ia 1 6) b (I' 47) (I' 0 13) (I' 0 14)) ∧ FRk I' J') Ra Sa) := by
  refine ct_in pn_X10 (Nat.le_of_ble_eq_true rfl) (fun X hX hT hIn => ?_)
  have hX : aK l0 X cX10_drawNight 10 RX10 none 10 0 0 := hX
  change WW X 0 [some (kR (some 0)), some (kI a), some (kI b), some (kI c), none, none, none, none, none, none] [] Ia Ja Ra Sa 0 0
  have hI := hC.1
  have hq := XI_o hI
  refine ww_aload_n hX (pc := 0) dX10_drawNight_0 rfl ?_
  refine ww_getR hX (pc := 1) fX10_48 (by decide) (xs_0 hL) (xr_0_5 hL) dX10_drawNight_1 ?_
  refine ww_iload_n hX (pc := 4) dX10_drawNight_4 rfl ?_
  refine vV1 hX (pc := 5) sX10_191 (xs_18 hL) (c8_X4_prepare l0 hL hC.1 hF hK (by omega) (by omega)) (by decide) (Nat.le_refl 0) (Nat.le_refl 0) (Nat.le_of_ble_eq_true rfl) dX10_drawNight_5 (fun I_5 J_5 h_5 => ?_)
  have kI_5 : Kp 0 49 Ia I_5 := Kp_tr (Kp_rf (a := 0) (b := 49)) (Kp_wd h_5.1 (by decide) (by decide))
  have kJ_5 : Kp 0 49 Ja J_5 := Kp_tr (Kp_rf (a := 0) (b := 49)) (Kp_wd h_5.2.1 (by decide) (by decide))
  have cI_5 : CX I_5 := CX_kp hC h_5.1 (by decide) (by decide)
  have qI_5 := XI_o cI_5.1
  have r5_I_5 : I_5 1 5 = Ia 1 5 := by rw [h_5.1 1 (by decide)]
  have r6_I_5 : I_5 1 6 = Ia 1 6 := by rw [h_5.1 1 (by decide)]
  have r8_I_5 : I_5 1 8 = Ia 1 8 := by rw [h_5.1 1 (by decide)]
  have r9_I_5 : I_5 1 9 = Ia 1 9 := by rw [h_5.1 1 (by decide)]
  have r10_I_5 : I_5 1 10 = Ia 1 10 := by rw [h_5.1 1 (by decide)]
  have r11_I_5 : I_5 1 11 = Ia 1 11 := by rw [h_5.1 1 (by decide)]
  have rf_I_5 : FU (I_5 1 5) = FU (Ia 1 5) := by rw [r5_I_5]
  have wI_5 : Fw [18, 19, 20, 21, 22, 23, 24, 25, 26, 27, 28, 29, 30, 47] [(0, 13), (0, 14)] Ia I_5 := Fw_kp Fw_rf h_5.1 (by decide)
  have r7_I_5 : I_5 1 7 = Ia 1 7 := by rw [h_5.1 1 (by decide)]
  have frI_5 : FRk I_5 J_5 := h_5.2.2.1
  have e1_5 : I_5 1 = Ia 1 := h_5.1 1 (by decide)
  have e2_5 : I_5 2 = Ia 2 := h_5.1 2 (by decide)
  have e3_5 : I_5 3 = Ia 3 := h_5.1 3 (by decide)
  have htrp : ∀ t : Nat, (t : Int) ≤ FU (I_5 1 5) → TR c I_5 J_5 t := TR_p cI_5.1 (by rw [e2_5]; exact hO) h_5.2.2.2.1 h_5.2.2.2.2.1 h_5.2.2.2.2.2
  have hkt : KT c Ia (I_5 19) (I_5 24) (J_5 28) := KT_p h_5.2.2.2.1 h_5.2.2.2.2.1 h_5.2.2.2.2.2 e1_5 e2_5 e3_5
  refine ww_iload_n hX (pc := 8) dX10_drawNight_8 rfl ?_
  refine ww_i2l hX (pc := 9) dX10_drawNight_9 ?_
  refine ww_toL (b := a) (w32_id (by omega) (by omega)) ?_
  refine ww_nmL (fun v_10 hv_10 => ?_)
  refine ww_lstore hX (pc := 10) (lv' := [some (kR (some 0)), some (kI a), some (kI b), some (kI c), some (kL v_10), none, none, none, none, none]) dX10_drawNight_10 (by decide) rfl rfl ?_
  refine ww_iconst hX (pc := 12) (x := 0) dX10_drawNight_12 rfl ?_
  refine ww_istore hX (pc := 13) (lv' := [some (kR (some 0)), some (kI a), some (kI b), some (kI c), some (kL v_10), none, some (kI 0), none, none, none]) dX10_drawNight_13 (by decide) rfl rfl ?_
  refine ww_aload_n hX (pc := 15) dX10_drawNight_15 rfl ?_
  refine ww_iconst hX (pc := 16) (x := 0) dX10_drawNight_16 rfl ?_
  refine ww_putI hX (pc := 17) (fun h9 => absurd h9 (by decide)) gX10_298 rfl (xs_0 hL) dX10_drawNight_17 ?_
  refine ww_nmH (fun I_17 eI_17 => ?_)
  have kI_17 : Kp 0 49 Ia I_17 := by rw [eI_17]; exact Kp_up kI_5 _ _ (by decide)
  have cI_17 : CX I_17 := by rw [eI_17]; exact CX_x cI_5 (XI_0_13 cI_5.1 (by omega) (by omega)) (by decide)
  have qI_17 := XI_o cI_17.1
  have r5_I_17 : I_17 1 5 = I_5 1 5 := by rw [eI_17, up2_off _ _ _ (by decide)]
  have r6_I_17 : I_17 1 6 = I_5 1 6 := by rw [eI_17, up2_off _ _ _ (by decide)]
  have r8_I_17 : I_17 1 8 = I_5 1 8 := by rw [eI_17, up2_off _ _ _ (by decide)]
  have r9_I_17 : I_17 1 9 = I_5 1 9 := by rw [eI_17, up2_off _ _ _ (by decide)]
  have r10_I_17 : I_17 1 10 = I_5 1 10 := by rw [eI_17, up2_off _ _ _ (by decide)]
  have r11_I_17 : I_17 1 11 = I_5 1 11 := by rw [eI_17, up2_off _ _ _ (by decide)]
  have rf_I_17 : FU (I_17 1 5) = FU (I_5 1 5) := by rw [r5_I_17]
  have wI_17 : Fw [18, 19, 20, 21, 22, 23, 24, 25, 26, 27, 28, 29, 30, 47] [(0, 13), (0, 14)] Ia I_17 := by rw [eI_17]; exact Fw_up wI_5 (Or.inr (by decide))
  have r7_I_17 : I_17 1 7 = I_5 1 7 := by rw [eI_17, up2_n _ _ (Or.inl (by decide))]
  have frI_17 : FRk I_17 J_5 := by rw [eI_17]; exact FRk_up frI_5 (by decide)
  refine ww_aload_n hX (pc := 20) dX10_drawNight_20 rfl ?_
  refine ww_iconst hX (pc := 21) (x := (-1)) dX10_drawNight_21 rfl ?_
  refine ww_putI hX (pc := 22) (fun h9 => absurd h9 (by decide)) gX10_85 rfl (xs_0 hL) dX10_drawNight_22 ?_
  refine ww_nmH (fun I_22 eI_22 => ?_)
  have kI_22 : Kp 0 49 Ia I_22 := by rw [eI_22]; exact Kp_up kI_17 _ _ (by decide)
  have cI_22 : CX I_22 := by rw [eI_22]; exact CX_x cI_17 (XI_0 cI_17.1 (by decide)) (by decide)
  have qI_22 := XI_o cI_22.1
  have r5_I_22 : I_22 1 5 = I_17 1 5 := by rw [eI_22, up2_off _ _ _ (by decide)]
  have r6_I_22 : I_22 1 6 = I_17 1 6 := by rw [eI_22, up2_off _ _ _ (by decide)]
  have r8_I_22 : I_22 1 8 = I_17 1 8 := by rw [eI_22, up2_off _ _ _ (by decide)]
  have r9_I_22 : I_22 1 9 = I_17 1 9 := by rw [eI_22, up2_off _ _ _ (by decide)]
  have r10_I_22 : I_22 1 10 = I_17 1 10 := by rw [eI_22, up2_off _ _ _ (by decide)]
  have r11_I_22 : I_22 1 11 = I_17 1 11 := by rw [eI_22, up2_off _ _ _ (by decide)]
  have rf_I_22 : FU (I_22 1 5) = FU (I_17 1 5) := by rw [r5_I_22]
  have wI_22 : Fw [18, 19, 20, 21, 22, 23, 24, 25, 26, 27, 28, 29, 30, 47] [(0, 13), (0, 14)] Ia I_22 := by rw [eI_22]; exact Fw_up wI_17 (Or.inr (by decide))
  have r7_I_22 : I_22 1 7 = I_17 1 7 := by rw [eI_22, up2_n _ _ (Or.inl (by decide))]
  have t19_22 : I_22 19 = I_5 19 := by rw [eI_22, up2_off _ _ _ (by decide), eI_17, up2_off _ _ _ (by decide)]
  have t24_22 : I_22 24 = I_5 24 := by rw [eI_22, up2_off _ _ _ (by decide), eI_17, up2_off _ _ _ (by decide)]
  have z13_22 : I_22 0 13 = 0 := by rw [eI_22, up2_n _ _ (Or.inr (by decide)), eI_17, up2_s]
  have z14_22 : I_22 0 14 = -1 := by rw [eI_22, up2_s]
  have frI_22 : FRk I_22 J_5 := by rw [eI_22]; exact FRk_up frI_17 (by decide)
  refine ww_iconst hX (pc := 25) (x := 0) dX10_drawNight_25 rfl ?_
  refine ww_istore hX (pc := 26) (lv' := [some (kR (some 0)), some (kI a), some (kI b), some (kI c), some (kL v_10), none, some (kI 0), some (kI 0), none, none]) dX10_drawNight_26 (by decide) rfl rfl ?_
  have hl_28 : ∀ (n_28 : Nat) (rr : Int) (sn : Int) (i : Int) (I2 : aI1) (J2 : aI1), (b - i).toNat = n_28 → (Kp 0 49 Ia I2 ∧ Kp 0 49 Ja J2 ∧ CX I2 ∧ FRk I2 J2 ∧ Fw [18, 19, 20, 21, 22, 23, 24, 25, 26, 27, 28, 29, 30, 47] [(0, 13), (0, 14)] Ia I2 ∧ (I2 1 5 = I_22 1 5 ∧ I2 1 6 = I_22 1 6) ∧ (((0 ≤ i ∧ i ≤ b) ∧ (0 ≤ sn ∧ sn ≤ FU (I2 1 5)) ∧ (0 ≤ rr ∧ rr ≤ 2147483647)) ∧ (I2 19 = I_5 19 ∧ I2 24 = I_5 24 ∧ J2 28 = J_5 28) ∧ (-1 ≤ I2 0 14 ∧ I2 0 14 ≤ 8) ∧ NGi (fun s x => NX (bC c (I_5 19) (I_5 24) (J_5 28)) (Ia 3) (Ia 1 7) s (FU (Ia 1 5) + 1) x) a (Ia 1 6) b i sn rr (I2 47) (I2 0 13) (I2 0 14))) → WW X 28 [some (kR (some 0)), some (kI a), some (kI b), some (kI c), some (kL rr), none, some (kI sn), some (kI i), none, none] [] I2 J2 Ra Sa 0 0 := by
    intro n_28
    induction n_28 using Nat.strongRecOn with
    | ind n_28 ih_28 =>
      intro rr sn i I2 J2 hm_28 hv_28
      have hq_28 := Sh0_i hm_28
      clear hm_28
      obtain ⟨kI2, kJ2, cI2, frI2, wI2, hI20, hdn⟩ := hv_28
      have qI2 := XI_o cI2.1
      have rfI2 := congrArg FU hI20.1
      obtain ⟨⟨hi, hsn, hrr⟩, ⟨t19_I2, t24_I2, t28_I2⟩, hu2, hng⟩ := hdn
      have t3_I2 : I2 3 = Ia 3 := Fw_row wI2 3 (by decide) (by decide) (by decide)
      have t1_I2 : I2 1 = Ia 1 := Fw_row wI2 1 (by decide) (by decide) (by decide)
      refine ww_iload hX (pc := 28) dX10_drawNight_28 rfl ?_
      refine ww_iload_n hX (pc := 30) dX10_drawNight_30 rfl ?_
      refine ww_icmp_ge hX (pc := 31) (tgt := 132) dX10_drawNight_31 (by decide) (fun h_31 => ?_) (fun h_31 => ?_)
      · simp only [w32_mod] at h_31
        refine rV hX (pc := 132) hT (Nat.le_refl 0) (Nat.le_refl 0) dX10_drawNight_132 ?_
        exact ⟨⟨kI2, kJ2, cI2, (Fw_wd wI2 (by decide) (by decide)), ⟨_, _, _, hkt, NGi_end hng hi (by first | exact Or.inl (by omega) | exact Or.inr (by omega))⟩⟩, frI2⟩
      · simp only [w32_mod] at h_31
        refine ww_aload_n hX (pc := 34) dX10_drawNight_34 rfl ?_
        refine ww_getI hX (pc := 35) fX10_85 (by decide) (xs_0 hL) dX10_drawNight_35 ?_
        refine ww_iconst hX (pc := 38) (x := (-1)) dX10_drawNight_38 rfl ?_
        refine ww_icmp_ne hX (pc := 39) (tgt := 132) dX10_drawNight_39 (by decide) (fun h_39 => ?_) (fun h_39 => ?_)
        · simp only [w32_mod] at h_39
          refine rV hX (pc := 132) hT (Nat.le_refl 0) (Nat.le_refl 0) dX10_drawNight_132 ?_
          exact ⟨⟨kI2, kJ2, cI2, (Fw_wd wI2 (by decide) (by decide)), ⟨_, _, _, hkt, NGi_end hng hi (by first | exact Or.inl (by omega) | exact Or.inr (by omega))⟩⟩, frI2⟩
        · simp only [w32_mod] at h_39
          refine ww_lload hX (pc := 42) dX10_drawNight_42 rfl ?_
          refine ww_ldc2 hX (pc := 44) (x := 1103) dX10_drawNight_44 tb_1054 ?_
          refine ww_lmul hX (pc := 47) dX10_drawNight_47 ?_
          refine ww_ldc2 hX (pc := 48) (x := 12345) dX10_drawNight_48 tb_1055 ?_
          refine ww_ladd hX (pc := 51) dX10_drawNight_51 ?_
          refine ww_ldc2 hX (pc := 52) (x := 1000003) dX10_drawNight_52 tb_1056 ?_
          refine ww_lrem hX (pc := 55) dX10_drawNight_55 (by decide) ?_
          refine ww_toL (b := (rr * 1103 + 12345) % 1000003) (l_rem_v (by omega) (by omega) (by decide) (by decide)) ?_
          refine ww_nmL (fun v_56 hv_56 => ?_)
          refine ww_lstore hX (pc := 56) (lv' := [some (kR (some 0)), some (kI a), some (kI b), some (kI c), some (kL v_56), none, some (kI sn), some (kI i), none, none]) dX10_drawNight_56 (by decide) rfl rfl ?_
          refine ww_lload hX (pc := 58) dX10_drawNight_58 rfl ?_
          refine ww_iconst hX (pc := 60) (x := 1) dX10_drawNight_60 rfl ?_
          refine ww_aload_n hX (pc := 61) dX10_drawNight_61 rfl ?_
          refine ww_getR hX (pc := 62) fX10_10 (by decide) (xs_0 hL) (xr_0_0 hL) dX10_drawNight_62 ?_
          refine ww_getI hX (pc := 65) fX10_117 (by decide) (xs_1 hL) dX10_drawNight_65 ?_
          refine ww_mmax hX (pc := 68) tb_459 tb_460 tb_13 tb_461 (by decide) (Nat.le_refl 0) (Nat.le_refl 0) (Nat.le_of_ble_eq_true rfl) dX10_drawNight_68 ?_
          refine ww_toI (b := max 1 (I2 1 6)) (by rw [i_max_r (by decide) (by decide) (by omega) (by omega)]) ?_
          refine ww_i2l hX (pc := 71) dX10_drawNight_71 ?_
          refine ww_lrem hX (pc := 72) dX10_drawNight_72 (by rw [w32_id (by omega) (by omega)]; unfold w64; rw [Int64.toInt_ofInt_of_le (by omega) (by omega)]; omega) ?_
          refine ww_toL (b := v_56 % max 1 (I2 1 6)) (by rw [w32_id (by omega) (by omega)]; exact l_rem_v (by omega) (by omega) (by omega) (by omega)) ?_
          have htl0 := Int.emod_nonneg v_56 (show max 1 (I2 1 6) ≠ 0 by omega)
          have htl1 := Int.emod_lt_of_pos v_56 (show 0 < max 1 (I2 1 6) by omega)
          refine ww_l2i hX (pc := 73) dX10_drawNight_73 ?_
          refine ww_nmI (fun v_74 hv_74 => ?_)
          refine ww_istore hX (pc := 74) (lv' := [some (kR (some 0)), some (kI a), some (kI b), some (kI c), some (kL v_56), none, some (kI sn), some (kI i), some (kI v_74), none]) dX10_drawNight_74 (by decide) rfl rfl ?_
          refine ww_aload_n hX (pc := 76) dX10_drawNight_76 rfl ?_
          refine ww_getR hX (pc := 77) fX10_48 (by decide) (xs_0 hL) (xr_0_5 hL) dX10_drawNight_77 ?_
          refine ww_iload hX (pc := 80) dX10_drawNight_80 rfl ?_
          refine ww_iload hX (pc := 82) dX10_drawNight_82 rfl ?_
          refine ww_iload_n hX (pc := 84) dX10_drawNight_84 rfl ?_
          refine vI3 hX (pc := 85) sX10_194 (xs_18 hL) (n8_X4_choose l0 hL cI2.1 frI2 (by omega) (by omega) (by omega) (by omega) (by omega) (by omega) (fun t ht => TR_o2 (htrp t (by rw [e1_5]; rw [t1_I2] at ht; exact ht)) t19_I2 t24_I2 t28_I2)) (by decide) (Nat.le_refl 0) (Nat.le_refl 0) (Nat.le_of_ble_eq_true rfl) dX10_drawNight_85 (fun x_85 I_85 J_85 h_85 => ?_)
          have kI_85 : Kp 0 49 Ia I_85 := Kp_tr kI2 (Kp_wd h_85.1 (by decide) (by decide))
          have kJ_85 : Kp 0 49 Ja J_85 := Kp_tr kJ2 (Kp_wd h_85.2.1 (by decide) (by decide))
          have cI_85 : CX I_85 := CX_kp cI2 h_85.1 (by decide) (by decide)
          have qI_85 := XI_o cI_85.1
          have r5_I_85 : I_85 1 5 = I2 1 5 := by rw [h_85.1 1 (by decide)]
          have r6_I_85 : I_85 1 6 = I2 1 6 := by rw [h_85.1 1 (by decide)]
          have r8_I_85 : I_85 1 8 = I2 1 8 := by rw [h_85.1 1 (by decide)]
          have r9_I_85 : I_85 1 9 = I2 1 9 := by rw [h_85.1 1 (by decide)]
          have r10_I_85 : I_85 1 10 = I2 1 10 := by rw [h_85.1 1 (by decide)]
          have r11_I_85 : I_85 1 11 = I2 1 11 := by rw [h_85.1 1 (by decide)]
          have rf_I_85 : FU (I_85 1 5) = FU (I2 1 5) := by rw [r5_I_85]
          have wI_85 : Fw [18, 19, 20, 21, 22, 23, 24, 25, 26, 27, 28, 29, 30, 47] [(0, 13), (0, 14)] Ia I_85 := Fw_kp wI2 h_85.1 (by decide)
          have r7_I_85 : I_85 1 7 = I2 1 7 := by rw [h_85.1 1 (by decide)]
          have frI_85 : FRk I_85 J_85 := h_85.2.2.1
          have hk2 : Ia 1 6 = max 1 (I2 1 6) := by
            have h9 : I2 1 6 = Ia 1 6 := congrFun t1_I2 6
            omega
          have hv74 : v_74 = v_56 % Ia 1 6 := by rw [hk2]; exact hv_74
          have hxn : (fun s x => NX (bC c (I_5 19) (I_5 24) (J_5 28)) (Ia 3) (Ia 1 7) s (FU (Ia 1 5) + 1) x) sn v_74 = x_85 := by
            have h9 := h_85.2.2.2.1
            rw [t3_I2, t1_I2, t19_I2, t24_I2, t28_I2] at h9
            exact h9.symm
          have hnr := NX_r (bt := bC c (I_5 19) (I_5 24) (J_5 28)) (code := Ia 3) (g := Ia 1 7) (s := sn) (N := (FU (Ia 1 5) + 1)) (x := v_74) (by omega)
          have hnr2 : -1 ≤ x_85 ∧ x_85 ≤ FU (Ia 1 5) := by
            have h8 : NX (bC c (I_5 19) (I_5 24) (J_5 28)) (Ia 3) (Ia 1 7) sn (FU (Ia 1 5) + 1) v_74 = x_85 := hxn
            rw [h8] at hnr
            rcases hnr with h9 | h9
            · omega
            · omega
          clear hnr
          have t1b : I_85 1 = Ia 1 := (h_85.1 1 (by decide)).trans t1_I2
          have t19b : I_85 19 = I_5 19 := (h_85.2.2.2.2.1 19 (by decide)).trans t19_I2
          have t24b : I_85 24 = I_5 24 := (h_85.2.2.2.2.1 24 (by decide)).trans t24_I2
          have t28b : J_85 28 = J_5 28 := by rw [← h_85.2.2.2.2.2]; exact t28_I2
          have t47b : I_85 47 = I2 47 := h_85.1 47 (by decide)
          have t13b : I_85 0 13 = I2 0 13 := congrFun (h_85.1 0 (by decide)) 13
          have t14b : I_85 0 14 = I2 0 14 := congrFun (h_85.1 0 (by decide)) 14
          have u14_I2 : I2 0 14 = -1 := by omega
          have hk6 : 0 < Ia 1 6 := by omega
          clear h_85
          refine ww_istore hX (pc := 88) (lv' := [some (kR (some 0)), some (kI a), some (kI b), some (kI c), some (kL v_56), none, some (kI sn), some (kI i), some (kI v_74), some (kI x_85)]) dX10_drawNight_88 (by decide) rfl rfl ?_
          refine ww_iload hX (pc := 90) dX10_drawNight_90 rfl ?_
          refine ww_iconst hX (pc := 92) (x := (-1)) dX10_drawNight_92 rfl ?_
          refine ww_icmp_ne hX (pc := 93) (tgt := 105) dX10_drawNight_93 (by decide) (fun h_93 => ?_) (fun h_93 => ?_)
          · simp only [w32_mod] at h_93
            refine ww_aload_n hX (pc := 105) dX10_drawNight_105 rfl ?_
            refine ww_getR hX (pc := 106) fX10_79 (by decide) (xs_0 hL) (xr_0_10 hL) dX10_drawNight_106 ?_
            refine ww_iload hX (pc := 109) dX10_drawNight_109 rfl ?_
            refine ww_iload hX (pc := 111) dX10_drawNight_111 rfl ?_
            refine ww_iast hX (pc := 113) (xs_47 hL) (by decide) (by omega) (by omega) dX10_drawNight_113 ?_
            refine ww_nmH (fun I_113 eI_113 => ?_)
            have kI_113 : Kp 0 49 Ia I_113 := by rw [eI_113]; exact Kp_up kI_85 _ _ (by decide)
            have cI_113 : CX I_113 := by rw [eI_113]; exact CX_up cI_85 (by decide)
            have qI_113 := XI_o cI_113.1
            have r5_I_113 : I_113 1 5 = I_85 1 5 := by rw [eI_113, up2_off _ _ _ (by decide)]
            have r6_I_113 : I_113 1 6 = I_85 1 6 := by rw [eI_113, up2_off _ _ _ (by decide)]
            have r8_I_113 : I_113 1 8 = I_85 1 8 := by rw [eI_113, up2_off _ _ _ (by decide)]
            have r9_I_113 : I_113 1 9 = I_85 1 9 := by rw [eI_113, up2_off _ _ _ (by decide)]
            have r10_I_113 : I_113 1 10 = I_85 1 10 := by rw [eI_113, up2_off _ _ _ (by decide)]
            have r11_I_113 : I_113 1 11 = I_85 1 11 := by rw [eI_113, up2_off _ _ _ (by decide)]
            have rf_I_113 : FU (I_113 1 5) = FU (I_85 1 5) := by rw [r5_I_113]
            have wI_113 : Fw [18, 19, 20, 21, 22, 23, 24, 25, 26, 27, 28, 29, 30, 47] [(0, 13), (0, 14)] Ia I_113 := by rw [eI_113]; exact Fw_up wI_85 (Or.inl (by decide))
            have r7_I_113 : I_113 1 7 = I_85 1 7 := by rw [eI_113, up2_n _ _ (Or.inl (by decide))]
            have frI_113 : FRk I_113 J_85 := by rw [eI_113]; exact FRk_up frI_85 (by decide)
            refine ww_aload_n hX (pc := 114) dX10_drawNight_114 rfl ?_
            refine ww_iload hX (pc := 115) dX10_drawNight_115 rfl ?_
            refine ww_iconst hX (pc := 117) (x := 1) dX10_drawNight_117 rfl ?_
            refine ww_iadd hX (pc := 118) dX10_drawNight_118 ?_
            refine ww_putI hX (pc := 119) (fun h9 => absurd h9 (by decide)) gX10_298 rfl (xs_0 hL) dX10_drawNight_119 ?_
            refine ww_nmH (fun I_119 eI_119 => ?_)
            have kI_119 : Kp 0 49 Ia I_119 := by rw [eI_119]; exact Kp_up kI_113 _ _ (by decide)
            have cI_119 : CX I_119 := by rw [eI_119]; exact CX_x cI_113 (XI_0_13 cI_113.1 (by omega) (by omega)) (by decide)
            have qI_119 := XI_o cI_119.1
            have r5_I_119 : I_119 1 5 = I_113 1 5 := by rw [eI_119, up2_off _ _ _ (by decide)]
            have r6_I_119 : I_119 1 6 = I_113 1 6 := by rw [eI_119, up2_off _ _ _ (by decide)]
            have r8_I_119 : I_119 1 8 = I_113 1 8 := by rw [eI_119, up2_off _ _ _ (by decide)]
            have r9_I_119 : I_119 1 9 = I_113 1 9 := by rw [eI_119, up2_off _ _ _ (by decide)]
            have r10_I_119 : I_119 1 10 = I_113 1 10 := by rw [eI_119, up2_off _ _ _ (by decide)]
            have r11_I_119 : I_119 1 11 = I_113 1 11 := by rw [eI_119, up2_off _ _ _ (by decide)]
            have rf_I_119 : FU (I_119 1 5) = FU (I_113 1 5) := by rw [r5_I_119]
            have wI_119 : Fw [18, 19, 20, 21, 22, 23, 24, 25, 26, 27, 28, 29, 30, 47] [(0, 13), (0, 14)] Ia I_119 := by rw [eI_119]; exact Fw_up wI_113 (Or.inr (by decide))
            have r7_I_119 : I_119 1 7 = I_113 1 7 := by rw [eI_119, up2_n _ _ (Or.inl (by decide))]
            have t19c : I_119 19 = I_5 19 := by rw [eI_119, up2_off _ _ _ (by decide), eI_113, up2_off _ _ _ (by decide), t19b]
            have t24c : I_119 24 = I_5 24 := by rw [eI_119, up2_off _ _ _ (by decide), eI_113, up2_off _ _ _ (by decide), t24b]
            have hnc : NGi (fun s x => NX (bC c (I_5 19) (I_5 24) (J_5 28)) (Ia 3) (Ia 1 7) s (FU (Ia 1 5) + 1) x) a (Ia 1 6) b (i + 1) x_85 v_56 (I_119 47) (I_119 0 13) (I_119 0 14) := NGi_go hng u14_I2 hi.1 hv_56 hv74 hxn (by omega) (by rw [eI_119, up2_off _ _ _ (by decide), eI_113, up2_row, t47b]) (by rw [eI_119, up2_s]) (by rw [eI_119, up2_n _ _ (Or.inr (by decide)), eI_113, up2_off _ _ _ (by decide), t14b]; exact u14_I2)
            have z14c : -1 ≤ I_119 0 14 ∧ I_119 0 14 ≤ 8 := by
              have h9 : I_119 0 14 = -1 := by rw [eI_119, up2_n _ _ (Or.inr (by decide)), eI_113, up2_off _ _ _ (by decide), t14b]; exact u14_I2
              omega
            have frI_119 : FRk I_119 J_85 := by rw [eI_119]; exact FRk_up frI_113 (by decide)
            refine ww_iload hX (pc := 122) dX10_drawNight_122 rfl ?_
            refine ww_istore hX (pc := 124) (lv' := [some (kR (some 0)), some (kI a), some (kI b), some (kI c), some (kL v_56), none, some (kI x_85), some (kI i), some (kI v_74), some (kI x_85)]) dX10_drawNight_124 (by decide) rfl rfl ?_
            refine ww_iinc hX (pc := 126) (lv' := [some (kR (some 0)), some (kI a), some (kI b), some (kI c), some (kL v_56), none, some (kI x_85), some (kI (i + 1)), some (kI v_74), some (kI x_85)]) dX10_drawNight_126 rfl (by decide) rfl rfl ?_
            refine ww_goto hX (pc := 129) (tgt := 28) dX10_drawNight_129 (by decide) ?_
            refine ww_sub [some (kR (some 0)), some (kI a), some (kI b), some (kI c), some (kL v_56), none, some (kI x_85), some (kI (i + 1)), none, none] (aLe_s (aLe_s (aLe_s (aLe_s (aLe_s (aLe_n (aLe_s (aLe_s (aLe_n (aLe_n aLe_0)))))))))) ?_
            exact ih_28 _ (by have hm9 := Sh0_e hq_28; omega) v_56 x_85 (i + 1) I_119 J_85 rfl ⟨kI_119, kJ_85, cI_119, frI_119, wI_119, ⟨by omega, by omega⟩, ⟨⟨by omega, by omega⟩, ⟨by omega, by omega⟩, ⟨by omega, by omega⟩⟩, ⟨t19c, t24c, t28b⟩, z14c, hnc⟩
          · simp only [w32_mod] at h_93
            refine ww_aload_n hX (pc := 96) dX10_drawNight_96 rfl ?_
            refine ww_iload hX (pc := 97) dX10_drawNight_97 rfl ?_
            refine ww_putI hX (pc := 99) (fun h9 => absurd h9 (by decide)) gX10_85 rfl (xs_0 hL) dX10_drawNight_99 ?_
            refine ww_nmH (fun I_99 eI_99 => ?_)
            have kI_99 : Kp 0 49 Ia I_99 := by rw [eI_99]; exact Kp_up kI_85 _ _ (by decide)
            have cI_99 : CX I_99 := by rw [eI_99]; exact CX_x cI_85 (XI_0 cI_85.1 (by decide)) (by decide)
            have qI_99 := XI_o cI_99.1
            have r5_I_99 : I_99 1 5 = I_85 1 5 := by rw [eI_99, up2_off _ _ _ (by decide)]
            have r6_I_99 : I_99 1 6 = I_85 1 6 := by rw [eI_99, up2_off _ _ _ (by decide)]
            have r8_I_99 : I_99 1 8 = I_85 1 8 := by rw [eI_99, up2_off _ _ _ (by decide)]
            have r9_I_99 : I_99 1 9 = I_85 1 9 := by rw [eI_99, up2_off _ _ _ (by decide)]
            have r10_I_99 : I_99 1 10 = I_85 1 10 := by rw [eI_99, up2_off _ _ _ (by decide)]
            have r11_I_99 : I_99 1 11 = I_85 1 11 := by rw [eI_99, up2_off _ _ _ (by decide)]
            have rf_I_99 : FU (I_99 1 5) = FU (I_85 1 5) := by rw [r5_I_99]
            have wI_99 : Fw [18, 19, 20, 21, 22, 23, 24, 25, 26, 27, 28, 29, 30, 47] [(0, 13), (0, 14)] Ia I_99 := by rw [eI_99]; exact Fw_up wI_85 (Or.inr (by decide))
            have r7_I_99 : I_99 1 7 = I_85 1 7 := by rw [eI_99, up2_n _ _ (Or.inl (by decide))]
            have t19c : I_99 19 = I_5 19 := by rw [eI_99, up2_off _ _ _ (by decide), t19b]
            have t24c : I_99 24 = I_5 24 := by rw [eI_99, up2_off _ _ _ (by decide), t24b]
            have hnc : NGi (fun s x => NX (bC c (I_5 19) (I_5 24) (J_5 28)) (Ia 3) (Ia 1 7) s (FU (Ia 1 5) + 1) x) a (Ia 1 6) b (i + 1) sn v_56 (I_99 47) (I_99 0 13) (I_99 0 14) := NGi_un hng u14_I2 hi.1 (by omega) hk6 hv_56 hv74 (hxn.trans (by omega)) (by rw [eI_99, up2_off _ _ _ (by decide), t47b]) (by rw [eI_99, up2_n _ _ (Or.inr (by decide)), t13b]) (by rw [eI_99, up2_s])
            have z14c : -1 ≤ I_99 0 14 ∧ I_99 0 14 ≤ 8 := by
              have h9 : I_99 0 14 = v_74 := by rw [eI_99, up2_s]
              omega
            have frI_99 : FRk I_99 J_85 := by rw [eI_99]; exact FRk_up frI_85 (by decide)
            refine ww_goto hX (pc := 102) (tgt := 126) dX10_drawNight_102 (by decide) ?_
            refine ww_iinc hX (pc := 126) (lv' := [some (kR (some 0)), some (kI a), some (kI b), some (kI c), some (kL v_56), none, some (kI sn), some (kI (i + 1)), some (kI v_74), some (kI x_85)]) dX10_drawNight_126 rfl (by decide) rfl rfl ?_
            refine ww_goto hX (pc := 129) (tgt := 28) dX10_drawNight_129 (by decide) ?_
            refine ww_sub [some (kR (some 0)), some (kI a), some (kI b), some (kI c), some (kL v_56), none, some (kI sn), some (kI (i + 1)), none, none] (aLe_s (aLe_s (aLe_s (aLe_s (aLe_s (aLe_n (aLe_s (aLe_s (aLe_n (aLe_n aLe_0)))))))))) ?_
            exact ih_28 _ (by have hm9 := Sh0_e hq_28; omega) v_56 sn (i + 1) I_99 J_85 rfl ⟨kI_99, kJ_85, cI_99, frI_99, wI_99, ⟨by omega, by omega⟩, ⟨⟨by omega, by omega⟩, ⟨by omega, by omega⟩, ⟨by omega, by omega⟩⟩, ⟨t19c, t24c, t28b⟩, z14c, hnc⟩
  exact hl_28 _ v_10 0 0 I_22 J_5 rfl ⟨kI_22, kJ_5, cI_22, frI_22, wI_22, ⟨by omega, by omega⟩, ⟨⟨by omega, by omega⟩, ⟨by omega, by omega⟩, ⟨by omega, by omega⟩⟩, ⟨t19_22, t24_22, rfl⟩, ⟨by omega, by omega⟩, (by rw [hv_10]; exact NGi_0 z13_22 z14_22)⟩
set_option maxHeartbeats 4000000 in
set_option maxRecDepth 20000 in
theorem c8_X10_night (l0 : Launch) {Ia Ja : aI1} {Ra : aR1} {Sa : aS1} (hL : LY Ra Sa) (hC : CX Ia) (hF : FRk Ia Ja) {a b c : Int} (ha0 : -2147483648 ≤ a) (ha1 : a < 2147483648) (hb0 : -2147483648 ≤ b) (hb1 : b < 2147483648) (hc0 : -2147483648 ≤ c) (hc1 : c < 2147483648) (hO : ∀ j, j < 8 → 0 ≤ Ia 2 j ∧ Ia 2 j ≤ 99) (hK : ∀ s : Nat, (s : Int) ≤ FU (Ia 1 5) → Ia 3 s < Ia 1 6)  : CT l0 12 0 0 mX10_night [kR (some 0), kI a, kI b, kI c] Ia Ja Ra Sa (cI (fun x I' J' => (Kp 0 49 Ia I' ∧ Kp 0 49 Ja J' ∧ CX I' ∧ Fw [18, 19, 20, 21, 22, 23, 24, 25, 26, 27, 28, 29, 30, 47, 48] [(0, 13), (0, 14), (0, 16)] Ia I' ∧ (¬ (0 ≤ a ∧ a ≤ 1000000 ∧ 0 ≤ b ∧ b ≤ 24 ∧ 0 ≤ c ∧ c ≤ 3) → x = -1 ∧ RFc Ia I' (-1)) ∧ ((0 ≤ a ∧ a ≤ 1000000 ∧ 0 ≤ b ∧ b ≤ 24 ∧ 0 ≤ c ∧ c ≤ 3) → x = I' 0 13 ∧ I' 48 = Ia 48 ∧ I' 0 16 = 0 ∧ ∃ o L T, KT c Ia o L T ∧ NGc (fun s x => NX (bC c o L T) (Ia 3) (Ia 1 7) s (FU (Ia 1 5) + 1) x) a (Ia 1 6) b (I' 47) (I' 0 13) (I' 0 14))) ∧ FRk I' J') Ra Sa) := by
  refine ct_in pn_X10 (Nat.le_of_ble_eq_true rfl) (fun X hX hT hIn => ?_)
  have hX : aK l0 X cX10_night 4 RX10 (some .int) 12 0 0 := hX
  change WW X 0 [some (kR (some 0)), some (kI a), some (kI b), some (kI c)] [] Ia Ja Ra Sa 0 0
  have hI := hC.1
  have hq := XI_o hI
  refine ww_iload_n hX (pc := 0) dX10_night_0 rfl ?_
  refine ww_if_lt hX (pc := 1) (tgt := 28) dX10_night_1 (by decide) (fun h_1 => ?_) (fun h_1 => ?_)
  · simp only [w32_mod] at h_1
    refine ww_aload_n hX (pc := 28) dX10_night_28 rfl ?_
    refine ww_iconst hX (pc := 29) (x := (-1)) dX10_night_29 rfl ?_
    refine vI1 hX (pc := 30) sX10_89 (xs_0 hL) (c8_X10_refuse l0 hL hC hF (by omega) (by omega)) (by decide) (Nat.le_refl 0) (Nat.le_refl 0) (Nat.le_of_ble_eq_true rfl) dX10_night_30 (fun x_30 I_30 J_30 h_30 => ?_)
    obtain ⟨h_30, frI_30⟩ := h_30
    have kI_30 : Kp 0 49 Ia I_30 := Kp_tr (Kp_rf (a := 0) (b := 49)) (Kp_wd h_30.1 (by decide) (by decide))
    have kJ_30 : Kp 0 49 Ja J_30 := Kp_tr (Kp_rf (a := 0) (b := 49)) (Kp_wd h_30.2.1 (by decide) (by decide))
    have cI_30 : CX I_30 := h_30.2.2.1
    have qI_30 := XI_o cI_30.1
    have wI_30 : Fw [18, 19, 20, 21, 22, 23, 24, 25, 26, 27, 28, 29, 30, 47, 48] [(0, 13), (0, 14), (0, 16)] Ia I_30 := Fw_tr Fw_rf (Fw_wd h_30.2.2.2.1 (by decide) (by decide))
    have r5_I_30 : I_30 1 5 = Ia 1 5 := h_30.2.2.2.1 1 5 (by decide) (by decide) (by decide)
    have r6_I_30 : I_30 1 6 = Ia 1 6 := h_30.2.2.2.1 1 6 (by decide) (by decide) (by decide)
    have r7_I_30 : I_30 1 7 = Ia 1 7 := h_30.2.2.2.1 1 7 (by decide) (by decide) (by decide)
    have r8_I_30 : I_30 1 8 = Ia 1 8 := h_30.2.2.2.1 1 8 (by decide) (by decide) (by decide)
    have r9_I_30 : I_30 1 9 = Ia 1 9 := h_30.2.2.2.1 1 9 (by decide) (by decide) (by decide)
    have r10_I_30 : I_30 1 10 = Ia 1 10 := h_30.2.2.2.1 1 10 (by decide) (by decide) (by decide)
    have r11_I_30 : I_30 1 11 = Ia 1 11 := h_30.2.2.2.1 1 11 (by decide) (by decide) (by decide)
    have r81_I_30 : I_30 8 1 = Ia 8 1 := h_30.2.2.2.1 8 1 (by decide) (by decide) (by decide)
    have rf_I_30 : FU (I_30 1 5) = FU (Ia 1 5) := by rw [r5_I_30]
    have xv_I_30 := h_30.2.2.2.2
    refine rI hX (pc := 33) hT (Nat.le_refl 0) (Nat.le_refl 0) dX10_night_33 ?_
    exact ⟨⟨kI_30, kJ_30, cI_30, (Fw_wd wI_30 (by decide) (by decide)), (fun _ => ⟨xv_I_30.1, h_30.2.2.2.1, xv_I_30.2⟩), (fun h9 => absurd h9 (by omega))⟩, frI_30⟩
  · simp only [w32_mod] at h_1
    refine ww_iload_n hX (pc := 4) dX10_night_4 rfl ?_
    refine ww_ldcw hX (pc := 5) (x := 1000000) dX10_night_5 tb_1049 ?_
    refine ww_icmp_gt hX (pc := 8) (tgt := 28) dX10_night_8 (by decide) (fun h_8 => ?_) (fun h_8 => ?_)
    · simp only [w32_mod] at h_8
      refine ww_aload_n hX (pc := 28) dX10_night_28 rfl ?_
      refine ww_iconst hX (pc := 29) (x := (-1)) dX10_night_29 rfl ?_
      refine vI1 hX (pc := 30) sX10_89 (xs_0 hL) (c8_X10_refuse l0 hL hC hF (by omega) (by omega)) (by decide) (Nat.le_refl 0) (Nat.le_refl 0) (Nat.le_of_ble_eq_true rfl) dX10_night_30 (fun x_30 I_30 J_30 h_30 => ?_)
      obtain ⟨h_30, frI_30⟩ := h_30
      have kI_30 : Kp 0 49 Ia I_30 := Kp_tr (Kp_rf (a := 0) (b := 49)) (Kp_wd h_30.1 (by decide) (by decide))
      have kJ_30 : Kp 0 49 Ja J_30 := Kp_tr (Kp_rf (a := 0) (b := 49)) (Kp_wd h_30.2.1 (by decide) (by decide))
      have cI_30 : CX I_30 := h_30.2.2.1
      have qI_30 := XI_o cI_30.1
      have wI_30 : Fw [18, 19, 20, 21, 22, 23, 24, 25, 26, 27, 28, 29, 30, 47, 48] [(0, 13), (0, 14), (0, 16)] Ia I_30 := Fw_tr Fw_rf (Fw_wd h_30.2.2.2.1 (by decide) (by decide))
      have r5_I_30 : I_30 1 5 = Ia 1 5 := h_30.2.2.2.1 1 5 (by decide) (by decide) (by decide)
      have r6_I_30 : I_30 1 6 = Ia 1 6 := h_30.2.2.2.1 1 6 (by decide) (by decide) (by decide)
      have r7_I_30 : I_30 1 7 = Ia 1 7 := h_30.2.2.2.1 1 7 (by decide) (by decide) (by decide)
      have r8_I_30 : I_30 1 8 = Ia 1 8 := h_30.2.2.2.1 1 8 (by decide) (by decide) (by decide)
      have r9_I_30 : I_30 1 9 = Ia 1 9 := h_30.2.2.2.1 1 9 (by decide) (by decide) (by decide)
      have r10_I_30 : I_30 1 10 = Ia 1 10 := h_30.2.2.2.1 1 10 (by decide) (by decide) (by decide)
      have r11_I_30 : I_30 1 11 = Ia 1 11 := h_30.2.2.2.1 1 11 (by decide) (by decide) (by decide)
      have r81_I_30 : I_30 8 1 = Ia 8 1 := h_30.2.2.2.1 8 1 (by decide) (by decide) (by decide)
      have rf_I_30 : FU (I_30 1 5) = FU (Ia 1 5) := by rw [r5_I_30]
      have xv_I_30 := h_30.2.2.2.2
      refine rI hX (pc := 33) hT (Nat.le_refl 0) (Nat.le_refl 0) dX10_night_33 ?_
      exact ⟨⟨kI_30, kJ_30, cI_30, (Fw_wd wI_30 (by decide) (by decide)), (fun _ => ⟨xv_I_30.1, h_30.2.2.2.1, xv_I_30.2⟩), (fun h9 => absurd h9 (by omega))⟩, frI_30⟩
    · simp only [w32_mod] at h_8
      refine ww_iload_n hX (pc := 11) dX10_night_11 rfl ?_
      refine ww_if_lt hX (pc := 12) (tgt := 28) dX10_night_12 (by decide) (fun h_12 => ?_) (fun h_12 => ?_)
      · simp only [w32_mod] at h_12
        refine ww_aload_n hX (pc := 28) dX10_night_28 rfl ?_
        refine ww_iconst hX (pc := 29) (x := (-1)) dX10_night_29 rfl ?_
        refine vI1 hX (pc := 30) sX10_89 (xs_0 hL) (c8_X10_refuse l0 hL hC hF (by omega) (by omega)) (by decide) (Nat.le_refl 0) (Nat.le_refl 0) (Nat.le_of_ble_eq_true rfl) dX10_night_30 (fun x_30 I_30 J_30 h_30 => ?_)
        obtain ⟨h_30, frI_30⟩ := h_30
        have kI_30 : Kp 0 49 Ia I_30 := Kp_tr (Kp_rf (a := 0) (b := 49)) (Kp_wd h_30.1 (by decide) (by decide))
        have kJ_30 : Kp 0 49 Ja J_30 := Kp_tr (Kp_rf (a := 0) (b := 49)) (Kp_wd h_30.2.1 (by decide) (by decide))
        have cI_30 : CX I_30 := h_30.2.2.1
        have qI_30 := XI_o cI_30.1
        have wI_30 : Fw [18, 19, 20, 21, 22, 23, 24, 25, 26, 27, 28, 29, 30, 47, 48] [(0, 13), (0, 14), (0, 16)] Ia I_30 := Fw_tr Fw_rf (Fw_wd h_30.2.2.2.1 (by decide) (by decide))
        have r5_I_30 : I_30 1 5 = Ia 1 5 := h_30.2.2.2.1 1 5 (by decide) (by decide) (by decide)
        have r6_I_30 : I_30 1 6 = Ia 1 6 := h_30.2.2.2.1 1 6 (by decide) (by decide) (by decide)
        have r7_I_30 : I_30 1 7 = Ia 1 7 := h_30.2.2.2.1 1 7 (by decide) (by decide) (by decide)
        have r8_I_30 : I_30 1 8 = Ia 1 8 := h_30.2.2.2.1 1 8 (by decide) (by decide) (by decide)
        have r9_I_30 : I_30 1 9 = Ia 1 9 := h_30.2.2.2.1 1 9 (by decide) (by decide) (by decide)
        have r10_I_30 : I_30 1 10 = Ia 1 10 := h_30.2.2.2.1 1 10 (by decide) (by decide) (by decide)
        have r11_I_30 : I_30 1 11 = Ia 1 11 := h_30.2.2.2.1 1 11 (by decide) (by decide) (by decide)
        have r81_I_30 : I_30 8 1 = Ia 8 1 := h_30.2.2.2.1 8 1 (by decide) (by decide) (by decide)
        have rf_I_30 : FU (I_30 1 5) = FU (Ia 1 5) := by rw [r5_I_30]
        have xv_I_30 := h_30.2.2.2.2
        refine rI hX (pc := 33) hT (Nat.le_refl 0) (Nat.le_refl 0) dX10_night_33 ?_
        exact ⟨⟨kI_30, kJ_30, cI_30, (Fw_wd wI_30 (by decide) (by decide)), (fun _ => ⟨xv_I_30.1, h_30.2.2.2.1, xv_I_30.2⟩), (fun h9 => absurd h9 (by omega))⟩, frI_30⟩
      · simp only [w32_mod] at h_12
        refine ww_iload_n hX (pc := 15) dX10_night_15 rfl ?_
        refine ww_bipush hX (pc := 16) (x := 24) dX10_night_16 (by decide) ?_
        refine ww_icmp_gt hX (pc := 18) (tgt := 28) dX10_night_18 (by decide) (fun h_18 => ?_) (fun h_18 => ?_)
        · simp only [w32_mod] at h_18
          refine ww_aload_n hX (pc := 28) dX10_night_28 rfl ?_
          refine ww_iconst hX (pc := 29) (x := (-1)) dX10_night_29 rfl ?_
          refine vI1 hX (pc := 30) sX10_89 (xs_0 hL) (c8_X10_refuse l0 hL hC hF (by omega) (by omega)) (by decide) (Nat.le_refl 0) (Nat.le_refl 0) (Nat.le_of_ble_eq_true rfl) dX10_night_30 (fun x_30 I_30 J_30 h_30 => ?_)
          obtain ⟨h_30, frI_30⟩ := h_30
          have kI_30 : Kp 0 49 Ia I_30 := Kp_tr (Kp_rf (a := 0) (b := 49)) (Kp_wd h_30.1 (by decide) (by decide))
          have kJ_30 : Kp 0 49 Ja J_30 := Kp_tr (Kp_rf (a := 0) (b := 49)) (Kp_wd h_30.2.1 (by decide) (by decide))
          have cI_30 : CX I_30 := h_30.2.2.1
          have qI_30 := XI_o cI_30.1
          have wI_30 : Fw [18, 19, 20, 21, 22, 23, 24, 25, 26, 27, 28, 29, 30, 47, 48] [(0, 13), (0, 14), (0, 16)] Ia I_30 := Fw_tr Fw_rf (Fw_wd h_30.2.2.2.1 (by decide) (by decide))
          have r5_I_30 : I_30 1 5 = Ia 1 5 := h_30.2.2.2.1 1 5 (by decide) (by decide) (by decide)
          have r6_I_30 : I_30 1 6 = Ia 1 6 := h_30.2.2.2.1 1 6 (by decide) (by decide) (by decide)
          have r7_I_30 : I_30 1 7 = Ia 1 7 := h_30.2.2.2.1 1 7 (by decide) (by decide) (by decide)
          have r8_I_30 : I_30 1 8 = Ia 1 8 := h_30.2.2.2.1 1 8 (by decide) (by decide) (by decide)
          have r9_I_30 : I_30 1 9 = Ia 1 9 := h_30.2.2.2.1 1 9 (by decide) (by decide) (by decide)
          have r10_I_30 : I_30 1 10 = Ia 1 10 := h_30.2.2.2.1 1 10 (by decide) (by decide) (by decide)
          have r11_I_30 : I_30 1 11 = Ia 1 11 := h_30.2.2.2.1 1 11 (by decide) (by decide) (by decide)
          have r81_I_30 : I_30 8 1 = Ia 8 1 := h_30.2.2.2.1 8 1 (by decide) (by decide) (by decide)
          have rf_I_30 : FU (I_30 1 5) = FU (Ia 1 5) := by rw [r5_I_30]
          have xv_I_30 := h_30.2.2.2.2
          refine rI hX (pc := 33) hT (Nat.le_refl 0) (Nat.le_refl 0) dX10_night_33 ?_
          exact ⟨⟨kI_30, kJ_30, cI_30, (Fw_wd wI_30 (by decide) (by decide)), (fun _ => ⟨xv_I_30.1, h_30.2.2.2.1, xv_I_30.2⟩), (fun h9 => absurd h9 (by omega))⟩, frI_30⟩
        · simp only [w32_mod] at h_18
          refine ww_iload_n hX (pc := 21) dX10_night_21 rfl ?_
          refine sI1 hX (pc := 22) sX10_188 (c_X10_isManner l0 (by omega) (by omega)) (by decide) (Nat.le_refl 0) (Nat.le_refl 0) (Nat.le_of_ble_eq_true rfl) dX10_night_22 (fun x_22 I_22 J_22 h_22 => ?_)
          obtain ⟨rfl, rfl, h_22⟩ := h_22
          refine ww_if_ne hX (pc := 25) (tgt := 34) dX10_night_25 (by decide) (fun h_25 => ?_) (fun h_25 => ?_)
          · simp only [w32_mod] at h_25
            have k_22 := h_22.2.mp (by omega)
            clear h_22
            refine ww_aload_n hX (pc := 34) dX10_night_34 rfl ?_
            refine ww_iload_n hX (pc := 35) dX10_night_35 rfl ?_
            refine ww_iload_n hX (pc := 36) dX10_night_36 rfl ?_
            refine ww_iload_n hX (pc := 37) dX10_night_37 rfl ?_
            refine vV3 hX (pc := 38) sX10_294 (xs_0 hL) (c8_X10_drawNight l0 hL hC hF (by omega) (by omega) (by omega) (by omega) (by omega) (by omega) hO hK) (by decide) (Nat.le_refl 0) (Nat.le_refl 0) (Nat.le_of_ble_eq_true rfl) dX10_night_38 (fun I_38 J_38 h_38 => ?_)
            obtain ⟨h_38, frI_38⟩ := h_38
            have kI_38 : Kp 0 49 Ia I_38 := Kp_tr (Kp_rf (a := 0) (b := 49)) (Kp_wd h_38.1 (by decide) (by decide))
            have kJ_38 : Kp 0 49 Ja J_38 := Kp_tr (Kp_rf (a := 0) (b := 49)) (Kp_wd h_38.2.1 (by decide) (by decide))
            have cI_38 : CX I_38 := h_38.2.2.1
            have qI_38 := XI_o cI_38.1
            have wI_38 : Fw [18, 19, 20, 21, 22, 23, 24, 25, 26, 27, 28, 29, 30, 47] [(0, 13), (0, 14), (0, 16)] Ia I_38 := Fw_tr Fw_rf (Fw_wd h_38.2.2.2.1 (by decide) (by decide))
            have r5_I_38 : I_38 1 5 = Ia 1 5 := h_38.2.2.2.1 1 5 (by decide) (by decide) (by decide)
            have r6_I_38 : I_38 1 6 = Ia 1 6 := h_38.2.2.2.1 1 6 (by decide) (by decide) (by decide)
            have r7_I_38 : I_38 1 7 = Ia 1 7 := h_38.2.2.2.1 1 7 (by decide) (by decide) (by decide)
            have r8_I_38 : I_38 1 8 = Ia 1 8 := h_38.2.2.2.1 1 8 (by decide) (by decide) (by decide)
            have r9_I_38 : I_38 1 9 = Ia 1 9 := h_38.2.2.2.1 1 9 (by decide) (by decide) (by decide)
            have r10_I_38 : I_38 1 10 = Ia 1 10 := h_38.2.2.2.1 1 10 (by decide) (by decide) (by decide)
            have r11_I_38 : I_38 1 11 = Ia 1 11 := h_38.2.2.2.1 1 11 (by decide) (by decide) (by decide)
            have r81_I_38 : I_38 8 1 = Ia 8 1 := h_38.2.2.2.1 8 1 (by decide) (by decide) (by decide)
            have rf_I_38 : FU (I_38 1 5) = FU (Ia 1 5) := by rw [r5_I_38]
            have xv_I_38 := h_38.2.2.2.2
            obtain ⟨o7, L7, T7, g1_38, g2_38⟩ := xv_I_38
            have f9_38 := h_38.2.2.2.1
            clear h_38
            refine ww_aload_n hX (pc := 41) dX10_night_41 rfl ?_
            refine ww_aload_n hX (pc := 42) dX10_night_42 rfl ?_
            refine ww_getI hX (pc := 43) fX10_298 (by decide) (xs_0 hL) dX10_night_43 ?_
            refine vI1 hX (pc := 46) sX10_114 (xs_0 hL) (c8_X10_accept l0 hL cI_38 frI_38) (by decide) (Nat.le_refl 0) (Nat.le_refl 0) (Nat.le_of_ble_eq_true rfl) dX10_night_46 (fun x_46 I_46 J_46 h_46 => ?_)
            obtain ⟨h_46, frI_46⟩ := h_46
            have kI_46 : Kp 0 49 Ia I_46 := Kp_tr kI_38 (Kp_wd h_46.1 (by decide) (by decide))
            have kJ_46 : Kp 0 49 Ja J_46 := Kp_tr kJ_38 (Kp_wd h_46.2.1 (by decide) (by decide))
            have cI_46 : CX I_46 := h_46.2.2.1
            have qI_46 := XI_o cI_46.1
            have wI_46 : Fw [18, 19, 20, 21, 22, 23, 24, 25, 26, 27, 28, 29, 30, 47] [(0, 13), (0, 14), (0, 16)] Ia I_46 := Fw_tr wI_38 (Fw_wd h_46.2.2.2.1 (by decide) (by decide))
            have r5_I_46 : I_46 1 5 = I_38 1 5 := h_46.2.2.2.1 1 5 (by decide) (by decide) (by decide)
            have r6_I_46 : I_46 1 6 = I_38 1 6 := h_46.2.2.2.1 1 6 (by decide) (by decide) (by decide)
            have r7_I_46 : I_46 1 7 = I_38 1 7 := h_46.2.2.2.1 1 7 (by decide) (by decide) (by decide)
            have r8_I_46 : I_46 1 8 = I_38 1 8 := h_46.2.2.2.1 1 8 (by decide) (by decide) (by decide)
            have r9_I_46 : I_46 1 9 = I_38 1 9 := h_46.2.2.2.1 1 9 (by decide) (by decide) (by decide)
            have r10_I_46 : I_46 1 10 = I_38 1 10 := h_46.2.2.2.1 1 10 (by decide) (by decide) (by decide)
            have r11_I_46 : I_46 1 11 = I_38 1 11 := h_46.2.2.2.1 1 11 (by decide) (by decide) (by decide)
            have r81_I_46 : I_46 8 1 = I_38 8 1 := h_46.2.2.2.1 8 1 (by decide) (by decide) (by decide)
            have rf_I_46 : FU (I_46 1 5) = FU (I_38 1 5) := by rw [r5_I_46]
            have xv_I_46 := h_46.2.2.2.2
            refine rI hX (pc := 49) hT (Nat.le_refl 0) (Nat.le_refl 0) dX10_night_49 ?_
            exact ⟨⟨kI_46, kJ_46, cI_46, (Fw_wd wI_46 (by decide) (by decide)), (fun h9 => absurd (by omega) h9), (fun _ => ⟨xv_I_46.1.trans (h_46.2.2.2.1 0 13 (by decide) (by decide) (by decide)).symm, (Fw_row h_46.2.2.2.1 48 (by decide) (by decide) (by decide)).trans (Fw_row f9_38 48 (by decide) (by decide) (by decide)), xv_I_46.2, o7, L7, T7, g1_38, by
                  rw [Fw_row h_46.2.2.2.1 47 (by decide) (by decide) (by decide), h_46.2.2.2.1 0 13 (by decide) (by decide) (by decide), h_46.2.2.2.1 0 14 (by decide) (by decide) (by decide)]
                  exact g2_38⟩)⟩, frI_46⟩
          · simp only [w32_mod] at h_25
            refine ww_aload_n hX (pc := 28) dX10_night_28 rfl ?_
            refine ww_iconst hX (pc := 29) (x := (-1)) dX10_night_29 rfl ?_
            refine vI1 hX (pc := 30) sX10_89 (xs_0 hL) (c8_X10_refuse l0 hL hC hF (by omega) (by omega)) (by decide) (Nat.le_refl 0) (Nat.le_refl 0) (Nat.le_of_ble_eq_true rfl) dX10_night_30 (fun x_30 I_30 J_30 h_30 => ?_)
            obtain ⟨h_30, frI_30⟩ := h_30
            have kI_30 : Kp 0 49 Ia I_30 := Kp_tr (Kp_rf (a := 0) (b := 49)) (Kp_wd h_30.1 (by decide) (by decide))
            have kJ_30 : Kp 0 49 Ja J_30 := Kp_tr (Kp_rf (a := 0) (b := 49)) (Kp_wd h_30.2.1 (by decide) (by decide))
            have cI_30 : CX I_30 := h_30.2.2.1
            have qI_30 := XI_o cI_30.1
            have wI_30 : Fw [18, 19, 20, 21, 22, 23, 24, 25, 26, 27, 28, 29, 30, 47, 48] [(0, 13), (0, 14), (0, 16)] Ia I_30 := Fw_tr Fw_rf (Fw_wd h_30.2.2.2.1 (by decide) (by decide))
            have r5_I_30 : I_30 1 5 = Ia 1 5 := h_30.2.2.2.1 1 5 (by decide) (by decide) (by decide)
            have r6_I_30 : I_30 1 6 = Ia 1 6 := h_30.2.2.2.1 1 6 (by decide) (by decide) (by decide)
            have r7_I_30 : I_30 1 7 = Ia 1 7 := h_30.2.2.2.1 1 7 (by decide) (by decide) (by decide)
            have r8_I_30 : I_30 1 8 = Ia 1 8 := h_30.2.2.2.1 1 8 (by decide) (by decide) (by decide)
            have r9_I_30 : I_30 1 9 = Ia 1 9 := h_30.2.2.2.1 1 9 (by decide) (by decide) (by decide)
            have r10_I_30 : I_30 1 10 = Ia 1 10 := h_30.2.2.2.1 1 10 (by decide) (by decide) (by decide)
            have r11_I_30 : I_30 1 11 = Ia 1 11 := h_30.2.2.2.1 1 11 (by decide) (by decide) (by decide)
            have r81_I_30 : I_30 8 1 = Ia 8 1 := h_30.2.2.2.1 8 1 (by decide) (by decide) (by decide)
            have rf_I_30 : FU (I_30 1 5) = FU (Ia 1 5) := by rw [r5_I_30]
            have xv_I_30 := h_30.2.2.2.2
            refine rI hX (pc := 33) hT (Nat.le_refl 0) (Nat.le_refl 0) dX10_night_33 ?_
            exact ⟨⟨kI_30, kJ_30, cI_30, (Fw_wd wI_30 (by decide) (by decide)), (fun _ => ⟨xv_I_30.1, h_30.2.2.2.1, xv_I_30.2⟩), (fun h9 => absurd h9 (by omega))⟩, frI_30⟩
end
section
/-- what count tells -/
def CNc (I : aI1) (rd a : Int) : Int := if a = 0 then I 1 5 else if a = 1 then I 1 6 else if a = 2 then I 1 9 else if a = 3 then rd else if a = 4 then I 1 10 else if a = 5 then I 1 11 else if a = 6 then I 8 1 else if a = 7 then I 48 1 else if a = 8 then I 48 2 else if a = 9 then I 48 3 else if a = 10 then I 48 5 else if a = 11 then I 48 6 else if a = 12 then I 0 12 else -1

set_option maxHeartbeats 4000000 in
set_option maxRecDepth 20000 in
theorem c9_X10_status (l0 : Launch) {Ia Ja : aI1} {Ra : aR1} {Sa : aS1} (hL : LY Ra Sa) (hC : CX Ia) (hF : FRk Ia Ja)  : CT l0 10 0 0 mX10_status [kR (some 0)] Ia Ja Ra Sa (cI (fun x I' J' => (Kp 0 49 Ia I' ∧ Kp 0 49 Ja J' ∧ CX I' ∧ Fw [] [] Ia I' ∧ x = Ia 0 16) ∧ FRk I' J') Ra Sa) := by
  refine ct_in pn_X10 (Nat.le_of_ble_eq_true rfl) (fun X hX hT hIn => ?_)
  have hX : aK l0 X cX10_status 1 RX10 (some .int) 10 0 0 := hX
  change WW X 0 [some (kR (some 0))] [] Ia Ja Ra Sa 0 0
  have hI := hC.1
  have hq := XI_o hI
  refine ww_aload_n hX (pc := 0) dX10_status_0 rfl ?_
  refine ww_getI hX (pc := 1) fX10_304 (by decide) (xs_0 hL) dX10_status_1 ?_
  refine rI hX (pc := 4) hT (Nat.le_refl 0) (Nat.le_refl 0) dX10_status_4 ?_
  exact ⟨⟨(Kp_rf (a := 0) (b := 49)), (Kp_rf (a := 0) (b := 49)), hC, Fw_rf, rfl⟩, hF⟩
set_option maxHeartbeats 4000000 in
set_option maxRecDepth 20000 in
theorem c9_X10_fault (l0 : Launch) {Ia Ja : aI1} {Ra : aR1} {Sa : aS1} (hL : LY Ra Sa) (hC : CX Ia) (hF : FRk Ia Ja)  : CT l0 10 0 0 mX10_fault [kR (some 0)] Ia Ja Ra Sa (cI (fun x I' J' => (Kp 0 49 Ia I' ∧ Kp 0 49 Ja J' ∧ CX I' ∧ Fw [] [] Ia I' ∧ x = Ia 10 0) ∧ FRk I' J') Ra Sa) := by
  refine ct_in pn_X10 (Nat.le_of_ble_eq_true rfl) (fun X hX hT hIn => ?_)
  have hX : aK l0 X cX10_fault 1 RX10 (some .int) 10 0 0 := hX
  change WW X 0 [some (kR (some 0))] [] Ia Ja Ra Sa 0 0
  have hI := hC.1
  have hq := XI_o hI
  refine ww_aload_n hX (pc := 0) dX10_fault_0 rfl ?_
  refine ww_getR hX (pc := 1) fX10_32 (by decide) (xs_0 hL) (xr_0_3 hL) dX10_fault_1 ?_
  refine ww_getI hX (pc := 4) fX10_181 (by decide) (xs_10 hL) dX10_fault_4 ?_
  refine rI hX (pc := 7) hT (Nat.le_refl 0) (Nat.le_refl 0) dX10_fault_7 ?_
  exact ⟨⟨(Kp_rf (a := 0) (b := 49)), (Kp_rf (a := 0) (b := 49)), hC, Fw_rf, rfl⟩, hF⟩
set_option maxHeartbeats 4000000 in
set_option maxRecDepth 20000 in
theorem c9_X10_log (l0 : Launch) {Ia Ja : aI1} {Ra : aR1} {Sa : aS1} (hL : LY Ra Sa) (hC : CX Ia) (hF : FRk Ia Ja) {a : Int} (ha0 : -2147483648 ≤ a) (ha1 : a < 2147483648)  : CT l0 10 0 0 mX10_log [kR (some 0), kI a] Ia Ja Ra Sa (cI (fun x I' J' => (Kp 0 49 Ia I' ∧ Kp 0 49 Ja J' ∧ CX I' ∧ Fw [] [] Ia I' ∧ x = if a = -1 then Ia 1 8 else if 0 ≤ a ∧ a < Ia 1 10 then Ia 5 a.toNat else -1) ∧ FRk I' J') Ra Sa) := by
  refine ct_in pn_X10 (Nat.le_of_ble_eq_true rfl) (fun X hX hT hIn => ?_)
  have hX : aK l0 X cX10_log 2 RX10 (some .int) 10 0 0 := hX
  change WW X 0 [some (kR (some 0)), some (kI a)] [] Ia Ja Ra Sa 0 0
  have hI := hC.1
  have hq := XI_o hI
  refine ww_iload_n hX (pc := 0) dX10_log_0 rfl ?_
  refine ww_iconst hX (pc := 1) (x := (-1)) dX10_log_1 rfl ?_
  refine ww_icmp_ne hX (pc := 2) (tgt := 13) dX10_log_2 (by decide) (fun h_2 => ?_) (fun h_2 => ?_)
  · simp only [w32_mod] at h_2
    refine ww_iload_n hX (pc := 13) dX10_log_13 rfl ?_
    refine ww_if_lt hX (pc := 14) (tgt := 40) dX10_log_14 (by decide) (fun h_14 => ?_) (fun h_14 => ?_)
    · simp only [w32_mod] at h_14
      refine ww_iconst hX (pc := 40) (x := (-1)) dX10_log_40 rfl ?_
      refine rI hX (pc := 41) hT (Nat.le_refl 0) (Nat.le_refl 0) dX10_log_41 ?_
      exact ⟨⟨(Kp_rf (a := 0) (b := 49)), (Kp_rf (a := 0) (b := 49)), hC, Fw_rf, by (repeat (first | rw [if_pos (by omega)] | rw [if_neg (by omega)])) <;> rfl⟩, hF⟩
    · simp only [w32_mod] at h_14
      refine ww_iload_n hX (pc := 17) dX10_log_17 rfl ?_
      refine ww_aload_n hX (pc := 18) dX10_log_18 rfl ?_
      refine ww_getR hX (pc := 19) fX10_10 (by decide) (xs_0 hL) (xr_0_0 hL) dX10_log_19 ?_
      refine ww_getI hX (pc := 22) fX10_239 (by decide) (xs_1 hL) dX10_log_22 ?_
      refine ww_icmp_ge hX (pc := 25) (tgt := 40) dX10_log_25 (by decide) (fun h_25 => ?_) (fun h_25 => ?_)
      · simp only [w32_mod] at h_25
        refine ww_iconst hX (pc := 40) (x := (-1)) dX10_log_40 rfl ?_
        refine rI hX (pc := 41) hT (Nat.le_refl 0) (Nat.le_refl 0) dX10_log_41 ?_
        exact ⟨⟨(Kp_rf (a := 0) (b := 49)), (Kp_rf (a := 0) (b := 49)), hC, Fw_rf, by (repeat (first | rw [if_pos (by omega)] | rw [if_neg (by omega)])) <;> rfl⟩, hF⟩
      · simp only [w32_mod] at h_25
        refine ww_aload_n hX (pc := 28) dX10_log_28 rfl ?_
        refine ww_getR hX (pc := 29) fX10_10 (by decide) (xs_0 hL) (xr_0_0 hL) dX10_log_29 ?_
        refine ww_getR hX (pc := 32) fX10_247 (by decide) (xs_1 hL) (xr_1_3 hL) dX10_log_32 ?_
        refine ww_iload_n hX (pc := 35) dX10_log_35 rfl ?_
        refine ww_iald hX (pc := 36) (xs_5 hL) (by decide) (by omega) (by omega) dX10_log_36 ?_
        refine ww_goto hX (pc := 37) (tgt := 41) dX10_log_37 (by decide) ?_
        refine rI hX (pc := 41) hT (Nat.le_refl 0) (Nat.le_refl 0) dX10_log_41 ?_
        exact ⟨⟨(Kp_rf (a := 0) (b := 49)), (Kp_rf (a := 0) (b := 49)), hC, Fw_rf, by (repeat (first | rw [if_pos (by omega)] | rw [if_neg (by omega)])) <;> rfl⟩, hF⟩
  · simp only [w32_mod] at h_2
    refine ww_aload_n hX (pc := 5) dX10_log_5 rfl ?_
    refine ww_getR hX (pc := 6) fX10_10 (by decide) (xs_0 hL) (xr_0_0 hL) dX10_log_6 ?_
    refine ww_getI hX (pc := 9) fX10_236 (by decide) (xs_1 hL) dX10_log_9 ?_
    refine rI hX (pc := 12) hT (Nat.le_refl 0) (Nat.le_refl 0) dX10_log_12 ?_
    exact ⟨⟨(Kp_rf (a := 0) (b := 49)), (Kp_rf (a := 0) (b := 49)), hC, Fw_rf, by (repeat (first | rw [if_pos (by omega)] | rw [if_neg (by omega)])) <;> rfl⟩, hF⟩
set_option maxHeartbeats 4000000 in
set_option maxRecDepth 20000 in
theorem c9_X10_drawn (l0 : Launch) {Ia Ja : aI1} {Ra : aR1} {Sa : aS1} (hL : LY Ra Sa) (hC : CX Ia) (hF : FRk Ia Ja) {a : Int} (ha0 : -2147483648 ≤ a) (ha1 : a < 2147483648)  : CT l0 10 0 0 mX10_drawn [kR (some 0), kI a] Ia Ja Ra Sa (cI (fun x I' J' => (Kp 0 49 Ia I' ∧ Kp 0 49 Ja J' ∧ CX I' ∧ Fw [] [] Ia I' ∧ x = if a = -1 then Ia 0 14 else if 0 ≤ a ∧ a < Ia 0 13 then Ia 47 a.toNat else -1) ∧ FRk I' J') Ra Sa) := by
  refine ct_in pn_X10 (Nat.le_of_ble_eq_true rfl) (fun X hX hT hIn => ?_)
  have hX : aK l0 X cX10_drawn 2 RX10 (some .int) 10 0 0 := hX
  change WW X 0 [some (kR (some 0)), some (kI a)] [] Ia Ja Ra Sa 0 0
  have hI := hC.1
  have hq := XI_o hI
  refine ww_iload_n hX (pc := 0) dX10_drawn_0 rfl ?_
  refine ww_iconst hX (pc := 1) (x := (-1)) dX10_drawn_1 rfl ?_
  refine ww_icmp_ne hX (pc := 2) (tgt := 10) dX10_drawn_2 (by decide) (fun h_2 => ?_) (fun h_2 => ?_)
  · simp only [w32_mod] at h_2
    refine ww_iload_n hX (pc := 10) dX10_drawn_10 rfl ?_
    refine ww_if_lt hX (pc := 11) (tgt := 31) dX10_drawn_11 (by decide) (fun h_11 => ?_) (fun h_11 => ?_)
    · simp only [w32_mod] at h_11
      refine ww_iconst hX (pc := 31) (x := (-1)) dX10_drawn_31 rfl ?_
      refine rI hX (pc := 32) hT (Nat.le_refl 0) (Nat.le_refl 0) dX10_drawn_32 ?_
      exact ⟨⟨(Kp_rf (a := 0) (b := 49)), (Kp_rf (a := 0) (b := 49)), hC, Fw_rf, by (repeat (first | rw [if_pos (by omega)] | rw [if_neg (by omega)])) <;> rfl⟩, hF⟩
    · simp only [w32_mod] at h_11
      refine ww_iload_n hX (pc := 14) dX10_drawn_14 rfl ?_
      refine ww_aload_n hX (pc := 15) dX10_drawn_15 rfl ?_
      refine ww_getI hX (pc := 16) fX10_298 (by decide) (xs_0 hL) dX10_drawn_16 ?_
      refine ww_icmp_ge hX (pc := 19) (tgt := 31) dX10_drawn_19 (by decide) (fun h_19 => ?_) (fun h_19 => ?_)
      · simp only [w32_mod] at h_19
        refine ww_iconst hX (pc := 31) (x := (-1)) dX10_drawn_31 rfl ?_
        refine rI hX (pc := 32) hT (Nat.le_refl 0) (Nat.le_refl 0) dX10_drawn_32 ?_
        exact ⟨⟨(Kp_rf (a := 0) (b := 49)), (Kp_rf (a := 0) (b := 49)), hC, Fw_rf, by (repeat (first | rw [if_pos (by omega)] | rw [if_neg (by omega)])) <;> rfl⟩, hF⟩
      · simp only [w32_mod] at h_19
        refine ww_aload_n hX (pc := 22) dX10_drawn_22 rfl ?_
        refine ww_getR hX (pc := 23) fX10_79 (by decide) (xs_0 hL) (xr_0_10 hL) dX10_drawn_23 ?_
        refine ww_iload_n hX (pc := 26) dX10_drawn_26 rfl ?_
        refine ww_iald hX (pc := 27) (xs_47 hL) (by decide) (by omega) (by omega) dX10_drawn_27 ?_
        refine ww_goto hX (pc := 28) (tgt := 32) dX10_drawn_28 (by decide) ?_
        refine rI hX (pc := 32) hT (Nat.le_refl 0) (Nat.le_refl 0) dX10_drawn_32 ?_
        exact ⟨⟨(Kp_rf (a := 0) (b := 49)), (Kp_rf (a := 0) (b := 49)), hC, Fw_rf, by (repeat (first | rw [if_pos (by omega)] | rw [if_neg (by omega)])) <;> rfl⟩, hF⟩
  · simp only [w32_mod] at h_2
    refine ww_aload_n hX (pc := 5) dX10_drawn_5 rfl ?_
    refine ww_getI hX (pc := 6) fX10_85 (by decide) (xs_0 hL) dX10_drawn_6 ?_
    refine rI hX (pc := 9) hT (Nat.le_refl 0) (Nat.le_refl 0) dX10_drawn_9 ?_
    exact ⟨⟨(Kp_rf (a := 0) (b := 49)), (Kp_rf (a := 0) (b := 49)), hC, Fw_rf, by (repeat (first | rw [if_pos (by omega)] | rw [if_neg (by omega)])) <;> rfl⟩, hF⟩
set_option maxHeartbeats 4000000 in
set_option maxRecDepth 20000 in
theorem c9_X10_count (l0 : Launch) {Ia Ja : aI1} {Ra : aR1} {Sa : aS1} (hL : LY Ra Sa) (hC : CX Ia) (hF : FRk Ia Ja) {a : Int} (ha0 : -2147483648 ≤ a) (ha1 : a < 2147483648)  : CT l0 10 0 0 mX10_count [kR (some 0), kI a] Ia Ja Ra Sa (cI (fun x I' J' => (Kp 0 49 Ia I' ∧ Kp 0 49 Ja J' ∧ CX I' ∧ Fw [] [] Ia I' ∧ x = CNc Ia (cnR (Ia 3) (FU (Ia 1 5) + 1).toNat) a) ∧ FRk I' J') Ra Sa) := by
  refine ct_in pn_X10 (Nat.le_of_ble_eq_true rfl) (fun X hX hT hIn => ?_)
  have hX : aK l0 X cX10_count 2 RX10 (some .int) 10 0 0 := hX
  change WW X 0 [some (kR (some 0)), some (kI a)] [] Ia Ja Ra Sa 0 0
  have hI := hC.1
  have hq := XI_o hI
  refine ww_iload_n hX (pc := 0) dX10_count_0 rfl ?_
  refine ww_table hX (pc := 1) dX10_count_1 165 (by decide) (fun h_1 => ?_) (fun i_1 h_1 e_1 => ?_)
  · simp only [w32_mod] at h_1
    refine ww_iconst hX (pc := 165) (x := (-1)) dX10_count_165 rfl ?_
    refine rI hX (pc := 166) hT (Nat.le_refl 0) (Nat.le_refl 0) dX10_count_166 ?_
    exact ⟨⟨(Kp_rf (a := 0) (b := 49)), (Kp_rf (a := 0) (b := 49)), hC, Fw_rf, by
          unfold CNc
          (repeat (first | rw [if_pos (by omega)] | rw [if_neg (by omega)])) <;> rfl⟩, hF⟩
  · simp only [w32_mod] at e_1
    rcases (show i_1 = 0 ∨ i_1 = 1 ∨ i_1 = 2 ∨ i_1 = 3 ∨ i_1 = 4 ∨ i_1 = 5 ∨ i_1 = 6 ∨ i_1 = 7 ∨ i_1 = 8 ∨ i_1 = 9 ∨ i_1 = 10 ∨ i_1 = 11 ∨ i_1 = 12 by omega) with rfl | rfl | rfl | rfl | rfl | rfl | rfl | rfl | rfl | rfl | rfl | rfl | rfl
    · refine ⟨67, 68, rfl, by decide, ?_⟩
      refine ww_aload_n hX (pc := 68) dX10_count_68 rfl ?_
      refine ww_getR hX (pc := 69) fX10_10 (by decide) (xs_0 hL) (xr_0_0 hL) dX10_count_69 ?_
      refine ww_getI hX (pc := 72) fX10_93 (by decide) (xs_1 hL) dX10_count_72 ?_
      refine rI hX (pc := 75) hT (Nat.le_refl 0) (Nat.le_refl 0) dX10_count_75 ?_
      exact ⟨⟨(Kp_rf (a := 0) (b := 49)), (Kp_rf (a := 0) (b := 49)), hC, Fw_rf, by
            unfold CNc
            (repeat (first | rw [if_pos (by omega)] | rw [if_neg (by omega)])) <;> rfl⟩, hF⟩
    · refine ⟨75, 76, rfl, by decide, ?_⟩
      refine ww_aload_n hX (pc := 76) dX10_count_76 rfl ?_
      refine ww_getR hX (pc := 77) fX10_10 (by decide) (xs_0 hL) (xr_0_0 hL) dX10_count_77 ?_
      refine ww_getI hX (pc := 80) fX10_117 (by decide) (xs_1 hL) dX10_count_80 ?_
      refine rI hX (pc := 83) hT (Nat.le_refl 0) (Nat.le_refl 0) dX10_count_83 ?_
      exact ⟨⟨(Kp_rf (a := 0) (b := 49)), (Kp_rf (a := 0) (b := 49)), hC, Fw_rf, by
            unfold CNc
            (repeat (first | rw [if_pos (by omega)] | rw [if_neg (by omega)])) <;> rfl⟩, hF⟩
    · refine ⟨83, 84, rfl, by decide, ?_⟩
      refine ww_aload_n hX (pc := 84) dX10_count_84 rfl ?_
      refine ww_getR hX (pc := 85) fX10_10 (by decide) (xs_0 hL) (xr_0_0 hL) dX10_count_85 ?_
      refine ww_getI hX (pc := 88) fX10_170 (by decide) (xs_1 hL) dX10_count_88 ?_
      refine rI hX (pc := 91) hT (Nat.le_refl 0) (Nat.le_refl 0) dX10_count_91 ?_
      exact ⟨⟨(Kp_rf (a := 0) (b := 49)), (Kp_rf (a := 0) (b := 49)), hC, Fw_rf, by
            unfold CNc
            (repeat (first | rw [if_pos (by omega)] | rw [if_neg (by omega)])) <;> rfl⟩, hF⟩
    · refine ⟨91, 92, rfl, by decide, ?_⟩
      refine ww_aload_n hX (pc := 92) dX10_count_92 rfl ?_
      refine ww_getR hX (pc := 93) fX10_10 (by decide) (xs_0 hL) (xr_0_0 hL) dX10_count_93 ?_
      refine vI0 hX (pc := 96) sX10_167 (xs_1 hL) (c5_X1_readCount l0 hL hC.1) (by decide) (Nat.le_refl 0) (Nat.le_refl 0) (Nat.le_of_ble_eq_true rfl) dX10_count_96 (fun x_96 I_96 J_96 h_96 => ?_)
      obtain ⟨rfl, rfl, h_96⟩ := h_96
      refine rI hX (pc := 99) hT (Nat.le_refl 0) (Nat.le_refl 0) dX10_count_99 ?_
      exact ⟨⟨(Kp_rf (a := 0) (b := 49)), (Kp_rf (a := 0) (b := 49)), hC, Fw_rf, by
            rw [h_96]
            unfold CNc
            (repeat (first | rw [if_pos (by omega)] | rw [if_neg (by omega)])) <;> rfl⟩, hF⟩
    · refine ⟨99, 100, rfl, by decide, ?_⟩
      refine ww_aload_n hX (pc := 100) dX10_count_100 rfl ?_
      refine ww_getR hX (pc := 101) fX10_10 (by decide) (xs_0 hL) (xr_0_0 hL) dX10_count_101 ?_
      refine ww_getI hX (pc := 104) fX10_239 (by decide) (xs_1 hL) dX10_count_104 ?_
      refine rI hX (pc := 107) hT (Nat.le_refl 0) (Nat.le_refl 0) dX10_count_107 ?_
      exact ⟨⟨(Kp_rf (a := 0) (b := 49)), (Kp_rf (a := 0) (b := 49)), hC, Fw_rf, by
            unfold CNc
            (repeat (first | rw [if_pos (by omega)] | rw [if_neg (by omega)])) <;> rfl⟩, hF⟩
    · refine ⟨107, 108, rfl, by decide, ?_⟩
      refine ww_aload_n hX (pc := 108) dX10_count_108 rfl ?_
      refine ww_getR hX (pc := 109) fX10_10 (by decide) (xs_0 hL) (xr_0_0 hL) dX10_count_109 ?_
      refine ww_getI hX (pc := 112) fX10_275 (by decide) (xs_1 hL) dX10_count_112 ?_
      refine rI hX (pc := 115) hT (Nat.le_refl 0) (Nat.le_refl 0) dX10_count_115 ?_
      exact ⟨⟨(Kp_rf (a := 0) (b := 49)), (Kp_rf (a := 0) (b := 49)), hC, Fw_rf, by
            unfold CNc
            (repeat (first | rw [if_pos (by omega)] | rw [if_neg (by omega)])) <;> rfl⟩, hF⟩
    · refine ⟨115, 116, rfl, by decide, ?_⟩
      refine ww_aload_n hX (pc := 116) dX10_count_116 rfl ?_
      refine ww_getR hX (pc := 117) fX10_23 (by decide) (xs_0 hL) (xr_0_2 hL) dX10_count_117 ?_
      refine ww_getI hX (pc := 120) fX10_148 (by decide) (xs_8 hL) dX10_count_120 ?_
      refine rI hX (pc := 123) hT (Nat.le_refl 0) (Nat.le_refl 0) dX10_count_123 ?_
      exact ⟨⟨(Kp_rf (a := 0) (b := 49)), (Kp_rf (a := 0) (b := 49)), hC, Fw_rf, by
            unfold CNc
            (repeat (first | rw [if_pos (by omega)] | rw [if_neg (by omega)])) <;> rfl⟩, hF⟩
    · refine ⟨123, 124, rfl, by decide, ?_⟩
      refine ww_aload_n hX (pc := 124) dX10_count_124 rfl ?_
      refine ww_getR hX (pc := 125) fX10_82 (by decide) (xs_0 hL) (xr_0_11 hL) dX10_count_125 ?_
      refine ww_iconst hX (pc := 128) (x := 1) dX10_count_128 rfl ?_
      refine ww_iald hX (pc := 129) (xs_48 hL) (by decide) (by omega) (by omega) dX10_count_129 ?_
      refine rI hX (pc := 130) hT (Nat.le_refl 0) (Nat.le_refl 0) dX10_count_130 ?_
      exact ⟨⟨(Kp_rf (a := 0) (b := 49)), (Kp_rf (a := 0) (b := 49)), hC, Fw_rf, by
            unfold CNc
            (repeat (first | rw [if_pos (by omega)] | rw [if_neg (by omega)])) <;> rfl⟩, hF⟩
    · refine ⟨130, 131, rfl, by decide, ?_⟩
      refine ww_aload_n hX (pc := 131) dX10_count_131 rfl ?_
      refine ww_getR hX (pc := 132) fX10_82 (by decide) (xs_0 hL) (xr_0_11 hL) dX10_count_132 ?_
      refine ww_iconst hX (pc := 135) (x := 2) dX10_count_135 rfl ?_
      refine ww_iald hX (pc := 136) (xs_48 hL) (by decide) (by omega) (by omega) dX10_count_136 ?_
      refine rI hX (pc := 137) hT (Nat.le_refl 0) (Nat.le_refl 0) dX10_count_137 ?_
      exact ⟨⟨(Kp_rf (a := 0) (b := 49)), (Kp_rf (a := 0) (b := 49)), hC, Fw_rf, by
            unfold CNc
            (repeat (first | rw [if_pos (by omega)] | rw [if_neg (by omega)])) <;> rfl⟩, hF⟩
    · refine ⟨137, 138, rfl, by decide, ?_⟩
      refine ww_aload_n hX (pc := 138) dX10_count_138 rfl ?_
      refine ww_getR hX (pc := 139) fX10_82 (by decide) (xs_0 hL) (xr_0_11 hL) dX10_count_139 ?_
      refine ww_iconst hX (pc := 142) (x := 3) dX10_count_142 rfl ?_
      refine ww_iald hX (pc := 143) (xs_48 hL) (by decide) (by omega) (by omega) dX10_count_143 ?_
      refine rI hX (pc := 144) hT (Nat.le_refl 0) (Nat.le_refl 0) dX10_count_144 ?_
      exact ⟨⟨(Kp_rf (a := 0) (b := 49)), (Kp_rf (a := 0) (b := 49)), hC, Fw_rf, by
            unfold CNc
            (repeat (first | rw [if_pos (by omega)] | rw [if_neg (by omega)])) <;> rfl⟩, hF⟩
    · refine ⟨144, 145, rfl, by decide, ?_⟩
      refine ww_aload_n hX (pc := 145) dX10_count_145 rfl ?_
      refine ww_getR hX (pc := 146) fX10_82 (by decide) (xs_0 hL) (xr_0_11 hL) dX10_count_146 ?_
      refine ww_iconst hX (pc := 149) (x := 5) dX10_count_149 rfl ?_
      refine ww_iald hX (pc := 150) (xs_48 hL) (by decide) (by omega) (by omega) dX10_count_150 ?_
      refine rI hX (pc := 151) hT (Nat.le_refl 0) (Nat.le_refl 0) dX10_count_151 ?_
      exact ⟨⟨(Kp_rf (a := 0) (b := 49)), (Kp_rf (a := 0) (b := 49)), hC, Fw_rf, by
            unfold CNc
            (repeat (first | rw [if_pos (by omega)] | rw [if_neg (by omega)])) <;> rfl⟩, hF⟩
    · refine ⟨151, 152, rfl, by decide, ?_⟩
      refine ww_aload_n hX (pc := 152) dX10_count_152 rfl ?_
      refine ww_getR hX (pc := 153) fX10_82 (by decide) (xs_0 hL) (xr_0_11 hL) dX10_count_153 ?_
      refine ww_bipush hX (pc := 156) (x := 6) dX10_count_156 (by decide) ?_
      refine ww_iald hX (pc := 158) (xs_48 hL) (by decide) (by omega) (by omega) dX10_count_158 ?_
      refine rI hX (pc := 159) hT (Nat.le_refl 0) (Nat.le_refl 0) dX10_count_159 ?_
      exact ⟨⟨(Kp_rf (a := 0) (b := 49)), (Kp_rf (a := 0) (b := 49)), hC, Fw_rf, by
            unfold CNc
            (repeat (first | rw [if_pos (by omega)] | rw [if_neg (by omega)])) <;> rfl⟩, hF⟩
    · refine ⟨159, 160, rfl, by decide, ?_⟩
      refine ww_aload_n hX (pc := 160) dX10_count_160 rfl ?_
      refine ww_getI hX (pc := 161) fX10_256 (by decide) (xs_0 hL) dX10_count_161 ?_
      refine rI hX (pc := 164) hT (Nat.le_refl 0) (Nat.le_refl 0) dX10_count_164 ?_
      exact ⟨⟨(Kp_rf (a := 0) (b := 49)), (Kp_rf (a := 0) (b := 49)), hC, Fw_rf, by
            unfold CNc
            (repeat (first | rw [if_pos (by omega)] | rw [if_neg (by omega)])) <;> rfl⟩, hF⟩
end
section
/-! class and reference choose alike -/
theorem PB_cg {code k : Nat → Int} {g e N x : Int} (h : ∀ t : Nat, (t : Int) < N → code t = k t) (t : Nat) : PB k g e N x t ↔ PB code g e N x t := by
  constructor
  · intro ht
    exact ⟨ht.1, ht.2.1, ht.2.2.1, ht.2.2.2.1, by rw [h t ht.2.1]; exact ht.2.2.2.2⟩
  · intro ht
    exact ⟨ht.1, ht.2.1, ht.2.2.1, ht.2.2.2.1, by rw [← h t ht.2.1]; exact ht.2.2.2.2⟩
theorem MRc_cg {code k M : Nat → Int} {g n K : Int} (h : MRc k g n K M) (e : ∀ t : Nat, (t : Int) < FU n + 1 → code t = k t) : MRc code g n K M := fun s hs => by
  obtain ⟨⟨r, h1, h2⟩, h3⟩ := h s hs
  rw [← e s (by omega)] at h2 h3
  exact ⟨⟨r, fun x hx => GM_cg (h1 x hx) (fun t => PB_cg e t) (fun _ _ => rfl), h2⟩, h3⟩
theorem T_link {code T M : Nat → Int} {g n K : Int} (hn : 1 ≤ n) (hn8 : n ≤ 8) (hK : 2 ≤ K) (h : MTc code g n K T) (k : MRc code g n K M) : ∀ (q s : Nat), (s : Int) ≤ FU n → FU n + 1 - s ≤ q → (code s = -1 → T s = M s * (K - 1) ^ (9 - (n - pcn s)).toNat) ∧ (¬ code s = -1 → T s = M s * (K - 1) ^ (8 - (n - pcn s)).toNat) := by
  have hF := FU_r hn hn8
  intro q
  induction q with
  | zero =>
    intro s hs hq
    exfalso
    omega
  | succ q ih =>
    intro s hs hq
    exact M_link hK hn8 (by omega) (by omega) (fun t ht htN hc => ⟨(ih t (by omega) (by omega)).2 hc, (k t (by omega)).2.1⟩) (fun t ht => pcn_n hn hn8 (by omega)) (h s hs).1 (k s hs).1
theorem T_lk {code T M : Nat → Int} {g n K : Int} (hn : 1 ≤ n) (hn8 : n ≤ 8) (hK : 2 ≤ K) (h : MTc code g n K T) (k : MRc code g n K M) {s : Nat} (hs : (s : Int) ≤ FU n) : (code s = -1 → T s = M s * (K - 1) ^ (9 - (n - pcn s)).toNat) ∧ (¬ code s = -1 → T s = M s * (K - 1) ^ (8 - (n - pcn s)).toNat) :=
  T_link hn hn8 hK h k (FU n + 1).toNat s hs (by omega)
theorem sh_bit : ∀ a : Fin 256, ∀ n : Fin 8, w32 (i_and (i_shr (a.val : Int) (n.val : Int)) 1) = 1 ↔ a.val.testBit n.val = true := by decide +kernel
theorem oilF_S {k : Nat → Int} {a : Nat} (ha : a < 256) : ∀ n : Nat, n ≤ 8 → oilF k (a : Int) n = oilS (fun l => k (256 + l)) a n
  | 0, _ => rfl
  | n + 1, h => by
    rw [oilS_s, ← oilF_S ha n (by omega)]
    show oilF k (a : Int) n + (if w32 (i_and (i_shr (a : Int) (n : Int)) 1) = 1 then k (256 + n) else 0) = _
    have hb := sh_bit ⟨a, ha⟩ ⟨n, by omega⟩
    by_cases e : a.testBit n = true
    · rw [if_pos (hb.mpr e), if_pos e]
    · rw [if_neg (fun h9 => e (hb.mp h9)), if_neg e, Int.add_zero]
theorem mul_ltc {a b c : Int} (h : 1 ≤ c) : a * c < b * c ↔ a < b := by
  constructor
  · intro h1
    refine Decidable.byContradiction (fun h2 => ?_)
    have := Int.mul_le_mul_of_nonneg_right (show b ≤ a by omega) (show 0 ≤ c by omega)
    omega
  · intro h1
    exact Int.mul_lt_mul_of_pos_right h1 (by omega)
theorem NX_lk {m n K g s x : Int} {code k o o2 L T L' M : Nat → Int} (hm : 0 ≤ m ∧ m ≤ 3) (hn : 1 ≤ n) (hn8 : n ≤ 8) (hK : 2 ≤ K) (hk : ∀ t : Nat, (t : Int) < FU n + 1 → code t = k t) (ho : m = 1 → ∀ t : Nat, (t : Int) ≤ FU n → o t = oilS o2 t n.toNat) (ho2 : ∀ l, l < 8 → o2 l = k (256 + l)) (hL : m = 2 → zLV code g (FU n + 1) K (-1) L) (hT : m = 3 → MTc code g n K T) (hL' : zLV k g (FU n + 1) K (-1) L') (hM : MRc k g n K M) (hs : 0 ≤ s ∧ s ≤ FU n) (hx : ¬ x = -1) : NX (bC m o L T) code g s (FU n + 1) x = NX (bR m s n K k L' M) k g s (FU n + 1) x := by
  have hF := FU_r hn hn8
  refine NX_cg hk (fun t v ht hv => ?_)
  have t1 := ht.1
  have v1 := hv.1
  have t2 := ht.2.1
  have v2 := hv.2.1
  have t3 := pcn_df t2
  have v3 := pcn_df v2
  have pt := pcn_le t2
  have pv := pcn_le v2
  have nt := pcn_n hn hn8 (show (t : Int) ≤ FU n by omega)
  have nv := pcn_n hn hn8 (show (v : Int) ≤ FU n by omega)
  have rs := pcn_r s.toNat
  unfold bC bR
  rcases (show m = 0 ∨ m = 1 ∨ m = 2 ∨ m = 3 by omega) with rfl | rfl | rfl | rfl
  · rw [if_neg (by decide), if_neg (by decide), if_neg (by decide), if_pos rfl, t3, v3]
    exact decide_eq_decide.mpr (by omega)
  · rw [if_pos rfl, if_neg (by decide), if_pos rfl]
    have g1 : ∀ u : Nat, (u : Int) < FU n + 1 → s.toNat &&& u = s.toNat → o u = oilS (fun l => k (256 + l)) s.toNat n.toNat + oilF k ((df u s.toNat : Nat) : Int) n.toNat := fun u hu hu2 => by
      rw [ho rfl u (by omega), oilS_cg (t := u) n.toNat (fun l hl => ho2 l (by omega)) (fun _ _ => rfl), oilS_df hu2, oilF_S (df_lt (by omega)) n.toNat (by omega)]
    rw [g1 t t1 t2, g1 v v1 v2]
    exact decide_eq_decide.mpr (by omega)
  · rw [if_neg (by decide), if_pos rfl, if_neg (by decide), if_neg (by decide), if_pos rfl, t3, v3]
    have g1 : ∀ u : Nat, (u : Int) < FU n + 1 → L u = L' u := fun u hu => zLV_un (hL rfl) hL' hk (FU n + 1).toNat u hu (by omega)
    rw [g1 t t1, g1 v v1]
    exact decide_eq_decide.mpr (by omega)
  · rw [if_neg (by decide), if_neg (by decide), if_pos rfl, if_neg (by decide), if_neg (by decide), if_neg (by decide)]
    refine decide_eq_decide.mpr ?_
    have hM2 := MRc_cg hM hk
    have a1 := (T_lk hn hn8 hK (hT rfl) hM2 (show (t : Int) ≤ FU n by omega)).2 (by rw [ht.2.2.2]; exact hx)
    have b1 := (T_lk hn hn8 hK (hT rfl) hM2 (show (v : Int) ≤ FU n by omega)).2 (by rw [hv.2.2.2]; exact hx)
    have ns := pcn_n hn hn8 (show (s.toNat : Int) ≤ FU n by omega)
    by_cases e : n - pcn s.toNat ≤ 7
    · have a2 : T t = tJ M K n s.toNat t * (K - 1) ^ (7 - (n - pcn s.toNat)).toNat := by
        unfold tJ
        rw [a1, Int.mul_assoc, pw_add]
        exact congrArg (fun z : Nat => M t * (K - 1) ^ z) (by omega)
      have b2 : T v = tJ M K n s.toNat v * (K - 1) ^ (7 - (n - pcn s.toNat)).toNat := by
        unfold tJ
        rw [b1, Int.mul_assoc, pw_add]
        exact congrArg (fun z : Nat => M v * (K - 1) ^ z) (by omega)
      rw [a2, b2]
      exact mul_ltc (pw_pos (by omega) _)
    · have a2 : tJ M K n s.toNat t = T t * (K - 1) ^ 1 := by
        unfold tJ
        rw [a1, Int.mul_assoc, pw_add]
        exact congrArg (fun z : Nat => M t * (K - 1) ^ z) (by omega)
      have b2 : tJ M K n s.toNat v = T v * (K - 1) ^ 1 := by
        unfold tJ
        rw [b1, Int.mul_assoc, pw_add]
        exact congrArg (fun z : Nat => M v * (K - 1) ^ z) (by omega)
      rw [a2, b2]
      exact (mul_ltc (pw_pos (by omega) _)).symm
end
section
theorem gq_cm (a b : Int) : gq a b = gq b a := by
  unfold gq
  rw [Nat.gcd_comm]
set_option maxHeartbeats 4000000 in
set_option maxRecDepth 20000 in
theorem c8_X11_good (l0 : Launch) {Ia Ja : aI1} {Ra : aR1} {Sa : aS1} (hL : LY Ra Sa) (hQ : RX Ia) {a : Int}  : CT l0 0 0 0 mX11_good [kR (some 49), kI a] Ia Ja Ra Sa (cI (fun x I' J' => Ch [] [0, 1] Ia I' ∧ Kp 49 73 Ja J' ∧ RX I' ∧ x = a ∧ I' 49 0 = 0 ∧ I' 49 1 = Ia 49 1 + 1 ∧ J' = Ja) Ra Sa) := by
  refine ct_in pn_X11 (Nat.le_of_ble_eq_true rfl) (fun X hX hT hIn => ?_)
  have hX : aK l0 X cX11_good 2 RX11 (some .int) 0 0 0 := hX
  change WW X 0 [some (kR (some 49)), some (kI a)] [] Ia Ja Ra Sa 0 0
  have qIa := RX_o hQ
  refine ww_aload_n hX (pc := 0) dX11_good_0 rfl ?_
  refine ww_iconst hX (pc := 1) (x := 0) dX11_good_1 rfl ?_
  refine ww_putI hX (pc := 2) (fun h9 => absurd h9 (by decide)) gX11_3 rfl (xs_49 hL) dX11_good_2 ?_
  refine ww_nmH (fun I_2 eI_2 => ?_)
  have kI_2 : Ch [] [0, 1] Ia I_2 := by rw [eI_2]; exact Ch_f Ch_rf (by decide)
  have cI_2 : RX I_2 := by rw [eI_2]; exact RX_f hQ (by decide)
  have qI_2 := RX_o cI_2
  have r304_I_2 : I_2 51 304 = Ia 51 304 := by rw [eI_2, up2_off _ _ _ (by decide)]
  have r305_I_2 : I_2 51 305 = Ia 51 305 := by rw [eI_2, up2_off _ _ _ (by decide)]
  have rf_I_2 : FU (I_2 51 304) = FU (Ia 51 304) := by rw [r304_I_2]
  have z2 : I_2 49 0 = 0 := by rw [eI_2, up2_s]
  have o2 : I_2 49 1 = Ia 49 1 := by rw [eI_2, up2_n _ _ (Or.inr (by decide))]
  refine ww_aload_n hX (pc := 5) dX11_good_5 rfl ?_
  refine ww_dupR hX (pc := 6) dX11_good_6 ?_
  refine ww_getI hX (pc := 7) fX11_11 (by decide) (xs_49 hL) dX11_good_7 ?_
  refine ww_iconst hX (pc := 10) (x := 1) dX11_good_10 rfl ?_
  refine ww_iadd hX (pc := 11) dX11_good_11 ?_
  refine ww_putI hX (pc := 12) (fun h9 => absurd h9 (by decide)) gX11_11 rfl (xs_49 hL) dX11_good_12 ?_
  refine ww_nmH (fun I_12 eI_12 => ?_)
  have kI_12 : Ch [] [0, 1] Ia I_12 := by rw [eI_12]; exact Ch_f kI_2 (by decide)
  have cI_12 : RX I_12 := by rw [eI_12]; exact RX_f cI_2 (by decide)
  have qI_12 := RX_o cI_12
  have r304_I_12 : I_12 51 304 = I_2 51 304 := by rw [eI_12, up2_off _ _ _ (by decide)]
  have r305_I_12 : I_12 51 305 = I_2 51 305 := by rw [eI_12, up2_off _ _ _ (by decide)]
  have rf_I_12 : FU (I_12 51 304) = FU (I_2 51 304) := by rw [r304_I_12]
  have z12 : I_12 49 0 = 0 := by rw [eI_12, up2_n _ _ (Or.inr (by decide)), z2]
  have o12 : I_12 49 1 = I_2 49 1 + 1 := by rw [eI_12, up2_s]
  refine ww_iload_n hX (pc := 15) dX11_good_15 rfl ?_
  refine rI hX (pc := 16) hT (Nat.le_refl 0) (Nat.le_refl 0) dX11_good_16 ?_
  exact ⟨kI_12, (Kp_rf (a := 49) (b := 73)), cI_12, rfl, z12, (by rw [o12, o2]), rfl⟩
set_option maxHeartbeats 4000000 in
set_option maxRecDepth 20000 in
theorem c8_X11_refuses (l0 : Launch) {Ia Ja : aI1} {Ra : aR1} {Sa : aS1} (hL : LY Ra Sa) (hQ : RX Ia) {a : Int} (ha0 : -6 ≤ a) (ha1 : a ≤ -1)  : CT l0 0 0 0 mX11_refuses [kR (some 49), kI a] Ia Ja Ra Sa (cI (fun x I' J' => Ch [50] [0] Ia I' ∧ Kp 49 73 Ja J' ∧ RX I' ∧ x = a ∧ I' 49 0 = a ∧ I' 50 = up1 (Ia 50) (-a).toNat (Ia 50 (-a).toNat + 1) ∧ J' = Ja) Ra Sa) := by
  refine ct_in pn_X11 (Nat.le_of_ble_eq_true rfl) (fun X hX hT hIn => ?_)
  have hX : aK l0 X cX11_refuses 2 RX11 (some .int) 0 0 0 := hX
  change WW X 0 [some (kR (some 49)), some (kI a)] [] Ia Ja Ra Sa 0 0
  have qIa := RX_o hQ
  refine ww_aload_n hX (pc := 0) dX11_refuses_0 rfl ?_
  refine ww_iload_n hX (pc := 1) dX11_refuses_1 rfl ?_
  refine ww_putI hX (pc := 2) (fun h9 => absurd h9 (by decide)) gX11_3 rfl (xs_49 hL) dX11_refuses_2 ?_
  refine ww_nmH (fun I_2 eI_2 => ?_)
  have kI_2 : Ch [50] [0] Ia I_2 := by rw [eI_2]; exact Ch_f Ch_rf (by decide)
  have cI_2 : RX I_2 := by rw [eI_2]; exact RX_f hQ (by decide)
  have qI_2 := RX_o cI_2
  have r304_I_2 : I_2 51 304 = Ia 51 304 := by rw [eI_2, up2_off _ _ _ (by decide)]
  have r305_I_2 : I_2 51 305 = Ia 51 305 := by rw [eI_2, up2_off _ _ _ (by decide)]
  have rf_I_2 : FU (I_2 51 304) = FU (Ia 51 304) := by rw [r304_I_2]
  have z2 : I_2 49 0 = a := by rw [eI_2, up2_s]
  have r2 : I_2 50 = Ia 50 := by rw [eI_2, up2_off _ _ _ (by decide)]
  refine ww_aload_n hX (pc := 5) dX11_refuses_5 rfl ?_
  refine ww_getR hX (pc := 6) fX11_7 (by decide) (xs_49 hL) (xr_49_2 hL) dX11_refuses_6 ?_
  refine ww_iload_n hX (pc := 9) dX11_refuses_9 rfl ?_
  refine ww_ineg hX (pc := 10) dX11_refuses_10 ?_
  refine ww_dup2 hX (pc := 11) dX11_refuses_11 ?_
  refine ww_iald hX (pc := 12) (xs_50 hL) (by decide) (by omega) (by omega) dX11_refuses_12 ?_
  refine ww_iconst hX (pc := 13) (x := 1) dX11_refuses_13 rfl ?_
  refine ww_iadd hX (pc := 14) dX11_refuses_14 ?_
  refine ww_iast hX (pc := 15) (xs_50 hL) (by decide) (by omega) (by omega) dX11_refuses_15 ?_
  refine ww_nmH (fun I_15 eI_15 => ?_)
  have kI_15 : Ch [50] [0] Ia I_15 := by rw [eI_15]; exact Ch_r kI_2 (by decide) (by decide)
  have cI_15 : RX I_15 := by rw [eI_15]; exact RX_r cI_2 (by decide)
  have qI_15 := RX_o cI_15
  have r304_I_15 : I_15 51 304 = I_2 51 304 := by rw [eI_15, up2_off _ _ _ (by decide)]
  have r305_I_15 : I_15 51 305 = I_2 51 305 := by rw [eI_15, up2_off _ _ _ (by decide)]
  have rf_I_15 : FU (I_15 51 304) = FU (I_2 51 304) := by rw [r304_I_15]
  have z15 : I_15 49 0 = a := by rw [eI_15, up2_off _ _ _ (by decide), z2]
  have r15 : I_15 50 = up1 (Ia 50) (-a).toNat (Ia 50 (-a).toNat + 1) := by rw [eI_15, up2_row, r2]
  refine ww_iload_n hX (pc := 16) dX11_refuses_16 rfl ?_
  refine rI hX (pc := 17) hT (Nat.le_refl 0) (Nat.le_refl 0) dX11_refuses_17 ?_
  exact ⟨kI_15, (Kp_rf (a := 49) (b := 73)), cI_15, rfl, z15, r15, rfl⟩
end
section
set_option maxHeartbeats 4000000 in
set_option maxRecDepth 20000 in
theorem c8_X11_next (l0 : Launch) {Ia Ja : aI1} {Ra : aR1} {Sa : aS1} (hL : LY Ra Sa) (hQ : RX Ia) {a b c : Int} (ha0 : -2147483648 ≤ a) (ha1 : a < 2147483648) (hb0 : -2147483648 ≤ b) (hb1 : b < 2147483648) (hc0 : -2147483648 ≤ c) (hc1 : c < 2147483648) (hO : ∀ l, l < 8 → 0 ≤ Ia 51 (256 + l) ∧ Ia 51 (256 + l) ≤ 99) (hcr : ∀ t : Nat, (t : Int) ≤ FU (Ia 51 304) → -1 ≤ Ia 51 t ∧ Ia 51 t ≤ 7) (hK : ∀ s : Nat, (s : Int) ≤ FU (Ia 51 304) → Ia 51 s < Ia 51 305) {vv : Int} (hq : QF Ia Ja vv) (hv9 : vv ≤ 1000000)  : CT l0 5 0 0 mX11_next [kR (some 49), kI a, kI b, kI c] Ia Ja Ra Sa (cI (fun x I' J' => Ch [61] [25] Ia I' ∧ Kp 49 73 Ja J' ∧ RX I' ∧ I' 51 = Ia 51 ∧ QF I' J' vv ∧ ((0 ≤ a ∧ a ≤ FU (Ia 51 304) ∧ 0 ≤ b ∧ b < Ia 51 305 ∧ 0 ≤ c ∧ c ≤ 3) → ∃ L M, zLV (Ia 51) (Ia 51 306) (FU (Ia 51 304) + 1) (Ia 51 305) (-1) L ∧ MRc (Ia 51) (Ia 51 306) (Ia 51 304) (Ia 51 305) M ∧ x = NX (bR c a (Ia 51 304) (Ia 51 305) (Ia 51) L M) (Ia 51) (Ia 51 306) a (FU (Ia 51 304) + 1) b) ∧ (¬ (0 ≤ a ∧ a ≤ FU (Ia 51 304) ∧ 0 ≤ b ∧ b < Ia 51 305 ∧ 0 ≤ c ∧ c ≤ 3) → x = -1)) Ra Sa) := by
  refine ct_in pn_X11 (Nat.le_of_ble_eq_true rfl) (fun X hX hT hIn => ?_)
  have hX : aK l0 X cX11_next 4 RX11 (some .int) 5 0 0 := hX
  change WW X 0 [some (kR (some 49)), some (kI a), some (kI b), some (kI c)] [] Ia Ja Ra Sa 0 0
  have qIa := RX_o hQ
  refine ww_aload_n hX (pc := 0) dX11_next_0 rfl ?_
  refine ww_iload_n hX (pc := 1) dX11_next_1 rfl ?_
  refine vI1 hX (pc := 2) sX11_120 (xs_49 hL) (c_X11_isState l0 hL hQ (by omega) (by omega)) (by decide) (Nat.le_refl 0) (Nat.le_refl 0) (Nat.le_of_ble_eq_true rfl) dX11_next_2 (fun x_2 I_2 J_2 h_2 => ?_)
  obtain ⟨rfl, rfl, h_2⟩ := h_2
  refine ww_if_eq hX (pc := 5) (tgt := 23) dX11_next_5 (by decide) (fun h_5 => ?_) (fun h_5 => ?_)
  · simp only [w32_mod] at h_5
    refine ww_iconst hX (pc := 23) (x := (-1)) dX11_next_23 rfl ?_
    refine rI hX (pc := 24) hT (Nat.le_refl 0) (Nat.le_refl 0) dX11_next_24 ?_
    exact ⟨Ch_rf, (Kp_rf (a := 49) (b := 73)), hQ, rfl, hq, (fun h9 => absurd h9 (by omega)), (fun _ => rfl)⟩
  · simp only [w32_mod] at h_5
    have k_2 := h_2.2.mp (by omega)
    clear h_2
    refine ww_aload_n hX (pc := 8) dX11_next_8 rfl ?_
    refine ww_iload_n hX (pc := 9) dX11_next_9 rfl ?_
    refine vI1 hX (pc := 10) sX11_123 (xs_49 hL) (c_X11_isNews l0 hL hQ (by omega) (by omega)) (by decide) (Nat.le_refl 0) (Nat.le_refl 0) (Nat.le_of_ble_eq_true rfl) dX11_next_10 (fun x_10 I_10 J_10 h_10 => ?_)
    obtain ⟨rfl, rfl, h_10⟩ := h_10
    refine ww_if_eq hX (pc := 13) (tgt := 23) dX11_next_13 (by decide) (fun h_13 => ?_) (fun h_13 => ?_)
    · simp only [w32_mod] at h_13
      refine ww_iconst hX (pc := 23) (x := (-1)) dX11_next_23 rfl ?_
      refine rI hX (pc := 24) hT (Nat.le_refl 0) (Nat.le_refl 0) dX11_next_24 ?_
      exact ⟨Ch_rf, (Kp_rf (a := 49) (b := 73)), hQ, rfl, hq, (fun h9 => absurd h9 (by omega)), (fun _ => rfl)⟩
    · simp only [w32_mod] at h_13
      have k_10 := h_10.2.mp (by omega)
      clear h_10
      refine ww_iload_n hX (pc := 16) dX11_next_16 rfl ?_
      refine sI1 hX (pc := 17) sX11_308 (c_X11_isManner l0 (by omega) (by omega)) (by decide) (Nat.le_refl 0) (Nat.le_refl 0) (Nat.le_of_ble_eq_true rfl) dX11_next_17 (fun x_17 I_17 J_17 h_17 => ?_)
      obtain ⟨rfl, rfl, h_17⟩ := h_17
      refine ww_if_ne hX (pc := 20) (tgt := 25) dX11_next_20 (by decide) (fun h_20 => ?_) (fun h_20 => ?_)
      · simp only [w32_mod] at h_20
        have k_17 := h_17.2.mp (by omega)
        clear h_17
        refine ww_aload_n hX (pc := 25) dX11_next_25 rfl ?_
        refine vV0 hX (pc := 26) sX11_294 (xs_49 hL) (c8_X11_looks l0 hL hQ hcr hK hq hv9) (by decide) (Nat.le_refl 0) (Nat.le_refl 0) (Nat.le_of_ble_eq_true rfl) dX11_next_26 (fun I_26 J_26 h_26 => ?_)
        have kJ_26 : Kp 49 73 Ja J_26 := Kp_tr (Kp_rf (a := 49) (b := 73)) h_26.2.1
        have kI_26 : Ch [61] [25] Ia I_26 := Ch_tr Ch_rf (Ch_wd h_26.1 (by decide) (by decide))
        have cI_26 : RX I_26 := h_26.2.2.1
        have qI_26 := RX_o cI_26
        have r304_I_26 : I_26 51 304 = Ia 51 304 := by rw [h_26.1.1 51 (by decide) (by decide)]
        have r305_I_26 : I_26 51 305 = Ia 51 305 := by rw [h_26.1.1 51 (by decide) (by decide)]
        have rf_I_26 : FU (I_26 51 304) = FU (Ia 51 304) := by rw [r304_I_26]
        have e51_26 : I_26 51 = Ia 51 := h_26.2.2.2.1
        have hq9_26 := h_26.2.2.2.2.1
        have hq8_26 := h_26.1.2 1 (by decide)
        have hq7 := hq.1
        have hrt9 := h_26.2.2.2.2.2
        have hqf : QF I_26 J_26 vv := ⟨by omega, by omega, fun _ => hrt9⟩
        unfold RT at hrt9
        rw [e51_26] at hrt9
        have hzl := hrt9.1
        have hmr := hrt9.2
        clear hrt9
        have efu : FU (I_26 51 304) = FU (Ia 51 304) := by rw [e51_26]
        refine ww_aload_n hX (pc := 29) dX11_next_29 rfl ?_
        refine ww_iload_n hX (pc := 30) dX11_next_30 rfl ?_
        refine ww_iload_n hX (pc := 31) dX11_next_31 rfl ?_
        refine ww_iload_n hX (pc := 32) dX11_next_32 rfl ?_
        refine vI3 hX (pc := 33) sX11_311 (xs_49 hL) (c8_X11_nextOf l0 hL cI_26 (by omega) (by omega) (by omega) (by omega) (by omega) (by omega) (by rw [e51_26]; exact hO) (by rw [e51_26]; exact hcr) (by rw [e51_26]; exact fun t ht => (hmr t ht).2)) (by decide) (Nat.le_refl 0) (Nat.le_refl 0) (Nat.le_of_ble_eq_true rfl) dX11_next_33 (fun x_33 I_33 J_33 h_33 => ?_)
        obtain ⟨rfl, rfl, h_33⟩ := h_33
        rw [e51_26] at h_33
        refine rI hX (pc := 36) hT (Nat.le_refl 0) (Nat.le_refl 0) dX11_next_36 ?_
        exact ⟨kI_26, kJ_26, cI_26, e51_26, hqf, (fun _ => ⟨_, _, hzl, hmr, h_33⟩), (fun h9 => absurd (by omega) h9)⟩
      · simp only [w32_mod] at h_20
        refine ww_iconst hX (pc := 23) (x := (-1)) dX11_next_23 rfl ?_
        refine rI hX (pc := 24) hT (Nat.le_refl 0) (Nat.le_refl 0) dX11_next_24 ?_
        exact ⟨Ch_rf, (Kp_rf (a := 49) (b := 73)), hQ, rfl, hq, (fun h9 => absurd h9 (by omega)), (fun _ => rfl)⟩
set_option maxHeartbeats 4000000 in
set_option maxRecDepth 20000 in
theorem c8_X11_lasts (l0 : Launch) {Ia Ja : aI1} {Ra : aR1} {Sa : aS1} (hL : LY Ra Sa) (hQ : RX Ia) {a : Int} (ha0 : -2147483648 ≤ a) (ha1 : a < 2147483648) (hO : ∀ l, l < 8 → 0 ≤ Ia 51 (256 + l) ∧ Ia 51 (256 + l) ≤ 99) (hcr : ∀ t : Nat, (t : Int) ≤ FU (Ia 51 304) → -1 ≤ Ia 51 t ∧ Ia 51 t ≤ 7) (hK : ∀ s : Nat, (s : Int) ≤ FU (Ia 51 304) → Ia 51 s < Ia 51 305) {vv : Int} (hq : QF Ia Ja vv) (hv9 : vv ≤ 1000000)  : CT l0 5 0 0 mX11_lasts [kR (some 49), kI a] Ia Ja Ra Sa (cI (fun x I' J' => Ch [61] [25] Ia I' ∧ Kp 49 73 Ja J' ∧ RX I' ∧ I' 51 = Ia 51 ∧ QF I' J' vv ∧ ((0 ≤ a ∧ a ≤ FU (Ia 51 304)) → ∃ L, zLV (Ia 51) (Ia 51 306) (FU (Ia 51 304) + 1) (Ia 51 305) (-1) L ∧ x = L a.toNat) ∧ (¬ (0 ≤ a ∧ a ≤ FU (Ia 51 304)) → x = -1)) Ra Sa) := by
  refine ct_in pn_X11 (Nat.le_of_ble_eq_true rfl) (fun X hX hT hIn => ?_)
  have hX : aK l0 X cX11_lasts 2 RX11 (some .int) 5 0 0 := hX
  change WW X 0 [some (kR (some 49)), some (kI a)] [] Ia Ja Ra Sa 0 0
  have qIa := RX_o hQ
  refine ww_aload_n hX (pc := 0) dX11_lasts_0 rfl ?_
  refine ww_iload_n hX (pc := 1) dX11_lasts_1 rfl ?_
  refine vI1 hX (pc := 2) sX11_120 (xs_49 hL) (c_X11_isState l0 hL hQ (by omega) (by omega)) (by decide) (Nat.le_refl 0) (Nat.le_refl 0) (Nat.le_of_ble_eq_true rfl) dX11_lasts_2 (fun x_2 I_2 J_2 h_2 => ?_)
  obtain ⟨rfl, rfl, h_2⟩ := h_2
  refine ww_if_ne hX (pc := 5) (tgt := 10) dX11_lasts_5 (by decide) (fun h_5 => ?_) (fun h_5 => ?_)
  · simp only [w32_mod] at h_5
    have k_2 := h_2.2.mp (by omega)
    clear h_2
    refine ww_aload_n hX (pc := 10) dX11_lasts_10 rfl ?_
    refine vV0 hX (pc := 11) sX11_294 (xs_49 hL) (c8_X11_looks l0 hL hQ hcr hK hq hv9) (by decide) (Nat.le_refl 0) (Nat.le_refl 0) (Nat.le_of_ble_eq_true rfl) dX11_lasts_11 (fun I_11 J_11 h_11 => ?_)
    have kJ_11 : Kp 49 73 Ja J_11 := Kp_tr (Kp_rf (a := 49) (b := 73)) h_11.2.1
    have kI_11 : Ch [61] [25] Ia I_11 := Ch_tr Ch_rf (Ch_wd h_11.1 (by decide) (by decide))
    have cI_11 : RX I_11 := h_11.2.2.1
    have qI_11 := RX_o cI_11
    have r304_I_11 : I_11 51 304 = Ia 51 304 := by rw [h_11.1.1 51 (by decide) (by decide)]
    have r305_I_11 : I_11 51 305 = Ia 51 305 := by rw [h_11.1.1 51 (by decide) (by decide)]
    have rf_I_11 : FU (I_11 51 304) = FU (Ia 51 304) := by rw [r304_I_11]
    have e51_11 : I_11 51 = Ia 51 := h_11.2.2.2.1
    have hq9_11 := h_11.2.2.2.2.1
    have hq8_11 := h_11.1.2 1 (by decide)
    have hq7 := hq.1
    have hrt9 := h_11.2.2.2.2.2
    have hqf : QF I_11 J_11 vv := ⟨by omega, by omega, fun _ => hrt9⟩
    unfold RT at hrt9
    rw [e51_11] at hrt9
    have hzl := hrt9.1
    have hmr := hrt9.2
    clear hrt9
    have efu : FU (I_11 51 304) = FU (Ia 51 304) := by rw [e51_11]
    refine ww_aload_n hX (pc := 14) dX11_lasts_14 rfl ?_
    refine ww_getR hX (pc := 15) fX11_55 (by decide) (xs_49 hL) (xr_49_23 hL) dX11_lasts_15 ?_
    refine ww_iload_n hX (pc := 18) dX11_lasts_18 rfl ?_
    refine ww_iald hX (pc := 19) (xs_61 hL) (by decide) (by omega) (by omega) dX11_lasts_19 ?_
    refine rI hX (pc := 20) hT (Nat.le_refl 0) (Nat.le_refl 0) dX11_lasts_20 ?_
    exact ⟨kI_11, kJ_11, cI_11, e51_11, hqf, (fun _ => ⟨_, hzl, rfl⟩), (fun h9 => absurd (by omega) h9)⟩
  · simp only [w32_mod] at h_5
    refine ww_iconst hX (pc := 8) (x := (-1)) dX11_lasts_8 rfl ?_
    refine rI hX (pc := 9) hT (Nat.le_refl 0) (Nat.le_refl 0) dX11_lasts_9 ?_
    exact ⟨Ch_rf, (Kp_rf (a := 49) (b := 73)), hQ, rfl, hq, (fun h9 => absurd h9 (by omega)), (fun _ => rfl)⟩
set_option maxHeartbeats 4000000 in
set_option maxRecDepth 20000 in
theorem c8_X11_mean (l0 : Launch) {Ia Ja : aI1} {Ra : aR1} {Sa : aS1} (hL : LY Ra Sa) (hQ : RX Ia) {a b : Int} (ha0 : -2147483648 ≤ a) (ha1 : a < 2147483648) (hb0 : -2147483648 ≤ b) (hb1 : b < 2147483648) (hO : ∀ l, l < 8 → 0 ≤ Ia 51 (256 + l) ∧ Ia 51 (256 + l) ≤ 99) (hcr : ∀ t : Nat, (t : Int) ≤ FU (Ia 51 304) → -1 ≤ Ia 51 t ∧ Ia 51 t ≤ 7) (hK : ∀ s : Nat, (s : Int) ≤ FU (Ia 51 304) → Ia 51 s < Ia 51 305) {vv : Int} (hq : QF Ia Ja vv) (hv9 : vv ≤ 1000000)  : CT l0 5 0 0 mX11_mean [kR (some 49), kI a, kI b] Ia Ja Ra Sa (cJ (fun x I' J' => Ch [61] [25] Ia I' ∧ Kp 49 73 Ja J' ∧ RX I' ∧ I' 51 = Ia 51 ∧ QF I' J' vv ∧ ((0 ≤ a ∧ a ≤ FU (Ia 51 304) ∧ 0 ≤ b ∧ b ≤ 1) → ∃ M, MRc (Ia 51) (Ia 51 306) (Ia 51 304) (Ia 51 305) M ∧ x = mPt (M a.toNat) (dwn (Ia 51) (Ia 51 305) (Ia 51 304) a.toNat) (if b = 0 then 1 else 0)) ∧ (¬ (0 ≤ a ∧ a ≤ FU (Ia 51 304) ∧ 0 ≤ b ∧ b ≤ 1) → x = -1)) Ra Sa) := by
  refine ct_in pn_X11 (Nat.le_of_ble_eq_true rfl) (fun X hX hT hIn => ?_)
  have hX : aK l0 X cX11_mean 7 RX11 (some .long) 5 0 0 := hX
  change WW X 0 [some (kR (some 49)), some (kI a), some (kI b), none, none, none, none] [] Ia Ja Ra Sa 0 0
  have qIa := RX_o hQ
  refine ww_aload_n hX (pc := 0) dX11_mean_0 rfl ?_
  refine ww_iload_n hX (pc := 1) dX11_mean_1 rfl ?_
  refine vI1 hX (pc := 2) sX11_120 (xs_49 hL) (c_X11_isState l0 hL hQ (by omega) (by omega)) (by decide) (Nat.le_refl 0) (Nat.le_refl 0) (Nat.le_of_ble_eq_true rfl) dX11_mean_2 (fun x_2 I_2 J_2 h_2 => ?_)
  obtain ⟨rfl, rfl, h_2⟩ := h_2
  refine ww_if_eq hX (pc := 5) (tgt := 17) dX11_mean_5 (by decide) (fun h_5 => ?_) (fun h_5 => ?_)
  · simp only [w32_mod] at h_5
    refine ww_ldc2 hX (pc := 17) (x := (-1)) dX11_mean_17 tb_1398 ?_
    refine rJ hX (pc := 20) hT (Nat.le_refl 0) (Nat.le_refl 0) dX11_mean_20 ?_
    exact ⟨Ch_rf, (Kp_rf (a := 49) (b := 73)), hQ, rfl, hq, (fun h9 => absurd h9 (by omega)), (fun _ => rfl)⟩
  · simp only [w32_mod] at h_5
    have k_2 := h_2.2.mp (by omega)
    clear h_2
    refine ww_iload_n hX (pc := 8) dX11_mean_8 rfl ?_
    refine ww_iconst hX (pc := 9) (x := 0) dX11_mean_9 rfl ?_
    refine ww_iconst hX (pc := 10) (x := 1) dX11_mean_10 rfl ?_
    refine sI3 hX (pc := 11) sX11_101 (c_X11_lies l0 (by omega) (by omega) (by omega) (by omega) (by omega) (by omega)) (by decide) (Nat.le_refl 0) (Nat.le_refl 0) (Nat.le_of_ble_eq_true rfl) dX11_mean_11 (fun x_11 I_11 J_11 h_11 => ?_)
    obtain ⟨rfl, rfl, h_11⟩ := h_11
    refine ww_if_ne hX (pc := 14) (tgt := 21) dX11_mean_14 (by decide) (fun h_14 => ?_) (fun h_14 => ?_)
    · simp only [w32_mod] at h_14
      have k_11 := h_11.2.mp (by omega)
      clear h_11
      refine ww_aload_n hX (pc := 21) dX11_mean_21 rfl ?_
      refine vV0 hX (pc := 22) sX11_294 (xs_49 hL) (c8_X11_looks l0 hL hQ hcr hK hq hv9) (by decide) (Nat.le_refl 0) (Nat.le_refl 0) (Nat.le_of_ble_eq_true rfl) dX11_mean_22 (fun I_22 J_22 h_22 => ?_)
      have kJ_22 : Kp 49 73 Ja J_22 := Kp_tr (Kp_rf (a := 49) (b := 73)) h_22.2.1
      have kI_22 : Ch [61] [25] Ia I_22 := Ch_tr Ch_rf (Ch_wd h_22.1 (by decide) (by decide))
      have cI_22 : RX I_22 := h_22.2.2.1
      have qI_22 := RX_o cI_22
      have r304_I_22 : I_22 51 304 = Ia 51 304 := by rw [h_22.1.1 51 (by decide) (by decide)]
      have r305_I_22 : I_22 51 305 = Ia 51 305 := by rw [h_22.1.1 51 (by decide) (by decide)]
      have rf_I_22 : FU (I_22 51 304) = FU (Ia 51 304) := by rw [r304_I_22]
      have e51_22 : I_22 51 = Ia 51 := h_22.2.2.2.1
      have hq9_22 := h_22.2.2.2.2.1
      have hq8_22 := h_22.1.2 1 (by decide)
      have hq7 := hq.1
      have hrt9 := h_22.2.2.2.2.2
      have hqf : QF I_22 J_22 vv := ⟨by omega, by omega, fun _ => hrt9⟩
      unfold RT at hrt9
      rw [e51_22] at hrt9
      have hzl := hrt9.1
      have hmr := hrt9.2
      clear hrt9
      have efu : FU (I_22 51 304) = FU (Ia 51 304) := by rw [e51_22]
      have hns := pcn_n (n := Ia 51 304) (t := a.toNat) (by omega) (by omega) (by omega)
      have hrs := pcn_r a.toNat
      have hca := hcr a.toNat (by omega)
      have hm8 := (hmr a.toNat (by omega)).2
      have hp7 := pow_7 (b := Ia 51 305 - 1) (n := (Ia 51 304 - pcn a.toNat).toNat) (by omega) (by omega) (by omega)
      have hm80 : 0 ≤ J_22 62 a.toNat ∧ J_22 62 a.toNat ≤ 1152960200 := by
        have h9 := hm8.1
        have h8 := hm8.2.1
        omega
      clear hm8
      refine ww_aload_n hX (pc := 25) dX11_mean_25 rfl ?_
      refine ww_aload_n hX (pc := 26) dX11_mean_26 rfl ?_
      refine ww_iload_n hX (pc := 27) dX11_mean_27 rfl ?_
      refine vI1 hX (pc := 28) sX11_274 (xs_49 hL) (c8_X11_dark l0 hL cI_22 (by omega) (by omega)) (by decide) (Nat.le_refl 0) (Nat.le_refl 0) (Nat.le_of_ble_eq_true rfl) dX11_mean_28 (fun x_28 I_28 J_28 h_28 => ?_)
      obtain ⟨rfl, rfl, h_28⟩ := h_28
      rw [e51_22] at h_28
      refine vJ1 hX (pc := 31) sX11_277 (xs_49 hL) (c_X11_power l0 hL cI_22 (by omega) (by omega)) (by decide) (Nat.le_refl 0) (Nat.le_refl 0) (Nat.le_of_ble_eq_true rfl) dX11_mean_31 (fun x_31 I_31 J_31 h_31 => ?_)
      obtain ⟨rfl, rfl, h_31⟩ := h_31
      rw [e51_22, h_28] at h_31
      refine ww_aload_n hX (pc := 34) dX11_mean_34 rfl ?_
      refine ww_iload_n hX (pc := 35) dX11_mean_35 rfl ?_
      refine vI1 hX (pc := 36) sX11_126 (xs_49 hL) (c_X11_readOf l0 hL cI_22 (by omega) (by omega)) (by decide) (Nat.le_refl 0) (Nat.le_refl 0) (Nat.le_of_ble_eq_true rfl) dX11_mean_36 (fun x_36 I_36 J_36 h_36 => ?_)
      obtain ⟨rfl, rfl, h_36⟩ := h_36
      rw [e51_22] at h_36
      refine ww_iconst hX (pc := 39) (x := (-1)) dX11_mean_39 rfl ?_
      refine ww_icmp_ne hX (pc := 40) (tgt := 54) dX11_mean_40 (by decide) (fun h_40 => ?_) (fun h_40 => ?_)
      · simp only [w32_mod] at h_40
        refine ww_aload_n hX (pc := 54) dX11_mean_54 rfl ?_
        refine ww_getR hX (pc := 55) fX11_20 (by decide) (xs_49 hL) (xr_49_3 hL) dX11_mean_55 ?_
        refine ww_sipush hX (pc := 58) (x := 305) dX11_mean_58 (by decide) ?_
        refine ww_iald hX (pc := 61) (xs_51 hL) (by decide) (by omega) (by omega) dX11_mean_61 ?_
        refine ww_toI (b := I_22 51 305) rfl ?_
        refine ww_iconst hX (pc := 62) (x := 1) dX11_mean_62 rfl ?_
        refine ww_isub hX (pc := 63) dX11_mean_63 ?_
        refine ww_i2l hX (pc := 64) dX11_mean_64 ?_
        refine ww_lmul hX (pc := 65) dX11_mean_65 ?_
        refine ww_nmL (fun v_66 hv_66 => ?_)
        refine ww_lstore_n hX (pc := 66) (lv' := [some (kR (some 49)), some (kI a), some (kI b), some (kL v_66), none, none, none]) dX11_mean_66 (by decide) rfl rfl ?_
        have hv66 : v_66 = dwn (Ia 51) (Ia 51 305) (Ia 51 304) a.toNat := by
          unfold dwn
          rw [hv_66, w32_id (by omega) (by omega), e51_22, h_31]
          first
          | (rw [if_pos (show Ia 51 a.toNat = -1 by omega)])
          | (rw [if_neg (show ¬ Ia 51 a.toNat = -1 by omega)])
        have hdn : 1 ≤ v_66 ∧ v_66 ≤ 46118408 := by rw [hv66]; unfold dwn; exact mul_small hp7 (by split <;> omega)
        refine ww_lload_n hX (pc := 67) dX11_mean_67 rfl ?_
        refine ww_aload_n hX (pc := 68) dX11_mean_68 rfl ?_
        refine ww_getR hX (pc := 69) fX11_58 (by decide) (xs_49 hL) (xr_49_24 hL) dX11_mean_69 ?_
        refine ww_iload_n hX (pc := 72) dX11_mean_72 rfl ?_
        refine ww_lald hX (pc := 73) (xs_62 hL) (by decide) (by omega) (by omega) dX11_mean_73 ?_
        refine sJ2 hX (pc := 74) sX11_297 (c8_X11_gcd l0 (by omega) (by omega) (by omega) (by omega)) (by decide) (Nat.le_refl 0) (Nat.le_refl 0) (Nat.le_of_ble_eq_true rfl) dX11_mean_74 (fun x_74 I_74 J_74 h_74 => ?_)
        obtain ⟨rfl, rfl, h_74⟩ := h_74
        have hg74 : x_74 = gq (J_22 62 a.toNat) (dwn (Ia 51) (Ia 51 305) (Ia 51 304) a.toNat) := by rw [h_74, gq_cm, hv66]
        have hgr := gq_r (a := J_22 62 a.toNat) (b := dwn (Ia 51) (Ia 51 305) (Ia 51 304) a.toNat) (by omega)
        refine ww_lstore hX (pc := 77) (lv' := [some (kR (some 49)), some (kI a), some (kI b), some (kL v_66), none, some (kL x_74), none]) dX11_mean_77 (by decide) rfl rfl ?_
        refine ww_iload_n hX (pc := 79) dX11_mean_79 rfl ?_
        refine ww_if_ne hX (pc := 80) (tgt := 92) dX11_mean_80 (by decide) (fun h_80 => ?_) (fun h_80 => ?_)
        · simp only [w32_mod] at h_80
          refine ww_lload_n hX (pc := 92) dX11_mean_92 rfl ?_
          refine ww_lload hX (pc := 93) dX11_mean_93 rfl ?_
          refine ww_ldiv hX (pc := 95) dX11_mean_95 (by rw [w64_id (by omega) (by omega)]; omega) ?_
          refine ww_toL (b := mPt (J_22 62 a.toNat) (dwn (Ia 51) (Ia 51 305) (Ia 51 304) a.toNat) (if b = 0 then 1 else 0)) (by
              unfold mPt
              first
              | (rw [if_pos (show b = 0 by omega), if_neg (show ¬ (1 : Int) = 0 by decide), l_div_v (by omega) (by omega) (by omega) (by omega), hg74])
              | (rw [if_neg (show ¬ b = 0 by omega), if_pos rfl, l_div_v (by omega) (by omega) (by omega) (by omega), hg74, hv66])) ?_
          refine rJ hX (pc := 96) hT (Nat.le_refl 0) (Nat.le_refl 0) dX11_mean_96 ?_
          exact ⟨kI_22, kJ_22, cI_22, e51_22, hqf, (fun _ => ⟨_, hmr, rfl⟩), (fun h9 => absurd (by omega) h9)⟩
        · simp only [w32_mod] at h_80
          refine ww_aload_n hX (pc := 83) dX11_mean_83 rfl ?_
          refine ww_getR hX (pc := 84) fX11_58 (by decide) (xs_49 hL) (xr_49_24 hL) dX11_mean_84 ?_
          refine ww_iload_n hX (pc := 87) dX11_mean_87 rfl ?_
          refine ww_lald hX (pc := 88) (xs_62 hL) (by decide) (by omega) (by omega) dX11_mean_88 ?_
          refine ww_goto hX (pc := 89) (tgt := 93) dX11_mean_89 (by decide) ?_
          refine ww_lload hX (pc := 93) dX11_mean_93 rfl ?_
          refine ww_ldiv hX (pc := 95) dX11_mean_95 (by rw [w64_id (by omega) (by omega)]; omega) ?_
          refine ww_toL (b := mPt (J_22 62 a.toNat) (dwn (Ia 51) (Ia 51 305) (Ia 51 304) a.toNat) (if b = 0 then 1 else 0)) (by
              unfold mPt
              first
              | (rw [if_pos (show b = 0 by omega), if_neg (show ¬ (1 : Int) = 0 by decide), l_div_v (by omega) (by omega) (by omega) (by omega), hg74])
              | (rw [if_neg (show ¬ b = 0 by omega), if_pos rfl, l_div_v (by omega) (by omega) (by omega) (by omega), hg74, hv66])) ?_
          refine rJ hX (pc := 96) hT (Nat.le_refl 0) (Nat.le_refl 0) dX11_mean_96 ?_
          exact ⟨kI_22, kJ_22, cI_22, e51_22, hqf, (fun _ => ⟨_, hmr, rfl⟩), (fun h9 => absurd (by omega) h9)⟩
      · simp only [w32_mod] at h_40
        refine ww_aload_n hX (pc := 43) dX11_mean_43 rfl ?_
        refine ww_getR hX (pc := 44) fX11_20 (by decide) (xs_49 hL) (xr_49_3 hL) dX11_mean_44 ?_
        refine ww_sipush hX (pc := 47) (x := 305) dX11_mean_47 (by decide) ?_
        refine ww_iald hX (pc := 50) (xs_51 hL) (by decide) (by omega) (by omega) dX11_mean_50 ?_
        refine ww_toI (b := I_22 51 305) rfl ?_
        refine ww_goto hX (pc := 51) (tgt := 64) dX11_mean_51 (by decide) ?_
        refine ww_i2l hX (pc := 64) dX11_mean_64 ?_
        refine ww_lmul hX (pc := 65) dX11_mean_65 ?_
        refine ww_nmL (fun v_66 hv_66 => ?_)
        refine ww_lstore_n hX (pc := 66) (lv' := [some (kR (some 49)), some (kI a), some (kI b), some (kL v_66), none, none, none]) dX11_mean_66 (by decide) rfl rfl ?_
        have hv66 : v_66 = dwn (Ia 51) (Ia 51 305) (Ia 51 304) a.toNat := by
          unfold dwn
          rw [hv_66, w32_id (by omega) (by omega), e51_22, h_31]
          first
          | (rw [if_pos (show Ia 51 a.toNat = -1 by omega)])
          | (rw [if_neg (show ¬ Ia 51 a.toNat = -1 by omega)])
        have hdn : 1 ≤ v_66 ∧ v_66 ≤ 46118408 := by rw [hv66]; unfold dwn; exact mul_small hp7 (by split <;> omega)
        refine ww_lload_n hX (pc := 67) dX11_mean_67 rfl ?_
        refine ww_aload_n hX (pc := 68) dX11_mean_68 rfl ?_
        refine ww_getR hX (pc := 69) fX11_58 (by decide) (xs_49 hL) (xr_49_24 hL) dX11_mean_69 ?_
        refine ww_iload_n hX (pc := 72) dX11_mean_72 rfl ?_
        refine ww_lald hX (pc := 73) (xs_62 hL) (by decide) (by omega) (by omega) dX11_mean_73 ?_
        refine sJ2 hX (pc := 74) sX11_297 (c8_X11_gcd l0 (by omega) (by omega) (by omega) (by omega)) (by decide) (Nat.le_refl 0) (Nat.le_refl 0) (Nat.le_of_ble_eq_true rfl) dX11_mean_74 (fun x_74 I_74 J_74 h_74 => ?_)
        obtain ⟨rfl, rfl, h_74⟩ := h_74
        have hg74 : x_74 = gq (J_22 62 a.toNat) (dwn (Ia 51) (Ia 51 305) (Ia 51 304) a.toNat) := by rw [h_74, gq_cm, hv66]
        have hgr := gq_r (a := J_22 62 a.toNat) (b := dwn (Ia 51) (Ia 51 305) (Ia 51 304) a.toNat) (by omega)
        refine ww_lstore hX (pc := 77) (lv' := [some (kR (some 49)), some (kI a), some (kI b), some (kL v_66), none, some (kL x_74), none]) dX11_mean_77 (by decide) rfl rfl ?_
        refine ww_iload_n hX (pc := 79) dX11_mean_79 rfl ?_
        refine ww_if_ne hX (pc := 80) (tgt := 92) dX11_mean_80 (by decide) (fun h_80 => ?_) (fun h_80 => ?_)
        · simp only [w32_mod] at h_80
          refine ww_lload_n hX (pc := 92) dX11_mean_92 rfl ?_
          refine ww_lload hX (pc := 93) dX11_mean_93 rfl ?_
          refine ww_ldiv hX (pc := 95) dX11_mean_95 (by rw [w64_id (by omega) (by omega)]; omega) ?_
          refine ww_toL (b := mPt (J_22 62 a.toNat) (dwn (Ia 51) (Ia 51 305) (Ia 51 304) a.toNat) (if b = 0 then 1 else 0)) (by
              unfold mPt
              first
              | (rw [if_pos (show b = 0 by omega), if_neg (show ¬ (1 : Int) = 0 by decide), l_div_v (by omega) (by omega) (by omega) (by omega), hg74])
              | (rw [if_neg (show ¬ b = 0 by omega), if_pos rfl, l_div_v (by omega) (by omega) (by omega) (by omega), hg74, hv66])) ?_
          refine rJ hX (pc := 96) hT (Nat.le_refl 0) (Nat.le_refl 0) dX11_mean_96 ?_
          exact ⟨kI_22, kJ_22, cI_22, e51_22, hqf, (fun _ => ⟨_, hmr, rfl⟩), (fun h9 => absurd (by omega) h9)⟩
        · simp only [w32_mod] at h_80
          refine ww_aload_n hX (pc := 83) dX11_mean_83 rfl ?_
          refine ww_getR hX (pc := 84) fX11_58 (by decide) (xs_49 hL) (xr_49_24 hL) dX11_mean_84 ?_
          refine ww_iload_n hX (pc := 87) dX11_mean_87 rfl ?_
          refine ww_lald hX (pc := 88) (xs_62 hL) (by decide) (by omega) (by omega) dX11_mean_88 ?_
          refine ww_goto hX (pc := 89) (tgt := 93) dX11_mean_89 (by decide) ?_
          refine ww_lload hX (pc := 93) dX11_mean_93 rfl ?_
          refine ww_ldiv hX (pc := 95) dX11_mean_95 (by rw [w64_id (by omega) (by omega)]; omega) ?_
          refine ww_toL (b := mPt (J_22 62 a.toNat) (dwn (Ia 51) (Ia 51 305) (Ia 51 304) a.toNat) (if b = 0 then 1 else 0)) (by
              unfold mPt
              first
              | (rw [if_pos (show b = 0 by omega), if_neg (show ¬ (1 : Int) = 0 by decide), l_div_v (by omega) (by omega) (by omega) (by omega), hg74])
              | (rw [if_neg (show ¬ b = 0 by omega), if_pos rfl, l_div_v (by omega) (by omega) (by omega) (by omega), hg74, hv66])) ?_
          refine rJ hX (pc := 96) hT (Nat.le_refl 0) (Nat.le_refl 0) dX11_mean_96 ?_
          exact ⟨kI_22, kJ_22, cI_22, e51_22, hqf, (fun _ => ⟨_, hmr, rfl⟩), (fun h9 => absurd (by omega) h9)⟩
    · simp only [w32_mod] at h_14
      refine ww_ldc2 hX (pc := 17) (x := (-1)) dX11_mean_17 tb_1398 ?_
      refine rJ hX (pc := 20) hT (Nat.le_refl 0) (Nat.le_refl 0) dX11_mean_20 ?_
      exact ⟨Ch_rf, (Kp_rf (a := 49) (b := 73)), hQ, rfl, hq, (fun h9 => absurd h9 (by omega)), (fun _ => rfl)⟩
end
