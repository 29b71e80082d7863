/-- the least that was seen, and by which NEWS -/
def LEi (nx : Int → Int) (L : Nat → Int) (ne le : Int) : Prop := (ne = -1 ∧ le = 1000000000) ∨ (0 ≤ ne ∧ le = lbv L (nx ne))
theorem WS_o {nx : Int → Int} {L : Nat → Int} {own ne i : Int} (hw : ne = fW (wsF nx L own) (-1) i.toNat) (hi : 0 ≤ i) (ho : i = own) : ne = fW (wsF nx L own) (-1) (i + 1).toNat := by
  rw [fW_s _ _ hi, ← hw]
  unfold wsF
  rw [if_neg (fun h9 => h9.1 (by omega))]
theorem WS_n {nx : Int → Int} {L : Nat → Int} {own ne le lb i : Int} (hw : ne = fW (wsF nx L own) (-1) i.toNat) (hi : 0 ≤ i) (hl : LEi nx L ne le) (hb : lbv L (nx i) = lb) (hle : le ≤ lb) (hr : lb ≤ 8) : ne = fW (wsF nx L own) (-1) (i + 1).toNat := by
  rw [fW_s _ _ hi, ← hw]
  unfold wsF
  rw [show ((i.toNat : Nat) : Int) = i by omega, hb, if_neg]
  intro h9
  rcases hl with ⟨h1, h2⟩ | ⟨h1, h2⟩
  · omega
  · have h3 := h9.2
    rw [← h2] at h3
    omega
theorem WS_y {nx : Int → Int} {L : Nat → Int} {own ne le lb i : Int} (hw : ne = fW (wsF nx L own) (-1) i.toNat) (hi : 0 ≤ i) (hl : LEi nx L ne le) (hb : lbv L (nx i) = lb) (hle : lb < le) (ho : ¬ i = own) : i = fW (wsF nx L own) (-1) (i + 1).toNat ∧ LEi nx L i lb := by
  refine ⟨?_, Or.inr ⟨hi, hb.symm⟩⟩
  rw [fW_s _ _ hi, ← hw]
  unfold wsF
  rw [show ((i.toNat : Nat) : Int) = i by omega, hb, if_pos]
  refine ⟨ho, ?_⟩
  rcases hl with ⟨h1, h2⟩ | ⟨h1, h2⟩
  · exact Or.inl h1
  · exact Or.inr (by rw [← h2]; exact hle)

set_option maxHeartbeats 4000000 in
set_option maxRecDepth 20000 in
theorem c8_X11_failing0 (l0 : Launch) {Ia Ja : aI1} {Ra : aR1} {Sa : aS1} (hL : LY Ra Sa) (hQ : RX Ia) (hO : ∀ l, l < 8 → 0 ≤ Ia 51 (256 + l) ∧ Ia 51 (256 + l) ≤ 99) (hcr : ∀ t : Nat, (t : Int) ≤ FU (Ia 51 304) → -1 ≤ Ia 51 t ∧ Ia 51 t ≤ 7) (hK : ∀ s : Nat, (s : Int) ≤ FU (Ia 51 304) → Ia 51 s < Ia 51 305) {vv : Int} (hq : QF Ia Ja vv) (hv9 : vv ≤ 1000000)  : CT l0 5 0 0 mX11_failing0 [kR (some 49)] Ia Ja Ra Sa (cV (fun I' J' => Ch [61, 64] [25, 28] Ia I' ∧ Kp 49 73 Ja J' ∧ RX I' ∧ I' 51 = Ia 51 ∧ QF I' J' vv ∧ ∃ L M, zLV (Ia 51) (Ia 51 306) (FU (Ia 51 304) + 1) (Ia 51 305) (-1) L ∧ MRc (Ia 51) (Ia 51 306) (Ia 51 304) (Ia 51 305) M ∧ FLg (fun s x => NX (bR 2 s (Ia 51 304) (Ia 51 305) (Ia 51) L M) (Ia 51) (Ia 51 306) s (FU (Ia 51 304) + 1) x) L (Ia 51) (Ia 51 305) (I' 64) (I' 49 28)) Ra Sa) := by
  refine ct_in pn_X11 (Nat.le_of_ble_eq_true rfl) (fun X hX hT hIn => ?_)
  have hX : aK l0 X cX11_failing0 7 RX11 none 5 0 0 := hX
  change WW X 0 [some (kR (some 49)), none, none, none, none, none, none] [] Ia Ja Ra Sa 0 0
  have qIa := RX_s hQ
  refine ww_aload_n hX (pc := 0) dX11_failing0_0 rfl ?_
  refine vV0 hX (pc := 1) sX11_294 (xs_49 hL) (c8_X11_looks l0 hL hQ hcr hK hq hv9) (by decide) (Nat.le_refl 0) (Nat.le_refl 0) (Nat.le_of_ble_eq_true rfl) dX11_failing0_1 (fun I_1 J_1 h_1 => ?_)
  have kJ_1 : Kp 49 73 Ja J_1 := Kp_tr (Kp_rf (a := 49) (b := 73)) h_1.2.1
  have kI_1 : Ch [61, 64] [25, 28] Ia I_1 := Ch_tr Ch_rf (Ch_wd h_1.1 (by decide) (by decide))
  have cI_1 : RX I_1 := h_1.2.2.1
  have qI_1 := RX_s cI_1
  have r304_I_1 : I_1 51 304 = Ia 51 304 := by rw [h_1.1.1 51 (by decide) (by decide)]
  have r305_I_1 : I_1 51 305 = Ia 51 305 := by rw [h_1.1.1 51 (by decide) (by decide)]
  have rf_I_1 : FU (I_1 51 304) = FU (Ia 51 304) := by rw [r304_I_1]
  have e51_1 : I_1 51 = Ia 51 := h_1.2.2.2.1
  have hq9_1 := h_1.2.2.2.2.1
  have hq8_1 := h_1.1.2 1 (by decide)
  have hq7 := hq.1
  have hrt9 := h_1.2.2.2.2.2
  have hqf : QF I_1 J_1 vv := ⟨by omega, by omega, fun _ => hrt9⟩
  unfold RT at hrt9
  rw [e51_1] at hrt9
  have hzl := hrt9.1
  have hmr := hrt9.2
  clear hrt9
  have efu : FU (I_1 51 304) = FU (Ia 51 304) := by rw [e51_1]
  have kp_I_1 : I_1 51 = Ia 51 ∧ I_1 61 = I_1 61 ∧ I_1 49 1 = Ia 49 1 ∧ I_1 49 25 = I_1 49 25 ∧ I_1 50 = Ia 50 := ⟨e51_1, rfl, hq8_1, rfl, h_1.1.1 50 (by decide) (by decide)⟩
  refine ww_aload_n hX (pc := 4) dX11_failing0_4 rfl ?_
  refine ww_iconst hX (pc := 5) (x := 0) dX11_failing0_5 rfl ?_
  refine ww_putI hX (pc := 6) (fun h9 => absurd h9 (by decide)) gX11_318 rfl (xs_49 hL) dX11_failing0_6 ?_
  refine ww_nmH (fun I_6 eI_6 => ?_)
  have kI_6 : Ch [61, 64] [25, 28] Ia I_6 := by rw [eI_6]; exact Ch_f kI_1 (by decide)
  have cI_6 : RX I_6 := by rw [eI_6]; exact RX_f cI_1 (by decide)
  have qI_6 := RX_s cI_6
  have r304_I_6 : I_6 51 304 = I_1 51 304 := by rw [eI_6, up2_off _ _ _ (by decide)]
  have r305_I_6 : I_6 51 305 = I_1 51 305 := by rw [eI_6, up2_off _ _ _ (by decide)]
  have rf_I_6 : FU (I_6 51 304) = FU (I_1 51 304) := by rw [r304_I_6]
  have kp_I_6 : I_6 51 = Ia 51 ∧ I_6 61 = I_1 61 ∧ I_6 49 1 = Ia 49 1 ∧ I_6 49 25 = I_1 49 25 ∧ I_6 50 = Ia 50 := ⟨Eq.trans (by first | rw [eI_6, up2_off _ _ _ (by decide)] | rw [eI_6, up2_n _ _ (Or.inr (by decide))]) kp_I_1.1, Eq.trans (by first | rw [eI_6, up2_off _ _ _ (by decide)] | rw [eI_6, up2_n _ _ (Or.inr (by decide))]) kp_I_1.2.1, Eq.trans (by first | rw [eI_6, up2_off _ _ _ (by decide)] | rw [eI_6, up2_n _ _ (Or.inr (by decide))]) kp_I_1.2.2.1, Eq.trans (by first | rw [eI_6, up2_off _ _ _ (by decide)] | rw [eI_6, up2_n _ _ (Or.inr (by decide))]) kp_I_1.2.2.2.1, Eq.trans (by first | rw [eI_6, up2_off _ _ _ (by decide)] | rw [eI_6, up2_n _ _ (Or.inr (by decide))]) kp_I_1.2.2.2.2⟩
  have hf28 : I_6 49 28 = 0 := by rw [eI_6, up2_s]
  refine ww_iconst hX (pc := 9) (x := 0) dX11_failing0_9 rfl ?_
  refine ww_istore_n hX (pc := 10) (lv' := [some (kR (some 49)), some (kI 0), none, none, none, none, none]) dX11_failing0_10 (by decide) rfl rfl ?_
  have hl_11 : ∀ (n_11 : Nat) (sa : Int) (I11 : aI1), (10 - I11 49 28).toNat = n_11 → (Ch [61, 64] [25, 28] Ia I11 ∧ RX I11 ∧ I11 51 304 = I_6 51 304 ∧ I11 51 305 = I_6 51 305 ∧ ((sa = -1 ∧ 1 ≤ I11 49 28) ∨ (0 ≤ sa ∧ sa ≤ FU (Ia 51 304) ∧ I11 49 28 ≤ pcn sa.toNat)) ∧ 0 ≤ I11 49 28 ∧ I11 49 28 ≤ 9 ∧ (I11 51 = Ia 51 ∧ I11 61 = I_1 61 ∧ I11 49 1 = Ia 49 1 ∧ I11 49 25 = I_1 49 25 ∧ I11 50 = Ia 50) ∧ sa = cSt (fun s x => NX (bR 2 s (Ia 51 304) (Ia 51 305) (Ia 51) (I_1 61) (J_1 62)) (Ia 51) (Ia 51 306) s (FU (Ia 51 304) + 1) x) (I_1 61) (Ia 51) (Ia 51 305) (I11 49 28).toNat ∧ (∀ j : Nat, (j : Int) < I11 49 28 → I11 64 j = wst ((fun s x => NX (bR 2 s (Ia 51 304) (Ia 51 305) (Ia 51) (I_1 61) (J_1 62)) (Ia 51) (Ia 51 306) s (FU (Ia 51 304) + 1) x) (cSt (fun s x => NX (bR 2 s (Ia 51 304) (Ia 51 305) (Ia 51) (I_1 61) (J_1 62)) (Ia 51) (Ia 51 306) s (FU (Ia 51 304) + 1) x) (I_1 61) (Ia 51) (Ia 51 305) j)) (I_1 61) (Ia 51 (cSt (fun s x => NX (bR 2 s (Ia 51 304) (Ia 51 305) (Ia 51) (I_1 61) (J_1 62)) (Ia 51) (Ia 51 306) s (FU (Ia 51 304) + 1) x) (I_1 61) (Ia 51) (Ia 51 305) j).toNat) (Ia 51 305) ∧ 0 ≤ cSt (fun s x => NX (bR 2 s (Ia 51 304) (Ia 51 305) (Ia 51) (I_1 61) (J_1 62)) (Ia 51) (Ia 51 306) s (FU (Ia 51 304) + 1) x) (I_1 61) (Ia 51) (Ia 51 305) j)) → WW X 11 [some (kR (some 49)), some (kI sa), none, none, none, none, none] [] I11 J_1 Ra Sa 0 0 := by
    intro n_11
    induction n_11 using Nat.strongRecOn with
    | ind n_11 ih_11 =>
      intro sa I11 hm_11 hv_11
      have hq_11 := Sh0_i hm_11
      clear hm_11
      obtain ⟨kI11, cI11, r304_I11, r305_I11, hv, hv1, hv2, kp_I11, hsc, hfj⟩ := hv_11
      have qI11 := RX_s cI11
      have rf_I11 : FU (I11 51 304) = FU (I_6 51 304) := by rw [r304_I11]
      have hp8 := pcn_r sa.toNat
      have efu11 : FU (I11 51 304) = FU (Ia 51 304) := by rw [kp_I11.1]
      have e305_11 : I11 51 305 = Ia 51 305 := by rw [kp_I11.1]
      refine ww_iload_n hX (pc := 11) dX11_failing0_11 rfl ?_
      refine ww_iconst hX (pc := 12) (x := (-1)) dX11_failing0_12 rfl ?_
      refine ww_icmp_eq hX (pc := 13) (tgt := 143) dX11_failing0_13 (by decide) (fun h_13 => ?_) (fun h_13 => ?_)
      · simp only [w32_mod] at h_13
        refine rV hX (pc := 143) hT (Nat.le_refl 0) (Nat.le_refl 0) dX11_failing0_143 ?_
        exact ⟨kI11, kJ_1, cI11, kp_I11.1, QF_kp hqf (kp_I11.2.2.1.trans hq8_1.symm) kp_I11.2.2.2.1 (kp_I11.1.trans e51_1.symm) kp_I11.2.1 rfl (Int.le_refl _), _, _, hzl, hmr, ⟨by omega, by omega, hfj, by rw [← hsc]; omega⟩⟩
      · simp only [w32_mod] at h_13
        refine ww_ldcw hX (pc := 16) (x := 1000000000) dX11_failing0_16 tb_1457 ?_
        refine ww_istore_n hX (pc := 19) (lv' := [some (kR (some 49)), some (kI sa), some (kI 1000000000), none, none, none, none]) dX11_failing0_19 (by decide) rfl rfl ?_
        refine ww_iconst hX (pc := 20) (x := (-1)) dX11_failing0_20 rfl ?_
        refine ww_istore_n hX (pc := 21) (lv' := [some (kR (some 49)), some (kI sa), some (kI 1000000000), some (kI (-1)), none, none, none]) dX11_failing0_21 (by decide) rfl rfl ?_
        refine ww_iconst hX (pc := 22) (x := 0) dX11_failing0_22 rfl ?_
        refine ww_istore hX (pc := 23) (lv' := [some (kR (some 49)), some (kI sa), some (kI 1000000000), some (kI (-1)), some (kI 0), none, none]) dX11_failing0_23 (by decide) rfl rfl ?_
        have hl_25 : ∀ (n_25 : Nat) (le : Int) (ne : Int) (i : Int), (I11 51 305 - i).toNat = n_25 → (((0 ≤ i ∧ i ≤ I11 51 305) ∧ (-1 ≤ le ∧ le ≤ 1000000000)) ∧ ne = fW (wsF ((fun s x => NX (bR 2 s (Ia 51 304) (Ia 51 305) (Ia 51) (I_1 61) (J_1 62)) (Ia 51) (Ia 51 306) s (FU (Ia 51 304) + 1) x) sa) (I_1 61) (Ia 51 sa.toNat)) (-1) i.toNat ∧ LEi ((fun s x => NX (bR 2 s (Ia 51 304) (Ia 51 305) (Ia 51) (I_1 61) (J_1 62)) (Ia 51) (Ia 51 306) s (FU (Ia 51 304) + 1) x) sa) (I_1 61) ne le) → WW X 25 [some (kR (some 49)), some (kI sa), some (kI le), some (kI ne), some (kI i), none, none] [] I11 J_1 Ra Sa 0 0 := by
          intro n_25
          induction n_25 using Nat.strongRecOn with
          | ind n_25 ih_25 =>
            intro le ne i hm_25 hv_25
            have hq_25 := Sh0_i hm_25
            clear hm_25
            obtain ⟨hu, hws, hle⟩ := hv_25
            refine ww_iload hX (pc := 25) dX11_failing0_25 rfl ?_
            refine ww_aload_n hX (pc := 27) dX11_failing0_27 rfl ?_
            refine ww_getR hX (pc := 28) fX11_20 (by decide) (xs_49 hL) (xr_49_3 hL) dX11_failing0_28 ?_
            refine ww_sipush hX (pc := 31) (x := 305) dX11_failing0_31 (by decide) ?_
            refine ww_iald hX (pc := 34) (xs_51 hL) (by decide) (by omega) (by omega) dX11_failing0_34 ?_
            refine ww_toI (b := I11 51 305) rfl ?_
            refine ww_icmp_ge hX (pc := 35) (tgt := 112) dX11_failing0_35 (by decide) (fun h_35 => ?_) (fun h_35 => ?_)
            · simp only [w32_mod] at h_35
              refine ww_aload_n hX (pc := 112) dX11_failing0_112 rfl ?_
              refine ww_getR hX (pc := 113) fX11_68 (by decide) (xs_49 hL) (xr_49_27 hL) dX11_failing0_113 ?_
              refine ww_aload_n hX (pc := 116) dX11_failing0_116 rfl ?_
              refine ww_getI hX (pc := 117) fX11_318 (by decide) (xs_49 hL) dX11_failing0_117 ?_
              refine ww_iload_n hX (pc := 120) dX11_failing0_120 rfl ?_
              refine ww_iast hX (pc := 121) (xs_64 hL) (by decide) (by omega) (by omega) dX11_failing0_121 ?_
              refine ww_nmH (fun I_121 eI_121 => ?_)
              have kI_121 : Ch [61, 64] [25, 28] Ia I_121 := by rw [eI_121]; exact Ch_r kI11 (by decide) (by decide)
              have cI_121 : RX I_121 := by rw [eI_121]; exact RX_r cI11 (by decide)
              have qI_121 := RX_s cI_121
              have r304_I_121 : I_121 51 304 = I11 51 304 := by rw [eI_121, up2_off _ _ _ (by decide)]
              have r305_I_121 : I_121 51 305 = I11 51 305 := by rw [eI_121, up2_off _ _ _ (by decide)]
              have rf_I_121 : FU (I_121 51 304) = FU (I11 51 304) := by rw [r304_I_121]
              have kp_I_121 : I_121 51 = Ia 51 ∧ I_121 61 = I_1 61 ∧ I_121 49 1 = Ia 49 1 ∧ I_121 49 25 = I_1 49 25 ∧ I_121 50 = Ia 50 := ⟨Eq.trans (by first | rw [eI_121, up2_off _ _ _ (by decide)] | rw [eI_121, up2_n _ _ (Or.inr (by decide))]) kp_I11.1, Eq.trans (by first | rw [eI_121, up2_off _ _ _ (by decide)] | rw [eI_121, up2_n _ _ (Or.inr (by decide))]) kp_I11.2.1, Eq.trans (by first | rw [eI_121, up2_off _ _ _ (by decide)] | rw [eI_121, up2_n _ _ (Or.inr (by decide))]) kp_I11.2.2.1, Eq.trans (by first | rw [eI_121, up2_off _ _ _ (by decide)] | rw [eI_121, up2_n _ _ (Or.inr (by decide))]) kp_I11.2.2.2.1, Eq.trans (by first | rw [eI_121, up2_off _ _ _ (by decide)] | rw [eI_121, up2_n _ _ (Or.inr (by decide))]) kp_I11.2.2.2.2⟩
              have hws9 : ne = wst ((fun s x => NX (bR 2 s (Ia 51 304) (Ia 51 305) (Ia 51) (I_1 61) (J_1 62)) (Ia 51) (Ia 51 306) s (FU (Ia 51 304) + 1) x) sa) (I_1 61) (Ia 51 sa.toNat) (Ia 51 305) := by
                rw [show i = Ia 51 305 by omega] at hws
                exact hws
              have hwr9 := wst_r (nx := (fun s x => NX (bR 2 s (Ia 51 304) (Ia 51 305) (Ia 51) (I_1 61) (J_1 62)) (Ia 51) (Ia 51 306) s (FU (Ia 51 304) + 1) x) sa) (L := I_1 61) (own := (Ia 51 sa.toNat)) (K := Ia 51 305) (by omega)
              rw [← hws9] at hwr9
              have hf64_ : I_121 64 = up1 (I11 64) (I11 49 28).toNat ne := by rw [eI_121, up2_row]
              refine ww_aload_n hX (pc := 122) dX11_failing0_122 rfl ?_
              refine ww_dupR hX (pc := 123) dX11_failing0_123 ?_
              refine ww_getI hX (pc := 124) fX11_318 (by decide) (xs_49 hL) dX11_failing0_124 ?_
              refine ww_iconst hX (pc := 127) (x := 1) dX11_failing0_127 rfl ?_
              refine ww_iadd hX (pc := 128) dX11_failing0_128 ?_
              refine ww_putI hX (pc := 129) (fun h9 => absurd h9 (by decide)) gX11_318 rfl (xs_49 hL) dX11_failing0_129 ?_
              refine ww_nmH (fun I_129 eI_129 => ?_)
              have kI_129 : Ch [61, 64] [25, 28] Ia I_129 := by rw [eI_129]; exact Ch_f kI_121 (by decide)
              have cI_129 : RX I_129 := by rw [eI_129]; exact RX_f cI_121 (by decide)
              have qI_129 := RX_s cI_129
              have r304_I_129 : I_129 51 304 = I_121 51 304 := by rw [eI_129, up2_off _ _ _ (by decide)]
              have r305_I_129 : I_129 51 305 = I_121 51 305 := by rw [eI_129, up2_off _ _ _ (by decide)]
              have rf_I_129 : FU (I_129 51 304) = FU (I_121 51 304) := by rw [r304_I_129]
              have kp_I_129 : I_129 51 = Ia 51 ∧ I_129 61 = I_1 61 ∧ I_129 49 1 = Ia 49 1 ∧ I_129 49 25 = I_1 49 25 ∧ I_129 50 = Ia 50 := ⟨Eq.trans (by first | rw [eI_129, up2_off _ _ _ (by decide)] | rw [eI_129, up2_n _ _ (Or.inr (by decide))]) kp_I_121.1, Eq.trans (by first | rw [eI_129, up2_off _ _ _ (by decide)] | rw [eI_129, up2_n _ _ (Or.inr (by decide))]) kp_I_121.2.1, Eq.trans (by first | rw [eI_129, up2_off _ _ _ (by decide)] | rw [eI_129, up2_n _ _ (Or.inr (by decide))]) kp_I_121.2.2.1, Eq.trans (by first | rw [eI_129, up2_off _ _ _ (by decide)] | rw [eI_129, up2_n _ _ (Or.inr (by decide))]) kp_I_121.2.2.2.1, Eq.trans (by first | rw [eI_129, up2_off _ _ _ (by decide)] | rw [eI_129, up2_n _ _ (Or.inr (by decide))]) kp_I_121.2.2.2.2⟩
              have hf28 : I_129 49 28 = I11 49 28 + 1 := by rw [eI_129, up2_s, eI_121, up2_off _ _ _ (by decide)]
              have hf64 : I_129 64 = up1 (I11 64) (I11 49 28).toNat ne := by rw [eI_129, up2_off _ _ _ (by decide), hf64_]
              have efu129 : FU (I_129 51 304) = FU (Ia 51 304) := by rw [kp_I_129.1]
              refine ww_aload_n hX (pc := 132) dX11_failing0_132 rfl ?_
              refine ww_iload_n hX (pc := 133) dX11_failing0_133 rfl ?_
              refine ww_iload_n hX (pc := 134) dX11_failing0_134 rfl ?_
              refine ww_iconst hX (pc := 135) (x := 2) dX11_failing0_135 rfl ?_
              refine vI3 hX (pc := 136) sX11_311 (xs_49 hL) (c8_X11_nextOf l0 hL cI_129 (by omega) (by omega) (by omega) (by omega) (by omega) (by omega) (by rw [kp_I_129.1]; exact hO) (by rw [kp_I_129.1]; exact hcr) (by rw [kp_I_129.1]; exact fun t ht => (hmr t ht).2)) (by decide) (Nat.le_refl 0) (Nat.le_refl 0) (Nat.le_of_ble_eq_true rfl) dX11_failing0_136 (fun x_136 I_136 J_136 h_136 => ?_)
              obtain ⟨rfl, rfl, h_136⟩ := h_136
              rw [kp_I_129.1, kp_I_129.2.1] at h_136
              have hst : x_136 = -1 ∨ (0 ≤ x_136 ∧ x_136 ≤ FU (Ia 51 304) ∧ pcn sa.toNat + 1 ≤ pcn x_136.toNat) := by
                have hnr := NX_r (bt := bR 2 sa (Ia 51 304) (Ia 51 305) (Ia 51) (I_1 61) (J_1 62)) (code := Ia 51) (g := Ia 51 306) (s := sa) (N := (FU (Ia 51 304) + 1)) (x := ne) (by omega)
                rw [← h_136] at hnr
                rcases hnr with h9 | ⟨g1, g2, g3, g4, g5⟩
                · exact Or.inl h9
                · refine Or.inr ⟨by omega, by omega, pcn_lt g4 ?_ (by omega)⟩
                  have : ¬ x_136 = sa := fun e9 => by
                    rw [e9] at g3
                    omega
                  omega
              have hpx := pcn_r x_136.toNat
              have hsc2 : x_136 = cSt (fun s x => NX (bR 2 s (Ia 51 304) (Ia 51 305) (Ia 51) (I_1 61) (J_1 62)) (Ia 51) (Ia 51 306) s (FU (Ia 51 304) + 1) x) (I_1 61) (Ia 51) (Ia 51 305) (I_129 49 28).toNat := by
                rw [hf28, show (I11 49 28 + 1).toNat = (I11 49 28).toNat + 1 by omega]
                show x_136 = (fun s x => NX (bR 2 s (Ia 51 304) (Ia 51 305) (Ia 51) (I_1 61) (J_1 62)) (Ia 51) (Ia 51 306) s (FU (Ia 51 304) + 1) x) (cSt (fun s x => NX (bR 2 s (Ia 51 304) (Ia 51 305) (Ia 51) (I_1 61) (J_1 62)) (Ia 51) (Ia 51 306) s (FU (Ia 51 304) + 1) x) (I_1 61) (Ia 51) (Ia 51 305) (I11 49 28).toNat) (wst ((fun s x => NX (bR 2 s (Ia 51 304) (Ia 51 305) (Ia 51) (I_1 61) (J_1 62)) (Ia 51) (Ia 51 306) s (FU (Ia 51 304) + 1) x) (cSt (fun s x => NX (bR 2 s (Ia 51 304) (Ia 51 305) (Ia 51) (I_1 61) (J_1 62)) (Ia 51) (Ia 51 306) s (FU (Ia 51 304) + 1) x) (I_1 61) (Ia 51) (Ia 51 305) (I11 49 28).toNat)) (I_1 61) (Ia 51 (cSt (fun s x => NX (bR 2 s (Ia 51 304) (Ia 51 305) (Ia 51) (I_1 61) (J_1 62)) (Ia 51) (Ia 51 306) s (FU (Ia 51 304) + 1) x) (I_1 61) (Ia 51) (Ia 51 305) (I11 49 28).toNat).toNat) (Ia 51 305))
                rw [← hsc, ← hws9]
                exact h_136
              have hfj2 : ∀ j : Nat, (j : Int) < I_129 49 28 → I_129 64 j = wst ((fun s x => NX (bR 2 s (Ia 51 304) (Ia 51 305) (Ia 51) (I_1 61) (J_1 62)) (Ia 51) (Ia 51 306) s (FU (Ia 51 304) + 1) x) (cSt (fun s x => NX (bR 2 s (Ia 51 304) (Ia 51 305) (Ia 51) (I_1 61) (J_1 62)) (Ia 51) (Ia 51 306) s (FU (Ia 51 304) + 1) x) (I_1 61) (Ia 51) (Ia 51 305) j)) (I_1 61) (Ia 51 (cSt (fun s x => NX (bR 2 s (Ia 51 304) (Ia 51 305) (Ia 51) (I_1 61) (J_1 62)) (Ia 51) (Ia 51 306) s (FU (Ia 51 304) + 1) x) (I_1 61) (Ia 51) (Ia 51 305) j).toNat) (Ia 51 305) ∧ 0 ≤ cSt (fun s x => NX (bR 2 s (Ia 51 304) (Ia 51 305) (Ia 51) (I_1 61) (J_1 62)) (Ia 51) (Ia 51 306) s (FU (Ia 51 304) + 1) x) (I_1 61) (Ia 51) (Ia 51 305) j := fun j hj => by
                rw [hf64]
                by_cases e9 : j = (I11 49 28).toNat
                · rw [e9, up1_s, ← hsc]
                  exact ⟨hws9, by omega⟩
                · rw [up1_n _ _ e9]
                  exact hfj j (by omega)
              refine ww_istore_n hX (pc := 139) (lv' := [some (kR (some 49)), some (kI x_136), some (kI le), some (kI ne), some (kI i), none, none]) dX11_failing0_139 (by decide) rfl rfl ?_
              refine ww_goto hX (pc := 140) (tgt := 11) dX11_failing0_140 (by decide) ?_
              refine ww_sub [some (kR (some 49)), some (kI x_136), none, none, none, none, none] (aLe_s (aLe_s (aLe_n (aLe_n (aLe_n (aLe_n (aLe_n aLe_0))))))) ?_
              exact ih_11 _ (by have hm9 := Sh0_e hq_11; omega) x_136 I_129 rfl ⟨kI_129, cI_129, by omega, by omega, by omega, by omega, by omega, kp_I_129, hsc2, hfj2⟩
            · simp only [w32_mod] at h_35
              refine ww_iload hX (pc := 38) dX11_failing0_38 rfl ?_
              refine ww_aload_n hX (pc := 40) dX11_failing0_40 rfl ?_
              refine ww_iload_n hX (pc := 41) dX11_failing0_41 rfl ?_
              refine vI1 hX (pc := 42) sX11_126 (xs_49 hL) (c_X11_readOf l0 hL cI11 (by omega) (by omega)) (by decide) (Nat.le_refl 0) (Nat.le_refl 0) (Nat.le_of_ble_eq_true rfl) dX11_failing0_42 (fun x_42 I_42 J_42 h_42 => ?_)
              obtain ⟨rfl, rfl, h_42⟩ := h_42
              rw [kp_I11.1] at h_42
              have hc42 := hcr sa.toNat (by omega)
              refine ww_icmp_ne hX (pc := 45) (tgt := 52) dX11_failing0_45 (by decide) (fun h_45 => ?_) (fun h_45 => ?_)
              · simp only [w32_mod] at h_45
                refine ww_aload_n hX (pc := 52) dX11_failing0_52 rfl ?_
                refine ww_iload_n hX (pc := 53) dX11_failing0_53 rfl ?_
                refine ww_iload hX (pc := 54) dX11_failing0_54 rfl ?_
                refine ww_iconst hX (pc := 56) (x := 2) dX11_failing0_56 rfl ?_
                refine vI3 hX (pc := 57) sX11_311 (xs_49 hL) (c8_X11_nextOf l0 hL cI11 (by omega) (by omega) (by omega) (by omega) (by omega) (by omega) (by rw [kp_I11.1]; exact hO) (by rw [kp_I11.1]; exact hcr) (by rw [kp_I11.1]; exact fun t ht => (hmr t ht).2)) (by decide) (Nat.le_refl 0) (Nat.le_refl 0) (Nat.le_of_ble_eq_true rfl) dX11_failing0_57 (fun x_57 I_57 J_57 h_57 => ?_)
                obtain ⟨rfl, rfl, h_57⟩ := h_57
                rw [kp_I11.1, kp_I11.2.1] at h_57
                have hxn : (fun s x => NX (bR 2 s (Ia 51 304) (Ia 51 305) (Ia 51) (I_1 61) (J_1 62)) (Ia 51) (Ia 51 306) s (FU (Ia 51 304) + 1) x) sa i = x_57 := h_57.symm
                have hnr := NX_r (bt := bR 2 sa (Ia 51 304) (Ia 51 305) (Ia 51) (I_1 61) (J_1 62)) (code := Ia 51) (g := Ia 51 306) (s := sa) (N := (FU (Ia 51 304) + 1)) (x := i) (by omega)
                rw [← h_57] at hnr
                have hnr2 : -1 ≤ x_57 ∧ x_57 ≤ FU (Ia 51 304) := by
                  rcases hnr with h9 | h9 <;> omega
                clear hnr
                refine ww_istore hX (pc := 60) (lv' := [some (kR (some 49)), some (kI sa), some (kI le), some (kI ne), some (kI i), some (kI x_57), none]) dX11_failing0_60 (by decide) rfl rfl ?_
                refine ww_iload hX (pc := 62) dX11_failing0_62 rfl ?_
                refine ww_iconst hX (pc := 64) (x := (-1)) dX11_failing0_64 rfl ?_
                refine ww_icmp_ne hX (pc := 65) (tgt := 72) dX11_failing0_65 (by decide) (fun h_65 => ?_) (fun h_65 => ?_)
                · simp only [w32_mod] at h_65
                  have hlb := cI11.2.2.1 x_57.toNat (by omega)
                  have hz9 := (hzl x_57.toNat (by omega) (by omega)).2.2
                  have hp9 := pcn_r x_57.toNat
                  refine ww_aload_n hX (pc := 72) dX11_failing0_72 rfl ?_
                  refine ww_getR hX (pc := 73) fX11_55 (by decide) (xs_49 hL) (xr_49_23 hL) dX11_failing0_73 ?_
                  refine ww_iload hX (pc := 76) dX11_failing0_76 rfl ?_
                  refine ww_iald hX (pc := 78) (xs_61 hL) (by decide) (by omega) (by omega) dX11_failing0_78 ?_
                  refine ww_nmI (fun v_79 hv_79 => ?_)
                  refine ww_istore hX (pc := 79) (lv' := [some (kR (some 49)), some (kI sa), some (kI le), some (kI ne), some (kI i), some (kI x_57), some (kI v_79)]) dX11_failing0_79 (by decide) rfl rfl ?_
                  have hv79 : v_79 = I_1 61 x_57.toNat := by rw [hv_79, kp_I11.2.1]
                  have hlb9 : lbv (I_1 61) ((fun s x => NX (bR 2 s (Ia 51 304) (Ia 51 305) (Ia 51) (I_1 61) (J_1 62)) (Ia 51) (Ia 51 306) s (FU (Ia 51 304) + 1) x) sa i) = v_79 := by
                    first
                    | (rw [hxn, show x_57 = -1 by omega]; rfl)
                    | (rw [hxn]; unfold lbv; rw [if_neg (by omega), hv_79, kp_I11.2.1])
                  refine ww_iload hX (pc := 81) dX11_failing0_81 rfl ?_
                  refine ww_aload_n hX (pc := 83) dX11_failing0_83 rfl ?_
                  refine ww_iload_n hX (pc := 84) dX11_failing0_84 rfl ?_
                  refine vI1 hX (pc := 85) sX11_126 (xs_49 hL) (c_X11_readOf l0 hL cI11 (by omega) (by omega)) (by decide) (Nat.le_refl 0) (Nat.le_refl 0) (Nat.le_of_ble_eq_true rfl) dX11_failing0_85 (fun x_85 I_85 J_85 h_85 => ?_)
                  obtain ⟨rfl, rfl, h_85⟩ := h_85
                  rw [kp_I11.1] at h_85
                  refine ww_icmp_eq hX (pc := 88) (tgt := 106) dX11_failing0_88 (by decide) (fun h_88 => ?_) (fun h_88 => ?_)
                  · simp only [w32_mod] at h_88
                    refine ww_iinc hX (pc := 106) (lv' := [some (kR (some 49)), some (kI sa), some (kI le), some (kI ne), some (kI (i + 1)), some (kI x_57), some (kI v_79)]) dX11_failing0_106 rfl (by decide) rfl rfl ?_
                    refine ww_goto hX (pc := 109) (tgt := 25) dX11_failing0_109 (by decide) ?_
                    refine ww_sub [some (kR (some 49)), some (kI sa), some (kI le), some (kI ne), some (kI (i + 1)), none, none] (aLe_s (aLe_s (aLe_s (aLe_s (aLe_s (aLe_n (aLe_n aLe_0))))))) ?_
                    exact ih_25 _ (by have hm9 := Sh0_e hq_25; omega) le ne (i + 1) rfl ⟨by omega, (by first | exact hws2 | exact WS_o hws (by omega) (by omega) | exact WS_n hws (by omega) hle hlb9 (by omega) (by omega)), (by first | exact hle2 | exact hle)⟩
                  · simp only [w32_mod] at h_88
                    refine ww_iload hX (pc := 91) dX11_failing0_91 rfl ?_
                    refine ww_iload_n hX (pc := 93) dX11_failing0_93 rfl ?_
                    refine ww_icmp_lt hX (pc := 94) (tgt := 100) dX11_failing0_94 (by decide) (fun h_94 => ?_) (fun h_94 => ?_)
                    · simp only [w32_mod] at h_94
                      have hwy := WS_y hws (by omega) hle hlb9 (by omega) (by omega)
                      have hws2 := hwy.1
                      have hle2 := hwy.2
                      refine ww_iload hX (pc := 100) dX11_failing0_100 rfl ?_
                      refine ww_istore_n hX (pc := 102) (lv' := [some (kR (some 49)), some (kI sa), some (kI v_79), some (kI ne), some (kI i), some (kI x_57), some (kI v_79)]) dX11_failing0_102 (by decide) rfl rfl ?_
                      refine ww_iload hX (pc := 103) dX11_failing0_103 rfl ?_
                      refine ww_istore_n hX (pc := 105) (lv' := [some (kR (some 49)), some (kI sa), some (kI v_79), some (kI i), some (kI i), some (kI x_57), some (kI v_79)]) dX11_failing0_105 (by decide) rfl rfl ?_
                      refine ww_iinc hX (pc := 106) (lv' := [some (kR (some 49)), some (kI sa), some (kI v_79), some (kI i), some (kI (i + 1)), some (kI x_57), some (kI v_79)]) dX11_failing0_106 rfl (by decide) rfl rfl ?_
                      refine ww_goto hX (pc := 109) (tgt := 25) dX11_failing0_109 (by decide) ?_
                      refine ww_sub [some (kR (some 49)), some (kI sa), some (kI v_79), some (kI i), some (kI (i + 1)), none, none] (aLe_s (aLe_s (aLe_s (aLe_s (aLe_s (aLe_n (aLe_n aLe_0))))))) ?_
                      exact ih_25 _ (by have hm9 := Sh0_e hq_25; omega) v_79 i (i + 1) rfl ⟨by omega, (by first | exact hws2 | exact WS_o hws (by omega) (by omega) | exact WS_n hws (by omega) hle hlb9 (by omega) (by omega)), (by first | exact hle2 | exact hle)⟩
                    · simp only [w32_mod] at h_94
                      refine ww_goto hX (pc := 97) (tgt := 106) dX11_failing0_97 (by decide) ?_
                      refine ww_iinc hX (pc := 106) (lv' := [some (kR (some 49)), some (kI sa), some (kI le), some (kI ne), some (kI (i + 1)), some (kI x_57), some (kI v_79)]) dX11_failing0_106 rfl (by decide) rfl rfl ?_
                      refine ww_goto hX (pc := 109) (tgt := 25) dX11_failing0_109 (by decide) ?_
                      refine ww_sub [some (kR (some 49)), some (kI sa), some (kI le), some (kI ne), some (kI (i + 1)), none, none] (aLe_s (aLe_s (aLe_s (aLe_s (aLe_s (aLe_n (aLe_n aLe_0))))))) ?_
                      exact ih_25 _ (by have hm9 := Sh0_e hq_25; omega) le ne (i + 1) rfl ⟨by omega, (by first | exact hws2 | exact WS_o hws (by omega) (by omega) | exact WS_n hws (by omega) hle hlb9 (by omega) (by omega)), (by first | exact hle2 | exact hle)⟩
                · simp only [w32_mod] at h_65
                  refine ww_iconst hX (pc := 68) (x := (-1)) dX11_failing0_68 rfl ?_
                  refine ww_goto hX (pc := 69) (tgt := 79) dX11_failing0_69 (by decide) ?_
                  refine ww_istore hX (pc := 79) (lv' := [some (kR (some 49)), some (kI sa), some (kI le), some (kI ne), some (kI i), some (kI x_57), some (kI (-1))]) dX11_failing0_79 (by decide) rfl rfl ?_
                  have hlb9 : lbv (I_1 61) ((fun s x => NX (bR 2 s (Ia 51 304) (Ia 51 305) (Ia 51) (I_1 61) (J_1 62)) (Ia 51) (Ia 51 306) s (FU (Ia 51 304) + 1) x) sa i) = (-1) := by
                    first
                    | (rw [hxn, show x_57 = -1 by omega]; rfl)
                    | (rw [hxn]; unfold lbv; rw [if_neg (by omega), hv_79, kp_I11.2.1])
                  refine ww_iload hX (pc := 81) dX11_failing0_81 rfl ?_
                  refine ww_aload_n hX (pc := 83) dX11_failing0_83 rfl ?_
                  refine ww_iload_n hX (pc := 84) dX11_failing0_84 rfl ?_
                  refine vI1 hX (pc := 85) sX11_126 (xs_49 hL) (c_X11_readOf l0 hL cI11 (by omega) (by omega)) (by decide) (Nat.le_refl 0) (Nat.le_refl 0) (Nat.le_of_ble_eq_true rfl) dX11_failing0_85 (fun x_85 I_85 J_85 h_85 => ?_)
                  obtain ⟨rfl, rfl, h_85⟩ := h_85
                  rw [kp_I11.1] at h_85
                  refine ww_icmp_eq hX (pc := 88) (tgt := 106) dX11_failing0_88 (by decide) (fun h_88 => ?_) (fun h_88 => ?_)
                  · simp only [w32_mod] at h_88
                    refine ww_iinc hX (pc := 106) (lv' := [some (kR (some 49)), some (kI sa), some (kI le), some (kI ne), some (kI (i + 1)), some (kI x_57), some (kI (-1))]) dX11_failing0_106 rfl (by decide) rfl rfl ?_
                    refine ww_goto hX (pc := 109) (tgt := 25) dX11_failing0_109 (by decide) ?_
                    refine ww_sub [some (kR (some 49)), some (kI sa), some (kI le), some (kI ne), some (kI (i + 1)), none, none] (aLe_s (aLe_s (aLe_s (aLe_s (aLe_s (aLe_n (aLe_n aLe_0))))))) ?_
                    exact ih_25 _ (by have hm9 := Sh0_e hq_25; omega) le ne (i + 1) rfl ⟨by omega, (by first | exact hws2 | exact WS_o hws (by omega) (by omega) | exact WS_n hws (by omega) hle hlb9 (by omega) (by omega)), (by first | exact hle2 | exact hle)⟩
                  · simp only [w32_mod] at h_88
                    refine ww_iload hX (pc := 91) dX11_failing0_91 rfl ?_
                    refine ww_iload_n hX (pc := 93) dX11_failing0_93 rfl ?_
                    refine ww_icmp_lt hX (pc := 94) (tgt := 100) dX11_failing0_94 (by decide) (fun h_94 => ?_) (fun h_94 => ?_)
                    · simp only [w32_mod] at h_94
                      have hwy := WS_y hws (by omega) hle hlb9 (by omega) (by omega)
                      have hws2 := hwy.1
                      have hle2 := hwy.2
                      refine ww_iload hX (pc := 100) dX11_failing0_100 rfl ?_
                      refine ww_istore_n hX (pc := 102) (lv' := [some (kR (some 49)), some (kI sa), some (kI (-1)), some (kI ne), some (kI i), some (kI x_57), some (kI (-1))]) dX11_failing0_102 (by decide) rfl rfl ?_
                      refine ww_iload hX (pc := 103) dX11_failing0_103 rfl ?_
                      refine ww_istore_n hX (pc := 105) (lv' := [some (kR (some 49)), some (kI sa), some (kI (-1)), some (kI i), some (kI i), some (kI x_57), some (kI (-1))]) dX11_failing0_105 (by decide) rfl rfl ?_
                      refine ww_iinc hX (pc := 106) (lv' := [some (kR (some 49)), some (kI sa), some (kI (-1)), some (kI i), some (kI (i + 1)), some (kI x_57), some (kI (-1))]) dX11_failing0_106 rfl (by decide) rfl rfl ?_
                      refine ww_goto hX (pc := 109) (tgt := 25) dX11_failing0_109 (by decide) ?_
                      refine ww_sub [some (kR (some 49)), some (kI sa), some (kI (-1)), some (kI i), some (kI (i + 1)), none, none] (aLe_s (aLe_s (aLe_s (aLe_s (aLe_s (aLe_n (aLe_n aLe_0))))))) ?_
                      exact ih_25 _ (by have hm9 := Sh0_e hq_25; omega) (-1) i (i + 1) rfl ⟨by omega, (by first | exact hws2 | exact WS_o hws (by omega) (by omega) | exact WS_n hws (by omega) hle hlb9 (by omega) (by omega)), (by first | exact hle2 | exact hle)⟩
                    · simp only [w32_mod] at h_94
                      refine ww_goto hX (pc := 97) (tgt := 106) dX11_failing0_97 (by decide) ?_
                      refine ww_iinc hX (pc := 106) (lv' := [some (kR (some 49)), some (kI sa), some (kI le), some (kI ne), some (kI (i + 1)), some (kI x_57), some (kI (-1))]) dX11_failing0_106 rfl (by decide) rfl rfl ?_
                      refine ww_goto hX (pc := 109) (tgt := 25) dX11_failing0_109 (by decide) ?_
                      refine ww_sub [some (kR (some 49)), some (kI sa), some (kI le), some (kI ne), some (kI (i + 1)), none, none] (aLe_s (aLe_s (aLe_s (aLe_s (aLe_s (aLe_n (aLe_n aLe_0))))))) ?_
                      exact ih_25 _ (by have hm9 := Sh0_e hq_25; omega) le ne (i + 1) rfl ⟨by omega, (by first | exact hws2 | exact WS_o hws (by omega) (by omega) | exact WS_n hws (by omega) hle hlb9 (by omega) (by omega)), (by first | exact hle2 | exact hle)⟩
              · simp only [w32_mod] at h_45
                refine ww_iconst hX (pc := 48) (x := (-1)) dX11_failing0_48 rfl ?_
                refine ww_goto hX (pc := 49) (tgt := 60) dX11_failing0_49 (by decide) ?_
                refine ww_istore hX (pc := 60) (lv' := [some (kR (some 49)), some (kI sa), some (kI le), some (kI ne), some (kI i), some (kI (-1)), none]) dX11_failing0_60 (by decide) rfl rfl ?_
                refine ww_iload hX (pc := 62) dX11_failing0_62 rfl ?_
                refine ww_iconst hX (pc := 64) (x := (-1)) dX11_failing0_64 rfl ?_
                refine ww_icmp_ne hX (pc := 65) (tgt := 72) dX11_failing0_65 (by decide) (fun h_65 => ?_) (fun h_65 => ?_)
                · simp only [w32_mod] at h_65
                  exfalso
                  first | omega | exact h_65 rfl | exact h_65 trivial
                · simp only [w32_mod] at h_65
                  refine ww_iconst hX (pc := 68) (x := (-1)) dX11_failing0_68 rfl ?_
                  refine ww_goto hX (pc := 69) (tgt := 79) dX11_failing0_69 (by decide) ?_
                  refine ww_istore hX (pc := 79) (lv' := [some (kR (some 49)), some (kI sa), some (kI le), some (kI ne), some (kI i), some (kI (-1)), some (kI (-1))]) dX11_failing0_79 (by decide) rfl rfl ?_
                  refine ww_iload hX (pc := 81) dX11_failing0_81 rfl ?_
                  refine ww_aload_n hX (pc := 83) dX11_failing0_83 rfl ?_
                  refine ww_iload_n hX (pc := 84) dX11_failing0_84 rfl ?_
                  refine vI1 hX (pc := 85) sX11_126 (xs_49 hL) (c_X11_readOf l0 hL cI11 (by omega) (by omega)) (by decide) (Nat.le_refl 0) (Nat.le_refl 0) (Nat.le_of_ble_eq_true rfl) dX11_failing0_85 (fun x_85 I_85 J_85 h_85 => ?_)
                  obtain ⟨rfl, rfl, h_85⟩ := h_85
                  rw [kp_I11.1] at h_85
                  refine ww_icmp_eq hX (pc := 88) (tgt := 106) dX11_failing0_88 (by decide) (fun h_88 => ?_) (fun h_88 => ?_)
                  · simp only [w32_mod] at h_88
                    refine ww_iinc hX (pc := 106) (lv' := [some (kR (some 49)), some (kI sa), some (kI le), some (kI ne), some (kI (i + 1)), some (kI (-1)), some (kI (-1))]) dX11_failing0_106 rfl (by decide) rfl rfl ?_
                    refine ww_goto hX (pc := 109) (tgt := 25) dX11_failing0_109 (by decide) ?_
                    refine ww_sub [some (kR (some 49)), some (kI sa), some (kI le), some (kI ne), some (kI (i + 1)), none, none] (aLe_s (aLe_s (aLe_s (aLe_s (aLe_s (aLe_n (aLe_n aLe_0))))))) ?_
                    exact ih_25 _ (by have hm9 := Sh0_e hq_25; omega) le ne (i + 1) rfl ⟨by omega, (by first | exact hws2 | exact WS_o hws (by omega) (by omega) | exact WS_n hws (by omega) hle hlb9 (by omega) (by omega)), (by first | exact hle2 | exact hle)⟩
                  · simp only [w32_mod] at h_88
                    exfalso
                    first | omega | (simp only [h_42] at *; omega)
        exact hl_25 _ 1000000000 (-1) 0 rfl ⟨by omega, rfl, Or.inl ⟨rfl, rfl⟩⟩
  exact hl_11 _ 0 I_6 rfl ⟨kI_6, cI_6, rfl, rfl, Or.inr ⟨by omega, by omega, by have := pcn_r (Int.toNat 0); omega⟩, by omega, by omega, kp_I_6, (by rw [hf28]; rfl), (fun j hj => absurd hj (by omega))⟩
