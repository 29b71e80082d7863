def VSum (l0 : Launch) (m : Nat) : Prop := ∀ {Ia Ja : aI1} {Ra : aR1} {Sa : aS1}, LY Ra Sa → RX Ia → ∀ {la : Int}, (0 ≤ la ∧ la ≤ 1) → ∀ {t a : Nat} {c : Nat → Int}, EV Ia t c a → ∀ {vl : Nat → Int} {en : zE}, zEV Ia t vl en → zB1 Ia → ∀ {b : Nat} {D : zD}, zG (zS c vl m) a b D → CT l0 (3 * m + 5) 0 0 mX11_sumOf [kR (some 49), kI la] Ia Ja Ra Sa (cJ (fun x I' J' => Ch [] [19, 21] Ia I' ∧ Kp 49 73 Ja J' ∧ RX I' ∧ EV I' t c b ∧ zB1 I' ∧ zRv la (Ia 49 21) (I' 49 21) x (D en)) Ra Sa)
def VTest (l0 : Launch) (m : Nat) : Prop := ∀ {Ia Ja : aI1} {Ra : aR1} {Sa : aS1}, LY Ra Sa → RX Ia → ∀ {la : Int}, (0 ≤ la ∧ la ≤ 1) → ∀ {t a : Nat} {c : Nat → Int}, EV Ia t c a → ∀ {vl : Nat → Int} {en : zE}, zEV Ia t vl en → zB1 Ia → ∀ {b : Nat} {D : zD}, zG (zT c vl m) a b D → CT l0 (4 * m + 9) 0 0 mX11_testOf [kR (some 49), kI la] Ia Ja Ra Sa (cI (fun x I' J' => Ch [] [19, 21] Ia I' ∧ Kp 49 73 Ja J' ∧ RX I' ∧ EV I' t c b ∧ zB1 I' ∧ (0 ≤ x ∧ x ≤ 1) ∧ zRv la (Ia 49 21) (I' 49 21) x (D en)) Ra Sa)
set_option maxHeartbeats 4000000 in
set_option maxRecDepth 20000 in
theorem c6_X11_partOf (l0 : Launch) {Ia Ja : aI1} {Ra : aR1} {Sa : aS1} (hL : LY Ra Sa) (hQ : RX Ia) {la : Int} (hla : 0 ≤ la ∧ la ≤ 1) {t a : Nat} {c : Nat → Int} (hE : EV Ia t c a) {vl : Nat → Int} {en : zE} (hV : zEV Ia t vl en) (hB : zB1 Ia) {m b : Nat} {D : zD} (hG : zG (zPart (zSu c vl m) c vl) a b D) (hrec : ∀ mp, m = mp + 1 → VSum l0 mp)  : CT l0 (3 * m + 3) 0 0 mX11_partOf [kR (some 49), kI la] Ia Ja Ra Sa (cJ (fun x I' J' => Ch [] [19, 21] Ia I' ∧ Kp 49 73 Ja J' ∧ RX I' ∧ EV I' t c b ∧ zB1 I' ∧ zRv la (Ia 49 21) (I' 49 21) x (D en)) Ra Sa) := by
  refine ct_in pn_X11 (Nat.le_of_ble_eq_true rfl) (fun X hX hT hIn => ?_)
  have hX : aK l0 X cX11_partOf 4 RX11 (some .long) (3 * m + 3) 0 0 := hX
  change WW X 0 [some (kR (some 49)), some (kI la), none, none] [] Ia Ja Ra Sa 0 0
  have qIa := RX_w hQ
  have oIa := EV_o hE
  refine ww_aload_n hX (pc := 0) dX11_partOf_0 rfl ?_
  refine ww_bipush hX (pc := 1) (x := 91) dX11_partOf_1 (by decide) ?_
  refine sI1 hX (pc := 3) sX11_190 (c_X11_sign l0 ) (by omega) (Nat.le_refl 0) (Nat.le_refl 0) (Nat.le_of_ble_eq_true rfl) dX11_partOf_3 (fun x_3 I_3 J_3 h_3 => ?_)
  obtain ⟨rfl, rfl, h_3⟩ := h_3
  refine vI1 hX (pc := 6) sX11_240 (xs_49 hL) (c_X11_passes0 l0 hL hQ  (by omega) (by omega) hE) (by omega) (Nat.le_refl 0) (Nat.le_refl 0) (Nat.le_of_ble_eq_true rfl) dX11_partOf_6 (fun x_6 I_6 J_6 h_6 => ?_)
  have kJ_6 : Kp 49 73 Ja J_6 := Kp_tr (Kp_rf (a := 49) (b := 73)) h_6.2.1
  have kI_6 : Ch [] [19, 21] Ia I_6 := Ch_tr Ch_rf (Ch_wd h_6.1 (by decide) (by decide))
  have cI_6 : RX I_6 := h_6.2.2.1
  have qI_6 := RX_w cI_6
  have f20_I_6 : I_6 49 20 = Ia 49 20 := h_6.1.2 20 (by decide)
  have f21_I_6 : I_6 49 21 = Ia 49 21 := h_6.1.2 21 (by decide)
  have vI_6 : EV I_6 t c (a + x_6.toNat) := h_6.2.2.2.1
  have oI_6 := EV_o vI_6
  have yI_6 := h_6.2.2.2.2
  have bI_6 : zB1 I_6 := zB1_e hB f21_I_6
  refine ww_if_eq hX (pc := 9) (tgt := 30) dX11_partOf_9 (by decide) (fun h_9 => ?_) (fun h_9 => ?_)
  · simp only [w32_mod] at h_9
    obtain ⟨hbd, hlf9⟩ := zG_lf hG (by have := PS_0 yI_6.2 (by omega); omega)
    have hz := EV_z (i := a) hE (by rcases hlf9 with h9 | h9 <;> omega)
    have w6 : EV I_6 t c a := EV_to vI_6 (by omega)
    refine ww_aload_n hX (pc := 30) dX11_partOf_30 rfl ?_
    refine ww_aload_n hX (pc := 31) dX11_partOf_31 rfl ?_
    refine ww_getI hX (pc := 32) fX11_215 (by decide) (xs_49 hL) dX11_partOf_32 ?_
    refine vI1 hX (pc := 35) sX11_218 (xs_49 hL) (c_X11_codeAt l0 hL cI_6  rfl w6) (by omega) (Nat.le_refl 0) (Nat.le_refl 0) (Nat.le_of_ble_eq_true rfl) dX11_partOf_35 (fun x_35 I_35 J_35 h_35 => ?_)
    obtain ⟨rfl, rfl, h_35⟩ := h_35
    refine ww_istore_n hX (pc := 38) (lv' := [some (kR (some 49)), some (kI la), some (kI x_35), none]) dX11_partOf_38 (by decide) rfl rfl ?_
    refine ww_aload_n hX (pc := 39) dX11_partOf_39 rfl ?_
    refine ww_dupR hX (pc := 40) dX11_partOf_40 ?_
    refine ww_getI hX (pc := 41) fX11_215 (by decide) (xs_49 hL) dX11_partOf_41 ?_
    refine ww_iconst hX (pc := 44) (x := 1) dX11_partOf_44 rfl ?_
    refine ww_iadd hX (pc := 45) dX11_partOf_45 ?_
    refine ww_putI hX (pc := 46) (fun h9 => absurd h9 (by decide)) gX11_215 rfl (xs_49 hL) dX11_partOf_46 ?_
    refine ww_nmH (fun I_46 eI_46 => ?_)
    have kI_46 : Ch [] [19, 21] Ia I_46 := by rw [eI_46]; exact Ch_f kI_6 (by decide)
    have cI_46 : RX I_46 := by rw [eI_46]; exact RX_f cI_6 (by decide)
    have qI_46 := RX_w cI_46
    have f20_I_46 : I_46 49 20 = I_6 49 20 := by rw [eI_46, up2_n _ _ (Or.inr (by decide))]
    have f21_I_46 : I_46 49 21 = I_6 49 21 := by rw [eI_46, up2_n _ _ (Or.inr (by decide))]
    have vI_46 : EV I_46 t c (a + 1) := EV_st w6 (by rw [eI_46, up2_off _ _ _ (by decide)]) (by omega) (by rw [eI_46, up2_s]; omega) (by omega)
    have oI_46 := EV_o vI_46
    have bI_46 : zB1 I_46 := zB1_e bI_6 f21_I_46
    refine ww_iload_n hX (pc := 49) dX11_partOf_49 rfl ?_
    refine ww_if_eq hX (pc := 50) (tgt := 60) dX11_partOf_50 (by decide) (fun h_50 => ?_) (fun h_50 => ?_)
    · simp only [w32_mod] at h_50
      refine ww_lconst hX (pc := 60) (x := 0) dX11_partOf_60 (by decide) ?_
      refine rJ hX (pc := 61) hT (Nat.le_refl 0) (Nat.le_refl 0) dX11_partOf_61 ?_
      exact ⟨kI_46, kJ_6, cI_46, EV_to vI_46 (by omega), bI_46, zRv_off (by omega) (by omega)⟩
    · simp only [w32_mod] at h_50
      refine ww_aload_n hX (pc := 53) dX11_partOf_53 rfl ?_
      refine ww_getI hX (pc := 54) fX11_225 (by decide) (xs_49 hL) dX11_partOf_54 ?_
      refine ww_if_eq hX (pc := 57) (tgt := 62) dX11_partOf_57 (by decide) (fun h_57 => ?_) (fun h_57 => ?_)
      · simp only [w32_mod] at h_57
        refine ww_iload_n hX (pc := 62) dX11_partOf_62 rfl ?_
        refine ww_bipush hX (pc := 63) (x := 50) dX11_partOf_63 (by decide) ?_
        refine ww_icmp_ne hX (pc := 65) (tgt := 87) dX11_partOf_65 (by decide) (fun h_65 => ?_) (fun h_65 => ?_)
        · simp only [w32_mod] at h_65
          have hc50 : ¬ c a = 50 := by have h9 := h_35.1; omega
          obtain ⟨-, g6, g13, hD9⟩ := Or.resolve_left hlf9 (fun h9 => hc50 h9.1)
          have hask := hV.2 (c a - 6).toNat (by omega)
          refine ww_aload_n hX (pc := 87) dX11_partOf_87 rfl ?_
          refine ww_getR hX (pc := 88) fX11_52 (by decide) (xs_49 hL) (xr_49_22 hL) dX11_partOf_88 ?_
          refine ww_iload_n hX (pc := 91) dX11_partOf_91 rfl ?_
          refine ww_bipush hX (pc := 92) (x := 6) dX11_partOf_92 (by decide) ?_
          refine ww_isub hX (pc := 94) dX11_partOf_94 ?_
          refine ww_iald hX (pc := 95) (xs_60 hL) (by decide) (by omega) (by omega) dX11_partOf_95 ?_
          have hval : I_46 60 (x_35 - 6).toNat = en (c a - 6).toNat := by
            rw [show I_46 60 = Ia 60 from kI_46.1 60 (by decide) (by decide), ← hask.1]
            have h9 := h_35.1
            exact congrArg _ (by omega)
          have hv0 := hask.2
          refine ww_i2l hX (pc := 96) dX11_partOf_96 ?_
          refine rJ hX (pc := 97) hT (Nat.le_refl 0) (Nat.le_refl 0) dX11_partOf_97 ?_
          exact ⟨kI_46, kJ_6, cI_46, EV_to vI_46 (by omega), bI_46, zRv_on (hD9 en) ((congrArg w32 hval).trans (w32_id (by omega) (by omega))) (by omega) (by omega) (by omega)⟩
        · simp only [w32_mod] at h_65
          have hc50 : c a = 50 := by have h9 := h_35.1; omega
          obtain ⟨-, g1000, hD9⟩ := Or.resolve_right hlf9 (fun h9 => h9.1 hc50)
          have hvv := hV.1 a hz
          refine ww_aload_n hX (pc := 68) dX11_partOf_68 rfl ?_
          refine ww_getR hX (pc := 69) fX11_20 (by decide) (xs_49 hL) (xr_49_3 hL) dX11_partOf_69 ?_
          refine ww_sipush hX (pc := 72) (x := 2717) dX11_partOf_72 (by decide) ?_
          refine ww_aload_n hX (pc := 75) dX11_partOf_75 rfl ?_
          refine ww_getI hX (pc := 76) fX11_215 (by decide) (xs_49 hL) dX11_partOf_76 ?_
          refine ww_iadd hX (pc := 79) dX11_partOf_79 ?_
          refine ww_iconst hX (pc := 80) (x := 1) dX11_partOf_80 rfl ?_
          refine ww_isub hX (pc := 81) dX11_partOf_81 ?_
          refine ww_iald hX (pc := 82) (xs_51 hL) (by decide) (by omega) (by omega) dX11_partOf_82 ?_
          have hval : I_46 51 (2717 + I_46 49 19 - 1).toNat = vl a := by
            rw [show I_46 51 = Ia 51 from kI_46.1 51 (by decide) (by decide), ← hvv.1]
            exact congrArg _ (by omega)
          have hv0 := hvv.2
          refine ww_i2l hX (pc := 83) dX11_partOf_83 ?_
          refine ww_goto hX (pc := 84) (tgt := 97) dX11_partOf_84 (by decide) ?_
          refine rJ hX (pc := 97) hT (Nat.le_refl 0) (Nat.le_refl 0) dX11_partOf_97 ?_
          exact ⟨kI_46, kJ_6, cI_46, EV_to vI_46 (by omega), bI_46, zRv_on (hD9 en) ((congrArg w32 hval).trans (w32_id (by omega) (by omega))) (by omega) (by omega) (by omega)⟩
      · simp only [w32_mod] at h_57
        refine ww_lconst hX (pc := 60) (x := 0) dX11_partOf_60 (by decide) ?_
        refine rJ hX (pc := 61) hT (Nat.le_refl 0) (Nat.le_refl 0) dX11_partOf_61 ?_
        exact ⟨kI_46, kJ_6, cI_46, EV_to vI_46 (by omega), bI_46, zRv_off (by omega) (by omega)⟩
  · simp only [w32_mod] at h_9
    obtain ⟨mp, hmp, d9, hGd, hcd, hbd⟩ := zG_br hG (by have := PS_1 yI_6.2 (by omega); omega)
    have hz := EV_z (i := d9) hE (by omega)
    have w6 : EV I_6 t c (a + 1) := EV_to vI_6 (by omega)
    refine ww_aload_n hX (pc := 12) dX11_partOf_12 rfl ?_
    refine ww_iload_n hX (pc := 13) dX11_partOf_13 rfl ?_
    refine vJ1 hX (pc := 14) sX11_243 (xs_49 hL) (hrec mp hmp hL cI_6 (by omega) w6 (zEV_ch kI_6 (by decide) (by decide) hV) bI_6 hGd) (by omega) (Nat.le_refl 0) (Nat.le_refl 0) (Nat.le_of_ble_eq_true rfl) dX11_partOf_14 (fun x_14 I_14 J_14 h_14 => ?_)
    have kJ_14 : Kp 49 73 Ja J_14 := Kp_tr kJ_6 h_14.2.1
    have kI_14 : Ch [] [19, 21] Ia I_14 := Ch_tr kI_6 (Ch_wd h_14.1 (by decide) (by decide))
    have cI_14 : RX I_14 := h_14.2.2.1
    have qI_14 := RX_w cI_14
    have f20_I_14 : I_14 49 20 = I_6 49 20 := h_14.1.2 20 (by decide)
    have vI_14 : EV I_14 t c d9 := h_14.2.2.2.1
    have oI_14 := EV_o vI_14
    have yI_14 := h_14.2.2.2.2
    have bI_14 : zB1 I_14 := yI_14.1
    refine ww_lstore_n hX (pc := 17) (lv' := [some (kR (some 49)), some (kI la), some (kL x_14), none]) dX11_partOf_17 (by decide) rfl rfl ?_
    refine ww_aload_n hX (pc := 18) dX11_partOf_18 rfl ?_
    refine ww_dupR hX (pc := 19) dX11_partOf_19 ?_
    refine ww_getI hX (pc := 20) fX11_215 (by decide) (xs_49 hL) dX11_partOf_20 ?_
    refine ww_iconst hX (pc := 23) (x := 1) dX11_partOf_23 rfl ?_
    refine ww_iadd hX (pc := 24) dX11_partOf_24 ?_
    refine ww_putI hX (pc := 25) (fun h9 => absurd h9 (by decide)) gX11_215 rfl (xs_49 hL) dX11_partOf_25 ?_
    refine ww_nmH (fun I_25 eI_25 => ?_)
    have kI_25 : Ch [] [19, 21] Ia I_25 := by rw [eI_25]; exact Ch_f kI_14 (by decide)
    have cI_25 : RX I_25 := by rw [eI_25]; exact RX_f cI_14 (by decide)
    have qI_25 := RX_w cI_25
    have f20_I_25 : I_25 49 20 = I_14 49 20 := by rw [eI_25, up2_n _ _ (Or.inr (by decide))]
    have f21_I_25 : I_25 49 21 = I_14 49 21 := by rw [eI_25, up2_n _ _ (Or.inr (by decide))]
    have vI_25 : EV I_25 t c (d9 + 1) := EV_st vI_14 (by rw [eI_25, up2_off _ _ _ (by decide)]) (by omega) (by rw [eI_25, up2_s]; omega) (by omega)
    have oI_25 := EV_o vI_25
    have bI_25 : zB1 I_25 := zB1_e bI_14 f21_I_25
    refine ww_lload_n hX (pc := 28) dX11_partOf_28 rfl ?_
    refine rJ hX (pc := 29) hT (Nat.le_refl 0) (Nat.le_refl 0) dX11_partOf_29 ?_
    exact ⟨kI_25, kJ_14, cI_25, EV_to vI_25 (by omega), bI_25, zRv_cg yI_14.2 (by omega) (by omega)⟩
