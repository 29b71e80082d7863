set_option maxHeartbeats 4000000 in
set_option maxRecDepth 20000 in
theorem c6_X11_sumOf (l0 : Launch) {Ia Ja : aI1} {Ra : aR1} {Sa : aS1} (hL : LY Ra Sa) (hQ : RX Ia) {la : Int} (hla : 0 ≤ la ∧ la ≤ 1) {t a : Nat} {c : Nat → Int} (hE : EV Ia t c a) {vl : Nat → Int} {en : zE} (hV : zEV Ia t vl en) (hB : zB1 Ia) {m b : Nat} {D : zD} (hG : zG (zS c vl m) a b D) (hrec : ∀ mp, m = mp + 1 → VSum l0 mp)  : CT l0 (3 * m + 5) 0 0 mX11_sumOf [kR (some 49), kI la] Ia Ja Ra Sa (cJ (fun x I' J' => Ch [] [19, 21] Ia I' ∧ Kp 49 73 Ja J' ∧ RX I' ∧ EV I' t c b ∧ zB1 I' ∧ zRv la (Ia 49 21) (I' 49 21) x (D en)) Ra Sa) := by
  refine ct_in pn_X11 (Nat.le_of_ble_eq_true rfl) (fun X hX hT hIn => ?_)
  have hX : aK l0 X cX11_sumOf 7 RX11 (some .long) (3 * m + 5) 0 0 := hX
  change WW X 0 [some (kR (some 49)), some (kI la), none, none, none, none, none] [] Ia Ja Ra Sa 0 0
  have qIa := RX_w hQ
  have oIa := EV_o hE
  obtain ⟨a1, D1, hG1, hRs⟩ := zG_sq (P := zTm (zSu c vl m) c vl) (ops := [143, 145]) (jn := zJD) hG
  have hle1 := zHR_l (zTm_lt m) hRs
  refine ww_aload_n hX (pc := 0) dX11_sumOf_0 rfl ?_
  refine ww_iload_n hX (pc := 1) dX11_sumOf_1 rfl ?_
  refine vJ1 hX (pc := 2) sX11_229 (xs_49 hL) (c6_X11_termOf l0 hL hQ  (by omega) hE hV hB hG1 hrec) (by omega) (Nat.le_refl 0) (Nat.le_refl 0) (Nat.le_of_ble_eq_true rfl) dX11_sumOf_2 (fun x_2 I_2 J_2 h_2 => ?_)
  have kJ_2 : Kp 49 73 Ja J_2 := Kp_tr (Kp_rf (a := 49) (b := 73)) h_2.2.1
  have kI_2 : Ch [] [19, 21] Ia I_2 := Ch_tr Ch_rf (Ch_wd h_2.1 (by decide) (by decide))
  have cI_2 : RX I_2 := h_2.2.2.1
  have qI_2 := RX_w cI_2
  have f20_I_2 : I_2 49 20 = Ia 49 20 := h_2.1.2 20 (by decide)
  have vI_2 : EV I_2 t c a1 := h_2.2.2.2.1
  have oI_2 := EV_o vI_2
  have yI_2 := h_2.2.2.2.2
  have bI_2 : zB1 I_2 := yI_2.1
  refine ww_lstore_n hX (pc := 5) (lv' := [some (kR (some 49)), some (kI la), some (kL x_2), none, none, none, none]) dX11_sumOf_5 (by decide) rfl rfl ?_
  have hl_6 : ∀ (n_6 : Nat) (v9 : Int) (I6 : aI1) (J6 : aI1), (400 * t + b - I6 49 19).toNat = n_6 → (Ch [] [19, 21] Ia I6 ∧ RX I6 ∧ Kp 49 73 Ja J6 ∧ ∃ (p9 : Nat) (D9 : zD), EV I6 t c p9 ∧ zB1 I6 ∧ zRv la (Ia 49 21) (I6 49 21) v9 (D9 en) ∧ zHR (zTm (zSu c vl m) c vl) [143, 145] zJD c p9 D9 b D) → WW X 6 [some (kR (some 49)), some (kI la), some (kL v9), none, none, none, none] [] I6 J6 Ra Sa 0 0 := by
    intro n_6
    induction n_6 using Nat.strongRecOn with
    | ind n_6 ih_6 =>
      intro v9 I6 J6 hm_6 hv_6
      have hq_6 := Sh0_i hm_6
      clear hm_6
      obtain ⟨kI6, cI6, kJ6, p9, D9, vI6, bI6, hr6, hR6⟩ := hv_6
      have qI6 := RX_w cI6
      have oI6 := EV_o vI6
      refine ww_aload_n hX (pc := 6) dX11_sumOf_6 rfl ?_
      refine ww_aload_n hX (pc := 7) dX11_sumOf_7 rfl ?_
      refine ww_getI hX (pc := 8) fX11_215 (by decide) (xs_49 hL) dX11_sumOf_8 ?_
      refine vI1 hX (pc := 11) sX11_218 (xs_49 hL) (c_X11_codeAt l0 hL cI6  rfl vI6) (by omega) (Nat.le_refl 0) (Nat.le_refl 0) (Nat.le_of_ble_eq_true rfl) dX11_sumOf_11 (fun x_11 I_11 J_11 h_11 => ?_)
      obtain ⟨rfl, rfl, h_11⟩ := h_11
      refine ww_bipush hX (pc := 14) (x := 43) dX11_sumOf_14 (by decide) ?_
      refine sI1 hX (pc := 16) sX11_190 (c_X11_sign l0 ) (by omega) (Nat.le_refl 0) (Nat.le_refl 0) (Nat.le_of_ble_eq_true rfl) dX11_sumOf_16 (fun x_16 I_16 J_16 h_16 => ?_)
      obtain ⟨rfl, rfl, h_16⟩ := h_16
      refine ww_icmp_eq hX (pc := 19) (tgt := 38) dX11_sumOf_19 (by decide) (fun h_19 => ?_) (fun h_19 => ?_)
      · simp only [w32_mod] at h_19
        have hop : c p9 ∈ ([143, 145] : List Int) := by simp only [List.mem_cons, List.not_mem_nil, or_false]; omega
        have hz9 := EV_z (i := p9) vI6 (fun e9 => by rw [e9] at hop; revert hop; decide)
        obtain ⟨d9, F9, hT9, hlt9, hR9⟩ := zHR_op hR6 (zTm_lt m) hop (by omega)
        have hle9 := zHR_l (zTm_lt m) hR9
        refine ww_aload_n hX (pc := 38) dX11_sumOf_38 rfl ?_
        refine ww_aload_n hX (pc := 39) dX11_sumOf_39 rfl ?_
        refine ww_getI hX (pc := 40) fX11_215 (by decide) (xs_49 hL) dX11_sumOf_40 ?_
        refine vI1 hX (pc := 43) sX11_218 (xs_49 hL) (c_X11_codeAt l0 hL cI6  rfl vI6) (by omega) (Nat.le_refl 0) (Nat.le_refl 0) (Nat.le_of_ble_eq_true rfl) dX11_sumOf_43 (fun x_43 I_43 J_43 h_43 => ?_)
        obtain ⟨rfl, rfl, h_43⟩ := h_43
        refine ww_bipush hX (pc := 46) (x := 43) dX11_sumOf_46 (by decide) ?_
        refine sI1 hX (pc := 48) sX11_190 (c_X11_sign l0 ) (by omega) (Nat.le_refl 0) (Nat.le_refl 0) (Nat.le_of_ble_eq_true rfl) dX11_sumOf_48 (fun x_48 I_48 J_48 h_48 => ?_)
        obtain ⟨rfl, rfl, h_48⟩ := h_48
        refine ww_icmp_ne hX (pc := 51) (tgt := 58) dX11_sumOf_51 (by decide) (fun h_51 => ?_) (fun h_51 => ?_)
        · simp only [w32_mod] at h_51
          exfalso
          omega
        · simp only [w32_mod] at h_51
          refine ww_iconst hX (pc := 54) (x := 1) dX11_sumOf_54 rfl ?_
          refine ww_goto hX (pc := 55) (tgt := 59) dX11_sumOf_55 (by decide) ?_
          refine ww_istore hX (pc := 59) (lv' := [some (kR (some 49)), some (kI la), some (kL v9), none, some (kI 1), none, none]) dX11_sumOf_59 (by decide) rfl rfl ?_
          refine ww_aload_n hX (pc := 61) dX11_sumOf_61 rfl ?_
          refine ww_dupR hX (pc := 62) dX11_sumOf_62 ?_
          refine ww_getI hX (pc := 63) fX11_215 (by decide) (xs_49 hL) dX11_sumOf_63 ?_
          refine ww_iconst hX (pc := 66) (x := 1) dX11_sumOf_66 rfl ?_
          refine ww_iadd hX (pc := 67) dX11_sumOf_67 ?_
          refine ww_putI hX (pc := 68) (fun h9 => absurd h9 (by decide)) gX11_215 rfl (xs_49 hL) dX11_sumOf_68 ?_
          refine ww_nmH (fun I_68 eI_68 => ?_)
          have kI_68 : Ch [] [19, 21] Ia I_68 := by rw [eI_68]; exact Ch_f kI6 (by decide)
          have cI_68 : RX I_68 := by rw [eI_68]; exact RX_f cI6 (by decide)
          have qI_68 := RX_w cI_68
          have f20_I_68 : I_68 49 20 = I6 49 20 := by rw [eI_68, up2_n _ _ (Or.inr (by decide))]
          have f21_I_68 : I_68 49 21 = I6 49 21 := by rw [eI_68, up2_n _ _ (Or.inr (by decide))]
          have vI_68 : EV I_68 t c (p9 + 1) := EV_st vI6 (by rw [eI_68, up2_off _ _ _ (by decide)]) (by omega) (by rw [eI_68, up2_s]; omega) (by omega)
          have oI_68 := EV_o vI_68
          have bI_68 : zB1 I_68 := zB1_e bI6 f21_I_68
          refine ww_aload_n hX (pc := 71) dX11_sumOf_71 rfl ?_
          refine ww_iload_n hX (pc := 72) dX11_sumOf_72 rfl ?_
          refine vJ1 hX (pc := 73) sX11_229 (xs_49 hL) (c6_X11_termOf l0 hL cI_68  (by omega) vI_68 (zEV_ch kI_68 (by decide) (by decide) hV) bI_68 hT9 hrec) (by omega) (Nat.le_refl 0) (Nat.le_refl 0) (Nat.le_of_ble_eq_true rfl) dX11_sumOf_73 (fun x_73 I_73 J_73 h_73 => ?_)
          have kJ_73 : Kp 49 73 Ja J_73 := Kp_tr kJ6 h_73.2.1
          have kI_73 : Ch [] [19, 21] Ia I_73 := Ch_tr kI_68 (Ch_wd h_73.1 (by decide) (by decide))
          have cI_73 : RX I_73 := h_73.2.2.1
          have qI_73 := RX_w cI_73
          have f20_I_73 : I_73 49 20 = I_68 49 20 := h_73.1.2 20 (by decide)
          have vI_73 : EV I_73 t c d9 := h_73.2.2.2.1
          have oI_73 := EV_o vI_73
          have yI_73 := h_73.2.2.2.2
          have bI_73 : zB1 I_73 := yI_73.1
          refine ww_lstore hX (pc := 76) (lv' := [some (kR (some 49)), some (kI la), some (kL v9), none, some (kI 1), some (kL x_73), none]) dX11_sumOf_76 (by decide) rfl rfl ?_
          refine ww_aload_n hX (pc := 78) dX11_sumOf_78 rfl ?_
          refine ww_iload hX (pc := 79) dX11_sumOf_79 rfl ?_
          refine ww_if_eq hX (pc := 81) (tgt := 91) dX11_sumOf_81 (by decide) (fun h_81 => ?_) (fun h_81 => ?_)
          · simp only [w32_mod] at h_81
            exfalso
            omega
          · simp only [w32_mod] at h_81
            refine ww_lload_n hX (pc := 84) dX11_sumOf_84 rfl ?_
            refine ww_lload hX (pc := 85) dX11_sumOf_85 rfl ?_
            refine ww_ladd hX (pc := 87) dX11_sumOf_87 ?_
            refine ww_goto hX (pc := 88) (tgt := 95) dX11_sumOf_88 (by decide) ?_
            refine ww_iload_n hX (pc := 95) dX11_sumOf_95 rfl ?_
            refine vJ2 hX (pc := 96) sX11_233 (xs_49 hL) (c6_X11_bounded l0 hL cI_73  (by omega) vI_73 (zEV_ch kI_73 (by decide) (by decide) hV) bI_73) (by omega) (Nat.le_refl 0) (Nat.le_refl 0) (Nat.le_of_ble_eq_true rfl) dX11_sumOf_96 (fun x_96 I_96 J_96 h_96 => ?_)
            have kJ_96 : Kp 49 73 Ja J_96 := Kp_tr kJ_73 h_96.2.1
            have kI_96 : Ch [] [19, 21] Ia I_96 := Ch_tr kI_73 (Ch_wd h_96.1 (by decide) (by decide))
            have cI_96 : RX I_96 := h_96.2.2.1
            have qI_96 := RX_w cI_96
            have f20_I_96 : I_96 49 20 = I_73 49 20 := h_96.1.2 20 (by decide)
            have vI_96 : EV I_96 t c d9 := h_96.2.2.2.1
            have oI_96 := EV_o vI_96
            have yI_96 := h_96.2.2.2.2
            have bI_96 : zB1 I_96 := yI_96.1
            refine ww_lstore_n hX (pc := 99) (lv' := [some (kR (some 49)), some (kI la), some (kL x_96), none, some (kI 1), some (kL x_73), none]) dX11_sumOf_99 (by decide) rfl rfl ?_
            refine ww_goto hX (pc := 100) (tgt := 6) dX11_sumOf_100 (by decide) ?_
            refine ww_sub [some (kR (some 49)), some (kI la), some (kL x_96), none, none, none, none] (aLe_s (aLe_s (aLe_s (aLe_n (aLe_n (aLe_n (aLe_n aLe_0))))))) ?_
            exact ih_6 _ (by have hm9 := Sh0_e hq_6; omega) x_96 I_96 J_96 rfl ⟨kI_96, cI_96, kJ_96, ⟨d9, _, vI_96, bI_96, (by rw [zJD_2, show c p9 = 143 by omega]; exact zRv_op hla (by have h9 := hB; unfold zB1 at h9; exact h9) (zRv_cg hr6 rfl rfl) (zRv_cg yI_73.2 (by omega) rfl) (zRv_bd yI_96.2 (by omega)) (fun g1 g2 g3 g4 => ⟨rfl, by omega, by omega, fun h9 => by omega⟩)), hR9⟩⟩
      · simp only [w32_mod] at h_19
        refine ww_aload_n hX (pc := 22) dX11_sumOf_22 rfl ?_
        refine ww_aload_n hX (pc := 23) dX11_sumOf_23 rfl ?_
        refine ww_getI hX (pc := 24) fX11_215 (by decide) (xs_49 hL) dX11_sumOf_24 ?_
        refine vI1 hX (pc := 27) sX11_218 (xs_49 hL) (c_X11_codeAt l0 hL cI6  rfl vI6) (by omega) (Nat.le_refl 0) (Nat.le_refl 0) (Nat.le_of_ble_eq_true rfl) dX11_sumOf_27 (fun x_27 I_27 J_27 h_27 => ?_)
        obtain ⟨rfl, rfl, h_27⟩ := h_27
        refine ww_bipush hX (pc := 30) (x := 45) dX11_sumOf_30 (by decide) ?_
        refine sI1 hX (pc := 32) sX11_190 (c_X11_sign l0 ) (by omega) (Nat.le_refl 0) (Nat.le_refl 0) (Nat.le_of_ble_eq_true rfl) dX11_sumOf_32 (fun x_32 I_32 J_32 h_32 => ?_)
        obtain ⟨rfl, rfl, h_32⟩ := h_32
        refine ww_icmp_ne hX (pc := 35) (tgt := 103) dX11_sumOf_35 (by decide) (fun h_35 => ?_) (fun h_35 => ?_)
        · simp only [w32_mod] at h_35
          refine ww_lload_n hX (pc := 103) dX11_sumOf_103 rfl ?_
          refine rJ hX (pc := 104) hT (Nat.le_refl 0) (Nat.le_refl 0) dX11_sumOf_104 ?_
          exact ⟨kI6, kJ6, cI6, (by
              have hb9 := zHR_no hR6 (by simp only [List.mem_cons, List.not_mem_nil, or_false]; omega)
              exact EV_to vI6 hb9.1), bI6, (by
              have hb9 := zHR_no hR6 (by simp only [List.mem_cons, List.not_mem_nil, or_false]; omega)
              rw [← hb9.2]; exact zRv_cg hr6 rfl (by omega))⟩
        · simp only [w32_mod] at h_35
          have hop : c p9 ∈ ([143, 145] : List Int) := by simp only [List.mem_cons, List.not_mem_nil, or_false]; omega
          have hz9 := EV_z (i := p9) vI6 (fun e9 => by rw [e9] at hop; revert hop; decide)
          obtain ⟨d9, F9, hT9, hlt9, hR9⟩ := zHR_op hR6 (zTm_lt m) hop (by omega)
          have hle9 := zHR_l (zTm_lt m) hR9
          refine ww_aload_n hX (pc := 38) dX11_sumOf_38 rfl ?_
          refine ww_aload_n hX (pc := 39) dX11_sumOf_39 rfl ?_
          refine ww_getI hX (pc := 40) fX11_215 (by decide) (xs_49 hL) dX11_sumOf_40 ?_
          refine vI1 hX (pc := 43) sX11_218 (xs_49 hL) (c_X11_codeAt l0 hL cI6  rfl vI6) (by omega) (Nat.le_refl 0) (Nat.le_refl 0) (Nat.le_of_ble_eq_true rfl) dX11_sumOf_43 (fun x_43 I_43 J_43 h_43 => ?_)
          obtain ⟨rfl, rfl, h_43⟩ := h_43
          refine ww_bipush hX (pc := 46) (x := 43) dX11_sumOf_46 (by decide) ?_
          refine sI1 hX (pc := 48) sX11_190 (c_X11_sign l0 ) (by omega) (Nat.le_refl 0) (Nat.le_refl 0) (Nat.le_of_ble_eq_true rfl) dX11_sumOf_48 (fun x_48 I_48 J_48 h_48 => ?_)
          obtain ⟨rfl, rfl, h_48⟩ := h_48
          refine ww_icmp_ne hX (pc := 51) (tgt := 58) dX11_sumOf_51 (by decide) (fun h_51 => ?_) (fun h_51 => ?_)
          · simp only [w32_mod] at h_51
            refine ww_iconst hX (pc := 58) (x := 0) dX11_sumOf_58 rfl ?_
            refine ww_istore hX (pc := 59) (lv' := [some (kR (some 49)), some (kI la), some (kL v9), none, some (kI 0), none, none]) dX11_sumOf_59 (by decide) rfl rfl ?_
            refine ww_aload_n hX (pc := 61) dX11_sumOf_61 rfl ?_
            refine ww_dupR hX (pc := 62) dX11_sumOf_62 ?_
            refine ww_getI hX (pc := 63) fX11_215 (by decide) (xs_49 hL) dX11_sumOf_63 ?_
            refine ww_iconst hX (pc := 66) (x := 1) dX11_sumOf_66 rfl ?_
            refine ww_iadd hX (pc := 67) dX11_sumOf_67 ?_
            refine ww_putI hX (pc := 68) (fun h9 => absurd h9 (by decide)) gX11_215 rfl (xs_49 hL) dX11_sumOf_68 ?_
            refine ww_nmH (fun I_68 eI_68 => ?_)
            have kI_68 : Ch [] [19, 21] Ia I_68 := by rw [eI_68]; exact Ch_f kI6 (by decide)
            have cI_68 : RX I_68 := by rw [eI_68]; exact RX_f cI6 (by decide)
            have qI_68 := RX_w cI_68
            have f20_I_68 : I_68 49 20 = I6 49 20 := by rw [eI_68, up2_n _ _ (Or.inr (by decide))]
            have f21_I_68 : I_68 49 21 = I6 49 21 := by rw [eI_68, up2_n _ _ (Or.inr (by decide))]
            have vI_68 : EV I_68 t c (p9 + 1) := EV_st vI6 (by rw [eI_68, up2_off _ _ _ (by decide)]) (by omega) (by rw [eI_68, up2_s]; omega) (by omega)
            have oI_68 := EV_o vI_68
            have bI_68 : zB1 I_68 := zB1_e bI6 f21_I_68
            refine ww_aload_n hX (pc := 71) dX11_sumOf_71 rfl ?_
            refine ww_iload_n hX (pc := 72) dX11_sumOf_72 rfl ?_
            refine vJ1 hX (pc := 73) sX11_229 (xs_49 hL) (c6_X11_termOf l0 hL cI_68  (by omega) vI_68 (zEV_ch kI_68 (by decide) (by decide) hV) bI_68 hT9 hrec) (by omega) (Nat.le_refl 0) (Nat.le_refl 0) (Nat.le_of_ble_eq_true rfl) dX11_sumOf_73 (fun x_73 I_73 J_73 h_73 => ?_)
            have kJ_73 : Kp 49 73 Ja J_73 := Kp_tr kJ6 h_73.2.1
            have kI_73 : Ch [] [19, 21] Ia I_73 := Ch_tr kI_68 (Ch_wd h_73.1 (by decide) (by decide))
            have cI_73 : RX I_73 := h_73.2.2.1
            have qI_73 := RX_w cI_73
            have f20_I_73 : I_73 49 20 = I_68 49 20 := h_73.1.2 20 (by decide)
            have vI_73 : EV I_73 t c d9 := h_73.2.2.2.1
            have oI_73 := EV_o vI_73
            have yI_73 := h_73.2.2.2.2
            have bI_73 : zB1 I_73 := yI_73.1
            refine ww_lstore hX (pc := 76) (lv' := [some (kR (some 49)), some (kI la), some (kL v9), none, some (kI 0), some (kL x_73), none]) dX11_sumOf_76 (by decide) rfl rfl ?_
            refine ww_aload_n hX (pc := 78) dX11_sumOf_78 rfl ?_
            refine ww_iload hX (pc := 79) dX11_sumOf_79 rfl ?_
            refine ww_if_eq hX (pc := 81) (tgt := 91) dX11_sumOf_81 (by decide) (fun h_81 => ?_) (fun h_81 => ?_)
            · simp only [w32_mod] at h_81
              refine ww_lload_n hX (pc := 91) dX11_sumOf_91 rfl ?_
              refine ww_lload hX (pc := 92) dX11_sumOf_92 rfl ?_
              refine ww_lsub hX (pc := 94) dX11_sumOf_94 ?_
              refine ww_iload_n hX (pc := 95) dX11_sumOf_95 rfl ?_
              refine vJ2 hX (pc := 96) sX11_233 (xs_49 hL) (c6_X11_bounded l0 hL cI_73  (by omega) vI_73 (zEV_ch kI_73 (by decide) (by decide) hV) bI_73) (by omega) (Nat.le_refl 0) (Nat.le_refl 0) (Nat.le_of_ble_eq_true rfl) dX11_sumOf_96 (fun x_96 I_96 J_96 h_96 => ?_)
              have kJ_96 : Kp 49 73 Ja J_96 := Kp_tr kJ_73 h_96.2.1
              have kI_96 : Ch [] [19, 21] Ia I_96 := Ch_tr kI_73 (Ch_wd h_96.1 (by decide) (by decide))
              have cI_96 : RX I_96 := h_96.2.2.1
              have qI_96 := RX_w cI_96
              have f20_I_96 : I_96 49 20 = I_73 49 20 := h_96.1.2 20 (by decide)
              have vI_96 : EV I_96 t c d9 := h_96.2.2.2.1
              have oI_96 := EV_o vI_96
              have yI_96 := h_96.2.2.2.2
              have bI_96 : zB1 I_96 := yI_96.1
              refine ww_lstore_n hX (pc := 99) (lv' := [some (kR (some 49)), some (kI la), some (kL x_96), none, some (kI 0), some (kL x_73), none]) dX11_sumOf_99 (by decide) rfl rfl ?_
              refine ww_goto hX (pc := 100) (tgt := 6) dX11_sumOf_100 (by decide) ?_
              refine ww_sub [some (kR (some 49)), some (kI la), some (kL x_96), none, none, none, none] (aLe_s (aLe_s (aLe_s (aLe_n (aLe_n (aLe_n (aLe_n aLe_0))))))) ?_
              exact ih_6 _ (by have hm9 := Sh0_e hq_6; omega) x_96 I_96 J_96 rfl ⟨kI_96, cI_96, kJ_96, ⟨d9, _, vI_96, bI_96, (by rw [zJD_2, show c p9 = 145 by omega]; exact zRv_op hla (by have h9 := hB; unfold zB1 at h9; exact h9) (zRv_cg hr6 rfl rfl) (zRv_cg yI_73.2 (by omega) rfl) (zRv_bd yI_96.2 (by omega)) (fun g1 g2 g3 g4 => ⟨rfl, by omega, by omega, fun h9 => by omega⟩)), hR9⟩⟩
            · simp only [w32_mod] at h_81
              exfalso
              omega
          · simp only [w32_mod] at h_51
            exfalso
            omega
  exact hl_6 _ x_2 I_2 J_2 rfl ⟨kI_2, cI_2, kJ_2, ⟨a1, D1, vI_2, bI_2, yI_2.2, hRs⟩⟩
theorem c_VSum (l0 : Launch) : ∀ m : Nat, VSum l0 m
  | 0 => fun hL hQ _ hla _ _ _ hE _ _ hV hB _ _ hG => c6_X11_sumOf l0 hL hQ hla hE hV hB (m := 0) hG (fun mp e => absurd e (by omega))
  | m + 1 => fun hL hQ _ hla _ _ _ hE _ _ hV hB _ _ hG => c6_X11_sumOf l0 hL hQ hla hE hV hB (m := m + 1) hG (fun mp e => by
      obtain rfl : m = mp := by omega
      exact c_VSum l0 m)
