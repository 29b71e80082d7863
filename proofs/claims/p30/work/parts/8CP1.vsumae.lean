theorem zRv_bd {la B B2 v x B' : Int} (h : zBnd la B v x B') (e : B2 = B) : zBnd la B2 v x B' := by rw [e]; exact h
set_option maxHeartbeats 4000000 in
set_option maxRecDepth 20000 in
theorem c6_X11_termOf (l0 : Launch) {Ia Ja : aI1} {Ra : aR1} {Sa : aS1} (hL : LY Ra Sa) (hQ : RX Ia) {la : Int} (hla : 0 ≤ la ∧ la ≤ 1) {t a : Nat} {c : Nat → Int} (hE : EV Ia t c a) {vl : Nat → Int} {en : zE} (hV : zEV Ia t vl en) (hB : zB1 Ia) {m b : Nat} {D : zD} (hG : zG (zTm (zSu c vl m) c vl) a b D) (hrec : ∀ mp, m = mp + 1 → VSum l0 mp)  : CT l0 (3 * m + 4) 0 0 mX11_termOf [kR (some 49), kI la] Ia Ja Ra Sa (cJ (fun x I' J' => Ch [] [19, 21] Ia I' ∧ Kp 49 73 Ja J' ∧ RX I' ∧ EV I' t c b ∧ zB1 I' ∧ zRv la (Ia 49 21) (I' 49 21) x (D en)) Ra Sa) := by
  refine ct_in pn_X11 (Nat.le_of_ble_eq_true rfl) (fun X hX hT hIn => ?_)
  have hX : aK l0 X cX11_termOf 7 RX11 (some .long) (3 * m + 4) 0 0 := hX
  change WW X 0 [some (kR (some 49)), some (kI la), none, none, none, none, none] [] Ia Ja Ra Sa 0 0
  have qIa := RX_w hQ
  have oIa := EV_o hE
  obtain ⟨a1, D1, hG1, hRs⟩ := zG_sq hG
  have hle1 := zHR_l (zPart_lt m) hRs
  refine ww_aload_n hX (pc := 0) dX11_termOf_0 rfl ?_
  refine ww_iload_n hX (pc := 1) dX11_termOf_1 rfl ?_
  refine vJ1 hX (pc := 2) sX11_237 (xs_49 hL) (c6_X11_partOf l0 hL hQ  (by omega) hE hV hB hG1 hrec) (by omega) (Nat.le_refl 0) (Nat.le_refl 0) (Nat.le_of_ble_eq_true rfl) dX11_termOf_2 (fun x_2 I_2 J_2 h_2 => ?_)
  have kJ_2 : Kp 49 73 Ja J_2 := Kp_tr (Kp_rf (a := 49) (b := 73)) h_2.2.1
  have kI_2 : Ch [] [19, 21] Ia I_2 := Ch_tr Ch_rf (Ch_wd h_2.1 (by decide) (by decide))
  have cI_2 : RX I_2 := h_2.2.2.1
  have qI_2 := RX_w cI_2
  have f20_I_2 : I_2 49 20 = Ia 49 20 := h_2.1.2 20 (by decide)
  have vI_2 : EV I_2 t c a1 := h_2.2.2.2.1
  have oI_2 := EV_o vI_2
  have yI_2 := h_2.2.2.2.2
  have bI_2 : zB1 I_2 := yI_2.1
  refine ww_lstore_n hX (pc := 5) (lv' := [some (kR (some 49)), some (kI la), some (kL x_2), none, none, none, none]) dX11_termOf_5 (by decide) rfl rfl ?_
  have hl_6 : ∀ (n_6 : Nat) (v9 : Int) (I6 : aI1) (J6 : aI1), (400 * t + b - I6 49 19).toNat = n_6 → (Ch [] [19, 21] Ia I6 ∧ RX I6 ∧ Kp 49 73 Ja J6 ∧ ∃ (p9 : Nat) (D9 : zD), EV I6 t c p9 ∧ zB1 I6 ∧ zRv la (Ia 49 21) (I6 49 21) v9 (D9 en) ∧ zHR (zPart (zSu c vl m) c vl) [142, 147, 137] zJD c p9 D9 b D) → WW X 6 [some (kR (some 49)), some (kI la), some (kL v9), none, none, none, none] [] I6 J6 Ra Sa 0 0 := by
    intro n_6
    induction n_6 using Nat.strongRecOn with
    | ind n_6 ih_6 =>
      intro v9 I6 J6 hm_6 hv_6
      have hq_6 := Sh0_i hm_6
      clear hm_6
      obtain ⟨kI6, cI6, kJ6, p9, D9, vI6, bI6, hr6, hR6⟩ := hv_6
      have qI6 := RX_w cI6
      have oI6 := EV_o vI6
      refine ww_aload_n hX (pc := 6) dX11_termOf_6 rfl ?_
      refine ww_aload_n hX (pc := 7) dX11_termOf_7 rfl ?_
      refine ww_getI hX (pc := 8) fX11_215 (by decide) (xs_49 hL) dX11_termOf_8 ?_
      refine vI1 hX (pc := 11) sX11_218 (xs_49 hL) (c_X11_codeAt l0 hL cI6  rfl vI6) (by omega) (Nat.le_refl 0) (Nat.le_refl 0) (Nat.le_of_ble_eq_true rfl) dX11_termOf_11 (fun x_11 I_11 J_11 h_11 => ?_)
      obtain ⟨rfl, rfl, h_11⟩ := h_11
      refine ww_bipush hX (pc := 14) (x := 42) dX11_termOf_14 (by decide) ?_
      refine sI1 hX (pc := 16) sX11_190 (c_X11_sign l0 ) (by omega) (Nat.le_refl 0) (Nat.le_refl 0) (Nat.le_of_ble_eq_true rfl) dX11_termOf_16 (fun x_16 I_16 J_16 h_16 => ?_)
      obtain ⟨rfl, rfl, h_16⟩ := h_16
      refine ww_icmp_eq hX (pc := 19) (tgt := 54) dX11_termOf_19 (by decide) (fun h_19 => ?_) (fun h_19 => ?_)
      · simp only [w32_mod] at h_19
        have hop : c p9 ∈ ([142, 147, 137] : List Int) := by simp only [List.mem_cons, List.not_mem_nil, or_false]; omega
        have hz9 := EV_z (i := p9) vI6 (fun e9 => by rw [e9] at hop; revert hop; decide)
        obtain ⟨d9, F9, hT9, hlt9, hR9⟩ := zHR_op hR6 (zPart_lt m) hop (by omega)
        have hle9 := zHR_l (zPart_lt m) hR9
        refine ww_aload_n hX (pc := 54) dX11_termOf_54 rfl ?_
        refine ww_aload_n hX (pc := 55) dX11_termOf_55 rfl ?_
        refine ww_getI hX (pc := 56) fX11_215 (by decide) (xs_49 hL) dX11_termOf_56 ?_
        refine vI1 hX (pc := 59) sX11_218 (xs_49 hL) (c_X11_codeAt l0 hL cI6  rfl vI6) (by omega) (Nat.le_refl 0) (Nat.le_refl 0) (Nat.le_of_ble_eq_true rfl) dX11_termOf_59 (fun x_59 I_59 J_59 h_59 => ?_)
        obtain ⟨rfl, rfl, h_59⟩ := h_59
        refine ww_istore hX (pc := 62) (lv' := [some (kR (some 49)), some (kI la), some (kL v9), none, some (kI x_59), none, none]) dX11_termOf_62 (by decide) rfl rfl ?_
        refine ww_aload_n hX (pc := 64) dX11_termOf_64 rfl ?_
        refine ww_dupR hX (pc := 65) dX11_termOf_65 ?_
        refine ww_getI hX (pc := 66) fX11_215 (by decide) (xs_49 hL) dX11_termOf_66 ?_
        refine ww_iconst hX (pc := 69) (x := 1) dX11_termOf_69 rfl ?_
        refine ww_iadd hX (pc := 70) dX11_termOf_70 ?_
        refine ww_putI hX (pc := 71) (fun h9 => absurd h9 (by decide)) gX11_215 rfl (xs_49 hL) dX11_termOf_71 ?_
        refine ww_nmH (fun I_71 eI_71 => ?_)
        have kI_71 : Ch [] [19, 21] Ia I_71 := by rw [eI_71]; exact Ch_f kI6 (by decide)
        have cI_71 : RX I_71 := by rw [eI_71]; exact RX_f cI6 (by decide)
        have qI_71 := RX_w cI_71
        have f20_I_71 : I_71 49 20 = I6 49 20 := by rw [eI_71, up2_n _ _ (Or.inr (by decide))]
        have f21_I_71 : I_71 49 21 = I6 49 21 := by rw [eI_71, up2_n _ _ (Or.inr (by decide))]
        have vI_71 : EV I_71 t c (p9 + 1) := EV_st vI6 (by rw [eI_71, up2_off _ _ _ (by decide)]) (by omega) (by rw [eI_71, up2_s]; omega) (by omega)
        have oI_71 := EV_o vI_71
        have bI_71 : zB1 I_71 := zB1_e bI6 f21_I_71
        refine ww_aload_n hX (pc := 74) dX11_termOf_74 rfl ?_
        refine ww_iload_n hX (pc := 75) dX11_termOf_75 rfl ?_
        refine vJ1 hX (pc := 76) sX11_237 (xs_49 hL) (c6_X11_partOf l0 hL cI_71  (by omega) vI_71 (zEV_ch kI_71 (by decide) (by decide) hV) bI_71 hT9 hrec) (by omega) (Nat.le_refl 0) (Nat.le_refl 0) (Nat.le_of_ble_eq_true rfl) dX11_termOf_76 (fun x_76 I_76 J_76 h_76 => ?_)
        have kJ_76 : Kp 49 73 Ja J_76 := Kp_tr kJ6 h_76.2.1
        have kI_76 : Ch [] [19, 21] Ia I_76 := Ch_tr kI_71 (Ch_wd h_76.1 (by decide) (by decide))
        have cI_76 : RX I_76 := h_76.2.2.1
        have qI_76 := RX_w cI_76
        have f20_I_76 : I_76 49 20 = I_71 49 20 := h_76.1.2 20 (by decide)
        have vI_76 : EV I_76 t c d9 := h_76.2.2.2.1
        have oI_76 := EV_o vI_76
        have yI_76 := h_76.2.2.2.2
        have bI_76 : zB1 I_76 := yI_76.1
        refine ww_lstore hX (pc := 79) (lv' := [some (kR (some 49)), some (kI la), some (kL v9), none, some (kI x_59), some (kL x_76), none]) dX11_termOf_79 (by decide) rfl rfl ?_
        refine ww_iload hX (pc := 81) dX11_termOf_81 rfl ?_
        refine ww_bipush hX (pc := 83) (x := 42) dX11_termOf_83 (by decide) ?_
        refine sI1 hX (pc := 85) sX11_190 (c_X11_sign l0 ) (by omega) (Nat.le_refl 0) (Nat.le_refl 0) (Nat.le_of_ble_eq_true rfl) dX11_termOf_85 (fun x_85 I_85 J_85 h_85 => ?_)
        obtain ⟨rfl, rfl, h_85⟩ := h_85
        refine ww_icmp_eq hX (pc := 88) (tgt := 121) dX11_termOf_88 (by decide) (fun h_88 => ?_) (fun h_88 => ?_)
        · simp only [w32_mod] at h_88
          refine ww_aload_n hX (pc := 121) dX11_termOf_121 rfl ?_
          refine ww_iload hX (pc := 122) dX11_termOf_122 rfl ?_
          refine ww_bipush hX (pc := 124) (x := 42) dX11_termOf_124 (by decide) ?_
          refine sI1 hX (pc := 126) sX11_190 (c_X11_sign l0 ) (by omega) (Nat.le_refl 0) (Nat.le_refl 0) (Nat.le_of_ble_eq_true rfl) dX11_termOf_126 (fun x_126 I_126 J_126 h_126 => ?_)
          obtain ⟨rfl, rfl, h_126⟩ := h_126
          refine ww_icmp_ne hX (pc := 129) (tgt := 139) dX11_termOf_129 (by decide) (fun h_129 => ?_) (fun h_129 => ?_)
          · simp only [w32_mod] at h_129
            exfalso
            omega
          · simp only [w32_mod] at h_129
            refine ww_lload_n hX (pc := 132) dX11_termOf_132 rfl ?_
            refine ww_lload hX (pc := 133) dX11_termOf_133 rfl ?_
            refine ww_lmul hX (pc := 135) dX11_termOf_135 ?_
            refine ww_goto hX (pc := 136) (tgt := 160) dX11_termOf_136 (by decide) ?_
            refine ww_iload_n hX (pc := 160) dX11_termOf_160 rfl ?_
            refine vJ2 hX (pc := 161) sX11_233 (xs_49 hL) (c6_X11_bounded l0 hL cI_76  (by omega) vI_76 (zEV_ch kI_76 (by decide) (by decide) hV) bI_76) (by omega) (Nat.le_refl 0) (Nat.le_refl 0) (Nat.le_of_ble_eq_true rfl) dX11_termOf_161 (fun x_161 I_161 J_161 h_161 => ?_)
            have kJ_161 : Kp 49 73 Ja J_161 := Kp_tr kJ_76 h_161.2.1
            have kI_161 : Ch [] [19, 21] Ia I_161 := Ch_tr kI_76 (Ch_wd h_161.1 (by decide) (by decide))
            have cI_161 : RX I_161 := h_161.2.2.1
            have qI_161 := RX_w cI_161
            have f20_I_161 : I_161 49 20 = I_76 49 20 := h_161.1.2 20 (by decide)
            have vI_161 : EV I_161 t c d9 := h_161.2.2.2.1
            have oI_161 := EV_o vI_161
            have yI_161 := h_161.2.2.2.2
            have bI_161 : zB1 I_161 := yI_161.1
            refine ww_lstore_n hX (pc := 164) (lv' := [some (kR (some 49)), some (kI la), some (kL x_161), none, some (kI x_59), some (kL x_76), none]) dX11_termOf_164 (by decide) rfl rfl ?_
            refine ww_goto hX (pc := 165) (tgt := 6) dX11_termOf_165 (by decide) ?_
            refine ww_sub [some (kR (some 49)), some (kI la), some (kL x_161), none, none, none, none] (aLe_s (aLe_s (aLe_s (aLe_n (aLe_n (aLe_n (aLe_n aLe_0))))))) ?_
            exact ih_6 _ (by have hm9 := Sh0_e hq_6; omega) x_161 I_161 J_161 rfl ⟨kI_161, cI_161, kJ_161, ⟨d9, _, vI_161, bI_161, (by rw [zJD_2, show c p9 = 142 by omega]; exact zRv_op hla (by have h9 := hB; unfold zB1 at h9; exact h9) (zRv_cg hr6 rfl rfl) (zRv_cg yI_76.2 (by omega) rfl) (zRv_bd yI_161.2 (by omega)) (fun g1 g2 g3 g4 => ⟨rfl, by have h9 := mul_le9 g1 g2 g3 g4; omega, by have h9 := mul_le9 g1 g2 g3 g4; omega, fun h9 => by omega⟩)), hR9⟩⟩
        · simp only [w32_mod] at h_88
          exfalso
          omega
      · simp only [w32_mod] at h_19
        refine ww_aload_n hX (pc := 22) dX11_termOf_22 rfl ?_
        refine ww_aload_n hX (pc := 23) dX11_termOf_23 rfl ?_
        refine ww_getI hX (pc := 24) fX11_215 (by decide) (xs_49 hL) dX11_termOf_24 ?_
        refine vI1 hX (pc := 27) sX11_218 (xs_49 hL) (c_X11_codeAt l0 hL cI6  rfl vI6) (by omega) (Nat.le_refl 0) (Nat.le_refl 0) (Nat.le_of_ble_eq_true rfl) dX11_termOf_27 (fun x_27 I_27 J_27 h_27 => ?_)
        obtain ⟨rfl, rfl, h_27⟩ := h_27
        refine ww_bipush hX (pc := 30) (x := 47) dX11_termOf_30 (by decide) ?_
        refine sI1 hX (pc := 32) sX11_190 (c_X11_sign l0 ) (by omega) (Nat.le_refl 0) (Nat.le_refl 0) (Nat.le_of_ble_eq_true rfl) dX11_termOf_32 (fun x_32 I_32 J_32 h_32 => ?_)
        obtain ⟨rfl, rfl, h_32⟩ := h_32
        refine ww_icmp_eq hX (pc := 35) (tgt := 54) dX11_termOf_35 (by decide) (fun h_35 => ?_) (fun h_35 => ?_)
        · simp only [w32_mod] at h_35
          have hop : c p9 ∈ ([142, 147, 137] : List Int) := by simp only [List.mem_cons, List.not_mem_nil, or_false]; omega
          have hz9 := EV_z (i := p9) vI6 (fun e9 => by rw [e9] at hop; revert hop; decide)
          obtain ⟨d9, F9, hT9, hlt9, hR9⟩ := zHR_op hR6 (zPart_lt m) hop (by omega)
          have hle9 := zHR_l (zPart_lt m) hR9
          refine ww_aload_n hX (pc := 54) dX11_termOf_54 rfl ?_
          refine ww_aload_n hX (pc := 55) dX11_termOf_55 rfl ?_
          refine ww_getI hX (pc := 56) fX11_215 (by decide) (xs_49 hL) dX11_termOf_56 ?_
          refine vI1 hX (pc := 59) sX11_218 (xs_49 hL) (c_X11_codeAt l0 hL cI6  rfl vI6) (by omega) (Nat.le_refl 0) (Nat.le_refl 0) (Nat.le_of_ble_eq_true rfl) dX11_termOf_59 (fun x_59 I_59 J_59 h_59 => ?_)
          obtain ⟨rfl, rfl, h_59⟩ := h_59
          refine ww_istore hX (pc := 62) (lv' := [some (kR (some 49)), some (kI la), some (kL v9), none, some (kI x_59), none, none]) dX11_termOf_62 (by decide) rfl rfl ?_
          refine ww_aload_n hX (pc := 64) dX11_termOf_64 rfl ?_
          refine ww_dupR hX (pc := 65) dX11_termOf_65 ?_
          refine ww_getI hX (pc := 66) fX11_215 (by decide) (xs_49 hL) dX11_termOf_66 ?_
          refine ww_iconst hX (pc := 69) (x := 1) dX11_termOf_69 rfl ?_
          refine ww_iadd hX (pc := 70) dX11_termOf_70 ?_
          refine ww_putI hX (pc := 71) (fun h9 => absurd h9 (by decide)) gX11_215 rfl (xs_49 hL) dX11_termOf_71 ?_
          refine ww_nmH (fun I_71 eI_71 => ?_)
          have kI_71 : Ch [] [19, 21] Ia I_71 := by rw [eI_71]; exact Ch_f kI6 (by decide)
          have cI_71 : RX I_71 := by rw [eI_71]; exact RX_f cI6 (by decide)
          have qI_71 := RX_w cI_71
          have f20_I_71 : I_71 49 20 = I6 49 20 := by rw [eI_71, up2_n _ _ (Or.inr (by decide))]
          have f21_I_71 : I_71 49 21 = I6 49 21 := by rw [eI_71, up2_n _ _ (Or.inr (by decide))]
          have vI_71 : EV I_71 t c (p9 + 1) := EV_st vI6 (by rw [eI_71, up2_off _ _ _ (by decide)]) (by omega) (by rw [eI_71, up2_s]; omega) (by omega)
          have oI_71 := EV_o vI_71
          have bI_71 : zB1 I_71 := zB1_e bI6 f21_I_71
          refine ww_aload_n hX (pc := 74) dX11_termOf_74 rfl ?_
          refine ww_iload_n hX (pc := 75) dX11_termOf_75 rfl ?_
          refine vJ1 hX (pc := 76) sX11_237 (xs_49 hL) (c6_X11_partOf l0 hL cI_71  (by omega) vI_71 (zEV_ch kI_71 (by decide) (by decide) hV) bI_71 hT9 hrec) (by omega) (Nat.le_refl 0) (Nat.le_refl 0) (Nat.le_of_ble_eq_true rfl) dX11_termOf_76 (fun x_76 I_76 J_76 h_76 => ?_)
          have kJ_76 : Kp 49 73 Ja J_76 := Kp_tr kJ6 h_76.2.1
          have kI_76 : Ch [] [19, 21] Ia I_76 := Ch_tr kI_71 (Ch_wd h_76.1 (by decide) (by decide))
          have cI_76 : RX I_76 := h_76.2.2.1
          have qI_76 := RX_w cI_76
          have f20_I_76 : I_76 49 20 = I_71 49 20 := h_76.1.2 20 (by decide)
          have vI_76 : EV I_76 t c d9 := h_76.2.2.2.1
          have oI_76 := EV_o vI_76
          have yI_76 := h_76.2.2.2.2
          have bI_76 : zB1 I_76 := yI_76.1
          refine ww_lstore hX (pc := 79) (lv' := [some (kR (some 49)), some (kI la), some (kL v9), none, some (kI x_59), some (kL x_76), none]) dX11_termOf_79 (by decide) rfl rfl ?_
          refine ww_iload hX (pc := 81) dX11_termOf_81 rfl ?_
          refine ww_bipush hX (pc := 83) (x := 42) dX11_termOf_83 (by decide) ?_
          refine sI1 hX (pc := 85) sX11_190 (c_X11_sign l0 ) (by omega) (Nat.le_refl 0) (Nat.le_refl 0) (Nat.le_of_ble_eq_true rfl) dX11_termOf_85 (fun x_85 I_85 J_85 h_85 => ?_)
          obtain ⟨rfl, rfl, h_85⟩ := h_85
          refine ww_icmp_eq hX (pc := 88) (tgt := 121) dX11_termOf_88 (by decide) (fun h_88 => ?_) (fun h_88 => ?_)
          · simp only [w32_mod] at h_88
            exfalso
            omega
          · simp only [w32_mod] at h_88
            refine ww_lload hX (pc := 91) dX11_termOf_91 rfl ?_
            refine ww_lconst hX (pc := 93) (x := 0) dX11_termOf_93 (by decide) ?_
            refine ww_lcmp hX (pc := 94) dX11_termOf_94 ?_
            refine ww_if_ne hX (pc := 95) (tgt := 121) dX11_termOf_95 (by decide) (fun h_95 => ?_) (fun h_95 => ?_)
            · simp only [w32_mod] at h_95
              have hnz := l_cmp_ne0 h_95
              refine ww_aload_n hX (pc := 121) dX11_termOf_121 rfl ?_
              refine ww_iload hX (pc := 122) dX11_termOf_122 rfl ?_
              refine ww_bipush hX (pc := 124) (x := 42) dX11_termOf_124 (by decide) ?_
              refine sI1 hX (pc := 126) sX11_190 (c_X11_sign l0 ) (by omega) (Nat.le_refl 0) (Nat.le_refl 0) (Nat.le_of_ble_eq_true rfl) dX11_termOf_126 (fun x_126 I_126 J_126 h_126 => ?_)
              obtain ⟨rfl, rfl, h_126⟩ := h_126
              refine ww_icmp_ne hX (pc := 129) (tgt := 139) dX11_termOf_129 (by decide) (fun h_129 => ?_) (fun h_129 => ?_)
              · simp only [w32_mod] at h_129
                refine ww_iload hX (pc := 139) dX11_termOf_139 rfl ?_
                refine ww_bipush hX (pc := 141) (x := 47) dX11_termOf_141 (by decide) ?_
                refine sI1 hX (pc := 143) sX11_190 (c_X11_sign l0 ) (by omega) (Nat.le_refl 0) (Nat.le_refl 0) (Nat.le_of_ble_eq_true rfl) dX11_termOf_143 (fun x_143 I_143 J_143 h_143 => ?_)
                obtain ⟨rfl, rfl, h_143⟩ := h_143
                refine ww_icmp_ne hX (pc := 146) (tgt := 156) dX11_termOf_146 (by decide) (fun h_146 => ?_) (fun h_146 => ?_)
                · simp only [w32_mod] at h_146
                  exfalso
                  omega
                · simp only [w32_mod] at h_146
                  refine ww_lload_n hX (pc := 149) dX11_termOf_149 rfl ?_
                  refine ww_lload hX (pc := 150) dX11_termOf_150 rfl ?_
                  refine ww_ldiv hX (pc := 152) dX11_termOf_152 (by first | exact hnz | decide) ?_
                  refine ww_goto hX (pc := 153) (tgt := 160) dX11_termOf_153 (by decide) ?_
                  refine ww_iload_n hX (pc := 160) dX11_termOf_160 rfl ?_
                  refine vJ2 hX (pc := 161) sX11_233 (xs_49 hL) (c6_X11_bounded l0 hL cI_76  (by omega) vI_76 (zEV_ch kI_76 (by decide) (by decide) hV) bI_76) (by omega) (Nat.le_refl 0) (Nat.le_refl 0) (Nat.le_of_ble_eq_true rfl) dX11_termOf_161 (fun x_161 I_161 J_161 h_161 => ?_)
                  have kJ_161 : Kp 49 73 Ja J_161 := Kp_tr kJ_76 h_161.2.1
                  have kI_161 : Ch [] [19, 21] Ia I_161 := Ch_tr kI_76 (Ch_wd h_161.1 (by decide) (by decide))
                  have cI_161 : RX I_161 := h_161.2.2.1
                  have qI_161 := RX_w cI_161
                  have f20_I_161 : I_161 49 20 = I_76 49 20 := h_161.1.2 20 (by decide)
                  have vI_161 : EV I_161 t c d9 := h_161.2.2.2.1
                  have oI_161 := EV_o vI_161
                  have yI_161 := h_161.2.2.2.2
                  have bI_161 : zB1 I_161 := yI_161.1
                  refine ww_lstore_n hX (pc := 164) (lv' := [some (kR (some 49)), some (kI la), some (kL x_161), none, some (kI x_59), some (kL x_76), none]) dX11_termOf_164 (by decide) rfl rfl ?_
                  refine ww_goto hX (pc := 165) (tgt := 6) dX11_termOf_165 (by decide) ?_
                  refine ww_sub [some (kR (some 49)), some (kI la), some (kL x_161), none, none, none, none] (aLe_s (aLe_s (aLe_s (aLe_n (aLe_n (aLe_n (aLe_n aLe_0))))))) ?_
                  exact ih_6 _ (by have hm9 := Sh0_e hq_6; omega) x_161 I_161 J_161 rfl ⟨kI_161, cI_161, kJ_161, ⟨d9, _, vI_161, bI_161, (by rw [zJD_2, show c p9 = 147 by omega]; exact zRv_op hla (by have h9 := hB; unfold zB1 at h9; exact h9) (zRv_cg hr6 rfl rfl) (zRv_cg yI_76.2 (by omega) rfl) (zRv_bd yI_161.2 (by omega)) (fun g1 g2 g3 g4 => ⟨l_div_t g1 g2 g3 g4, by rw [l_div_t g1 g2 g3 g4]; have h9 := tdiv_le (b := x_76) g1 g2; omega, by rw [l_div_t g1 g2 g3 g4]; have h9 := tdiv_le (b := x_76) g1 g2; omega, fun h9 => hnz (by rw [w64_id (by omega) (by omega)]; exact h9.2)⟩)), hR9⟩⟩
              · simp only [w32_mod] at h_129
                exfalso
                omega
            · simp only [w32_mod] at h_95
              have hwz : w64 x_76 = 0 := by have h9 := l_cmp_v x_76 0; have h8 : w64 0 = 0 := rfl; omega
              have hB76 := bI_76
              unfold zB1 at hB76
              refine ww_aload_n hX (pc := 98) dX11_termOf_98 rfl ?_
              refine ww_aload_n hX (pc := 99) dX11_termOf_99 rfl ?_
              refine ww_getI hX (pc := 100) fX11_225 (by decide) (xs_49 hL) dX11_termOf_100 ?_
              refine ww_if_ne hX (pc := 103) (tgt := 110) dX11_termOf_103 (by decide) (fun h_103 => ?_) (fun h_103 => ?_)
              · simp only [w32_mod] at h_103
                refine ww_iconst hX (pc := 110) (x := 1) dX11_termOf_110 rfl ?_
                refine ww_goto hX (pc := 111) (tgt := 115) dX11_termOf_111 (by decide) ?_
                refine ww_putZ hX (pc := 115) (fun h9 => absurd h9 (by decide)) gX11_225 rfl (by decide) (xs_49 hL) dX11_termOf_115 ?_
                refine ww_nmH (fun I_115 eI_115 => ?_)
                have kI_115 : Ch [] [19, 21] Ia I_115 := by rw [eI_115]; exact Ch_f kI_76 (by decide)
                have cI_115 : RX I_115 := by rw [eI_115]; exact RX_f cI_76 (by decide)
                have qI_115 := RX_w cI_115
                have f19_I_115 : I_115 49 19 = I_76 49 19 := by rw [eI_115, up2_n _ _ (Or.inr (by decide))]
                have f20_I_115 : I_115 49 20 = I_76 49 20 := by rw [eI_115, up2_n _ _ (Or.inr (by decide))]
                have w21 : I_115 49 21 = 1 := by rw [eI_115, up2_s]
                have vI_115 : EV I_115 t c d9 := EV_st vI_76 (by rw [eI_115, up2_off _ _ _ (by decide)]) (by omega) (by omega) (by omega)
                have oI_115 := EV_o vI_115
                have bI_115 : zB1 I_115 := by unfold zB1; rw [eI_115, up2_s]; omega
                refine ww_lconst hX (pc := 118) (x := 1) dX11_termOf_118 (by decide) ?_
                refine ww_lstore hX (pc := 119) (lv' := [some (kR (some 49)), some (kI la), some (kL v9), none, some (kI x_59), some (kL 1), none]) dX11_termOf_119 (by decide) rfl rfl ?_
                refine ww_aload_n hX (pc := 121) dX11_termOf_121 rfl ?_
                refine ww_iload hX (pc := 122) dX11_termOf_122 rfl ?_
                refine ww_bipush hX (pc := 124) (x := 42) dX11_termOf_124 (by decide) ?_
                refine sI1 hX (pc := 126) sX11_190 (c_X11_sign l0 ) (by omega) (Nat.le_refl 0) (Nat.le_refl 0) (Nat.le_of_ble_eq_true rfl) dX11_termOf_126 (fun x_126 I_126 J_126 h_126 => ?_)
                obtain ⟨rfl, rfl, h_126⟩ := h_126
                refine ww_icmp_ne hX (pc := 129) (tgt := 139) dX11_termOf_129 (by decide) (fun h_129 => ?_) (fun h_129 => ?_)
                · simp only [w32_mod] at h_129
                  refine ww_iload hX (pc := 139) dX11_termOf_139 rfl ?_
                  refine ww_bipush hX (pc := 141) (x := 47) dX11_termOf_141 (by decide) ?_
                  refine sI1 hX (pc := 143) sX11_190 (c_X11_sign l0 ) (by omega) (Nat.le_refl 0) (Nat.le_refl 0) (Nat.le_of_ble_eq_true rfl) dX11_termOf_143 (fun x_143 I_143 J_143 h_143 => ?_)
                  obtain ⟨rfl, rfl, h_143⟩ := h_143
                  refine ww_icmp_ne hX (pc := 146) (tgt := 156) dX11_termOf_146 (by decide) (fun h_146 => ?_) (fun h_146 => ?_)
                  · simp only [w32_mod] at h_146
                    exfalso
                    omega
                  · simp only [w32_mod] at h_146
                    refine ww_lload_n hX (pc := 149) dX11_termOf_149 rfl ?_
                    refine ww_lload hX (pc := 150) dX11_termOf_150 rfl ?_
                    refine ww_ldiv hX (pc := 152) dX11_termOf_152 (by first | exact hnz | decide) ?_
                    refine ww_goto hX (pc := 153) (tgt := 160) dX11_termOf_153 (by decide) ?_
                    refine ww_iload_n hX (pc := 160) dX11_termOf_160 rfl ?_
                    refine vJ2 hX (pc := 161) sX11_233 (xs_49 hL) (c6_X11_bounded l0 hL cI_115  (by omega) vI_115 (zEV_ch kI_115 (by decide) (by decide) hV) bI_115) (by omega) (Nat.le_refl 0) (Nat.le_refl 0) (Nat.le_of_ble_eq_true rfl) dX11_termOf_161 (fun x_161 I_161 J_161 h_161 => ?_)
                    have kJ_161 : Kp 49 73 Ja J_161 := Kp_tr kJ_76 h_161.2.1
                    have kI_161 : Ch [] [19, 21] Ia I_161 := Ch_tr kI_115 (Ch_wd h_161.1 (by decide) (by decide))
                    have cI_161 : RX I_161 := h_161.2.2.1
                    have qI_161 := RX_w cI_161
                    have f20_I_161 : I_161 49 20 = I_115 49 20 := h_161.1.2 20 (by decide)
                    have vI_161 : EV I_161 t c d9 := h_161.2.2.2.1
                    have oI_161 := EV_o vI_161
                    have yI_161 := h_161.2.2.2.2
                    have bI_161 : zB1 I_161 := yI_161.1
                    refine ww_lstore_n hX (pc := 164) (lv' := [some (kR (some 49)), some (kI la), some (kL x_161), none, some (kI x_59), some (kL 1), none]) dX11_termOf_164 (by decide) rfl rfl ?_
                    refine ww_goto hX (pc := 165) (tgt := 6) dX11_termOf_165 (by decide) ?_
                    refine ww_sub [some (kR (some 49)), some (kI la), some (kL x_161), none, none, none, none] (aLe_s (aLe_s (aLe_s (aLe_n (aLe_n (aLe_n (aLe_n aLe_0))))))) ?_
                    exact ih_6 _ (by have hm9 := Sh0_e hq_6; omega) x_161 I_161 J_161 rfl ⟨kI_161, cI_161, kJ_161, ⟨d9, _, vI_161, bI_161, (by rw [zJD_2, show c p9 = 147 by omega]; exact zRv_z hla (by have h9 := hB; unfold zB1 at h9; exact h9) (zRv_cg hr6 rfl rfl) (zRv_cg yI_76.2 (by omega) rfl) (fun g1 g2 => by have h9 := w64_id (x := x_76) (by omega) (by omega); omega) (by decide) (fun g => by omega) (fun g => by omega) yI_161.2), hR9⟩⟩
                · simp only [w32_mod] at h_129
                  exfalso
                  omega
              · simp only [w32_mod] at h_103
                refine ww_iload_n hX (pc := 106) dX11_termOf_106 rfl ?_
                refine ww_if_eq hX (pc := 107) (tgt := 114) dX11_termOf_107 (by decide) (fun h_107 => ?_) (fun h_107 => ?_)
                · simp only [w32_mod] at h_107
                  refine ww_iconst hX (pc := 114) (x := 0) dX11_termOf_114 rfl ?_
                  refine ww_putZ hX (pc := 115) (fun h9 => absurd h9 (by decide)) gX11_225 rfl (by decide) (xs_49 hL) dX11_termOf_115 ?_
                  refine ww_nmH (fun I_115 eI_115 => ?_)
                  have kI_115 : Ch [] [19, 21] Ia I_115 := by rw [eI_115]; exact Ch_f kI_76 (by decide)
                  have cI_115 : RX I_115 := by rw [eI_115]; exact RX_f cI_76 (by decide)
                  have qI_115 := RX_w cI_115
                  have f19_I_115 : I_115 49 19 = I_76 49 19 := by rw [eI_115, up2_n _ _ (Or.inr (by decide))]
                  have f20_I_115 : I_115 49 20 = I_76 49 20 := by rw [eI_115, up2_n _ _ (Or.inr (by decide))]
                  have w21 : I_115 49 21 = 0 := by rw [eI_115, up2_s]
                  have vI_115 : EV I_115 t c d9 := EV_st vI_76 (by rw [eI_115, up2_off _ _ _ (by decide)]) (by omega) (by omega) (by omega)
                  have oI_115 := EV_o vI_115
                  have bI_115 : zB1 I_115 := by unfold zB1; rw [eI_115, up2_s]; omega
                  refine ww_lconst hX (pc := 118) (x := 1) dX11_termOf_118 (by decide) ?_
                  refine ww_lstore hX (pc := 119) (lv' := [some (kR (some 49)), some (kI la), some (kL v9), none, some (kI x_59), some (kL 1), none]) dX11_termOf_119 (by decide) rfl rfl ?_
                  refine ww_aload_n hX (pc := 121) dX11_termOf_121 rfl ?_
                  refine ww_iload hX (pc := 122) dX11_termOf_122 rfl ?_
                  refine ww_bipush hX (pc := 124) (x := 42) dX11_termOf_124 (by decide) ?_
                  refine sI1 hX (pc := 126) sX11_190 (c_X11_sign l0 ) (by omega) (Nat.le_refl 0) (Nat.le_refl 0) (Nat.le_of_ble_eq_true rfl) dX11_termOf_126 (fun x_126 I_126 J_126 h_126 => ?_)
                  obtain ⟨rfl, rfl, h_126⟩ := h_126
                  refine ww_icmp_ne hX (pc := 129) (tgt := 139) dX11_termOf_129 (by decide) (fun h_129 => ?_) (fun h_129 => ?_)
                  · simp only [w32_mod] at h_129
                    refine ww_iload hX (pc := 139) dX11_termOf_139 rfl ?_
                    refine ww_bipush hX (pc := 141) (x := 47) dX11_termOf_141 (by decide) ?_
                    refine sI1 hX (pc := 143) sX11_190 (c_X11_sign l0 ) (by omega) (Nat.le_refl 0) (Nat.le_refl 0) (Nat.le_of_ble_eq_true rfl) dX11_termOf_143 (fun x_143 I_143 J_143 h_143 => ?_)
                    obtain ⟨rfl, rfl, h_143⟩ := h_143
                    refine ww_icmp_ne hX (pc := 146) (tgt := 156) dX11_termOf_146 (by decide) (fun h_146 => ?_) (fun h_146 => ?_)
                    · simp only [w32_mod] at h_146
                      exfalso
                      omega
                    · simp only [w32_mod] at h_146
                      refine ww_lload_n hX (pc := 149) dX11_termOf_149 rfl ?_
                      refine ww_lload hX (pc := 150) dX11_termOf_150 rfl ?_
                      refine ww_ldiv hX (pc := 152) dX11_termOf_152 (by first | exact hnz | decide) ?_
                      refine ww_goto hX (pc := 153) (tgt := 160) dX11_termOf_153 (by decide) ?_
                      refine ww_iload_n hX (pc := 160) dX11_termOf_160 rfl ?_
                      refine vJ2 hX (pc := 161) sX11_233 (xs_49 hL) (c6_X11_bounded l0 hL cI_115  (by omega) vI_115 (zEV_ch kI_115 (by decide) (by decide) hV) bI_115) (by omega) (Nat.le_refl 0) (Nat.le_refl 0) (Nat.le_of_ble_eq_true rfl) dX11_termOf_161 (fun x_161 I_161 J_161 h_161 => ?_)
                      have kJ_161 : Kp 49 73 Ja J_161 := Kp_tr kJ_76 h_161.2.1
                      have kI_161 : Ch [] [19, 21] Ia I_161 := Ch_tr kI_115 (Ch_wd h_161.1 (by decide) (by decide))
                      have cI_161 : RX I_161 := h_161.2.2.1
                      have qI_161 := RX_w cI_161
                      have f20_I_161 : I_161 49 20 = I_115 49 20 := h_161.1.2 20 (by decide)
                      have vI_161 : EV I_161 t c d9 := h_161.2.2.2.1
                      have oI_161 := EV_o vI_161
                      have yI_161 := h_161.2.2.2.2
                      have bI_161 : zB1 I_161 := yI_161.1
                      refine ww_lstore_n hX (pc := 164) (lv' := [some (kR (some 49)), some (kI la), some (kL x_161), none, some (kI x_59), some (kL 1), none]) dX11_termOf_164 (by decide) rfl rfl ?_
                      refine ww_goto hX (pc := 165) (tgt := 6) dX11_termOf_165 (by decide) ?_
                      refine ww_sub [some (kR (some 49)), some (kI la), some (kL x_161), none, none, none, none] (aLe_s (aLe_s (aLe_s (aLe_n (aLe_n (aLe_n (aLe_n aLe_0))))))) ?_
                      exact ih_6 _ (by have hm9 := Sh0_e hq_6; omega) x_161 I_161 J_161 rfl ⟨kI_161, cI_161, kJ_161, ⟨d9, _, vI_161, bI_161, (by rw [zJD_2, show c p9 = 147 by omega]; exact zRv_z hla (by have h9 := hB; unfold zB1 at h9; exact h9) (zRv_cg hr6 rfl rfl) (zRv_cg yI_76.2 (by omega) rfl) (fun g1 g2 => by have h9 := w64_id (x := x_76) (by omega) (by omega); omega) (by decide) (fun g => by omega) (fun g => by omega) yI_161.2), hR9⟩⟩
                  · simp only [w32_mod] at h_129
                    exfalso
                    omega
                · simp only [w32_mod] at h_107
                  refine ww_iconst hX (pc := 110) (x := 1) dX11_termOf_110 rfl ?_
                  refine ww_goto hX (pc := 111) (tgt := 115) dX11_termOf_111 (by decide) ?_
                  refine ww_putZ hX (pc := 115) (fun h9 => absurd h9 (by decide)) gX11_225 rfl (by decide) (xs_49 hL) dX11_termOf_115 ?_
                  refine ww_nmH (fun I_115 eI_115 => ?_)
                  have kI_115 : Ch [] [19, 21] Ia I_115 := by rw [eI_115]; exact Ch_f kI_76 (by decide)
                  have cI_115 : RX I_115 := by rw [eI_115]; exact RX_f cI_76 (by decide)
                  have qI_115 := RX_w cI_115
                  have f19_I_115 : I_115 49 19 = I_76 49 19 := by rw [eI_115, up2_n _ _ (Or.inr (by decide))]
                  have f20_I_115 : I_115 49 20 = I_76 49 20 := by rw [eI_115, up2_n _ _ (Or.inr (by decide))]
                  have w21 : I_115 49 21 = 1 := by rw [eI_115, up2_s]
                  have vI_115 : EV I_115 t c d9 := EV_st vI_76 (by rw [eI_115, up2_off _ _ _ (by decide)]) (by omega) (by omega) (by omega)
                  have oI_115 := EV_o vI_115
                  have bI_115 : zB1 I_115 := by unfold zB1; rw [eI_115, up2_s]; omega
                  refine ww_lconst hX (pc := 118) (x := 1) dX11_termOf_118 (by decide) ?_
                  refine ww_lstore hX (pc := 119) (lv' := [some (kR (some 49)), some (kI la), some (kL v9), none, some (kI x_59), some (kL 1), none]) dX11_termOf_119 (by decide) rfl rfl ?_
                  refine ww_aload_n hX (pc := 121) dX11_termOf_121 rfl ?_
                  refine ww_iload hX (pc := 122) dX11_termOf_122 rfl ?_
                  refine ww_bipush hX (pc := 124) (x := 42) dX11_termOf_124 (by decide) ?_
                  refine sI1 hX (pc := 126) sX11_190 (c_X11_sign l0 ) (by omega) (Nat.le_refl 0) (Nat.le_refl 0) (Nat.le_of_ble_eq_true rfl) dX11_termOf_126 (fun x_126 I_126 J_126 h_126 => ?_)
                  obtain ⟨rfl, rfl, h_126⟩ := h_126
                  refine ww_icmp_ne hX (pc := 129) (tgt := 139) dX11_termOf_129 (by decide) (fun h_129 => ?_) (fun h_129 => ?_)
                  · simp only [w32_mod] at h_129
                    refine ww_iload hX (pc := 139) dX11_termOf_139 rfl ?_
                    refine ww_bipush hX (pc := 141) (x := 47) dX11_termOf_141 (by decide) ?_
                    refine sI1 hX (pc := 143) sX11_190 (c_X11_sign l0 ) (by omega) (Nat.le_refl 0) (Nat.le_refl 0) (Nat.le_of_ble_eq_true rfl) dX11_termOf_143 (fun x_143 I_143 J_143 h_143 => ?_)
                    obtain ⟨rfl, rfl, h_143⟩ := h_143
                    refine ww_icmp_ne hX (pc := 146) (tgt := 156) dX11_termOf_146 (by decide) (fun h_146 => ?_) (fun h_146 => ?_)
                    · simp only [w32_mod] at h_146
                      exfalso
                      omega
                    · simp only [w32_mod] at h_146
                      refine ww_lload_n hX (pc := 149) dX11_termOf_149 rfl ?_
                      refine ww_lload hX (pc := 150) dX11_termOf_150 rfl ?_
                      refine ww_ldiv hX (pc := 152) dX11_termOf_152 (by first | exact hnz | decide) ?_
                      refine ww_goto hX (pc := 153) (tgt := 160) dX11_termOf_153 (by decide) ?_
                      refine ww_iload_n hX (pc := 160) dX11_termOf_160 rfl ?_
                      refine vJ2 hX (pc := 161) sX11_233 (xs_49 hL) (c6_X11_bounded l0 hL cI_115  (by omega) vI_115 (zEV_ch kI_115 (by decide) (by decide) hV) bI_115) (by omega) (Nat.le_refl 0) (Nat.le_refl 0) (Nat.le_of_ble_eq_true rfl) dX11_termOf_161 (fun x_161 I_161 J_161 h_161 => ?_)
                      have kJ_161 : Kp 49 73 Ja J_161 := Kp_tr kJ_76 h_161.2.1
                      have kI_161 : Ch [] [19, 21] Ia I_161 := Ch_tr kI_115 (Ch_wd h_161.1 (by decide) (by decide))
                      have cI_161 : RX I_161 := h_161.2.2.1
                      have qI_161 := RX_w cI_161
                      have f20_I_161 : I_161 49 20 = I_115 49 20 := h_161.1.2 20 (by decide)
                      have vI_161 : EV I_161 t c d9 := h_161.2.2.2.1
                      have oI_161 := EV_o vI_161
                      have yI_161 := h_161.2.2.2.2
                      have bI_161 : zB1 I_161 := yI_161.1
                      refine ww_lstore_n hX (pc := 164) (lv' := [some (kR (some 49)), some (kI la), some (kL x_161), none, some (kI x_59), some (kL 1), none]) dX11_termOf_164 (by decide) rfl rfl ?_
                      refine ww_goto hX (pc := 165) (tgt := 6) dX11_termOf_165 (by decide) ?_
                      refine ww_sub [some (kR (some 49)), some (kI la), some (kL x_161), none, none, none, none] (aLe_s (aLe_s (aLe_s (aLe_n (aLe_n (aLe_n (aLe_n aLe_0))))))) ?_
                      exact ih_6 _ (by have hm9 := Sh0_e hq_6; omega) x_161 I_161 J_161 rfl ⟨kI_161, cI_161, kJ_161, ⟨d9, _, vI_161, bI_161, (by rw [zJD_2, show c p9 = 147 by omega]; exact zRv_z hla (by have h9 := hB; unfold zB1 at h9; exact h9) (zRv_cg hr6 rfl rfl) (zRv_cg yI_76.2 (by omega) rfl) (fun g1 g2 => by have h9 := w64_id (x := x_76) (by omega) (by omega); omega) (by decide) (fun g => by omega) (fun g => by omega) yI_161.2), hR9⟩⟩
                  · simp only [w32_mod] at h_129
                    exfalso
                    omega
        · simp only [w32_mod] at h_35
          refine ww_aload_n hX (pc := 38) dX11_termOf_38 rfl ?_
          refine ww_aload_n hX (pc := 39) dX11_termOf_39 rfl ?_
          refine ww_getI hX (pc := 40) fX11_215 (by decide) (xs_49 hL) dX11_termOf_40 ?_
          refine vI1 hX (pc := 43) sX11_218 (xs_49 hL) (c_X11_codeAt l0 hL cI6  rfl vI6) (by omega) (Nat.le_refl 0) (Nat.le_refl 0) (Nat.le_of_ble_eq_true rfl) dX11_termOf_43 (fun x_43 I_43 J_43 h_43 => ?_)
          obtain ⟨rfl, rfl, h_43⟩ := h_43
          refine ww_bipush hX (pc := 46) (x := 37) dX11_termOf_46 (by decide) ?_
          refine sI1 hX (pc := 48) sX11_190 (c_X11_sign l0 ) (by omega) (Nat.le_refl 0) (Nat.le_refl 0) (Nat.le_of_ble_eq_true rfl) dX11_termOf_48 (fun x_48 I_48 J_48 h_48 => ?_)
          obtain ⟨rfl, rfl, h_48⟩ := h_48
          refine ww_icmp_ne hX (pc := 51) (tgt := 168) dX11_termOf_51 (by decide) (fun h_51 => ?_) (fun h_51 => ?_)
          · simp only [w32_mod] at h_51
            refine ww_lload_n hX (pc := 168) dX11_termOf_168 rfl ?_
            refine rJ hX (pc := 169) hT (Nat.le_refl 0) (Nat.le_refl 0) dX11_termOf_169 ?_
            exact ⟨kI6, kJ6, cI6, (by
                have hb9 := zHR_no hR6 (by simp only [List.mem_cons, List.not_mem_nil, or_false]; omega)
                exact EV_to vI6 hb9.1), bI6, (by
                have hb9 := zHR_no hR6 (by simp only [List.mem_cons, List.not_mem_nil, or_false]; omega)
                rw [← hb9.2]; exact zRv_cg hr6 rfl (by omega))⟩
          · simp only [w32_mod] at h_51
            have hop : c p9 ∈ ([142, 147, 137] : List Int) := by simp only [List.mem_cons, List.not_mem_nil, or_false]; omega
            have hz9 := EV_z (i := p9) vI6 (fun e9 => by rw [e9] at hop; revert hop; decide)
            obtain ⟨d9, F9, hT9, hlt9, hR9⟩ := zHR_op hR6 (zPart_lt m) hop (by omega)
            have hle9 := zHR_l (zPart_lt m) hR9
            refine ww_aload_n hX (pc := 54) dX11_termOf_54 rfl ?_
            refine ww_aload_n hX (pc := 55) dX11_termOf_55 rfl ?_
            refine ww_getI hX (pc := 56) fX11_215 (by decide) (xs_49 hL) dX11_termOf_56 ?_
            refine vI1 hX (pc := 59) sX11_218 (xs_49 hL) (c_X11_codeAt l0 hL cI6  rfl vI6) (by omega) (Nat.le_refl 0) (Nat.le_refl 0) (Nat.le_of_ble_eq_true rfl) dX11_termOf_59 (fun x_59 I_59 J_59 h_59 => ?_)
            obtain ⟨rfl, rfl, h_59⟩ := h_59
            refine ww_istore hX (pc := 62) (lv' := [some (kR (some 49)), some (kI la), some (kL v9), none, some (kI x_59), none, none]) dX11_termOf_62 (by decide) rfl rfl ?_
            refine ww_aload_n hX (pc := 64) dX11_termOf_64 rfl ?_
            refine ww_dupR hX (pc := 65) dX11_termOf_65 ?_
            refine ww_getI hX (pc := 66) fX11_215 (by decide) (xs_49 hL) dX11_termOf_66 ?_
            refine ww_iconst hX (pc := 69) (x := 1) dX11_termOf_69 rfl ?_
            refine ww_iadd hX (pc := 70) dX11_termOf_70 ?_
            refine ww_putI hX (pc := 71) (fun h9 => absurd h9 (by decide)) gX11_215 rfl (xs_49 hL) dX11_termOf_71 ?_
            refine ww_nmH (fun I_71 eI_71 => ?_)
            have kI_71 : Ch [] [19, 21] Ia I_71 := by rw [eI_71]; exact Ch_f kI6 (by decide)
            have cI_71 : RX I_71 := by rw [eI_71]; exact RX_f cI6 (by decide)
            have qI_71 := RX_w cI_71
            have f20_I_71 : I_71 49 20 = I6 49 20 := by rw [eI_71, up2_n _ _ (Or.inr (by decide))]
            have f21_I_71 : I_71 49 21 = I6 49 21 := by rw [eI_71, up2_n _ _ (Or.inr (by decide))]
            have vI_71 : EV I_71 t c (p9 + 1) := EV_st vI6 (by rw [eI_71, up2_off _ _ _ (by decide)]) (by omega) (by rw [eI_71, up2_s]; omega) (by omega)
            have oI_71 := EV_o vI_71
            have bI_71 : zB1 I_71 := zB1_e bI6 f21_I_71
            refine ww_aload_n hX (pc := 74) dX11_termOf_74 rfl ?_
            refine ww_iload_n hX (pc := 75) dX11_termOf_75 rfl ?_
            refine vJ1 hX (pc := 76) sX11_237 (xs_49 hL) (c6_X11_partOf l0 hL cI_71  (by omega) vI_71 (zEV_ch kI_71 (by decide) (by decide) hV) bI_71 hT9 hrec) (by omega) (Nat.le_refl 0) (Nat.le_refl 0) (Nat.le_of_ble_eq_true rfl) dX11_termOf_76 (fun x_76 I_76 J_76 h_76 => ?_)
            have kJ_76 : Kp 49 73 Ja J_76 := Kp_tr kJ6 h_76.2.1
            have kI_76 : Ch [] [19, 21] Ia I_76 := Ch_tr kI_71 (Ch_wd h_76.1 (by decide) (by decide))
            have cI_76 : RX I_76 := h_76.2.2.1
            have qI_76 := RX_w cI_76
            have f20_I_76 : I_76 49 20 = I_71 49 20 := h_76.1.2 20 (by decide)
            have vI_76 : EV I_76 t c d9 := h_76.2.2.2.1
            have oI_76 := EV_o vI_76
            have yI_76 := h_76.2.2.2.2
            have bI_76 : zB1 I_76 := yI_76.1
            refine ww_lstore hX (pc := 79) (lv' := [some (kR (some 49)), some (kI la), some (kL v9), none, some (kI x_59), some (kL x_76), none]) dX11_termOf_79 (by decide) rfl rfl ?_
            refine ww_iload hX (pc := 81) dX11_termOf_81 rfl ?_
            refine ww_bipush hX (pc := 83) (x := 42) dX11_termOf_83 (by decide) ?_
            refine sI1 hX (pc := 85) sX11_190 (c_X11_sign l0 ) (by omega) (Nat.le_refl 0) (Nat.le_refl 0) (Nat.le_of_ble_eq_true rfl) dX11_termOf_85 (fun x_85 I_85 J_85 h_85 => ?_)
            obtain ⟨rfl, rfl, h_85⟩ := h_85
            refine ww_icmp_eq hX (pc := 88) (tgt := 121) dX11_termOf_88 (by decide) (fun h_88 => ?_) (fun h_88 => ?_)
            · simp only [w32_mod] at h_88
              exfalso
              omega
            · simp only [w32_mod] at h_88
              refine ww_lload hX (pc := 91) dX11_termOf_91 rfl ?_
              refine ww_lconst hX (pc := 93) (x := 0) dX11_termOf_93 (by decide) ?_
              refine ww_lcmp hX (pc := 94) dX11_termOf_94 ?_
              refine ww_if_ne hX (pc := 95) (tgt := 121) dX11_termOf_95 (by decide) (fun h_95 => ?_) (fun h_95 => ?_)
              · simp only [w32_mod] at h_95
                have hnz := l_cmp_ne0 h_95
                refine ww_aload_n hX (pc := 121) dX11_termOf_121 rfl ?_
                refine ww_iload hX (pc := 122) dX11_termOf_122 rfl ?_
                refine ww_bipush hX (pc := 124) (x := 42) dX11_termOf_124 (by decide) ?_
                refine sI1 hX (pc := 126) sX11_190 (c_X11_sign l0 ) (by omega) (Nat.le_refl 0) (Nat.le_refl 0) (Nat.le_of_ble_eq_true rfl) dX11_termOf_126 (fun x_126 I_126 J_126 h_126 => ?_)
                obtain ⟨rfl, rfl, h_126⟩ := h_126
                refine ww_icmp_ne hX (pc := 129) (tgt := 139) dX11_termOf_129 (by decide) (fun h_129 => ?_) (fun h_129 => ?_)
                · simp only [w32_mod] at h_129
                  refine ww_iload hX (pc := 139) dX11_termOf_139 rfl ?_
                  refine ww_bipush hX (pc := 141) (x := 47) dX11_termOf_141 (by decide) ?_
                  refine sI1 hX (pc := 143) sX11_190 (c_X11_sign l0 ) (by omega) (Nat.le_refl 0) (Nat.le_refl 0) (Nat.le_of_ble_eq_true rfl) dX11_termOf_143 (fun x_143 I_143 J_143 h_143 => ?_)
                  obtain ⟨rfl, rfl, h_143⟩ := h_143
                  refine ww_icmp_ne hX (pc := 146) (tgt := 156) dX11_termOf_146 (by decide) (fun h_146 => ?_) (fun h_146 => ?_)
                  · simp only [w32_mod] at h_146
                    refine ww_lload_n hX (pc := 156) dX11_termOf_156 rfl ?_
                    refine ww_lload hX (pc := 157) dX11_termOf_157 rfl ?_
                    refine ww_lrem hX (pc := 159) dX11_termOf_159 (by first | exact hnz | decide) ?_
                    refine ww_iload_n hX (pc := 160) dX11_termOf_160 rfl ?_
                    refine vJ2 hX (pc := 161) sX11_233 (xs_49 hL) (c6_X11_bounded l0 hL cI_76  (by omega) vI_76 (zEV_ch kI_76 (by decide) (by decide) hV) bI_76) (by omega) (Nat.le_refl 0) (Nat.le_refl 0) (Nat.le_of_ble_eq_true rfl) dX11_termOf_161 (fun x_161 I_161 J_161 h_161 => ?_)
                    have kJ_161 : Kp 49 73 Ja J_161 := Kp_tr kJ_76 h_161.2.1
                    have kI_161 : Ch [] [19, 21] Ia I_161 := Ch_tr kI_76 (Ch_wd h_161.1 (by decide) (by decide))
                    have cI_161 : RX I_161 := h_161.2.2.1
                    have qI_161 := RX_w cI_161
                    have f20_I_161 : I_161 49 20 = I_76 49 20 := h_161.1.2 20 (by decide)
                    have vI_161 : EV I_161 t c d9 := h_161.2.2.2.1
                    have oI_161 := EV_o vI_161
                    have yI_161 := h_161.2.2.2.2
                    have bI_161 : zB1 I_161 := yI_161.1
                    refine ww_lstore_n hX (pc := 164) (lv' := [some (kR (some 49)), some (kI la), some (kL x_161), none, some (kI x_59), some (kL x_76), none]) dX11_termOf_164 (by decide) rfl rfl ?_
                    refine ww_goto hX (pc := 165) (tgt := 6) dX11_termOf_165 (by decide) ?_
                    refine ww_sub [some (kR (some 49)), some (kI la), some (kL x_161), none, none, none, none] (aLe_s (aLe_s (aLe_s (aLe_n (aLe_n (aLe_n (aLe_n aLe_0))))))) ?_
                    exact ih_6 _ (by have hm9 := Sh0_e hq_6; omega) x_161 I_161 J_161 rfl ⟨kI_161, cI_161, kJ_161, ⟨d9, _, vI_161, bI_161, (by rw [zJD_2, show c p9 = 137 by omega]; exact zRv_op hla (by have h9 := hB; unfold zB1 at h9; exact h9) (zRv_cg hr6 rfl rfl) (zRv_cg yI_76.2 (by omega) rfl) (zRv_bd yI_161.2 (by omega)) (fun g1 g2 g3 g4 => ⟨l_rem_t g1 g2 g3 g4, by rw [l_rem_t g1 g2 g3 g4]; have h9 := tmod_le (b := x_76) g1 g2; omega, by rw [l_rem_t g1 g2 g3 g4]; have h9 := tmod_le (b := x_76) g1 g2; omega, fun h9 => hnz (by rw [w64_id (by omega) (by omega)]; exact h9.2)⟩)), hR9⟩⟩
                  · simp only [w32_mod] at h_146
                    exfalso
                    omega
                · simp only [w32_mod] at h_129
                  exfalso
                  omega
              · simp only [w32_mod] at h_95
                have hwz : w64 x_76 = 0 := by have h9 := l_cmp_v x_76 0; have h8 : w64 0 = 0 := rfl; omega
                have hB76 := bI_76
                unfold zB1 at hB76
                refine ww_aload_n hX (pc := 98) dX11_termOf_98 rfl ?_
                refine ww_aload_n hX (pc := 99) dX11_termOf_99 rfl ?_
                refine ww_getI hX (pc := 100) fX11_225 (by decide) (xs_49 hL) dX11_termOf_100 ?_
                refine ww_if_ne hX (pc := 103) (tgt := 110) dX11_termOf_103 (by decide) (fun h_103 => ?_) (fun h_103 => ?_)
                · simp only [w32_mod] at h_103
                  refine ww_iconst hX (pc := 110) (x := 1) dX11_termOf_110 rfl ?_
                  refine ww_goto hX (pc := 111) (tgt := 115) dX11_termOf_111 (by decide) ?_
                  refine ww_putZ hX (pc := 115) (fun h9 => absurd h9 (by decide)) gX11_225 rfl (by decide) (xs_49 hL) dX11_termOf_115 ?_
                  refine ww_nmH (fun I_115 eI_115 => ?_)
                  have kI_115 : Ch [] [19, 21] Ia I_115 := by rw [eI_115]; exact Ch_f kI_76 (by decide)
                  have cI_115 : RX I_115 := by rw [eI_115]; exact RX_f cI_76 (by decide)
                  have qI_115 := RX_w cI_115
                  have f19_I_115 : I_115 49 19 = I_76 49 19 := by rw [eI_115, up2_n _ _ (Or.inr (by decide))]
                  have f20_I_115 : I_115 49 20 = I_76 49 20 := by rw [eI_115, up2_n _ _ (Or.inr (by decide))]
                  have w21 : I_115 49 21 = 1 := by rw [eI_115, up2_s]
                  have vI_115 : EV I_115 t c d9 := EV_st vI_76 (by rw [eI_115, up2_off _ _ _ (by decide)]) (by omega) (by omega) (by omega)
                  have oI_115 := EV_o vI_115
                  have bI_115 : zB1 I_115 := by unfold zB1; rw [eI_115, up2_s]; omega
                  refine ww_lconst hX (pc := 118) (x := 1) dX11_termOf_118 (by decide) ?_
                  refine ww_lstore hX (pc := 119) (lv' := [some (kR (some 49)), some (kI la), some (kL v9), none, some (kI x_59), some (kL 1), none]) dX11_termOf_119 (by decide) rfl rfl ?_
                  refine ww_aload_n hX (pc := 121) dX11_termOf_121 rfl ?_
                  refine ww_iload hX (pc := 122) dX11_termOf_122 rfl ?_
                  refine ww_bipush hX (pc := 124) (x := 42) dX11_termOf_124 (by decide) ?_
                  refine sI1 hX (pc := 126) sX11_190 (c_X11_sign l0 ) (by omega) (Nat.le_refl 0) (Nat.le_refl 0) (Nat.le_of_ble_eq_true rfl) dX11_termOf_126 (fun x_126 I_126 J_126 h_126 => ?_)
                  obtain ⟨rfl, rfl, h_126⟩ := h_126
                  refine ww_icmp_ne hX (pc := 129) (tgt := 139) dX11_termOf_129 (by decide) (fun h_129 => ?_) (fun h_129 => ?_)
                  · simp only [w32_mod] at h_129
                    refine ww_iload hX (pc := 139) dX11_termOf_139 rfl ?_
                    refine ww_bipush hX (pc := 141) (x := 47) dX11_termOf_141 (by decide) ?_
                    refine sI1 hX (pc := 143) sX11_190 (c_X11_sign l0 ) (by omega) (Nat.le_refl 0) (Nat.le_refl 0) (Nat.le_of_ble_eq_true rfl) dX11_termOf_143 (fun x_143 I_143 J_143 h_143 => ?_)
                    obtain ⟨rfl, rfl, h_143⟩ := h_143
                    refine ww_icmp_ne hX (pc := 146) (tgt := 156) dX11_termOf_146 (by decide) (fun h_146 => ?_) (fun h_146 => ?_)
                    · simp only [w32_mod] at h_146
                      refine ww_lload_n hX (pc := 156) dX11_termOf_156 rfl ?_
                      refine ww_lload hX (pc := 157) dX11_termOf_157 rfl ?_
                      refine ww_lrem hX (pc := 159) dX11_termOf_159 (by first | exact hnz | decide) ?_
                      refine ww_iload_n hX (pc := 160) dX11_termOf_160 rfl ?_
                      refine vJ2 hX (pc := 161) sX11_233 (xs_49 hL) (c6_X11_bounded l0 hL cI_115  (by omega) vI_115 (zEV_ch kI_115 (by decide) (by decide) hV) bI_115) (by omega) (Nat.le_refl 0) (Nat.le_refl 0) (Nat.le_of_ble_eq_true rfl) dX11_termOf_161 (fun x_161 I_161 J_161 h_161 => ?_)
                      have kJ_161 : Kp 49 73 Ja J_161 := Kp_tr kJ_76 h_161.2.1
                      have kI_161 : Ch [] [19, 21] Ia I_161 := Ch_tr kI_115 (Ch_wd h_161.1 (by decide) (by decide))
                      have cI_161 : RX I_161 := h_161.2.2.1
                      have qI_161 := RX_w cI_161
                      have f20_I_161 : I_161 49 20 = I_115 49 20 := h_161.1.2 20 (by decide)
                      have vI_161 : EV I_161 t c d9 := h_161.2.2.2.1
                      have oI_161 := EV_o vI_161
                      have yI_161 := h_161.2.2.2.2
                      have bI_161 : zB1 I_161 := yI_161.1
                      refine ww_lstore_n hX (pc := 164) (lv' := [some (kR (some 49)), some (kI la), some (kL x_161), none, some (kI x_59), some (kL 1), none]) dX11_termOf_164 (by decide) rfl rfl ?_
                      refine ww_goto hX (pc := 165) (tgt := 6) dX11_termOf_165 (by decide) ?_
                      refine ww_sub [some (kR (some 49)), some (kI la), some (kL x_161), none, none, none, none] (aLe_s (aLe_s (aLe_s (aLe_n (aLe_n (aLe_n (aLe_n aLe_0))))))) ?_
                      exact ih_6 _ (by have hm9 := Sh0_e hq_6; omega) x_161 I_161 J_161 rfl ⟨kI_161, cI_161, kJ_161, ⟨d9, _, vI_161, bI_161, (by rw [zJD_2, show c p9 = 137 by omega]; exact zRv_z hla (by have h9 := hB; unfold zB1 at h9; exact h9) (zRv_cg hr6 rfl rfl) (zRv_cg yI_76.2 (by omega) rfl) (fun g1 g2 => by have h9 := w64_id (x := x_76) (by omega) (by omega); omega) (by decide) (fun g => by omega) (fun g => by omega) yI_161.2), hR9⟩⟩
                    · simp only [w32_mod] at h_146
                      exfalso
                      omega
                  · simp only [w32_mod] at h_129
                    exfalso
                    omega
                · simp only [w32_mod] at h_103
                  refine ww_iload_n hX (pc := 106) dX11_termOf_106 rfl ?_
                  refine ww_if_eq hX (pc := 107) (tgt := 114) dX11_termOf_107 (by decide) (fun h_107 => ?_) (fun h_107 => ?_)
                  · simp only [w32_mod] at h_107
                    refine ww_iconst hX (pc := 114) (x := 0) dX11_termOf_114 rfl ?_
                    refine ww_putZ hX (pc := 115) (fun h9 => absurd h9 (by decide)) gX11_225 rfl (by decide) (xs_49 hL) dX11_termOf_115 ?_
                    refine ww_nmH (fun I_115 eI_115 => ?_)
                    have kI_115 : Ch [] [19, 21] Ia I_115 := by rw [eI_115]; exact Ch_f kI_76 (by decide)
                    have cI_115 : RX I_115 := by rw [eI_115]; exact RX_f cI_76 (by decide)
                    have qI_115 := RX_w cI_115
                    have f19_I_115 : I_115 49 19 = I_76 49 19 := by rw [eI_115, up2_n _ _ (Or.inr (by decide))]
                    have f20_I_115 : I_115 49 20 = I_76 49 20 := by rw [eI_115, up2_n _ _ (Or.inr (by decide))]
                    have w21 : I_115 49 21 = 0 := by rw [eI_115, up2_s]
                    have vI_115 : EV I_115 t c d9 := EV_st vI_76 (by rw [eI_115, up2_off _ _ _ (by decide)]) (by omega) (by omega) (by omega)
                    have oI_115 := EV_o vI_115
                    have bI_115 : zB1 I_115 := by unfold zB1; rw [eI_115, up2_s]; omega
                    refine ww_lconst hX (pc := 118) (x := 1) dX11_termOf_118 (by decide) ?_
                    refine ww_lstore hX (pc := 119) (lv' := [some (kR (some 49)), some (kI la), some (kL v9), none, some (kI x_59), some (kL 1), none]) dX11_termOf_119 (by decide) rfl rfl ?_
                    refine ww_aload_n hX (pc := 121) dX11_termOf_121 rfl ?_
                    refine ww_iload hX (pc := 122) dX11_termOf_122 rfl ?_
                    refine ww_bipush hX (pc := 124) (x := 42) dX11_termOf_124 (by decide) ?_
                    refine sI1 hX (pc := 126) sX11_190 (c_X11_sign l0 ) (by omega) (Nat.le_refl 0) (Nat.le_refl 0) (Nat.le_of_ble_eq_true rfl) dX11_termOf_126 (fun x_126 I_126 J_126 h_126 => ?_)
                    obtain ⟨rfl, rfl, h_126⟩ := h_126
                    refine ww_icmp_ne hX (pc := 129) (tgt := 139) dX11_termOf_129 (by decide) (fun h_129 => ?_) (fun h_129 => ?_)
                    · simp only [w32_mod] at h_129
                      refine ww_iload hX (pc := 139) dX11_termOf_139 rfl ?_
                      refine ww_bipush hX (pc := 141) (x := 47) dX11_termOf_141 (by decide) ?_
                      refine sI1 hX (pc := 143) sX11_190 (c_X11_sign l0 ) (by omega) (Nat.le_refl 0) (Nat.le_refl 0) (Nat.le_of_ble_eq_true rfl) dX11_termOf_143 (fun x_143 I_143 J_143 h_143 => ?_)
                      obtain ⟨rfl, rfl, h_143⟩ := h_143
                      refine ww_icmp_ne hX (pc := 146) (tgt := 156) dX11_termOf_146 (by decide) (fun h_146 => ?_) (fun h_146 => ?_)
                      · simp only [w32_mod] at h_146
                        refine ww_lload_n hX (pc := 156) dX11_termOf_156 rfl ?_
                        refine ww_lload hX (pc := 157) dX11_termOf_157 rfl ?_
                        refine ww_lrem hX (pc := 159) dX11_termOf_159 (by first | exact hnz | decide) ?_
                        refine ww_iload_n hX (pc := 160) dX11_termOf_160 rfl ?_
                        refine vJ2 hX (pc := 161) sX11_233 (xs_49 hL) (c6_X11_bounded l0 hL cI_115  (by omega) vI_115 (zEV_ch kI_115 (by decide) (by decide) hV) bI_115) (by omega) (Nat.le_refl 0) (Nat.le_refl 0) (Nat.le_of_ble_eq_true rfl) dX11_termOf_161 (fun x_161 I_161 J_161 h_161 => ?_)
                        have kJ_161 : Kp 49 73 Ja J_161 := Kp_tr kJ_76 h_161.2.1
                        have kI_161 : Ch [] [19, 21] Ia I_161 := Ch_tr kI_115 (Ch_wd h_161.1 (by decide) (by decide))
                        have cI_161 : RX I_161 := h_161.2.2.1
                        have qI_161 := RX_w cI_161
                        have f20_I_161 : I_161 49 20 = I_115 49 20 := h_161.1.2 20 (by decide)
                        have vI_161 : EV I_161 t c d9 := h_161.2.2.2.1
                        have oI_161 := EV_o vI_161
                        have yI_161 := h_161.2.2.2.2
                        have bI_161 : zB1 I_161 := yI_161.1
                        refine ww_lstore_n hX (pc := 164) (lv' := [some (kR (some 49)), some (kI la), some (kL x_161), none, some (kI x_59), some (kL 1), none]) dX11_termOf_164 (by decide) rfl rfl ?_
                        refine ww_goto hX (pc := 165) (tgt := 6) dX11_termOf_165 (by decide) ?_
                        refine ww_sub [some (kR (some 49)), some (kI la), some (kL x_161), none, none, none, none] (aLe_s (aLe_s (aLe_s (aLe_n (aLe_n (aLe_n (aLe_n aLe_0))))))) ?_
                        exact ih_6 _ (by have hm9 := Sh0_e hq_6; omega) x_161 I_161 J_161 rfl ⟨kI_161, cI_161, kJ_161, ⟨d9, _, vI_161, bI_161, (by rw [zJD_2, show c p9 = 137 by omega]; exact zRv_z hla (by have h9 := hB; unfold zB1 at h9; exact h9) (zRv_cg hr6 rfl rfl) (zRv_cg yI_76.2 (by omega) rfl) (fun g1 g2 => by have h9 := w64_id (x := x_76) (by omega) (by omega); omega) (by decide) (fun g => by omega) (fun g => by omega) yI_161.2), hR9⟩⟩
                      · simp only [w32_mod] at h_146
                        exfalso
                        omega
                    · simp only [w32_mod] at h_129
                      exfalso
                      omega
                  · simp only [w32_mod] at h_107
                    refine ww_iconst hX (pc := 110) (x := 1) dX11_termOf_110 rfl ?_
                    refine ww_goto hX (pc := 111) (tgt := 115) dX11_termOf_111 (by decide) ?_
                    refine ww_putZ hX (pc := 115) (fun h9 => absurd h9 (by decide)) gX11_225 rfl (by decide) (xs_49 hL) dX11_termOf_115 ?_
                    refine ww_nmH (fun I_115 eI_115 => ?_)
                    have kI_115 : Ch [] [19, 21] Ia I_115 := by rw [eI_115]; exact Ch_f kI_76 (by decide)
                    have cI_115 : RX I_115 := by rw [eI_115]; exact RX_f cI_76 (by decide)
                    have qI_115 := RX_w cI_115
                    have f19_I_115 : I_115 49 19 = I_76 49 19 := by rw [eI_115, up2_n _ _ (Or.inr (by decide))]
                    have f20_I_115 : I_115 49 20 = I_76 49 20 := by rw [eI_115, up2_n _ _ (Or.inr (by decide))]
                    have w21 : I_115 49 21 = 1 := by rw [eI_115, up2_s]
                    have vI_115 : EV I_115 t c d9 := EV_st vI_76 (by rw [eI_115, up2_off _ _ _ (by decide)]) (by omega) (by omega) (by omega)
                    have oI_115 := EV_o vI_115
                    have bI_115 : zB1 I_115 := by unfold zB1; rw [eI_115, up2_s]; omega
                    refine ww_lconst hX (pc := 118) (x := 1) dX11_termOf_118 (by decide) ?_
                    refine ww_lstore hX (pc := 119) (lv' := [some (kR (some 49)), some (kI la), some (kL v9), none, some (kI x_59), some (kL 1), none]) dX11_termOf_119 (by decide) rfl rfl ?_
                    refine ww_aload_n hX (pc := 121) dX11_termOf_121 rfl ?_
                    refine ww_iload hX (pc := 122) dX11_termOf_122 rfl ?_
                    refine ww_bipush hX (pc := 124) (x := 42) dX11_termOf_124 (by decide) ?_
                    refine sI1 hX (pc := 126) sX11_190 (c_X11_sign l0 ) (by omega) (Nat.le_refl 0) (Nat.le_refl 0) (Nat.le_of_ble_eq_true rfl) dX11_termOf_126 (fun x_126 I_126 J_126 h_126 => ?_)
                    obtain ⟨rfl, rfl, h_126⟩ := h_126
                    refine ww_icmp_ne hX (pc := 129) (tgt := 139) dX11_termOf_129 (by decide) (fun h_129 => ?_) (fun h_129 => ?_)
                    · simp only [w32_mod] at h_129
                      refine ww_iload hX (pc := 139) dX11_termOf_139 rfl ?_
                      refine ww_bipush hX (pc := 141) (x := 47) dX11_termOf_141 (by decide) ?_
                      refine sI1 hX (pc := 143) sX11_190 (c_X11_sign l0 ) (by omega) (Nat.le_refl 0) (Nat.le_refl 0) (Nat.le_of_ble_eq_true rfl) dX11_termOf_143 (fun x_143 I_143 J_143 h_143 => ?_)
                      obtain ⟨rfl, rfl, h_143⟩ := h_143
                      refine ww_icmp_ne hX (pc := 146) (tgt := 156) dX11_termOf_146 (by decide) (fun h_146 => ?_) (fun h_146 => ?_)
                      · simp only [w32_mod] at h_146
                        refine ww_lload_n hX (pc := 156) dX11_termOf_156 rfl ?_
                        refine ww_lload hX (pc := 157) dX11_termOf_157 rfl ?_
                        refine ww_lrem hX (pc := 159) dX11_termOf_159 (by first | exact hnz | decide) ?_
                        refine ww_iload_n hX (pc := 160) dX11_termOf_160 rfl ?_
                        refine vJ2 hX (pc := 161) sX11_233 (xs_49 hL) (c6_X11_bounded l0 hL cI_115  (by omega) vI_115 (zEV_ch kI_115 (by decide) (by decide) hV) bI_115) (by omega) (Nat.le_refl 0) (Nat.le_refl 0) (Nat.le_of_ble_eq_true rfl) dX11_termOf_161 (fun x_161 I_161 J_161 h_161 => ?_)
                        have kJ_161 : Kp 49 73 Ja J_161 := Kp_tr kJ_76 h_161.2.1
                        have kI_161 : Ch [] [19, 21] Ia I_161 := Ch_tr kI_115 (Ch_wd h_161.1 (by decide) (by decide))
                        have cI_161 : RX I_161 := h_161.2.2.1
                        have qI_161 := RX_w cI_161
                        have f20_I_161 : I_161 49 20 = I_115 49 20 := h_161.1.2 20 (by decide)
                        have vI_161 : EV I_161 t c d9 := h_161.2.2.2.1
                        have oI_161 := EV_o vI_161
                        have yI_161 := h_161.2.2.2.2
                        have bI_161 : zB1 I_161 := yI_161.1
                        refine ww_lstore_n hX (pc := 164) (lv' := [some (kR (some 49)), some (kI la), some (kL x_161), none, some (kI x_59), some (kL 1), none]) dX11_termOf_164 (by decide) rfl rfl ?_
                        refine ww_goto hX (pc := 165) (tgt := 6) dX11_termOf_165 (by decide) ?_
                        refine ww_sub [some (kR (some 49)), some (kI la), some (kL x_161), none, none, none, none] (aLe_s (aLe_s (aLe_s (aLe_n (aLe_n (aLe_n (aLe_n aLe_0))))))) ?_
                        exact ih_6 _ (by have hm9 := Sh0_e hq_6; omega) x_161 I_161 J_161 rfl ⟨kI_161, cI_161, kJ_161, ⟨d9, _, vI_161, bI_161, (by rw [zJD_2, show c p9 = 137 by omega]; exact zRv_z hla (by have h9 := hB; unfold zB1 at h9; exact h9) (zRv_cg hr6 rfl rfl) (zRv_cg yI_76.2 (by omega) rfl) (fun g1 g2 => by have h9 := w64_id (x := x_76) (by omega) (by omega); omega) (by decide) (fun g => by omega) (fun g => by omega) yI_161.2), hR9⟩⟩
                      · simp only [w32_mod] at h_146
                        exfalso
                        omega
                    · simp only [w32_mod] at h_129
                      exfalso
                      omega
  exact hl_6 _ x_2 I_2 J_2 rfl ⟨kI_2, cI_2, kJ_2, ⟨a1, D1, vI_2, bI_2, yI_2.2, hRs⟩⟩
