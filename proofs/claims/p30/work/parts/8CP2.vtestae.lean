set_option maxHeartbeats 4000000 in
set_option maxRecDepth 20000 in
theorem c6_X11_testOf (l0 : Launch) {Ia Ja : aI1} {Ra : aR1} {Sa : aS1} (hL : LY Ra Sa) (hQ : RX Ia) {la : Int} (hla : 0 ≤ la ∧ la ≤ 1) {t a : Nat} {c : Nat → Int} (hE : EV Ia t c a) {vl : Nat → Int} {en : zE} (hV : zEV Ia t vl en) (hB : zB1 Ia) {m b : Nat} {D : zD} (hG : zG (zT c vl m) a b D) (hrec : ∀ mp, m = mp + 1 → VTest l0 mp)  : CT l0 (4 * m + 9) 0 0 mX11_testOf [kR (some 49), kI la] Ia Ja Ra Sa (cI (fun x I' J' => Ch [] [19, 21] Ia I' ∧ Kp 49 73 Ja J' ∧ RX I' ∧ EV I' t c b ∧ zB1 I' ∧ (0 ≤ x ∧ x ≤ 1) ∧ zRv la (Ia 49 21) (I' 49 21) x (D en)) Ra Sa) := by
  refine ct_in pn_X11 (Nat.le_of_ble_eq_true rfl) (fun X hX hT hIn => ?_)
  have hX : aK l0 X cX11_testOf 4 RX11 (some .boolean) (4 * m + 9) 0 0 := hX
  change WW X 0 [some (kR (some 49)), some (kI la), none, none] [] Ia Ja Ra Sa 0 0
  have qIa := RX_w hQ
  have oIa := EV_o hE
  obtain ⟨a1, D1, hG1, hRs⟩ := zG_sq (P := zBo (zTu c vl m) (zS c vl m) c) (ops := [3]) (jn := zJB) hG
  have hle1 := zHR_l (zBo_l m) hRs
  refine ww_aload_n hX (pc := 0) dX11_testOf_0 rfl ?_
  refine ww_iload_n hX (pc := 1) dX11_testOf_1 rfl ?_
  refine vI1 hX (pc := 2) sX11_246 (xs_49 hL) (c6_X11_bothOf l0 hL hQ  (by omega) hE hV hB hG1 hrec) (by omega) (Nat.le_refl 0) (Nat.le_refl 0) (Nat.le_of_ble_eq_true rfl) dX11_testOf_2 (fun x_2 I_2 J_2 h_2 => ?_)
  have kJ_2 : Kp 49 73 Ja J_2 := Kp_tr (Kp_rf (a := 49) (b := 73)) h_2.2.1
  have kI_2 : Ch [] [19, 21] Ia I_2 := Ch_tr Ch_rf (Ch_wd h_2.1 (by decide) (by decide))
  have cI_2 : RX I_2 := h_2.2.2.1
  have qI_2 := RX_w cI_2
  have f20_I_2 : I_2 49 20 = Ia 49 20 := h_2.1.2 20 (by decide)
  have vI_2 : EV I_2 t c a1 := h_2.2.2.2.1
  have oI_2 := EV_o vI_2
  have yI_2 := h_2.2.2.2.2
  have bI_2 : zB1 I_2 := yI_2.1
  refine ww_istore_n hX (pc := 5) (lv' := [some (kR (some 49)), some (kI la), some (kI x_2), none]) dX11_testOf_5 (by decide) rfl rfl ?_
  have hl_6 : ∀ (n_6 : Nat) (v9 : Int) (I6 : aI1) (J6 : aI1), (400 * t + b - I6 49 19).toNat = n_6 → (Ch [] [19, 21] Ia I6 ∧ RX I6 ∧ Kp 49 73 Ja J6 ∧ (0 ≤ v9 ∧ v9 ≤ 1) ∧ ∃ (p9 : Nat) (D9 : zD), EV I6 t c p9 ∧ zB1 I6 ∧ zRv la (Ia 49 21) (I6 49 21) v9 (D9 en) ∧ zHR (zBo (zTu c vl m) (zS c vl m) c) [3] zJB c p9 D9 b D) → WW X 6 [some (kR (some 49)), some (kI la), some (kI v9), none] [] I6 J6 Ra Sa 0 0 := by
    intro n_6
    induction n_6 using Nat.strongRecOn with
    | ind n_6 ih_6 =>
      intro v9 I6 J6 hm_6 hv_6
      have hq_6 := Sh0_i hm_6
      clear hm_6
      obtain ⟨kI6, cI6, kJ6, hv9, p9, D9, vI6, bI6, hr6, hR6⟩ := hv_6
      have qI6 := RX_w cI6
      have oI6 := EV_o vI6
      refine ww_aload_n hX (pc := 6) dX11_testOf_6 rfl ?_
      refine ww_iconst hX (pc := 7) (x := 3) dX11_testOf_7 rfl ?_
      refine vI1 hX (pc := 8) sX11_240 (xs_49 hL) (c_X11_passes0 l0 hL cI6  (by omega) (by omega) vI6) (by omega) (Nat.le_refl 0) (Nat.le_refl 0) (Nat.le_of_ble_eq_true rfl) dX11_testOf_8 (fun x_8 I_8 J_8 h_8 => ?_)
      have kJ_8 : Kp 49 73 Ja J_8 := Kp_tr kJ6 h_8.2.1
      have kI_8 : Ch [] [19, 21] Ia I_8 := Ch_tr kI6 (Ch_wd h_8.1 (by decide) (by decide))
      have cI_8 : RX I_8 := h_8.2.2.1
      have qI_8 := RX_w cI_8
      have f20_I_8 : I_8 49 20 = I6 49 20 := h_8.1.2 20 (by decide)
      have f21_I_8 : I_8 49 21 = I6 49 21 := h_8.1.2 21 (by decide)
      have vI_8 : EV I_8 t c (p9 + x_8.toNat) := h_8.2.2.2.1
      have oI_8 := EV_o vI_8
      have yI_8 := h_8.2.2.2.2
      have bI_8 : zB1 I_8 := zB1_e bI6 f21_I_8
      refine ww_if_eq hX (pc := 11) (tgt := 49) dX11_testOf_11 (by decide) (fun h_11 => ?_) (fun h_11 => ?_)
      · simp only [w32_mod] at h_11
        have hb9 := zHR_no hR6 (by rw [List.mem_singleton]; exact PS_0 yI_8.2 (by omega))
        have w8 : EV I_8 t c p9 := EV_to vI_8 (by omega)
        refine ww_iload_n hX (pc := 49) dX11_testOf_49 rfl ?_
        refine rZ hX (pc := 50) hT (Nat.le_refl 0) (Nat.le_refl 0) dX11_testOf_50 (by omega) ?_
        exact ⟨kI_8, kJ_8, cI_8, EV_to w8 hb9.1, bI_8, by omega, (by rw [← hb9.2]; exact zRv_cg hr6 rfl (by omega))⟩
      · simp only [w32_mod] at h_11
        have hop9 := PS_1 yI_8.2 (by omega)
        have hop : c p9 ∈ ([3] : List Int) := by rw [hop9]; decide
        have hz9 := EV_z (i := p9) vI6 (by omega)
        obtain ⟨d9, F9, hT9, hlt9, hR9⟩ := zHR_op hR6 (zBo_l m) hop (by omega)
        have hle9 := zHR_l (zBo_l m) hR9
        have w8 : EV I_8 t c (p9 + 1) := EV_to vI_8 (by omega)
        refine ww_aload_n hX (pc := 14) dX11_testOf_14 rfl ?_
        refine ww_iload_n hX (pc := 15) dX11_testOf_15 rfl ?_
        refine ww_if_eq hX (pc := 16) (tgt := 27) dX11_testOf_16 (by decide) (fun h_16 => ?_) (fun h_16 => ?_)
        · simp only [w32_mod] at h_16
          refine ww_iconst hX (pc := 27) (x := 0) dX11_testOf_27 rfl ?_
          refine vI1 hX (pc := 28) sX11_246 (xs_49 hL) (c6_X11_bothOf l0 hL cI_8  (by omega) w8 (zEV_ch kI_8 (by decide) (by decide) hV) bI_8 hT9 hrec) (by omega) (Nat.le_refl 0) (Nat.le_refl 0) (Nat.le_of_ble_eq_true rfl) dX11_testOf_28 (fun x_28 I_28 J_28 h_28 => ?_)
          have kJ_28 : Kp 49 73 Ja J_28 := Kp_tr kJ_8 h_28.2.1
          have kI_28 : Ch [] [19, 21] Ia I_28 := Ch_tr kI_8 (Ch_wd h_28.1 (by decide) (by decide))
          have cI_28 : RX I_28 := h_28.2.2.1
          have qI_28 := RX_w cI_28
          have f20_I_28 : I_28 49 20 = I_8 49 20 := h_28.1.2 20 (by decide)
          have vI_28 : EV I_28 t c d9 := h_28.2.2.2.1
          have oI_28 := EV_o vI_28
          have yI_28 := h_28.2.2.2.2
          have bI_28 : zB1 I_28 := yI_28.1
          refine ww_istore_n hX (pc := 31) (lv' := [some (kR (some 49)), some (kI la), some (kI v9), some (kI x_28)]) dX11_testOf_31 (by decide) rfl rfl ?_
          refine ww_iload_n hX (pc := 32) dX11_testOf_32 rfl ?_
          refine ww_if_ne hX (pc := 33) (tgt := 40) dX11_testOf_33 (by decide) (fun h_33 => ?_) (fun h_33 => ?_)
          · simp only [w32_mod] at h_33
            refine ww_iconst hX (pc := 40) (x := 1) dX11_testOf_40 rfl ?_
            refine ww_goto hX (pc := 41) (tgt := 45) dX11_testOf_41 (by decide) ?_
            refine ww_istore_n hX (pc := 45) (lv' := [some (kR (some 49)), some (kI la), some (kI 1), some (kI x_28)]) dX11_testOf_45 (by decide) rfl rfl ?_
            refine ww_goto hX (pc := 46) (tgt := 6) dX11_testOf_46 (by decide) ?_
            refine ww_sub [some (kR (some 49)), some (kI la), some (kI 1), none] (aLe_s (aLe_s (aLe_s (aLe_n aLe_0)))) ?_
            exact ih_6 _ (by have hm9 := Sh0_e hq_6; omega) 1 I_28 J_28 rfl ⟨kI_28, cI_28, kJ_28, by omega, ⟨d9, _, vI_28, bI_28, (by rw [zJB_3, show c p9 = 3 from hop9]; exact zRv_jb (by have h9 := hB; unfold zB1 at h9; exact h9) hr6 (zRv_cg yI_28.2.2 (by omega) rfl) (by omega) hv9 yI_28.2.1 (by omega)), hR9⟩⟩
          · simp only [w32_mod] at h_33
            refine ww_iload_n hX (pc := 36) dX11_testOf_36 rfl ?_
            refine ww_if_eq hX (pc := 37) (tgt := 44) dX11_testOf_37 (by decide) (fun h_37 => ?_) (fun h_37 => ?_)
            · simp only [w32_mod] at h_37
              refine ww_iconst hX (pc := 44) (x := 0) dX11_testOf_44 rfl ?_
              refine ww_istore_n hX (pc := 45) (lv' := [some (kR (some 49)), some (kI la), some (kI 0), some (kI x_28)]) dX11_testOf_45 (by decide) rfl rfl ?_
              refine ww_goto hX (pc := 46) (tgt := 6) dX11_testOf_46 (by decide) ?_
              refine ww_sub [some (kR (some 49)), some (kI la), some (kI 0), none] (aLe_s (aLe_s (aLe_s (aLe_n aLe_0)))) ?_
              exact ih_6 _ (by have hm9 := Sh0_e hq_6; omega) 0 I_28 J_28 rfl ⟨kI_28, cI_28, kJ_28, by omega, ⟨d9, _, vI_28, bI_28, (by rw [zJB_3, show c p9 = 3 from hop9]; exact zRv_jb (by have h9 := hB; unfold zB1 at h9; exact h9) hr6 (zRv_cg yI_28.2.2 (by omega) rfl) (by omega) hv9 yI_28.2.1 (by omega)), hR9⟩⟩
            · simp only [w32_mod] at h_37
              refine ww_iconst hX (pc := 40) (x := 1) dX11_testOf_40 rfl ?_
              refine ww_goto hX (pc := 41) (tgt := 45) dX11_testOf_41 (by decide) ?_
              refine ww_istore_n hX (pc := 45) (lv' := [some (kR (some 49)), some (kI la), some (kI 1), some (kI x_28)]) dX11_testOf_45 (by decide) rfl rfl ?_
              refine ww_goto hX (pc := 46) (tgt := 6) dX11_testOf_46 (by decide) ?_
              refine ww_sub [some (kR (some 49)), some (kI la), some (kI 1), none] (aLe_s (aLe_s (aLe_s (aLe_n aLe_0)))) ?_
              exact ih_6 _ (by have hm9 := Sh0_e hq_6; omega) 1 I_28 J_28 rfl ⟨kI_28, cI_28, kJ_28, by omega, ⟨d9, _, vI_28, bI_28, (by rw [zJB_3, show c p9 = 3 from hop9]; exact zRv_jb (by have h9 := hB; unfold zB1 at h9; exact h9) hr6 (zRv_cg yI_28.2.2 (by omega) rfl) (by omega) hv9 yI_28.2.1 (by omega)), hR9⟩⟩
        · simp only [w32_mod] at h_16
          refine ww_iload_n hX (pc := 19) dX11_testOf_19 rfl ?_
          refine ww_if_ne hX (pc := 20) (tgt := 27) dX11_testOf_20 (by decide) (fun h_20 => ?_) (fun h_20 => ?_)
          · simp only [w32_mod] at h_20
            refine ww_iconst hX (pc := 27) (x := 0) dX11_testOf_27 rfl ?_
            refine vI1 hX (pc := 28) sX11_246 (xs_49 hL) (c6_X11_bothOf l0 hL cI_8  (by omega) w8 (zEV_ch kI_8 (by decide) (by decide) hV) bI_8 hT9 hrec) (by omega) (Nat.le_refl 0) (Nat.le_refl 0) (Nat.le_of_ble_eq_true rfl) dX11_testOf_28 (fun x_28 I_28 J_28 h_28 => ?_)
            have kJ_28 : Kp 49 73 Ja J_28 := Kp_tr kJ_8 h_28.2.1
            have kI_28 : Ch [] [19, 21] Ia I_28 := Ch_tr kI_8 (Ch_wd h_28.1 (by decide) (by decide))
            have cI_28 : RX I_28 := h_28.2.2.1
            have qI_28 := RX_w cI_28
            have f20_I_28 : I_28 49 20 = I_8 49 20 := h_28.1.2 20 (by decide)
            have vI_28 : EV I_28 t c d9 := h_28.2.2.2.1
            have oI_28 := EV_o vI_28
            have yI_28 := h_28.2.2.2.2
            have bI_28 : zB1 I_28 := yI_28.1
            refine ww_istore_n hX (pc := 31) (lv' := [some (kR (some 49)), some (kI la), some (kI v9), some (kI x_28)]) dX11_testOf_31 (by decide) rfl rfl ?_
            refine ww_iload_n hX (pc := 32) dX11_testOf_32 rfl ?_
            refine ww_if_ne hX (pc := 33) (tgt := 40) dX11_testOf_33 (by decide) (fun h_33 => ?_) (fun h_33 => ?_)
            · simp only [w32_mod] at h_33
              refine ww_iconst hX (pc := 40) (x := 1) dX11_testOf_40 rfl ?_
              refine ww_goto hX (pc := 41) (tgt := 45) dX11_testOf_41 (by decide) ?_
              refine ww_istore_n hX (pc := 45) (lv' := [some (kR (some 49)), some (kI la), some (kI 1), some (kI x_28)]) dX11_testOf_45 (by decide) rfl rfl ?_
              refine ww_goto hX (pc := 46) (tgt := 6) dX11_testOf_46 (by decide) ?_
              refine ww_sub [some (kR (some 49)), some (kI la), some (kI 1), none] (aLe_s (aLe_s (aLe_s (aLe_n aLe_0)))) ?_
              exact ih_6 _ (by have hm9 := Sh0_e hq_6; omega) 1 I_28 J_28 rfl ⟨kI_28, cI_28, kJ_28, by omega, ⟨d9, _, vI_28, bI_28, (by rw [zJB_3, show c p9 = 3 from hop9]; exact zRv_jb (by have h9 := hB; unfold zB1 at h9; exact h9) hr6 (zRv_cg yI_28.2.2 (by omega) rfl) (by omega) hv9 yI_28.2.1 (by omega)), hR9⟩⟩
            · simp only [w32_mod] at h_33
              refine ww_iload_n hX (pc := 36) dX11_testOf_36 rfl ?_
              refine ww_if_eq hX (pc := 37) (tgt := 44) dX11_testOf_37 (by decide) (fun h_37 => ?_) (fun h_37 => ?_)
              · simp only [w32_mod] at h_37
                refine ww_iconst hX (pc := 44) (x := 0) dX11_testOf_44 rfl ?_
                refine ww_istore_n hX (pc := 45) (lv' := [some (kR (some 49)), some (kI la), some (kI 0), some (kI x_28)]) dX11_testOf_45 (by decide) rfl rfl ?_
                refine ww_goto hX (pc := 46) (tgt := 6) dX11_testOf_46 (by decide) ?_
                refine ww_sub [some (kR (some 49)), some (kI la), some (kI 0), none] (aLe_s (aLe_s (aLe_s (aLe_n aLe_0)))) ?_
                exact ih_6 _ (by have hm9 := Sh0_e hq_6; omega) 0 I_28 J_28 rfl ⟨kI_28, cI_28, kJ_28, by omega, ⟨d9, _, vI_28, bI_28, (by rw [zJB_3, show c p9 = 3 from hop9]; exact zRv_jb (by have h9 := hB; unfold zB1 at h9; exact h9) hr6 (zRv_cg yI_28.2.2 (by omega) rfl) (by omega) hv9 yI_28.2.1 (by omega)), hR9⟩⟩
              · simp only [w32_mod] at h_37
                refine ww_iconst hX (pc := 40) (x := 1) dX11_testOf_40 rfl ?_
                refine ww_goto hX (pc := 41) (tgt := 45) dX11_testOf_41 (by decide) ?_
                refine ww_istore_n hX (pc := 45) (lv' := [some (kR (some 49)), some (kI la), some (kI 1), some (kI x_28)]) dX11_testOf_45 (by decide) rfl rfl ?_
                refine ww_goto hX (pc := 46) (tgt := 6) dX11_testOf_46 (by decide) ?_
                refine ww_sub [some (kR (some 49)), some (kI la), some (kI 1), none] (aLe_s (aLe_s (aLe_s (aLe_n aLe_0)))) ?_
                exact ih_6 _ (by have hm9 := Sh0_e hq_6; omega) 1 I_28 J_28 rfl ⟨kI_28, cI_28, kJ_28, by omega, ⟨d9, _, vI_28, bI_28, (by rw [zJB_3, show c p9 = 3 from hop9]; exact zRv_jb (by have h9 := hB; unfold zB1 at h9; exact h9) hr6 (zRv_cg yI_28.2.2 (by omega) rfl) (by omega) hv9 yI_28.2.1 (by omega)), hR9⟩⟩
          · simp only [w32_mod] at h_20
            refine ww_iconst hX (pc := 23) (x := 1) dX11_testOf_23 rfl ?_
            refine ww_goto hX (pc := 24) (tgt := 28) dX11_testOf_24 (by decide) ?_
            refine vI1 hX (pc := 28) sX11_246 (xs_49 hL) (c6_X11_bothOf l0 hL cI_8  (by omega) w8 (zEV_ch kI_8 (by decide) (by decide) hV) bI_8 hT9 hrec) (by omega) (Nat.le_refl 0) (Nat.le_refl 0) (Nat.le_of_ble_eq_true rfl) dX11_testOf_28 (fun x_28 I_28 J_28 h_28 => ?_)
            have kJ_28 : Kp 49 73 Ja J_28 := Kp_tr kJ_8 h_28.2.1
            have kI_28 : Ch [] [19, 21] Ia I_28 := Ch_tr kI_8 (Ch_wd h_28.1 (by decide) (by decide))
            have cI_28 : RX I_28 := h_28.2.2.1
            have qI_28 := RX_w cI_28
            have f20_I_28 : I_28 49 20 = I_8 49 20 := h_28.1.2 20 (by decide)
            have vI_28 : EV I_28 t c d9 := h_28.2.2.2.1
            have oI_28 := EV_o vI_28
            have yI_28 := h_28.2.2.2.2
            have bI_28 : zB1 I_28 := yI_28.1
            refine ww_istore_n hX (pc := 31) (lv' := [some (kR (some 49)), some (kI la), some (kI v9), some (kI x_28)]) dX11_testOf_31 (by decide) rfl rfl ?_
            refine ww_iload_n hX (pc := 32) dX11_testOf_32 rfl ?_
            refine ww_if_ne hX (pc := 33) (tgt := 40) dX11_testOf_33 (by decide) (fun h_33 => ?_) (fun h_33 => ?_)
            · simp only [w32_mod] at h_33
              refine ww_iconst hX (pc := 40) (x := 1) dX11_testOf_40 rfl ?_
              refine ww_goto hX (pc := 41) (tgt := 45) dX11_testOf_41 (by decide) ?_
              refine ww_istore_n hX (pc := 45) (lv' := [some (kR (some 49)), some (kI la), some (kI 1), some (kI x_28)]) dX11_testOf_45 (by decide) rfl rfl ?_
              refine ww_goto hX (pc := 46) (tgt := 6) dX11_testOf_46 (by decide) ?_
              refine ww_sub [some (kR (some 49)), some (kI la), some (kI 1), none] (aLe_s (aLe_s (aLe_s (aLe_n aLe_0)))) ?_
              exact ih_6 _ (by have hm9 := Sh0_e hq_6; omega) 1 I_28 J_28 rfl ⟨kI_28, cI_28, kJ_28, by omega, ⟨d9, _, vI_28, bI_28, (by rw [zJB_3, show c p9 = 3 from hop9]; exact zRv_jb (by have h9 := hB; unfold zB1 at h9; exact h9) hr6 (zRv_cg yI_28.2.2 (by omega) rfl) (by omega) hv9 yI_28.2.1 (by omega)), hR9⟩⟩
            · simp only [w32_mod] at h_33
              refine ww_iload_n hX (pc := 36) dX11_testOf_36 rfl ?_
              refine ww_if_eq hX (pc := 37) (tgt := 44) dX11_testOf_37 (by decide) (fun h_37 => ?_) (fun h_37 => ?_)
              · simp only [w32_mod] at h_37
                refine ww_iconst hX (pc := 44) (x := 0) dX11_testOf_44 rfl ?_
                refine ww_istore_n hX (pc := 45) (lv' := [some (kR (some 49)), some (kI la), some (kI 0), some (kI x_28)]) dX11_testOf_45 (by decide) rfl rfl ?_
                refine ww_goto hX (pc := 46) (tgt := 6) dX11_testOf_46 (by decide) ?_
                refine ww_sub [some (kR (some 49)), some (kI la), some (kI 0), none] (aLe_s (aLe_s (aLe_s (aLe_n aLe_0)))) ?_
                exact ih_6 _ (by have hm9 := Sh0_e hq_6; omega) 0 I_28 J_28 rfl ⟨kI_28, cI_28, kJ_28, by omega, ⟨d9, _, vI_28, bI_28, (by rw [zJB_3, show c p9 = 3 from hop9]; exact zRv_jb (by have h9 := hB; unfold zB1 at h9; exact h9) hr6 (zRv_cg yI_28.2.2 (by omega) rfl) (by omega) hv9 yI_28.2.1 (by omega)), hR9⟩⟩
              · simp only [w32_mod] at h_37
                refine ww_iconst hX (pc := 40) (x := 1) dX11_testOf_40 rfl ?_
                refine ww_goto hX (pc := 41) (tgt := 45) dX11_testOf_41 (by decide) ?_
                refine ww_istore_n hX (pc := 45) (lv' := [some (kR (some 49)), some (kI la), some (kI 1), some (kI x_28)]) dX11_testOf_45 (by decide) rfl rfl ?_
                refine ww_goto hX (pc := 46) (tgt := 6) dX11_testOf_46 (by decide) ?_
                refine ww_sub [some (kR (some 49)), some (kI la), some (kI 1), none] (aLe_s (aLe_s (aLe_s (aLe_n aLe_0)))) ?_
                exact ih_6 _ (by have hm9 := Sh0_e hq_6; omega) 1 I_28 J_28 rfl ⟨kI_28, cI_28, kJ_28, by omega, ⟨d9, _, vI_28, bI_28, (by rw [zJB_3, show c p9 = 3 from hop9]; exact zRv_jb (by have h9 := hB; unfold zB1 at h9; exact h9) hr6 (zRv_cg yI_28.2.2 (by omega) rfl) (by omega) hv9 yI_28.2.1 (by omega)), hR9⟩⟩
  exact hl_6 _ x_2 I_2 J_2 rfl ⟨kI_2, cI_2, kJ_2, by omega, ⟨a1, D1, vI_2, bI_2, yI_2.2.2, hRs⟩⟩
theorem c_VTest (l0 : Launch) : ∀ m : Nat, VTest l0 m
  | 0 => fun hL hQ _ hla _ _ _ hE _ _ hV hB _ _ hG => c6_X11_testOf l0 hL hQ hla hE hV hB (m := 0) hG (fun mp e => absurd e (by omega))
  | m + 1 => fun hL hQ _ hla _ _ _ hE _ _ hV hB _ _ hG => c6_X11_testOf l0 hL hQ hla hE hV hB (m := m + 1) hG (fun mp e => by
      obtain rfl : m = mp := by omega
      exact c_VTest l0 m)
